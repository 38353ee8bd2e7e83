set_option maxRecDepth 20000 in
theorem ggX5_init_X4_init : GoodIn wsX5_init wsX4_init := goodIn_r _ [32, 33, 2, 3, 34, 35, 21, 22, 36, 37, 38, 39, 40, 41, 42, 24, 43, 44, 109, 110, 111, 112, 140, 141] (by decide +kernel) (by decide +kernel)
set_option maxRecDepth 20000 in
theorem gX5_init_X4_init : GoodIn wsX5_init (wsX4_init) := ggX5_init_X4_init
set_option maxRecDepth 20000 in
theorem ggX5_init_X1_init : GoodIn wsX5_init wsX1_init := goodIn_r _ [47, 48, 2, 3, 24, 49, 50, 51, 52, 123, 124, 125, 126] (by decide +kernel) (by decide +kernel)
set_option maxRecDepth 20000 in
theorem gX5_init_X1_init : GoodIn wsX5_init (wsX1_init) := ggX5_init_X1_init
set_option maxRecDepth 20000 in
theorem ggX5_init_X0_init : GoodIn wsX5_init wsX0_init := goodIn_r _ [55, 56, 2, 3, 24, 57, 58, 59, 60, 14, 61, 62, 63, 64, 65, 66, 67, 68, 127, 128, 129, 130, 131, 132, 133, 134] (by decide +kernel) (by decide +kernel)
set_option maxRecDepth 20000 in
theorem gX5_init_X0_init : GoodIn wsX5_init (wsX0_init) := ggX5_init_X0_init
set_option maxRecDepth 20000 in
theorem ggX5_init_X2_init : GoodIn wsX5_init wsX2_init := goodIn_r _ [71, 72, 2, 3, 24, 73, 74, 75, 76, 77, 135, 136, 137, 138, 139] (by decide +kernel) (by decide +kernel)
set_option maxRecDepth 20000 in
theorem gX5_init_X2_init : GoodIn wsX5_init (wsX2_init) := ggX5_init_X2_init
set_option maxRecDepth 20000 in
theorem ggX5_init_X3_init : GoodIn wsX5_init wsX3_init := goodIn_r _ [41, 42, 2, 3, 24, 43, 44, 140, 141] (by decide +kernel) (by decide +kernel)
set_option maxRecDepth 20000 in
theorem gX5_init_X3_init : GoodIn wsX5_init (wsX3_init) := ggX5_init_X3_init
set_option maxRecDepth 20000 in
theorem ggX5_init_X4_sector : GoodIn wsX5_init wsX4_sector := goodIn_r _ [82, 35, 109, 110, 111, 112] (by decide +kernel) (by decide +kernel)
set_option maxRecDepth 20000 in
theorem gX5_init_X4_sector : GoodIn wsX5_init (wsV RX5 62 RX4 yX4_sector wsX4_sector) := goodIn_app (goodIn_of _ (by decide +kernel)) ggX5_init_X4_sector
set_option maxRecDepth 20000 in
theorem ggX5_init_X3_makeHead : GoodIn wsX5_init wsX3_makeHead := goodIn_r _ [86, 87, 88, 89, 22, 90, 43, 91, 92, 93, 94, 95, 96, 97, 98, 99, 100, 101, 102, 103, 104, 105, 106, 107, 140, 141] (by decide +kernel) (by decide +kernel)
set_option maxRecDepth 20000 in
theorem gX5_init_X3_makeHead : GoodIn wsX5_init (wsV RX5 66 RX3 yX3_makeHead wsX3_makeHead) := goodIn_app (goodIn_of _ (by decide +kernel)) ggX5_init_X3_makeHead
set_option maxRecDepth 20000 in
theorem ggX5_init_X0_openAt : GoodIn wsX5_init wsX0_openAt := goodIn_r _ [61, 62, 63, 64, 65, 66, 67, 68, 127, 128, 129, 130, 131, 132, 133, 134] (by decide +kernel) (by decide +kernel)
set_option maxRecDepth 20000 in
theorem gX5_init_X0_openAt : GoodIn wsX5_init (wsV RX5 70 RX0 yX0_openAt wsX0_openAt) := goodIn_app (goodIn_of _ (by decide +kernel)) ggX5_init_X0_openAt
set_option maxRecDepth 20000 in
theorem ggX5_delay_X5_isTicks : GoodIn wsX5_delay wsX5_isTicks := goodIn_r _ [6] (by decide +kernel) (by decide +kernel)
set_option maxRecDepth 20000 in
theorem gX5_delay_X5_isTicks : GoodIn wsX5_delay (va_wsS RX5 74 yX5_isTicks wsX5_isTicks) := goodIn_app (goodIn_of _ (by decide +kernel)) ggX5_delay_X5_isTicks
set_option maxRecDepth 20000 in
theorem ggX5_flush_X5_writeQueue : GoodIn wsX5_flush wsX5_writeQueue := goodIn_r _ [6, 7, 8, 9, 1, 10, 11, 12, 13, 14, 15, 16, 17, 18, 19, 20, 21, 22, 23, 24, 25, 26, 27, 28, 29, 30, 31, 32, 33, 34, 35, 36, 37, 38, 39, 40, 41, 42, 43, 44, 45, 46, 47, 48, 49, 50, 51, 52, 53, 54, 55, 56, 57, 58, 59, 60, 61, 62, 63, 64, 65, 66, 67, 68, 69, 70, 5, 71, 72, 73, 74, 75, 76, 77, 78, 79, 80, 81, 82, 83, 84, 85, 86, 87, 88, 89, 90, 91, 92, 93, 94, 95, 96, 97, 98, 99, 100, 101, 102, 103, 104, 105, 106, 107, 108, 109, 110, 111, 112, 113, 114, 115, 116, 117, 118, 119, 120, 121, 122, 123, 124, 125, 126, 127, 128, 129, 130, 131, 132, 133, 134, 135, 136, 137, 138, 139, 140, 141, 142, 143, 144, 145, 146, 147, 148, 149, 150, 151, 152, 153, 154, 155, 156, 157, 158, 159, 160, 161, 162, 163, 164, 165, 166, 167, 168, 169, 170, 171, 172, 173, 174, 175, 176, 177, 178, 179, 180, 181, 182, 183, 184, 185, 186, 187, 188, 189, 190, 191, 192, 193, 194, 195, 196, 197, 198, 199, 200, 201, 202] (by decide +kernel) (by decide +kernel)
set_option maxRecDepth 20000 in
theorem gX5_flush_X5_writeQueue : GoodIn wsX5_flush (wsV RX5 98 RX5 yX5_writeQueue wsX5_writeQueue) := goodIn_app (goodIn_of _ (by decide +kernel)) ggX5_flush_X5_writeQueue
set_option maxRecDepth 20000 in
theorem ggX5_tick_X5_isTicks : GoodIn wsX5_tick wsX5_isTicks := goodIn_r _ [7] (by decide +kernel) (by decide +kernel)
set_option maxRecDepth 20000 in
theorem gX5_tick_X5_isTicks : GoodIn wsX5_tick (va_wsS RX5 74 yX5_isTicks wsX5_isTicks) := goodIn_app (goodIn_of _ (by decide +kernel)) ggX5_tick_X5_isTicks
set_option maxRecDepth 20000 in
theorem ggX5_checkpoint_X0_placeOf : GoodIn wsX5_checkpoint wsX0_placeOf := goodIn_r _ [8, 9, 10, 11, 12, 13, 7, 14, 15, 16, 17, 18, 169, 170, 171, 172, 173, 174, 175, 176] (by decide +kernel) (by decide +kernel)
set_option maxRecDepth 20000 in
theorem gX5_checkpoint_X0_placeOf : GoodIn wsX5_checkpoint (wsV RX5 108 RX0 yX0_placeOf wsX0_placeOf) := goodIn_app (goodIn_of _ (by decide +kernel)) ggX5_checkpoint_X0_placeOf
set_option maxRecDepth 20000 in
theorem ggX5_checkpoint_X0_firstBeginningWith : GoodIn wsX5_checkpoint wsX0_firstBeginningWith := goodIn_r _ [22, 23, 24, 25, 7, 26, 27, 9, 28, 5, 6, 8, 10, 11, 12, 13, 14, 15, 16, 17, 18, 169, 170, 171, 172, 173, 174, 175, 176] (by decide +kernel) (by decide +kernel)
set_option maxRecDepth 20000 in
theorem gX5_checkpoint_X0_firstBeginningWith : GoodIn wsX5_checkpoint (wsV RX5 111 RX0 yX0_firstBeginningWith wsX0_firstBeginningWith) := goodIn_app (goodIn_of _ (by decide +kernel)) ggX5_checkpoint_X0_firstBeginningWith
set_option maxRecDepth 20000 in
theorem ggX5_checkpoint_X5_writeHead : GoodIn wsX5_checkpoint wsX5_writeHead := goodIn_r _ [49, 3, 50, 51, 52, 53, 32, 54, 55, 56, 57, 58, 59, 30, 31, 33, 34, 60, 61, 62, 38, 63, 64, 65, 40, 41, 42, 43, 44, 66, 67, 68, 69, 70, 71, 72, 73, 74, 75, 76, 77, 78, 79, 80, 81, 82, 83, 84, 85, 86, 87, 88, 89, 90, 91, 92, 48, 93, 94, 95, 96, 97, 98, 99, 100, 101, 102, 103, 104, 105, 106, 107, 108, 109, 110, 111, 112, 113, 114, 115, 116, 117, 118, 119, 120, 121, 122, 123, 124, 125, 126, 127, 128, 129, 130, 131, 132, 133, 134, 135, 136, 137, 138, 1, 139, 140, 141, 142, 143, 144, 145, 146, 147, 159, 160, 161, 162, 163, 164, 165, 166, 167, 168, 177, 178, 179, 180, 181, 182, 183, 184, 185, 186] (by decide +kernel) (by decide +kernel)
set_option maxRecDepth 20000 in
theorem gX5_checkpoint_X5_writeHead : GoodIn wsX5_checkpoint (wsV RX5 120 RX5 yX5_writeHead wsX5_writeHead) := goodIn_app (goodIn_of _ (by decide +kernel)) ggX5_checkpoint_X5_writeHead
set_option maxRecDepth 20000 in
theorem ggX5_checkpoint_X0_giveUpBefore : GoodIn wsX5_checkpoint wsX0_giveUpBefore := goodIn_r _ [151, 9, 152, 153, 27, 154, 155, 156, 157, 158, 169, 170, 171, 172, 173, 174, 175, 176] (by decide +kernel) (by decide +kernel)
set_option maxRecDepth 20000 in
theorem gX5_checkpoint_X0_giveUpBefore : GoodIn wsX5_checkpoint (wsV RX5 124 RX0 yX0_giveUpBefore wsX0_giveUpBefore) := goodIn_app (goodIn_of _ (by decide +kernel)) ggX5_checkpoint_X0_giveUpBefore
set_option maxRecDepth 20000 in
theorem ggX5_cut_X5_powerGoes : GoodIn wsX5_cut wsX5_powerGoes := goodIn_r _ [6, 1, 7, 8, 9, 10, 11, 12, 13, 14, 15, 16, 17, 18, 19, 20, 21, 22, 23, 24, 25, 26, 27, 28, 29, 30, 31, 32, 33, 34] (by decide +kernel) (by decide +kernel)
set_option maxRecDepth 20000 in
theorem gX5_cut_X5_powerGoes : GoodIn wsX5_cut (wsV RX5 128 RX5 yX5_powerGoes wsX5_powerGoes) := goodIn_app (goodIn_of _ (by decide +kernel)) ggX5_cut_X5_powerGoes
set_option maxRecDepth 20000 in
theorem ggX5_size_X0_has : GoodIn wsX5_size wsX0_has := goodIn_r _ [8, 9, 10, 69, 70, 71, 72, 73, 74, 75, 76] (by decide +kernel) (by decide +kernel)
set_option maxRecDepth 20000 in
theorem gX5_size_X0_has : GoodIn wsX5_size (wsV RX5 156 RX0 yX0_has wsX0_has) := goodIn_app (goodIn_of _ (by decide +kernel)) ggX5_size_X0_has
set_option maxRecDepth 20000 in
theorem ggX5_at_X0_has : GoodIn wsX5_at wsX0_has := goodIn_r _ [8, 9, 10, 70, 71, 72, 73, 74, 75, 76, 77] (by decide +kernel) (by decide +kernel)
set_option maxRecDepth 20000 in
theorem gX5_at_X0_has : GoodIn wsX5_at (wsV RX5 156 RX0 yX0_has wsX0_has) := goodIn_app (goodIn_of _ (by decide +kernel)) ggX5_at_X0_has
set_option maxRecDepth 20000 in
theorem ggX5_disk_X5_isByte : GoodIn wsX5_disk wsX5_isByte := goodIn_r _ [5] (by decide +kernel) (by decide +kernel)
set_option maxRecDepth 20000 in
theorem gX5_disk_X5_isByte : GoodIn wsX5_disk (va_wsS RX5 167 yX5_isByte wsX5_isByte) := goodIn_app (goodIn_of _ (by decide +kernel)) ggX5_disk_X5_isByte
set_option maxRecDepth 20000 in
theorem ggX5_disk_X4_sector : GoodIn wsX5_disk wsX4_sector := goodIn_r _ [10, 11, 28, 29, 30, 31] (by decide +kernel) (by decide +kernel)
set_option maxRecDepth 20000 in
theorem gX5_disk_X4_sector : GoodIn wsX5_disk (wsV RX5 62 RX4 yX4_sector wsX4_sector) := goodIn_app (goodIn_of _ (by decide +kernel)) ggX5_disk_X4_sector
set_option maxRecDepth 20000 in
theorem ggX5_disk_X3_get : GoodIn wsX5_disk wsX3_get := goodIn_r _ [16, 17, 32, 33] (by decide +kernel) (by decide +kernel)
set_option maxRecDepth 20000 in
theorem gX5_disk_X3_get : GoodIn wsX5_disk (wsV RX5 171 RX3 yX3_get wsX3_get) := goodIn_app (goodIn_of _ (by decide +kernel)) ggX5_disk_X3_get
set_option maxRecDepth 20000 in
theorem ggX5_torn_X5_isByte : GoodIn wsX5_torn wsX5_isByte := goodIn_r _ [5] (by decide +kernel) (by decide +kernel)
set_option maxRecDepth 20000 in
theorem gX5_torn_X5_isByte : GoodIn wsX5_torn (va_wsS RX5 167 yX5_isByte wsX5_isByte) := goodIn_app (goodIn_of _ (by decide +kernel)) ggX5_torn_X5_isByte
set_option maxRecDepth 20000 in
theorem ggX5_torn_X4_sector : GoodIn wsX5_torn wsX4_sector := goodIn_r _ [10, 11, 24, 25, 26, 27] (by decide +kernel) (by decide +kernel)
set_option maxRecDepth 20000 in
theorem gX5_torn_X4_sector : GoodIn wsX5_torn (wsV RX5 62 RX4 yX4_sector wsX4_sector) := goodIn_app (goodIn_of _ (by decide +kernel)) ggX5_torn_X4_sector
set_option maxRecDepth 20000 in
theorem ggX5_count_X5_countWhileOn : GoodIn wsX5_count wsX5_countWhileOn := goodIn_r _ [8, 9, 10, 2, 11, 12, 13, 14, 15, 16, 17, 18, 19, 20, 21, 22, 23, 24, 25, 26, 27, 28, 29, 30, 31, 32, 33, 34, 35, 36, 37, 38, 39, 40, 41, 42, 43, 44, 45, 46, 47, 48, 49, 50, 51, 52, 53, 54, 55, 56, 57, 58, 59, 60, 61, 62, 63, 7, 64, 65, 66, 67, 68, 69, 70, 71, 72, 73, 74, 75, 80, 81, 82, 83, 84, 85, 86, 87, 88, 89, 90, 91, 76, 77, 78, 79, 92, 93] (by decide +kernel) (by decide +kernel)
set_option maxRecDepth 20000 in
theorem gX5_count_X5_countWhileOn : GoodIn wsX5_count (wsV RX5 184 RX5 yX5_countWhileOn wsX5_countWhileOn) := goodIn_app (goodIn_of _ (by decide +kernel)) ggX5_count_X5_countWhileOn
set_option maxRecDepth 20000 in
theorem ggX5_countWhileOn_X4_headVersion : GoodIn wsX5_countWhileOn wsX4_headVersion := goodIn_r _ [8, 9, 10, 11, 7, 12, 13, 14, 15, 16, 17, 18, 19, 20, 21, 22, 23, 24, 25, 26, 27, 28, 29, 30, 31, 32, 33, 34, 35, 36, 37, 38, 39, 40, 41, 42, 43, 44, 45, 46, 47, 48, 49, 50, 51, 52, 53, 54, 55, 56, 57, 58, 59, 82, 83, 84, 85, 86, 87] (by decide +kernel) (by decide +kernel)
set_option maxRecDepth 20000 in
theorem gX5_countWhileOn_X4_headVersion : GoodIn wsX5_countWhileOn (wsV RX5 190 RX4 yX4_headVersion wsX4_headVersion) := goodIn_app (goodIn_of _ (by decide +kernel)) ggX5_countWhileOn_X4_headVersion
set_option maxRecDepth 20000 in
theorem ggX5_powerGoes_X1_empty : GoodIn wsX5_powerGoes wsX1_empty := goodIn_r _ [8, 9, 10, 11, 26, 27, 28, 29] (by decide +kernel) (by decide +kernel)
set_option maxRecDepth 20000 in
theorem gX5_powerGoes_X1_empty : GoodIn wsX5_powerGoes (wsV RX5 201 RX1 yX1_empty wsX1_empty) := goodIn_app (goodIn_of _ (by decide +kernel)) ggX5_powerGoes_X1_empty
set_option maxRecDepth 20000 in
theorem ggX5_writeDraft_X4_write : GoodIn wsX5_writeDraft wsX4_write := goodIn_r _ [7, 8, 9, 10, 11, 12, 13, 6, 14, 15, 16, 17, 18, 19, 20, 21, 22, 23, 24, 25, 26, 27, 28, 29, 30, 31, 32, 33, 34, 35, 36, 37, 38, 64, 65, 66, 67, 68, 69] (by decide +kernel) (by decide +kernel)
set_option maxRecDepth 20000 in
theorem gX5_writeDraft_X4_write : GoodIn wsX5_writeDraft (wsV RX5 204 RX4 yX4_write wsX4_write) := goodIn_app (goodIn_of _ (by decide +kernel)) ggX5_writeDraft_X4_write
set_option maxRecDepth 20000 in
theorem ggX5_writeHead_X4_headVersion : GoodIn wsX5_writeHead wsX4_headVersion := goodIn_r _ [7, 8, 9, 10, 6, 11, 12, 13, 14, 15, 16, 17, 18, 19, 20, 21, 22, 23, 24, 25, 26, 27, 28, 29, 30, 31, 32, 33, 34, 35, 36, 37, 38, 39, 40, 41, 42, 43, 44, 45, 46, 47, 48, 49, 50, 51, 52, 53, 54, 55, 56, 57, 58, 123, 124, 125, 126, 127, 128] (by decide +kernel) (by decide +kernel)
set_option maxRecDepth 20000 in
theorem gX5_writeHead_X4_headVersion : GoodIn wsX5_writeHead (wsV RX5 190 RX4 yX4_headVersion wsX4_headVersion) := goodIn_app (goodIn_of _ (by decide +kernel)) ggX5_writeHead_X4_headVersion
set_option maxRecDepth 20000 in
theorem ggX5_writeHead_X4_latestHead : GoodIn wsX5_writeHead wsX4_latestHead := goodIn_r _ [11, 12, 13, 14, 6, 15, 16, 17, 18, 19, 20, 21, 22, 23, 24, 25, 26, 27, 28, 29, 30, 31, 32, 33, 34, 35, 36, 37, 38, 39, 40, 41, 42, 43, 44, 45, 46, 47, 48, 49, 50, 51, 52, 53, 54, 55, 56, 57, 58, 123, 124, 125, 126, 127, 128] (by decide +kernel) (by decide +kernel)
set_option maxRecDepth 20000 in
theorem gX5_writeHead_X4_latestHead : GoodIn wsX5_writeHead (wsV RX5 137 RX4 yX4_latestHead wsX4_latestHead) := goodIn_app (goodIn_of _ (by decide +kernel)) ggX5_writeHead_X4_latestHead
set_option maxRecDepth 20000 in
theorem ggX5_writeHead_X3_makeHead : GoodIn wsX5_writeHead wsX3_makeHead := goodIn_r _ [63, 64, 65, 66, 20, 67, 28, 68, 69, 70, 71, 72, 73, 74, 75, 29, 30, 31, 32, 33, 34, 35, 36, 37, 127, 128] (by decide +kernel) (by decide +kernel)
set_option maxRecDepth 20000 in
theorem gX5_writeHead_X3_makeHead : GoodIn wsX5_writeHead (wsV RX5 66 RX3 yX3_makeHead wsX3_makeHead) := goodIn_app (goodIn_of _ (by decide +kernel)) ggX5_writeHead_X3_makeHead
set_option maxRecDepth 20000 in
theorem ggX5_writeHead_X5_writeDraft : GoodIn wsX5_writeHead wsX5_writeDraft := goodIn_r _ [79, 1, 2, 80, 81, 82, 6, 83, 84, 85, 86, 12, 13, 14, 15, 16, 87, 88, 89, 20, 90, 22, 91, 92, 93, 94, 50, 51, 52, 53, 28, 72, 73, 74, 75, 95, 96, 97, 98, 99, 100, 101, 56, 102, 103, 104, 105, 106, 107, 108, 109, 110, 111, 112, 113, 114, 115, 116, 117, 118, 119, 120, 121, 122, 123, 124, 125, 126, 127, 128, 129, 130, 131, 132] (by decide +kernel) (by decide +kernel)
set_option maxRecDepth 20000 in
theorem gX5_writeHead_X5_writeDraft : GoodIn wsX5_writeHead (wsV RX5 208 RX5 yX5_writeDraft wsX5_writeDraft) := goodIn_app (goodIn_of _ (by decide +kernel)) ggX5_writeHead_X5_writeDraft
set_option maxRecDepth 20000 in
theorem ggX5_writeQueue_X1_sectorsWith : GoodIn wsX5_writeQueue wsX1_sectorsWith := goodIn_r _ [11, 12, 189, 190, 191, 192] (by decide +kernel) (by decide +kernel)
set_option maxRecDepth 20000 in
theorem gX5_writeQueue_X1_sectorsWith : GoodIn wsX5_writeQueue (wsV RX5 78 RX1 yX1_sectorsWith wsX1_sectorsWith) := goodIn_app (goodIn_of _ (by decide +kernel)) ggX5_writeQueue_X1_sectorsWith
set_option maxRecDepth 20000 in
theorem ggX5_writeQueue_X4_headVersion : GoodIn wsX5_writeQueue wsX4_headVersion := goodIn_r _ [17, 18, 19, 20, 16, 21, 22, 23, 24, 25, 26, 27, 28, 29, 30, 31, 32, 33, 34, 35, 36, 37, 38, 39, 40, 41, 42, 43, 44, 45, 46, 47, 48, 49, 50, 51, 52, 53, 54, 55, 56, 57, 58, 59, 60, 61, 62, 63, 64, 65, 66, 67, 68, 193, 194, 195, 196, 197, 198] (by decide +kernel) (by decide +kernel)
set_option maxRecDepth 20000 in
theorem gX5_writeQueue_X4_headVersion : GoodIn wsX5_writeQueue (wsV RX5 190 RX4 yX4_headVersion wsX4_headVersion) := goodIn_app (goodIn_of _ (by decide +kernel)) ggX5_writeQueue_X4_headVersion
set_option maxRecDepth 20000 in
theorem ggX5_writeQueue_X1_tellTo : GoodIn wsX5_writeQueue wsX1_tellTo := goodIn_r _ [161, 81, 152, 66, 153, 154, 155, 156, 157, 162, 163, 164, 147, 165, 166, 167, 168, 169, 170, 82, 83, 84, 10, 85, 86, 87, 88, 89, 90, 189, 190, 191, 192, 181, 182, 183, 184, 185, 186, 187, 188] (by decide +kernel) (by decide +kernel)
set_option maxRecDepth 20000 in
theorem gX5_writeQueue_X1_tellTo : GoodIn wsX5_writeQueue (wsV RX5 222 RX1 yX1_tellTo wsX1_tellTo) := goodIn_app (goodIn_of _ (by decide +kernel)) ggX5_writeQueue_X1_tellTo
set_option maxRecDepth 20000 in
theorem ggX5_writeQueue_X1_empty : GoodIn wsX5_writeQueue wsX1_empty := goodIn_r _ [142, 12, 81, 143, 189, 190, 191, 192] (by decide +kernel) (by decide +kernel)
set_option maxRecDepth 20000 in
theorem gX5_writeQueue_X1_empty : GoodIn wsX5_writeQueue (wsV RX5 201 RX1 yX1_empty wsX1_empty) := goodIn_app (goodIn_of _ (by decide +kernel)) ggX5_writeQueue_X1_empty
theorem dX5_init_0 : decode cX5_init 0 = .ok (.aload_n 0, 1) := by decide +kernel
theorem dX5_init_1 : decode cX5_init 1 = .ok (.invokespecial 3, 3) := by decide +kernel
theorem dX5_init_4 : decode cX5_init 4 = .ok (.aload_n 0, 1) := by decide +kernel
theorem dX5_init_5 : decode cX5_init 5 = .ok (.new 9, 3) := by decide +kernel
theorem dX5_init_8 : decode cX5_init 8 = .ok (.dup, 1) := by decide +kernel
theorem dX5_init_9 : decode cX5_init 9 = .ok (.invokespecial 11, 3) := by decide +kernel
theorem dX5_init_12 : decode cX5_init 12 = .ok (.putfield 12, 3) := by decide +kernel
theorem dX5_init_15 : decode cX5_init 15 = .ok (.aload_n 0, 1) := by decide +kernel
theorem dX5_init_16 : decode cX5_init 16 = .ok (.new 16, 3) := by decide +kernel
theorem dX5_init_19 : decode cX5_init 19 = .ok (.dup, 1) := by decide +kernel
theorem dX5_init_20 : decode cX5_init 20 = .ok (.invokespecial 18, 3) := by decide +kernel
theorem dX5_init_23 : decode cX5_init 23 = .ok (.putfield 19, 3) := by decide +kernel
theorem dX5_init_26 : decode cX5_init 26 = .ok (.aload_n 0, 1) := by decide +kernel
theorem dX5_init_27 : decode cX5_init 27 = .ok (.new 23, 3) := by decide +kernel
theorem dX5_init_30 : decode cX5_init 30 = .ok (.dup, 1) := by decide +kernel
theorem dX5_init_31 : decode cX5_init 31 = .ok (.invokespecial 25, 3) := by decide +kernel
theorem dX5_init_34 : decode cX5_init 34 = .ok (.putfield 26, 3) := by decide +kernel
theorem dX5_init_37 : decode cX5_init 37 = .ok (.aload_n 0, 1) := by decide +kernel
theorem dX5_init_38 : decode cX5_init 38 = .ok (.new 30, 3) := by decide +kernel
theorem dX5_init_41 : decode cX5_init 41 = .ok (.dup, 1) := by decide +kernel
theorem dX5_init_42 : decode cX5_init 42 = .ok (.invokespecial 32, 3) := by decide +kernel
theorem dX5_init_45 : decode cX5_init 45 = .ok (.putfield 33, 3) := by decide +kernel
theorem dX5_init_48 : decode cX5_init 48 = .ok (.aload_n 0, 1) := by decide +kernel
theorem dX5_init_49 : decode cX5_init 49 = .ok (.new 37, 3) := by decide +kernel
theorem dX5_init_52 : decode cX5_init 52 = .ok (.dup, 1) := by decide +kernel
theorem dX5_init_53 : decode cX5_init 53 = .ok (.invokespecial 39, 3) := by decide +kernel
theorem dX5_init_56 : decode cX5_init 56 = .ok (.putfield 40, 3) := by decide +kernel
theorem dX5_init_59 : decode cX5_init 59 = .ok (.aload_n 0, 1) := by decide +kernel
theorem dX5_init_60 : decode cX5_init 60 = .ok (.sipush 200, 3) := by decide +kernel
theorem dX5_init_63 : decode cX5_init 63 = .ok (.newarray .int, 2) := by decide +kernel
theorem dX5_init_65 : decode cX5_init 65 = .ok (.putfield 44, 3) := by decide +kernel
theorem dX5_init_68 : decode cX5_init 68 = .ok (.aload_n 0, 1) := by decide +kernel
theorem dX5_init_69 : decode cX5_init 69 = .ok (.iconst 0, 1) := by decide +kernel
theorem dX5_init_70 : decode cX5_init 70 = .ok (.putfield 48, 3) := by decide +kernel
theorem dX5_init_73 : decode cX5_init 73 = .ok (.aload_n 0, 1) := by decide +kernel
theorem dX5_init_74 : decode cX5_init 74 = .ok (.bipush 10, 2) := by decide +kernel
theorem dX5_init_76 : decode cX5_init 76 = .ok (.putfield 52, 3) := by decide +kernel
theorem dX5_init_79 : decode cX5_init 79 = .ok (.aload_n 0, 1) := by decide +kernel
theorem dX5_init_80 : decode cX5_init 80 = .ok (.iconst 0, 1) := by decide +kernel
theorem dX5_init_81 : decode cX5_init 81 = .ok (.putfield 55, 3) := by decide +kernel
theorem dX5_init_84 : decode cX5_init 84 = .ok (.aload_n 0, 1) := by decide +kernel
theorem dX5_init_85 : decode cX5_init 85 = .ok (.iconst 1, 1) := by decide +kernel
theorem dX5_init_86 : decode cX5_init 86 = .ok (.putfield 58, 3) := by decide +kernel
theorem dX5_init_89 : decode cX5_init 89 = .ok (.aload_n 0, 1) := by decide +kernel
theorem dX5_init_90 : decode cX5_init 90 = .ok (.getfield 12, 3) := by decide +kernel
theorem dX5_init_93 : decode cX5_init 93 = .ok (.iconst 0, 1) := by decide +kernel
theorem dX5_init_94 : decode cX5_init 94 = .ok (.invokevirtual 62, 3) := by decide +kernel
theorem dX5_init_97 : decode cX5_init 97 = .ok (.iconst 1, 1) := by decide +kernel
theorem dX5_init_98 : decode cX5_init 98 = .ok (.iconst 1, 1) := by decide +kernel
theorem dX5_init_99 : decode cX5_init 99 = .ok (.iconst 1, 1) := by decide +kernel
theorem dX5_init_100 : decode cX5_init 100 = .ok (.iconst 2, 1) := by decide +kernel
theorem dX5_init_101 : decode cX5_init 101 = .ok (.invokevirtual 66, 3) := by decide +kernel
theorem dX5_init_104 : decode cX5_init 104 = .ok (.aload_n 0, 1) := by decide +kernel
theorem dX5_init_105 : decode cX5_init 105 = .ok (.getfield 26, 3) := by decide +kernel
theorem dX5_init_108 : decode cX5_init 108 = .ok (.iconst 2, 1) := by decide +kernel
theorem dX5_init_109 : decode cX5_init 109 = .ok (.iconst 1, 1) := by decide +kernel
theorem dX5_init_110 : decode cX5_init 110 = .ok (.iconst 1, 1) := by decide +kernel
theorem dX5_init_111 : decode cX5_init 111 = .ok (.invokevirtual 70, 3) := by decide +kernel
theorem dX5_init_114 : decode cX5_init 114 = .ok (.return_, 1) := by decide +kernel
theorem dX5_delay_0 : decode cX5_delay 0 = .ok (.aload_n 0, 1) := by decide +kernel
theorem dX5_delay_1 : decode cX5_delay 1 = .ok (.getfield 58, 3) := by decide +kernel
theorem dX5_delay_4 : decode cX5_delay 4 = .ok (.ifCond .eq 10, 3) := by decide +kernel
theorem dX5_delay_7 : decode cX5_delay 7 = .ok (.iload_n 1, 1) := by decide +kernel
theorem dX5_delay_8 : decode cX5_delay 8 = .ok (.invokestatic 74, 3) := by decide +kernel
theorem dX5_delay_11 : decode cX5_delay 11 = .ok (.ifCond .ne 5, 3) := by decide +kernel
theorem dX5_delay_14 : decode cX5_delay 14 = .ok (.iconst 0, 1) := by decide +kernel
theorem dX5_delay_15 : decode cX5_delay 15 = .ok (.ireturn, 1) := by decide +kernel
theorem dX5_delay_16 : decode cX5_delay 16 = .ok (.aload_n 0, 1) := by decide +kernel
theorem dX5_delay_17 : decode cX5_delay 17 = .ok (.iload_n 1, 1) := by decide +kernel
theorem dX5_delay_18 : decode cX5_delay 18 = .ok (.putfield 52, 3) := by decide +kernel
theorem dX5_delay_21 : decode cX5_delay 21 = .ok (.iconst 1, 1) := by decide +kernel
theorem dX5_delay_22 : decode cX5_delay 22 = .ok (.ireturn, 1) := by decide +kernel
theorem dX5_feed_0 : decode cX5_feed 0 = .ok (.iload_n 1, 1) := by decide +kernel
theorem dX5_feed_1 : decode cX5_feed 1 = .ok (.ifCond .lt 29, 3) := by decide +kernel
theorem dX5_feed_4 : decode cX5_feed 4 = .ok (.iload_n 1, 1) := by decide +kernel
theorem dX5_feed_5 : decode cX5_feed 5 = .ok (.sipush 255, 3) := by decide +kernel
theorem dX5_feed_8 : decode cX5_feed 8 = .ok (.if_icmp .gt 22, 3) := by decide +kernel
theorem dX5_feed_11 : decode cX5_feed 11 = .ok (.aload_n 0, 1) := by decide +kernel
theorem dX5_feed_12 : decode cX5_feed 12 = .ok (.getfield 48, 3) := by decide +kernel
theorem dX5_feed_15 : decode cX5_feed 15 = .ok (.ifCond .lt 15, 3) := by decide +kernel
theorem dX5_feed_18 : decode cX5_feed 18 = .ok (.aload_n 0, 1) := by decide +kernel
theorem dX5_feed_19 : decode cX5_feed 19 = .ok (.getfield 48, 3) := by decide +kernel
theorem dX5_feed_22 : decode cX5_feed 22 = .ok (.aload_n 0, 1) := by decide +kernel
theorem dX5_feed_23 : decode cX5_feed 23 = .ok (.getfield 44, 3) := by decide +kernel
theorem dX5_feed_26 : decode cX5_feed 26 = .ok (.arraylength, 1) := by decide +kernel
theorem dX5_feed_27 : decode cX5_feed 27 = .ok (.if_icmp .lt 5, 3) := by decide +kernel
theorem dX5_feed_30 : decode cX5_feed 30 = .ok (.iconst 0, 1) := by decide +kernel
theorem dX5_feed_31 : decode cX5_feed 31 = .ok (.ireturn, 1) := by decide +kernel
theorem dX5_feed_32 : decode cX5_feed 32 = .ok (.aload_n 0, 1) := by decide +kernel
theorem dX5_feed_33 : decode cX5_feed 33 = .ok (.getfield 44, 3) := by decide +kernel
theorem dX5_feed_36 : decode cX5_feed 36 = .ok (.aload_n 0, 1) := by decide +kernel
theorem dX5_feed_37 : decode cX5_feed 37 = .ok (.getfield 48, 3) := by decide +kernel
theorem dX5_feed_40 : decode cX5_feed 40 = .ok (.iload_n 1, 1) := by decide +kernel
theorem dX5_feed_41 : decode cX5_feed 41 = .ok (.iastore, 1) := by decide +kernel
theorem dX5_feed_42 : decode cX5_feed 42 = .ok (.aload_n 0, 1) := by decide +kernel
theorem dX5_feed_43 : decode cX5_feed 43 = .ok (.dup, 1) := by decide +kernel
theorem dX5_feed_44 : decode cX5_feed 44 = .ok (.getfield 48, 3) := by decide +kernel
theorem dX5_feed_47 : decode cX5_feed 47 = .ok (.iconst 1, 1) := by decide +kernel
theorem dX5_feed_48 : decode cX5_feed 48 = .ok (.iadd, 1) := by decide +kernel
theorem dX5_feed_49 : decode cX5_feed 49 = .ok (.putfield 48, 3) := by decide +kernel
theorem dX5_feed_52 : decode cX5_feed 52 = .ok (.iconst 1, 1) := by decide +kernel
theorem dX5_feed_53 : decode cX5_feed 53 = .ok (.ireturn, 1) := by decide +kernel
theorem dX5_append_0 : decode cX5_append 0 = .ok (.aload_n 0, 1) := by decide +kernel
theorem dX5_append_1 : decode cX5_append 1 = .ok (.getfield 58, 3) := by decide +kernel
theorem dX5_append_4 : decode cX5_append 4 = .ok (.ifCond .ne 6, 3) := by decide +kernel
theorem dX5_append_7 : decode cX5_append 7 = .ok (.bipush (-2), 2) := by decide +kernel
theorem dX5_append_9 : decode cX5_append 9 = .ok (.ireturn, 1) := by decide +kernel
theorem dX5_append_10 : decode cX5_append 10 = .ok (.aload_n 0, 1) := by decide +kernel
theorem dX5_append_11 : decode cX5_append 11 = .ok (.getfield 48, 3) := by decide +kernel
theorem dX5_append_14 : decode cX5_append 14 = .ok (.ifCond .eq 30, 3) := by decide +kernel
theorem dX5_append_17 : decode cX5_append 17 = .ok (.aload_n 0, 1) := by decide +kernel
theorem dX5_append_18 : decode cX5_append 18 = .ok (.getfield 19, 3) := by decide +kernel
theorem dX5_append_21 : decode cX5_append 21 = .ok (.bipush 6, 2) := by decide +kernel
theorem dX5_append_23 : decode cX5_append 23 = .ok (.aload_n 0, 1) := by decide +kernel
theorem dX5_append_24 : decode cX5_append 24 = .ok (.getfield 48, 3) := by decide +kernel
theorem dX5_append_27 : decode cX5_append 27 = .ok (.iadd, 1) := by decide +kernel
theorem dX5_append_28 : decode cX5_append 28 = .ok (.invokevirtual 78, 3) := by decide +kernel
theorem dX5_flush_0 : decode cX5_flush 0 = .ok (.aload_n 0, 1) := by decide +kernel
theorem dX5_flush_1 : decode cX5_flush 1 = .ok (.getfield 58, 3) := by decide +kernel
theorem dX5_flush_4 : decode cX5_flush 4 = .ok (.ifCond .eq 10, 3) := by decide +kernel
theorem dX5_flush_7 : decode cX5_flush 7 = .ok (.aload_n 0, 1) := by decide +kernel
theorem dX5_flush_8 : decode cX5_flush 8 = .ok (.invokevirtual 98, 3) := by decide +kernel
theorem dX5_flush_11 : decode cX5_flush 11 = .ok (.goto 5, 3) := by decide +kernel
theorem dX5_flush_14 : decode cX5_flush 14 = .ok (.bipush (-2), 2) := by decide +kernel
theorem dX5_flush_16 : decode cX5_flush 16 = .ok (.ireturn, 1) := by decide +kernel
theorem dX5_tick_0 : decode cX5_tick 0 = .ok (.aload_n 0, 1) := by decide +kernel
theorem dX5_tick_1 : decode cX5_tick 1 = .ok (.getfield 58, 3) := by decide +kernel
theorem dX5_tick_4 : decode cX5_tick 4 = .ok (.ifCond .ne 6, 3) := by decide +kernel
theorem dX5_tick_7 : decode cX5_tick 7 = .ok (.bipush (-2), 2) := by decide +kernel
theorem dX5_tick_9 : decode cX5_tick 9 = .ok (.ireturn, 1) := by decide +kernel
theorem dX5_tick_10 : decode cX5_tick 10 = .ok (.iload_n 1, 1) := by decide +kernel
theorem dX5_tick_11 : decode cX5_tick 11 = .ok (.invokestatic 74, 3) := by decide +kernel
theorem dX5_tick_14 : decode cX5_tick 14 = .ok (.ifCond .ne 5, 3) := by decide +kernel
theorem dX5_tick_17 : decode cX5_tick 17 = .ok (.iconst (-1), 1) := by decide +kernel
theorem dX5_tick_18 : decode cX5_tick 18 = .ok (.ireturn, 1) := by decide +kernel
theorem dX5_tick_19 : decode cX5_tick 19 = .ok (.aload_n 0, 1) := by decide +kernel
theorem dX5_tick_20 : decode cX5_tick 20 = .ok (.getfield 19, 3) := by decide +kernel
theorem dX5_tick_23 : decode cX5_tick 23 = .ok (.getfield 88, 3) := by decide +kernel
theorem dX5_tick_26 : decode cX5_tick 26 = .ok (.ifCond .ne 5, 3) := by decide +kernel
theorem dX5_tick_29 : decode cX5_tick 29 = .ok (.iconst 0, 1) := by decide +kernel
theorem dX5_tick_30 : decode cX5_tick 30 = .ok (.ireturn, 1) := by decide +kernel
theorem dX5_tick_31 : decode cX5_tick 31 = .ok (.aload_n 0, 1) := by decide +kernel
theorem dX5_tick_32 : decode cX5_tick 32 = .ok (.getfield 19, 3) := by decide +kernel
theorem dX5_tick_35 : decode cX5_tick 35 = .ok (.dup, 1) := by decide +kernel
theorem dX5_tick_36 : decode cX5_tick 36 = .ok (.getfield 102, 3) := by decide +kernel
theorem dX5_tick_39 : decode cX5_tick 39 = .ok (.iload_n 1, 1) := by decide +kernel
theorem dX5_tick_40 : decode cX5_tick 40 = .ok (.iadd, 1) := by decide +kernel
theorem dX5_tick_41 : decode cX5_tick 41 = .ok (.putfield 102, 3) := by decide +kernel
theorem dX5_tick_44 : decode cX5_tick 44 = .ok (.aload_n 0, 1) := by decide +kernel
theorem dX5_tick_45 : decode cX5_tick 45 = .ok (.getfield 19, 3) := by decide +kernel
theorem dX5_tick_48 : decode cX5_tick 48 = .ok (.getfield 102, 3) := by decide +kernel
theorem dX5_tick_51 : decode cX5_tick 51 = .ok (.aload_n 0, 1) := by decide +kernel
theorem dX5_tick_52 : decode cX5_tick 52 = .ok (.getfield 52, 3) := by decide +kernel
theorem dX5_tick_55 : decode cX5_tick 55 = .ok (.if_icmp .ge 5, 3) := by decide +kernel
theorem dX5_tick_58 : decode cX5_tick 58 = .ok (.iconst 0, 1) := by decide +kernel
theorem dX5_tick_59 : decode cX5_tick 59 = .ok (.ireturn, 1) := by decide +kernel
theorem dX5_tick_60 : decode cX5_tick 60 = .ok (.aload_n 0, 1) := by decide +kernel
theorem dX5_tick_61 : decode cX5_tick 61 = .ok (.invokevirtual 98, 3) := by decide +kernel
theorem dX5_tick_64 : decode cX5_tick 64 = .ok (.pop, 1) := by decide +kernel
theorem dX5_tick_65 : decode cX5_tick 65 = .ok (.iconst 1, 1) := by decide +kernel
theorem dX5_tick_66 : decode cX5_tick 66 = .ok (.ireturn, 1) := by decide +kernel
theorem dX5_checkpoint_0 : decode cX5_checkpoint 0 = .ok (.aload_n 0, 1) := by decide +kernel
theorem dX5_checkpoint_1 : decode cX5_checkpoint 1 = .ok (.getfield 58, 3) := by decide +kernel
theorem dX5_checkpoint_4 : decode cX5_checkpoint 4 = .ok (.ifCond .ne 6, 3) := by decide +kernel
theorem dX5_checkpoint_7 : decode cX5_checkpoint 7 = .ok (.bipush (-2), 2) := by decide +kernel
theorem dX5_checkpoint_9 : decode cX5_checkpoint 9 = .ok (.ireturn, 1) := by decide +kernel
theorem dX5_checkpoint_10 : decode cX5_checkpoint 10 = .ok (.iload_n 1, 1) := by decide +kernel
theorem dX5_checkpoint_11 : decode cX5_checkpoint 11 = .ok (.aload_n 0, 1) := by decide +kernel
theorem dX5_checkpoint_12 : decode cX5_checkpoint 12 = .ok (.getfield 26, 3) := by decide +kernel
theorem dX5_checkpoint_15 : decode cX5_checkpoint 15 = .ok (.getfield 105, 3) := by decide +kernel
theorem dX5_checkpoint_18 : decode cX5_checkpoint 18 = .ok (.if_icmp .lt 16, 3) := by decide +kernel
theorem dX5_checkpoint_21 : decode cX5_checkpoint 21 = .ok (.iload_n 1, 1) := by decide +kernel
theorem dX5_checkpoint_22 : decode cX5_checkpoint 22 = .ok (.aload_n 0, 1) := by decide +kernel
theorem dX5_checkpoint_23 : decode cX5_checkpoint 23 = .ok (.getfield 26, 3) := by decide +kernel
theorem dX5_checkpoint_26 : decode cX5_checkpoint 26 = .ok (.getfield 85, 3) := by decide +kernel
theorem dX5_checkpoint_29 : decode cX5_checkpoint 29 = .ok (.iconst 1, 1) := by decide +kernel
theorem dX5_checkpoint_30 : decode cX5_checkpoint 30 = .ok (.iadd, 1) := by decide +kernel
theorem dX5_checkpoint_31 : decode cX5_checkpoint 31 = .ok (.if_icmp .le 5, 3) := by decide +kernel
theorem dX5_checkpoint_34 : decode cX5_checkpoint 34 = .ok (.iconst (-1), 1) := by decide +kernel
theorem dX5_checkpoint_35 : decode cX5_checkpoint 35 = .ok (.ireturn, 1) := by decide +kernel
theorem dX5_checkpoint_36 : decode cX5_checkpoint 36 = .ok (.aload_n 0, 1) := by decide +kernel
theorem dX5_checkpoint_37 : decode cX5_checkpoint 37 = .ok (.getfield 26, 3) := by decide +kernel
theorem dX5_checkpoint_40 : decode cX5_checkpoint 40 = .ok (.iload_n 1, 1) := by decide +kernel
theorem dX5_checkpoint_41 : decode cX5_checkpoint 41 = .ok (.invokevirtual 108, 3) := by decide +kernel
theorem dX5_checkpoint_44 : decode cX5_checkpoint 44 = .ok (.istore_n 2, 1) := by decide +kernel
theorem dX5_checkpoint_45 : decode cX5_checkpoint 45 = .ok (.aload_n 0, 1) := by decide +kernel
theorem dX5_checkpoint_46 : decode cX5_checkpoint 46 = .ok (.getfield 26, 3) := by decide +kernel
theorem dX5_checkpoint_49 : decode cX5_checkpoint 49 = .ok (.iload_n 1, 1) := by decide +kernel
theorem dX5_checkpoint_50 : decode cX5_checkpoint 50 = .ok (.invokevirtual 111, 3) := by decide +kernel
theorem dX5_checkpoint_53 : decode cX5_checkpoint 53 = .ok (.istore_n 3, 1) := by decide +kernel
theorem dX5_checkpoint_54 : decode cX5_checkpoint 54 = .ok (.iload_n 1, 1) := by decide +kernel
theorem dX5_checkpoint_55 : decode cX5_checkpoint 55 = .ok (.aload_n 0, 1) := by decide +kernel
theorem dX5_checkpoint_56 : decode cX5_checkpoint 56 = .ok (.getfield 26, 3) := by decide +kernel
theorem dX5_checkpoint_59 : decode cX5_checkpoint 59 = .ok (.getfield 85, 3) := by decide +kernel
theorem dX5_checkpoint_62 : decode cX5_checkpoint 62 = .ok (.if_icmp .le 13, 3) := by decide +kernel
theorem dX5_checkpoint_65 : decode cX5_checkpoint 65 = .ok (.aload_n 0, 1) := by decide +kernel
theorem dX5_checkpoint_66 : decode cX5_checkpoint 66 = .ok (.getfield 26, 3) := by decide +kernel
theorem dX5_checkpoint_69 : decode cX5_checkpoint 69 = .ok (.getfield 114, 3) := by decide +kernel
theorem dX5_checkpoint_72 : decode cX5_checkpoint 72 = .ok (.goto 14, 3) := by decide +kernel
theorem dX5_checkpoint_75 : decode cX5_checkpoint 75 = .ok (.aload_n 0, 1) := by decide +kernel
theorem dX5_checkpoint_76 : decode cX5_checkpoint 76 = .ok (.getfield 12, 3) := by decide +kernel
theorem dX5_checkpoint_79 : decode cX5_checkpoint 79 = .ok (.iload_n 2, 1) := by decide +kernel
theorem dX5_checkpoint_80 : decode cX5_checkpoint 80 = .ok (.invokevirtual 62, 3) := by decide +kernel
theorem dX5_checkpoint_83 : decode cX5_checkpoint 83 = .ok (.invokevirtual 117, 3) := by decide +kernel
theorem dX5_checkpoint_86 : decode cX5_checkpoint 86 = .ok (.istore 4, 2) := by decide +kernel
theorem dX5_checkpoint_88 : decode cX5_checkpoint 88 = .ok (.aload_n 0, 1) := by decide +kernel
theorem dX5_checkpoint_89 : decode cX5_checkpoint 89 = .ok (.iload 4, 2) := by decide +kernel
theorem dX5_checkpoint_91 : decode cX5_checkpoint 91 = .ok (.iload_n 3, 1) := by decide +kernel
theorem dX5_checkpoint_92 : decode cX5_checkpoint 92 = .ok (.iload_n 2, 1) := by decide +kernel
theorem dX5_checkpoint_93 : decode cX5_checkpoint 93 = .ok (.invokevirtual 120, 3) := by decide +kernel
theorem dX5_checkpoint_96 : decode cX5_checkpoint 96 = .ok (.ifCond .ne 6, 3) := by decide +kernel
theorem dX5_checkpoint_99 : decode cX5_checkpoint 99 = .ok (.bipush (-2), 2) := by decide +kernel
theorem dX5_checkpoint_101 : decode cX5_checkpoint 101 = .ok (.ireturn, 1) := by decide +kernel
theorem dX5_checkpoint_102 : decode cX5_checkpoint 102 = .ok (.aload_n 0, 1) := by decide +kernel
theorem dX5_checkpoint_103 : decode cX5_checkpoint 103 = .ok (.getfield 26, 3) := by decide +kernel
theorem dX5_checkpoint_106 : decode cX5_checkpoint 106 = .ok (.iload_n 1, 1) := by decide +kernel
theorem dX5_checkpoint_107 : decode cX5_checkpoint 107 = .ok (.iload_n 3, 1) := by decide +kernel
theorem dX5_checkpoint_108 : decode cX5_checkpoint 108 = .ok (.iload_n 2, 1) := by decide +kernel
theorem dX5_checkpoint_109 : decode cX5_checkpoint 109 = .ok (.invokevirtual 124, 3) := by decide +kernel
theorem dX5_checkpoint_112 : decode cX5_checkpoint 112 = .ok (.ireturn, 1) := by decide +kernel
theorem dX5_cut_0 : decode cX5_cut 0 = .ok (.aload_n 0, 1) := by decide +kernel
theorem dX5_cut_1 : decode cX5_cut 1 = .ok (.getfield 58, 3) := by decide +kernel
theorem dX5_cut_4 : decode cX5_cut 4 = .ok (.ifCond .ne 5, 3) := by decide +kernel
theorem dX5_cut_7 : decode cX5_cut 7 = .ok (.iconst 0, 1) := by decide +kernel
theorem dX5_cut_8 : decode cX5_cut 8 = .ok (.ireturn, 1) := by decide +kernel
theorem dX5_cut_9 : decode cX5_cut 9 = .ok (.aload_n 0, 1) := by decide +kernel
theorem dX5_cut_10 : decode cX5_cut 10 = .ok (.invokevirtual 128, 3) := by decide +kernel
theorem dX5_cut_13 : decode cX5_cut 13 = .ok (.iconst 1, 1) := by decide +kernel
theorem dX5_cut_14 : decode cX5_cut 14 = .ok (.ireturn, 1) := by decide +kernel
theorem dX5_arm_0 : decode cX5_arm 0 = .ok (.aload_n 0, 1) := by decide +kernel
theorem dX5_arm_1 : decode cX5_arm 1 = .ok (.getfield 58, 3) := by decide +kernel
theorem dX5_arm_4 : decode cX5_arm 4 = .ok (.ifCond .eq 23, 3) := by decide +kernel
theorem dX5_arm_7 : decode cX5_arm 7 = .ok (.iload_n 1, 1) := by decide +kernel
theorem dX5_arm_8 : decode cX5_arm 8 = .ok (.ifCond .lt 19, 3) := by decide +kernel
theorem dX5_arm_11 : decode cX5_arm 11 = .ok (.iload_n 1, 1) := by decide +kernel
theorem dX5_arm_12 : decode cX5_arm 12 = .ok (.bipush 100, 2) := by decide +kernel
theorem dX5_arm_14 : decode cX5_arm 14 = .ok (.if_icmp .gt 13, 3) := by decide +kernel
theorem dX5_arm_17 : decode cX5_arm 17 = .ok (.iload_n 2, 1) := by decide +kernel
theorem dX5_arm_18 : decode cX5_arm 18 = .ok (.ifCond .lt 9, 3) := by decide +kernel
theorem dX5_arm_21 : decode cX5_arm 21 = .ok (.iload_n 2, 1) := by decide +kernel
theorem dX5_arm_22 : decode cX5_arm 22 = .ok (.bipush 64, 2) := by decide +kernel
theorem dX5_arm_24 : decode cX5_arm 24 = .ok (.if_icmp .lt 5, 3) := by decide +kernel
theorem dX5_arm_27 : decode cX5_arm 27 = .ok (.iconst 0, 1) := by decide +kernel
theorem dX5_arm_28 : decode cX5_arm 28 = .ok (.ireturn, 1) := by decide +kernel
theorem dX5_arm_29 : decode cX5_arm 29 = .ok (.aload_n 0, 1) := by decide +kernel
theorem dX5_arm_30 : decode cX5_arm 30 = .ok (.getfield 12, 3) := by decide +kernel
theorem dX5_arm_33 : decode cX5_arm 33 = .ok (.iload_n 1, 1) := by decide +kernel
theorem dX5_arm_34 : decode cX5_arm 34 = .ok (.putfield 131, 3) := by decide +kernel
theorem dX5_arm_37 : decode cX5_arm 37 = .ok (.aload_n 0, 1) := by decide +kernel
theorem dX5_arm_38 : decode cX5_arm 38 = .ok (.getfield 12, 3) := by decide +kernel
theorem dX5_arm_41 : decode cX5_arm 41 = .ok (.iload_n 2, 1) := by decide +kernel
theorem dX5_arm_42 : decode cX5_arm 42 = .ok (.putfield 134, 3) := by decide +kernel
theorem dX5_arm_45 : decode cX5_arm 45 = .ok (.iconst 1, 1) := by decide +kernel
theorem dX5_arm_46 : decode cX5_arm 46 = .ok (.ireturn, 1) := by decide +kernel
theorem dX5_start_0 : decode cX5_start 0 = .ok (.aload_n 0, 1) := by decide +kernel
theorem dX5_start_1 : decode cX5_start 1 = .ok (.getfield 58, 3) := by decide +kernel
theorem dX5_start_4 : decode cX5_start 4 = .ok (.ifCond .eq 5, 3) := by decide +kernel
theorem dX5_start_7 : decode cX5_start 7 = .ok (.iconst (-1), 1) := by decide +kernel
theorem dX5_start_8 : decode cX5_start 8 = .ok (.ireturn, 1) := by decide +kernel
theorem dX5_start_9 : decode cX5_start 9 = .ok (.aload_n 0, 1) := by decide +kernel
theorem dX5_start_10 : decode cX5_start 10 = .ok (.getfield 12, 3) := by decide +kernel
theorem dX5_first_0 : decode cX5_first 0 = .ok (.aload_n 0, 1) := by decide +kernel
theorem dX5_first_1 : decode cX5_first 1 = .ok (.getfield 58, 3) := by decide +kernel
theorem dX5_first_4 : decode cX5_first 4 = .ok (.ifCond .eq 13, 3) := by decide +kernel
theorem dX5_first_7 : decode cX5_first 7 = .ok (.aload_n 0, 1) := by decide +kernel
theorem dX5_first_8 : decode cX5_first 8 = .ok (.getfield 26, 3) := by decide +kernel
theorem dX5_first_11 : decode cX5_first 11 = .ok (.getfield 153, 3) := by decide +kernel
theorem dX5_first_14 : decode cX5_first 14 = .ok (.goto 5, 3) := by decide +kernel
theorem dX5_first_17 : decode cX5_first 17 = .ok (.bipush (-2), 2) := by decide +kernel
theorem dX5_first_19 : decode cX5_first 19 = .ok (.ireturn, 1) := by decide +kernel
theorem dX5_safe_0 : decode cX5_safe 0 = .ok (.aload_n 0, 1) := by decide +kernel
theorem dX5_safe_1 : decode cX5_safe 1 = .ok (.getfield 58, 3) := by decide +kernel
theorem dX5_safe_4 : decode cX5_safe 4 = .ok (.ifCond .eq 13, 3) := by decide +kernel
theorem dX5_safe_7 : decode cX5_safe 7 = .ok (.aload_n 0, 1) := by decide +kernel
theorem dX5_safe_8 : decode cX5_safe 8 = .ok (.getfield 26, 3) := by decide +kernel
theorem dX5_safe_11 : decode cX5_safe 11 = .ok (.getfield 85, 3) := by decide +kernel
theorem dX5_safe_14 : decode cX5_safe 14 = .ok (.goto 5, 3) := by decide +kernel
theorem dX5_safe_17 : decode cX5_safe 17 = .ok (.bipush (-2), 2) := by decide +kernel
theorem dX5_safe_19 : decode cX5_safe 19 = .ok (.ireturn, 1) := by decide +kernel
theorem dX5_size_0 : decode cX5_size 0 = .ok (.aload_n 0, 1) := by decide +kernel
theorem dX5_size_1 : decode cX5_size 1 = .ok (.getfield 58, 3) := by decide +kernel
theorem dX5_size_4 : decode cX5_size 4 = .ok (.ifCond .ne 6, 3) := by decide +kernel
theorem dX5_size_7 : decode cX5_size 7 = .ok (.bipush (-2), 2) := by decide +kernel
theorem dX5_size_9 : decode cX5_size 9 = .ok (.ireturn, 1) := by decide +kernel
theorem dX5_size_10 : decode cX5_size 10 = .ok (.aload_n 0, 1) := by decide +kernel
theorem dX5_size_11 : decode cX5_size 11 = .ok (.getfield 26, 3) := by decide +kernel
theorem dX5_size_14 : decode cX5_size 14 = .ok (.iload_n 1, 1) := by decide +kernel
theorem dX5_size_15 : decode cX5_size 15 = .ok (.invokevirtual 156, 3) := by decide +kernel
theorem dX5_size_18 : decode cX5_size 18 = .ok (.ifCond .eq 18, 3) := by decide +kernel
theorem dX5_size_21 : decode cX5_size 21 = .ok (.aload_n 0, 1) := by decide +kernel
theorem dX5_size_22 : decode cX5_size 22 = .ok (.getfield 26, 3) := by decide +kernel
theorem dX5_size_25 : decode cX5_size 25 = .ok (.aload_n 0, 1) := by decide +kernel
theorem dX5_size_26 : decode cX5_size 26 = .ok (.getfield 12, 3) := by decide +kernel
theorem dX5_size_29 : decode cX5_size 29 = .ok (.iload_n 1, 1) := by decide +kernel
theorem dX5_size_30 : decode cX5_size 30 = .ok (.invokevirtual 159, 3) := by decide +kernel
theorem dX5_size_33 : decode cX5_size 33 = .ok (.goto 4, 3) := by decide +kernel
theorem dX5_size_36 : decode cX5_size 36 = .ok (.iconst (-1), 1) := by decide +kernel
theorem dX5_size_37 : decode cX5_size 37 = .ok (.ireturn, 1) := by decide +kernel
theorem dX5_at_0 : decode cX5_at 0 = .ok (.aload_n 0, 1) := by decide +kernel
theorem dX5_at_1 : decode cX5_at 1 = .ok (.getfield 58, 3) := by decide +kernel
theorem dX5_at_4 : decode cX5_at 4 = .ok (.ifCond .ne 6, 3) := by decide +kernel
theorem dX5_at_7 : decode cX5_at 7 = .ok (.bipush (-2), 2) := by decide +kernel
theorem dX5_at_9 : decode cX5_at 9 = .ok (.ireturn, 1) := by decide +kernel
theorem dX5_at_10 : decode cX5_at 10 = .ok (.aload_n 0, 1) := by decide +kernel
theorem dX5_at_11 : decode cX5_at 11 = .ok (.getfield 26, 3) := by decide +kernel
theorem dX5_at_14 : decode cX5_at 14 = .ok (.iload_n 1, 1) := by decide +kernel
theorem dX5_at_15 : decode cX5_at 15 = .ok (.invokevirtual 156, 3) := by decide +kernel
theorem dX5_at_18 : decode cX5_at 18 = .ok (.ifCond .eq 23, 3) := by decide +kernel
theorem dX5_at_21 : decode cX5_at 21 = .ok (.iload_n 2, 1) := by decide +kernel
theorem dX5_at_22 : decode cX5_at 22 = .ok (.ifCond .lt 19, 3) := by decide +kernel
theorem dX5_at_25 : decode cX5_at 25 = .ok (.iload_n 2, 1) := by decide +kernel
theorem dX5_at_26 : decode cX5_at 26 = .ok (.aload_n 0, 1) := by decide +kernel
theorem dX5_at_27 : decode cX5_at 27 = .ok (.getfield 26, 3) := by decide +kernel
theorem dX5_at_30 : decode cX5_at 30 = .ok (.aload_n 0, 1) := by decide +kernel
theorem dX5_at_31 : decode cX5_at 31 = .ok (.getfield 12, 3) := by decide +kernel
theorem dX5_at_34 : decode cX5_at 34 = .ok (.iload_n 1, 1) := by decide +kernel
theorem dX5_at_35 : decode cX5_at 35 = .ok (.invokevirtual 159, 3) := by decide +kernel
theorem dX5_at_38 : decode cX5_at 38 = .ok (.if_icmp .lt 5, 3) := by decide +kernel
theorem dX5_at_41 : decode cX5_at 41 = .ok (.iconst (-1), 1) := by decide +kernel
theorem dX5_at_42 : decode cX5_at 42 = .ok (.ireturn, 1) := by decide +kernel
theorem dX5_at_43 : decode cX5_at 43 = .ok (.aload_n 0, 1) := by decide +kernel
theorem dX5_at_44 : decode cX5_at 44 = .ok (.getfield 26, 3) := by decide +kernel
theorem dX5_at_47 : decode cX5_at 47 = .ok (.aload_n 0, 1) := by decide +kernel
theorem dX5_at_48 : decode cX5_at 48 = .ok (.getfield 12, 3) := by decide +kernel
theorem dX5_at_51 : decode cX5_at 51 = .ok (.iload_n 1, 1) := by decide +kernel
theorem dX5_at_52 : decode cX5_at 52 = .ok (.bipush 6, 2) := by decide +kernel
theorem dX5_at_54 : decode cX5_at 54 = .ok (.iload_n 2, 1) := by decide +kernel
theorem dX5_at_55 : decode cX5_at 55 = .ok (.iadd, 1) := by decide +kernel
theorem dX5_at_56 : decode cX5_at 56 = .ok (.invokevirtual 163, 3) := by decide +kernel
theorem dX5_at_59 : decode cX5_at 59 = .ok (.ireturn, 1) := by decide +kernel
theorem dX5_disk_0 : decode cX5_disk 0 = .ok (.iload_n 1, 1) := by decide +kernel
theorem dX5_disk_1 : decode cX5_disk 1 = .ok (.iload_n 2, 1) := by decide +kernel
theorem dX5_disk_2 : decode cX5_disk 2 = .ok (.invokestatic 167, 3) := by decide +kernel
theorem dX5_disk_5 : decode cX5_disk 5 = .ok (.ifCond .eq 18, 3) := by decide +kernel
theorem dX5_disk_8 : decode cX5_disk 8 = .ok (.aload_n 0, 1) := by decide +kernel
theorem dX5_disk_9 : decode cX5_disk 9 = .ok (.getfield 12, 3) := by decide +kernel
theorem dX5_disk_12 : decode cX5_disk 12 = .ok (.iload_n 1, 1) := by decide +kernel
theorem dX5_disk_13 : decode cX5_disk 13 = .ok (.invokevirtual 62, 3) := by decide +kernel
theorem dX5_disk_16 : decode cX5_disk 16 = .ok (.iload_n 2, 1) := by decide +kernel
theorem dX5_disk_17 : decode cX5_disk 17 = .ok (.invokevirtual 171, 3) := by decide +kernel
theorem dX5_disk_20 : decode cX5_disk 20 = .ok (.goto 4, 3) := by decide +kernel
theorem dX5_disk_23 : decode cX5_disk 23 = .ok (.iconst (-1), 1) := by decide +kernel
theorem dX5_disk_24 : decode cX5_disk 24 = .ok (.ireturn, 1) := by decide +kernel
theorem dX5_poke_0 : decode cX5_poke 0 = .ok (.aload_n 0, 1) := by decide +kernel
theorem dX5_poke_1 : decode cX5_poke 1 = .ok (.getfield 58, 3) := by decide +kernel
theorem dX5_poke_4 : decode cX5_poke 4 = .ok (.ifCond .ne 23, 3) := by decide +kernel
theorem dX5_poke_7 : decode cX5_poke 7 = .ok (.iload_n 1, 1) := by decide +kernel
theorem dX5_poke_8 : decode cX5_poke 8 = .ok (.iload_n 2, 1) := by decide +kernel
theorem dX5_poke_9 : decode cX5_poke 9 = .ok (.invokestatic 167, 3) := by decide +kernel
theorem dX5_poke_12 : decode cX5_poke 12 = .ok (.ifCond .eq 15, 3) := by decide +kernel
theorem dX5_poke_15 : decode cX5_poke 15 = .ok (.iload_n 3, 1) := by decide +kernel
theorem dX5_poke_16 : decode cX5_poke 16 = .ok (.iconst 1, 1) := by decide +kernel
theorem dX5_poke_17 : decode cX5_poke 17 = .ok (.if_icmp .lt 10, 3) := by decide +kernel
theorem dX5_poke_20 : decode cX5_poke 20 = .ok (.iload_n 3, 1) := by decide +kernel
theorem dX5_poke_21 : decode cX5_poke 21 = .ok (.sipush 255, 3) := by decide +kernel
theorem dX5_poke_24 : decode cX5_poke 24 = .ok (.if_icmp .le 5, 3) := by decide +kernel
theorem dX5_poke_27 : decode cX5_poke 27 = .ok (.iconst 0, 1) := by decide +kernel
theorem dX5_poke_28 : decode cX5_poke 28 = .ok (.ireturn, 1) := by decide +kernel
theorem dX5_poke_29 : decode cX5_poke 29 = .ok (.aload_n 0, 1) := by decide +kernel
theorem dX5_poke_30 : decode cX5_poke 30 = .ok (.getfield 12, 3) := by decide +kernel
theorem dX5_poke_33 : decode cX5_poke 33 = .ok (.iload_n 1, 1) := by decide +kernel
theorem dX5_poke_34 : decode cX5_poke 34 = .ok (.invokevirtual 62, 3) := by decide +kernel
theorem dX5_poke_37 : decode cX5_poke 37 = .ok (.astore 4, 2) := by decide +kernel
theorem dX5_poke_39 : decode cX5_poke 39 = .ok (.aload 4, 2) := by decide +kernel
theorem dX5_poke_41 : decode cX5_poke 41 = .ok (.iload_n 2, 1) := by decide +kernel
theorem dX5_poke_42 : decode cX5_poke 42 = .ok (.aload 4, 2) := by decide +kernel
theorem dX5_poke_44 : decode cX5_poke 44 = .ok (.iload_n 2, 1) := by decide +kernel
theorem dX5_poke_45 : decode cX5_poke 45 = .ok (.invokevirtual 171, 3) := by decide +kernel
theorem dX5_poke_48 : decode cX5_poke 48 = .ok (.iload_n 3, 1) := by decide +kernel
theorem dX5_poke_49 : decode cX5_poke 49 = .ok (.ixor, 1) := by decide +kernel
theorem dX5_poke_50 : decode cX5_poke 50 = .ok (.invokevirtual 174, 3) := by decide +kernel
theorem dX5_poke_53 : decode cX5_poke 53 = .ok (.iconst 1, 1) := by decide +kernel
theorem dX5_poke_54 : decode cX5_poke 54 = .ok (.ireturn, 1) := by decide +kernel
theorem dX5_torn_0 : decode cX5_torn 0 = .ok (.iload_n 1, 1) := by decide +kernel
theorem dX5_torn_1 : decode cX5_torn 1 = .ok (.iconst 0, 1) := by decide +kernel
theorem dX5_torn_2 : decode cX5_torn 2 = .ok (.invokestatic 167, 3) := by decide +kernel
theorem dX5_torn_5 : decode cX5_torn 5 = .ok (.ifCond .eq 21, 3) := by decide +kernel
theorem dX5_torn_8 : decode cX5_torn 8 = .ok (.aload_n 0, 1) := by decide +kernel
theorem dX5_torn_9 : decode cX5_torn 9 = .ok (.getfield 12, 3) := by decide +kernel
theorem dX5_torn_12 : decode cX5_torn 12 = .ok (.iload_n 1, 1) := by decide +kernel
theorem dX5_torn_13 : decode cX5_torn 13 = .ok (.invokevirtual 62, 3) := by decide +kernel
theorem dX5_torn_16 : decode cX5_torn 16 = .ok (.getfield 178, 3) := by decide +kernel
theorem dX5_torn_19 : decode cX5_torn 19 = .ok (.ifCond .eq 7, 3) := by decide +kernel
theorem dX5_torn_22 : decode cX5_torn 22 = .ok (.iconst 1, 1) := by decide +kernel
theorem dX5_torn_23 : decode cX5_torn 23 = .ok (.goto 4, 3) := by decide +kernel
theorem dX5_torn_26 : decode cX5_torn 26 = .ok (.iconst 0, 1) := by decide +kernel
theorem dX5_torn_27 : decode cX5_torn 27 = .ok (.ireturn, 1) := by decide +kernel
theorem dX5_count_0 : decode cX5_count 0 = .ok (.iload_n 1, 1) := by decide +kernel
theorem dX5_count_1 : decode cX5_count 1 = .ok (.lookupswitch 61 #[(0, 35), (6, 48), (7, 56)], 35) := by decide +kernel
theorem dX5_count_36 : decode cX5_count 36 = .ok (.aload_n 0, 1) := by decide +kernel
theorem dX5_count_37 : decode cX5_count 37 = .ok (.getfield 58, 3) := by decide +kernel
theorem dX5_count_40 : decode cX5_count 40 = .ok (.ifCond .eq 7, 3) := by decide +kernel
theorem dX5_count_43 : decode cX5_count 43 = .ok (.iconst 1, 1) := by decide +kernel
theorem dX5_count_44 : decode cX5_count 44 = .ok (.goto 4, 3) := by decide +kernel
theorem dX5_count_47 : decode cX5_count 47 = .ok (.iconst 0, 1) := by decide +kernel
theorem dX5_count_48 : decode cX5_count 48 = .ok (.ireturn, 1) := by decide +kernel
theorem dX5_count_49 : decode cX5_count 49 = .ok (.aload_n 0, 1) := by decide +kernel
theorem dX5_count_50 : decode cX5_count 50 = .ok (.getfield 12, 3) := by decide +kernel
theorem dX5_count_53 : decode cX5_count 53 = .ok (.getfield 181, 3) := by decide +kernel
theorem dX5_count_56 : decode cX5_count 56 = .ok (.ireturn, 1) := by decide +kernel
theorem dX5_count_57 : decode cX5_count 57 = .ok (.aload_n 0, 1) := by decide +kernel
theorem dX5_count_58 : decode cX5_count 58 = .ok (.getfield 55, 3) := by decide +kernel
theorem dX5_count_61 : decode cX5_count 61 = .ok (.ireturn, 1) := by decide +kernel
theorem dX5_count_62 : decode cX5_count 62 = .ok (.iload_n 1, 1) := by decide +kernel
theorem dX5_count_63 : decode cX5_count 63 = .ok (.ifCond .lt 9, 3) := by decide +kernel
theorem dX5_count_66 : decode cX5_count 66 = .ok (.iload_n 1, 1) := by decide +kernel
theorem dX5_count_67 : decode cX5_count 67 = .ok (.bipush 9, 2) := by decide +kernel
theorem dX5_count_69 : decode cX5_count 69 = .ok (.if_icmp .le 5, 3) := by decide +kernel
theorem dX5_count_72 : decode cX5_count 72 = .ok (.iconst (-1), 1) := by decide +kernel
theorem dX5_count_73 : decode cX5_count 73 = .ok (.ireturn, 1) := by decide +kernel
theorem dX5_count_74 : decode cX5_count 74 = .ok (.aload_n 0, 1) := by decide +kernel
theorem dX5_count_75 : decode cX5_count 75 = .ok (.getfield 58, 3) := by decide +kernel
theorem dX5_count_78 : decode cX5_count 78 = .ok (.ifCond .eq 11, 3) := by decide +kernel
theorem dX5_count_81 : decode cX5_count 81 = .ok (.aload_n 0, 1) := by decide +kernel
theorem dX5_count_82 : decode cX5_count 82 = .ok (.iload_n 1, 1) := by decide +kernel
theorem dX5_count_83 : decode cX5_count 83 = .ok (.invokevirtual 184, 3) := by decide +kernel
theorem dX5_count_86 : decode cX5_count 86 = .ok (.goto 5, 3) := by decide +kernel
theorem dX5_count_89 : decode cX5_count 89 = .ok (.bipush (-2), 2) := by decide +kernel
theorem dX5_count_91 : decode cX5_count 91 = .ok (.ireturn, 1) := by decide +kernel
theorem dX5_countWhileOn_0 : decode cX5_countWhileOn 0 = .ok (.iload_n 1, 1) := by decide +kernel
theorem dX5_countWhileOn_1 : decode cX5_countWhileOn 1 = .ok (.tableswitch 109 1 8 #[47, 55, 63, 71, 79, 109, 109, 87], 47) := by decide +kernel
theorem dX5_countWhileOn_48 : decode cX5_countWhileOn 48 = .ok (.aload_n 0, 1) := by decide +kernel
theorem dX5_countWhileOn_49 : decode cX5_countWhileOn 49 = .ok (.getfield 19, 3) := by decide +kernel
theorem dX5_countWhileOn_52 : decode cX5_countWhileOn 52 = .ok (.getfield 88, 3) := by decide +kernel
theorem dX5_countWhileOn_55 : decode cX5_countWhileOn 55 = .ok (.ireturn, 1) := by decide +kernel
theorem dX5_countWhileOn_56 : decode cX5_countWhileOn 56 = .ok (.aload_n 0, 1) := by decide +kernel
theorem dX5_countWhileOn_57 : decode cX5_countWhileOn 57 = .ok (.getfield 19, 3) := by decide +kernel
theorem dX5_countWhileOn_60 : decode cX5_countWhileOn 60 = .ok (.getfield 95, 3) := by decide +kernel
theorem dX5_countWhileOn_63 : decode cX5_countWhileOn 63 = .ok (.ireturn, 1) := by decide +kernel
theorem dX5_countWhileOn_64 : decode cX5_countWhileOn 64 = .ok (.aload_n 0, 1) := by decide +kernel
theorem dX5_countWhileOn_65 : decode cX5_countWhileOn 65 = .ok (.getfield 26, 3) := by decide +kernel
theorem dX5_countWhileOn_68 : decode cX5_countWhileOn 68 = .ok (.getfield 82, 3) := by decide +kernel
theorem dX5_countWhileOn_71 : decode cX5_countWhileOn 71 = .ok (.ireturn, 1) := by decide +kernel
theorem dX5_countWhileOn_72 : decode cX5_countWhileOn 72 = .ok (.aload_n 0, 1) := by decide +kernel
theorem dX5_countWhileOn_73 : decode cX5_countWhileOn 73 = .ok (.getfield 26, 3) := by decide +kernel
theorem dX5_countWhileOn_76 : decode cX5_countWhileOn 76 = .ok (.getfield 187, 3) := by decide +kernel
theorem dX5_countWhileOn_79 : decode cX5_countWhileOn 79 = .ok (.ireturn, 1) := by decide +kernel
theorem dX5_countWhileOn_80 : decode cX5_countWhileOn 80 = .ok (.aload_n 0, 1) := by decide +kernel
theorem dX5_countWhileOn_81 : decode cX5_countWhileOn 81 = .ok (.getfield 26, 3) := by decide +kernel
theorem dX5_countWhileOn_84 : decode cX5_countWhileOn 84 = .ok (.getfield 114, 3) := by decide +kernel
theorem dX5_countWhileOn_87 : decode cX5_countWhileOn 87 = .ok (.ireturn, 1) := by decide +kernel
theorem dX5_countWhileOn_88 : decode cX5_countWhileOn 88 = .ok (.aload_n 0, 1) := by decide +kernel
theorem dX5_countWhileOn_89 : decode cX5_countWhileOn 89 = .ok (.getfield 19, 3) := by decide +kernel
theorem dX5_countWhileOn_92 : decode cX5_countWhileOn 92 = .ok (.getfield 88, 3) := by decide +kernel
theorem dX5_countWhileOn_95 : decode cX5_countWhileOn 95 = .ok (.ifCond .ne 7, 3) := by decide +kernel
theorem dX5_countWhileOn_98 : decode cX5_countWhileOn 98 = .ok (.iconst (-1), 1) := by decide +kernel
theorem dX5_countWhileOn_99 : decode cX5_countWhileOn 99 = .ok (.goto 10, 3) := by decide +kernel
theorem dX5_countWhileOn_102 : decode cX5_countWhileOn 102 = .ok (.aload_n 0, 1) := by decide +kernel
theorem dX5_countWhileOn_103 : decode cX5_countWhileOn 103 = .ok (.getfield 19, 3) := by decide +kernel
theorem dX5_countWhileOn_106 : decode cX5_countWhileOn 106 = .ok (.getfield 102, 3) := by decide +kernel
theorem dX5_countWhileOn_109 : decode cX5_countWhileOn 109 = .ok (.ireturn, 1) := by decide +kernel
theorem dX5_countWhileOn_110 : decode cX5_countWhileOn 110 = .ok (.aload_n 0, 1) := by decide +kernel
theorem dX5_countWhileOn_111 : decode cX5_countWhileOn 111 = .ok (.getfield 12, 3) := by decide +kernel
theorem dX5_countWhileOn_114 : decode cX5_countWhileOn 114 = .ok (.invokevirtual 190, 3) := by decide +kernel
theorem dX5_countWhileOn_117 : decode cX5_countWhileOn 117 = .ok (.ireturn, 1) := by decide +kernel
theorem dX5_isTicks_0 : decode cX5_isTicks 0 = .ok (.iload_n 0, 1) := by decide +kernel
theorem dX5_isTicks_1 : decode cX5_isTicks 1 = .ok (.iconst 1, 1) := by decide +kernel
theorem dX5_isTicks_2 : decode cX5_isTicks 2 = .ok (.if_icmp .lt 14, 3) := by decide +kernel
theorem dX5_isTicks_5 : decode cX5_isTicks 5 = .ok (.iload_n 0, 1) := by decide +kernel
theorem dX5_isTicks_6 : decode cX5_isTicks 6 = .ok (.sipush 1000, 3) := by decide +kernel
theorem dX5_isTicks_9 : decode cX5_isTicks 9 = .ok (.if_icmp .gt 7, 3) := by decide +kernel
theorem dX5_isTicks_12 : decode cX5_isTicks 12 = .ok (.iconst 1, 1) := by decide +kernel
theorem dX5_isTicks_13 : decode cX5_isTicks 13 = .ok (.goto 4, 3) := by decide +kernel
theorem dX5_isTicks_16 : decode cX5_isTicks 16 = .ok (.iconst 0, 1) := by decide +kernel
theorem dX5_isTicks_17 : decode cX5_isTicks 17 = .ok (.ireturn, 1) := by decide +kernel
theorem dX5_isByte_0 : decode cX5_isByte 0 = .ok (.iload_n 0, 1) := by decide +kernel
theorem dX5_isByte_1 : decode cX5_isByte 1 = .ok (.ifCond .lt 23, 3) := by decide +kernel
theorem dX5_isByte_4 : decode cX5_isByte 4 = .ok (.iload_n 0, 1) := by decide +kernel
theorem dX5_isByte_5 : decode cX5_isByte 5 = .ok (.bipush 64, 2) := by decide +kernel
theorem dX5_isByte_7 : decode cX5_isByte 7 = .ok (.if_icmp .ge 17, 3) := by decide +kernel
theorem dX5_isByte_10 : decode cX5_isByte 10 = .ok (.iload_n 1, 1) := by decide +kernel
theorem dX5_isByte_11 : decode cX5_isByte 11 = .ok (.ifCond .lt 13, 3) := by decide +kernel
theorem dX5_isByte_14 : decode cX5_isByte 14 = .ok (.iload_n 1, 1) := by decide +kernel
theorem dX5_isByte_15 : decode cX5_isByte 15 = .ok (.bipush 64, 2) := by decide +kernel
theorem dX5_isByte_17 : decode cX5_isByte 17 = .ok (.if_icmp .ge 7, 3) := by decide +kernel
theorem dX5_isByte_20 : decode cX5_isByte 20 = .ok (.iconst 1, 1) := by decide +kernel
theorem dX5_isByte_21 : decode cX5_isByte 21 = .ok (.goto 4, 3) := by decide +kernel
theorem dX5_isByte_24 : decode cX5_isByte 24 = .ok (.iconst 0, 1) := by decide +kernel
theorem dX5_isByte_25 : decode cX5_isByte 25 = .ok (.ireturn, 1) := by decide +kernel
theorem dX5_powerGoes_0 : decode cX5_powerGoes 0 = .ok (.aload_n 0, 1) := by decide +kernel
theorem dX5_powerGoes_1 : decode cX5_powerGoes 1 = .ok (.iconst 0, 1) := by decide +kernel
theorem dX5_powerGoes_2 : decode cX5_powerGoes 2 = .ok (.putfield 58, 3) := by decide +kernel
theorem dX5_powerGoes_5 : decode cX5_powerGoes 5 = .ok (.aload_n 0, 1) := by decide +kernel
theorem dX5_powerGoes_6 : decode cX5_powerGoes 6 = .ok (.getfield 19, 3) := by decide +kernel
theorem dX5_powerGoes_9 : decode cX5_powerGoes 9 = .ok (.invokevirtual 201, 3) := by decide +kernel
theorem dX5_powerGoes_12 : decode cX5_powerGoes 12 = .ok (.aload_n 0, 1) := by decide +kernel
theorem dX5_powerGoes_13 : decode cX5_powerGoes 13 = .ok (.getfield 12, 3) := by decide +kernel
theorem dX5_powerGoes_16 : decode cX5_powerGoes 16 = .ok (.iconst (-1), 1) := by decide +kernel
theorem dX5_powerGoes_17 : decode cX5_powerGoes 17 = .ok (.putfield 131, 3) := by decide +kernel
theorem dX5_powerGoes_20 : decode cX5_powerGoes 20 = .ok (.return_, 1) := by decide +kernel
theorem dX5_writeDraft_0 : decode cX5_writeDraft 0 = .ok (.aload_n 0, 1) := by decide +kernel
theorem dX5_writeDraft_1 : decode cX5_writeDraft 1 = .ok (.getfield 12, 3) := by decide +kernel
theorem dX5_writeDraft_4 : decode cX5_writeDraft 4 = .ok (.iload_n 1, 1) := by decide +kernel
theorem dX5_writeDraft_5 : decode cX5_writeDraft 5 = .ok (.aload_n 0, 1) := by decide +kernel
theorem dX5_writeDraft_6 : decode cX5_writeDraft 6 = .ok (.getfield 40, 3) := by decide +kernel
theorem dX5_writeDraft_9 : decode cX5_writeDraft 9 = .ok (.invokevirtual 204, 3) := by decide +kernel
theorem dX5_writeDraft_12 : decode cX5_writeDraft 12 = .ok (.istore_n 2, 1) := by decide +kernel
theorem dX5_writeDraft_13 : decode cX5_writeDraft 13 = .ok (.iload_n 2, 1) := by decide +kernel
theorem dX5_writeDraft_14 : decode cX5_writeDraft 14 = .ok (.ifCond .ne 7, 3) := by decide +kernel
theorem dX5_writeDraft_17 : decode cX5_writeDraft 17 = .ok (.aload_n 0, 1) := by decide +kernel
theorem dX5_writeDraft_18 : decode cX5_writeDraft 18 = .ok (.invokevirtual 128, 3) := by decide +kernel
theorem dX5_writeDraft_21 : decode cX5_writeDraft 21 = .ok (.iload_n 2, 1) := by decide +kernel
theorem dX5_writeDraft_22 : decode cX5_writeDraft 22 = .ok (.ireturn, 1) := by decide +kernel
theorem dX5_writeHead_0 : decode cX5_writeHead 0 = .ok (.aload_n 0, 1) := by decide +kernel
theorem dX5_writeHead_1 : decode cX5_writeHead 1 = .ok (.getfield 12, 3) := by decide +kernel
theorem dX5_writeHead_4 : decode cX5_writeHead 4 = .ok (.invokevirtual 190, 3) := by decide +kernel
theorem dX5_writeHead_7 : decode cX5_writeHead 7 = .ok (.iconst 1, 1) := by decide +kernel
theorem dX5_writeHead_8 : decode cX5_writeHead 8 = .ok (.iadd, 1) := by decide +kernel
theorem dX5_writeHead_9 : decode cX5_writeHead 9 = .ok (.istore 4, 2) := by decide +kernel
theorem dX5_writeHead_11 : decode cX5_writeHead 11 = .ok (.aload_n 0, 1) := by decide +kernel
theorem dX5_writeHead_12 : decode cX5_writeHead 12 = .ok (.getfield 12, 3) := by decide +kernel
theorem dX5_writeHead_15 : decode cX5_writeHead 15 = .ok (.invokevirtual 137, 3) := by decide +kernel
theorem dX5_writeHead_18 : decode cX5_writeHead 18 = .ok (.ifCond .ne 7, 3) := by decide +kernel
theorem dX5_writeHead_21 : decode cX5_writeHead 21 = .ok (.iconst 1, 1) := by decide +kernel
theorem dX5_writeHead_22 : decode cX5_writeHead 22 = .ok (.goto 4, 3) := by decide +kernel
theorem dX5_writeHead_25 : decode cX5_writeHead 25 = .ok (.iconst 0, 1) := by decide +kernel
theorem dX5_writeHead_26 : decode cX5_writeHead 26 = .ok (.istore 5, 2) := by decide +kernel
theorem dX5_writeHead_28 : decode cX5_writeHead 28 = .ok (.aload_n 0, 1) := by decide +kernel
theorem dX5_writeHead_29 : decode cX5_writeHead 29 = .ok (.getfield 40, 3) := by decide +kernel
theorem dX5_writeHead_32 : decode cX5_writeHead 32 = .ok (.iload 4, 2) := by decide +kernel
theorem dX5_writeHead_34 : decode cX5_writeHead 34 = .ok (.iload_n 1, 1) := by decide +kernel
theorem dX5_writeHead_35 : decode cX5_writeHead 35 = .ok (.iload_n 2, 1) := by decide +kernel
theorem dX5_writeHead_36 : decode cX5_writeHead 36 = .ok (.iload_n 3, 1) := by decide +kernel
theorem dX5_writeHead_37 : decode cX5_writeHead 37 = .ok (.invokevirtual 66, 3) := by decide +kernel
theorem dX5_writeHead_40 : decode cX5_writeHead 40 = .ok (.aload_n 0, 1) := by decide +kernel
theorem dX5_writeHead_41 : decode cX5_writeHead 41 = .ok (.iload 5, 2) := by decide +kernel
theorem dX5_writeHead_43 : decode cX5_writeHead 43 = .ok (.invokevirtual 208, 3) := by decide +kernel
theorem dX5_writeHead_46 : decode cX5_writeHead 46 = .ok (.ireturn, 1) := by decide +kernel
theorem dX5_writeQueue_0 : decode cX5_writeQueue 0 = .ok (.aload_n 0, 1) := by decide +kernel
theorem dX5_writeQueue_1 : decode cX5_writeQueue 1 = .ok (.getfield 26, 3) := by decide +kernel
theorem dX5_writeQueue_4 : decode cX5_writeQueue 4 = .ok (.getfield 187, 3) := by decide +kernel
theorem dX5_writeQueue_7 : decode cX5_writeQueue 7 = .ok (.istore_n 1, 1) := by decide +kernel
theorem dX5_writeQueue_8 : decode cX5_writeQueue 8 = .ok (.aload_n 0, 1) := by decide +kernel
theorem dX5_writeQueue_9 : decode cX5_writeQueue 9 = .ok (.getfield 19, 3) := by decide +kernel
theorem dX5_writeQueue_12 : decode cX5_writeQueue 12 = .ok (.iconst 0, 1) := by decide +kernel
theorem dX5_writeQueue_13 : decode cX5_writeQueue 13 = .ok (.invokevirtual 78, 3) := by decide +kernel
theorem dX5_writeQueue_16 : decode cX5_writeQueue 16 = .ok (.istore_n 2, 1) := by decide +kernel
theorem dX5_writeQueue_17 : decode cX5_writeQueue 17 = .ok (.aload_n 0, 1) := by decide +kernel
theorem dX5_writeQueue_18 : decode cX5_writeQueue 18 = .ok (.getfield 12, 3) := by decide +kernel
theorem dX5_writeQueue_21 : decode cX5_writeQueue 21 = .ok (.invokevirtual 190, 3) := by decide +kernel
theorem dX5_writeQueue_24 : decode cX5_writeQueue 24 = .ok (.istore_n 3, 1) := by decide +kernel
theorem dX5_writeQueue_25 : decode cX5_writeQueue 25 = .ok (.iconst 0, 1) := by decide +kernel
theorem dX5_writeQueue_26 : decode cX5_writeQueue 26 = .ok (.istore 4, 2) := by decide +kernel
theorem dX5_writeQueue_28 : decode cX5_writeQueue 28 = .ok (.iconst 0, 1) := by decide +kernel
theorem dX5_writeQueue_29 : decode cX5_writeQueue 29 = .ok (.istore 5, 2) := by decide +kernel
theorem dX5_writeQueue_31 : decode cX5_writeQueue 31 = .ok (.iload 5, 2) := by decide +kernel
theorem dX5_writeQueue_33 : decode cX5_writeQueue 33 = .ok (.iload_n 2, 1) := by decide +kernel
theorem dX5_writeQueue_34 : decode cX5_writeQueue 34 = .ok (.if_icmp .ge 69, 3) := by decide +kernel
theorem dX5_writeQueue_37 : decode cX5_writeQueue 37 = .ok (.aload_n 0, 1) := by decide +kernel
theorem dX5_writeQueue_38 : decode cX5_writeQueue 38 = .ok (.getfield 58, 3) := by decide +kernel
theorem dX5_writeQueue_41 : decode cX5_writeQueue 41 = .ok (.ifCond .eq 62, 3) := by decide +kernel
theorem dX5_writeQueue_44 : decode cX5_writeQueue 44 = .ok (.aload_n 0, 1) := by decide +kernel
theorem dX5_writeQueue_45 : decode cX5_writeQueue 45 = .ok (.getfield 19, 3) := by decide +kernel
theorem dX5_writeQueue_48 : decode cX5_writeQueue 48 = .ok (.aload_n 0, 1) := by decide +kernel
theorem dX5_writeQueue_49 : decode cX5_writeQueue 49 = .ok (.getfield 40, 3) := by decide +kernel
theorem dX5_writeQueue_52 : decode cX5_writeQueue 52 = .ok (.iload 5, 2) := by decide +kernel
theorem dX5_writeQueue_54 : decode cX5_writeQueue 54 = .ok (.invokevirtual 211, 3) := by decide +kernel
theorem dX5_writeQueue_57 : decode cX5_writeQueue 57 = .ok (.aload_n 0, 1) := by decide +kernel
theorem dX5_writeQueue_58 : decode cX5_writeQueue 58 = .ok (.getfield 40, 3) := by decide +kernel
theorem dX5_writeQueue_61 : decode cX5_writeQueue 61 = .ok (.aload_n 0, 1) := by decide +kernel
theorem dX5_writeQueue_62 : decode cX5_writeQueue 62 = .ok (.getfield 26, 3) := by decide +kernel
theorem dX5_writeQueue_65 : decode cX5_writeQueue 65 = .ok (.getfield 114, 3) := by decide +kernel
theorem dX5_writeQueue_68 : decode cX5_writeQueue 68 = .ok (.iload_n 3, 1) := by decide +kernel
theorem dX5_writeQueue_69 : decode cX5_writeQueue 69 = .ok (.invokevirtual 215, 3) := by decide +kernel
theorem dX5_writeQueue_72 : decode cX5_writeQueue 72 = .ok (.aload_n 0, 1) := by decide +kernel
theorem dX5_writeQueue_73 : decode cX5_writeQueue 73 = .ok (.aload_n 0, 1) := by decide +kernel
theorem dX5_writeQueue_74 : decode cX5_writeQueue 74 = .ok (.getfield 26, 3) := by decide +kernel
theorem dX5_writeQueue_77 : decode cX5_writeQueue 77 = .ok (.getfield 187, 3) := by decide +kernel
theorem dX5_writeQueue_80 : decode cX5_writeQueue 80 = .ok (.invokevirtual 208, 3) := by decide +kernel
theorem dX5_writeQueue_83 : decode cX5_writeQueue 83 = .ok (.ifCond .eq 14, 3) := by decide +kernel
theorem dX5_writeQueue_86 : decode cX5_writeQueue 86 = .ok (.aload_n 0, 1) := by decide +kernel
theorem dX5_writeQueue_87 : decode cX5_writeQueue 87 = .ok (.getfield 26, 3) := by decide +kernel
theorem dX5_writeQueue_90 : decode cX5_writeQueue 90 = .ok (.iconst 1, 1) := by decide +kernel
theorem dX5_writeQueue_91 : decode cX5_writeQueue 91 = .ok (.invokevirtual 218, 3) := by decide +kernel
theorem dX5_writeQueue_94 : decode cX5_writeQueue 94 = .ok (.iinc 4 1, 3) := by decide +kernel
theorem dX5_writeQueue_97 : decode cX5_writeQueue 97 = .ok (.iinc 5 1, 3) := by decide +kernel
theorem dX5_writeQueue_100 : decode cX5_writeQueue 100 = .ok (.goto (-69), 3) := by decide +kernel
theorem dX5_writeQueue_103 : decode cX5_writeQueue 103 = .ok (.iload 4, 2) := by decide +kernel
theorem dX5_writeQueue_105 : decode cX5_writeQueue 105 = .ok (.ifCond .le 13, 3) := by decide +kernel
theorem dX5_writeQueue_108 : decode cX5_writeQueue 108 = .ok (.aload_n 0, 1) := by decide +kernel
theorem dX5_writeQueue_109 : decode cX5_writeQueue 109 = .ok (.dup, 1) := by decide +kernel
theorem dX5_writeQueue_110 : decode cX5_writeQueue 110 = .ok (.getfield 55, 3) := by decide +kernel
theorem dX5_writeQueue_113 : decode cX5_writeQueue 113 = .ok (.iconst 1, 1) := by decide +kernel
theorem dX5_writeQueue_114 : decode cX5_writeQueue 114 = .ok (.iadd, 1) := by decide +kernel
theorem dX5_writeQueue_115 : decode cX5_writeQueue 115 = .ok (.putfield 55, 3) := by decide +kernel
theorem dX5_writeQueue_118 : decode cX5_writeQueue 118 = .ok (.aload_n 0, 1) := by decide +kernel
theorem dX5_writeQueue_119 : decode cX5_writeQueue 119 = .ok (.getfield 58, 3) := by decide +kernel
theorem dX5_writeQueue_122 : decode cX5_writeQueue 122 = .ok (.ifCond .eq 22, 3) := by decide +kernel
theorem dX5_writeQueue_125 : decode cX5_writeQueue 125 = .ok (.aload_n 0, 1) := by decide +kernel
theorem dX5_writeQueue_126 : decode cX5_writeQueue 126 = .ok (.getfield 19, 3) := by decide +kernel
theorem dX5_writeQueue_129 : decode cX5_writeQueue 129 = .ok (.aload_n 0, 1) := by decide +kernel
theorem dX5_writeQueue_130 : decode cX5_writeQueue 130 = .ok (.getfield 26, 3) := by decide +kernel
theorem dX5_writeQueue_133 : decode cX5_writeQueue 133 = .ok (.iload_n 1, 1) := by decide +kernel
theorem dX5_writeQueue_134 : decode cX5_writeQueue 134 = .ok (.invokevirtual 222, 3) := by decide +kernel
theorem dX5_writeQueue_137 : decode cX5_writeQueue 137 = .ok (.aload_n 0, 1) := by decide +kernel
theorem dX5_writeQueue_138 : decode cX5_writeQueue 138 = .ok (.getfield 19, 3) := by decide +kernel
theorem dX5_writeQueue_141 : decode cX5_writeQueue 141 = .ok (.invokevirtual 201, 3) := by decide +kernel
theorem dX5_writeQueue_144 : decode cX5_writeQueue 144 = .ok (.iload 4, 2) := by decide +kernel
theorem dX5_writeQueue_146 : decode cX5_writeQueue 146 = .ok (.ireturn, 1) := by decide +kernel
