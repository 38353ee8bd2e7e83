set_option maxRecDepth 20000 in
theorem ggX6_init_X6_makeHead : GoodIn wsX6_init wsX6_makeHead := goodIn_r _ [30, 15, 16, 17, 24, 18, 31, 32, 33, 29, 34, 35, 36, 37, 38, 39, 40, 41, 42, 43, 44, 45, 46, 47, 48, 49, 50, 51, 52, 53, 54, 55, 56, 57, 58, 59, 60, 61, 62, 63, 64, 65, 66, 67, 68, 69, 70, 71, 72, 73, 74, 75, 76, 77, 78, 79] (by decide +kernel) (by decide +kernel)
set_option maxRecDepth 20000 in
theorem gX6_init_X6_makeHead : GoodIn wsX6_init (wsV RX6 71 RX6 yX6_makeHead wsX6_makeHead) := goodIn_app (goodIn_of _ (by decide +kernel)) ggX6_init_X6_makeHead
set_option maxRecDepth 20000 in
theorem ggX6_headSum_X6_add : GoodIn wsX6_headSum wsX6_add := goodIn_r _ [4, 5] (by decide +kernel) (by decide +kernel)
set_option maxRecDepth 20000 in
theorem gX6_headSum_X6_add : GoodIn wsX6_headSum (va_wsS RX6 75 yX6_add wsX6_add) := goodIn_app (goodIn_of _ (by decide +kernel)) ggX6_headSum_X6_add
set_option maxRecDepth 20000 in
theorem ggX6_makeHead_X6_clear : GoodIn wsX6_makeHead wsX6_clear := goodIn_r _ [10, 4, 22, 23, 24, 25, 26, 27, 28, 29, 30, 31, 32, 33, 34, 35, 36, 37, 38, 39, 40, 41, 42, 43, 44, 45, 46, 47, 48, 49, 50, 51, 52, 53, 54, 55] (by decide +kernel) (by decide +kernel)
set_option maxRecDepth 20000 in
theorem gX6_makeHead_X6_clear : GoodIn wsX6_makeHead (wsV RX6 79 RX6 yX6_clear wsX6_clear) := goodIn_app (goodIn_of _ (by decide +kernel)) ggX6_makeHead_X6_clear
set_option maxRecDepth 20000 in
theorem ggX6_makeHead_X6_set : GoodIn wsX6_makeHead wsX6_set := goodIn_r _ [14, 4, 22, 23, 24, 25, 26, 27, 28, 29, 30, 31, 32, 33, 34, 35, 36, 37, 38, 39, 40, 41, 42, 43, 44, 45, 46, 47, 48, 49, 50, 51, 52, 53, 54, 55] (by decide +kernel) (by decide +kernel)
set_option maxRecDepth 20000 in
theorem gX6_makeHead_X6_set : GoodIn wsX6_makeHead (wsV RX6 82 RX6 yX6_set wsX6_set) := goodIn_app (goodIn_of _ (by decide +kernel)) ggX6_makeHead_X6_set
set_option maxRecDepth 20000 in
theorem ggX6_makeHead_X6_headSum : GoodIn wsX6_makeHead wsX6_headSum := goodIn_r _ [17, 18, 19, 9, 20, 21] (by decide +kernel) (by decide +kernel)
set_option maxRecDepth 20000 in
theorem gX6_makeHead_X6_headSum : GoodIn wsX6_makeHead (va_wsS RX6 86 yX6_headSum wsX6_headSum) := goodIn_app (goodIn_of _ (by decide +kernel)) ggX6_makeHead_X6_headSum
set_option maxRecDepth 20000 in
theorem ggX6_write_X6_goOff : GoodIn wsX6_write wsX6_goOff := goodIn_r _ [11, 12, 1, 13, 14, 15, 16, 17, 18, 19, 20, 21, 22, 23, 24, 25, 26, 27, 28, 29, 30, 31, 32, 33, 34, 35, 36, 37, 38, 39, 40, 41, 42, 43, 44, 45, 46, 47, 48, 49] (by decide +kernel) (by decide +kernel)
set_option maxRecDepth 20000 in
theorem gX6_write_X6_goOff : GoodIn wsX6_write (wsV RX6 93 RX6 yX6_goOff wsX6_goOff) := goodIn_app (goodIn_of _ (by decide +kernel)) ggX6_write_X6_goOff
set_option maxRecDepth 20000 in
theorem ggX6_flush_X6_flushAll : GoodIn wsX6_flush wsX6_flushAll := goodIn_r _ [6, 7, 8, 9, 10, 11, 12, 13, 14, 15, 16, 17, 18, 19, 20, 21, 22, 23, 24, 5, 25, 26, 27, 28, 29, 30, 31, 32, 33, 34, 35, 36, 37, 38, 39, 40, 41, 42, 43, 44, 45, 46, 47, 48, 49, 1, 50, 51, 52, 53, 54, 55, 56, 57, 58, 59, 60, 61, 62, 63, 64, 65, 66, 67, 68, 69, 70, 71, 72, 73, 74, 75, 76, 77, 78, 79, 80, 81, 82, 83] (by decide +kernel) (by decide +kernel)
set_option maxRecDepth 20000 in
theorem gX6_flush_X6_flushAll : GoodIn wsX6_flush (wsV RX6 122 RX6 yX6_flushAll wsX6_flushAll) := goodIn_app (goodIn_of _ (by decide +kernel)) ggX6_flush_X6_flushAll
set_option maxRecDepth 20000 in
theorem ggX6_checkpoint_X6_makeHead : GoodIn wsX6_checkpoint wsX6_makeHead := goodIn_r _ [22, 7, 8, 2, 23, 9, 24, 25, 26, 16, 27, 28, 29, 30, 31, 32, 33, 34, 35, 36, 37, 38, 54, 55, 56, 57, 58, 59, 60, 61, 62, 63, 64, 65, 66, 67, 68, 69, 70, 71, 72, 73, 74, 75, 76, 77, 78, 79, 80, 81, 82, 83, 84, 85, 86, 87] (by decide +kernel) (by decide +kernel)
set_option maxRecDepth 20000 in
theorem gX6_checkpoint_X6_makeHead : GoodIn wsX6_checkpoint (wsV RX6 71 RX6 yX6_makeHead wsX6_makeHead) := goodIn_app (goodIn_of _ (by decide +kernel)) ggX6_checkpoint_X6_makeHead
set_option maxRecDepth 20000 in
theorem ggX6_checkpoint_X6_write : GoodIn wsX6_checkpoint wsX6_write := goodIn_r _ [42, 43, 44, 18, 23, 45, 46, 47, 48, 49, 16, 50, 1, 51, 52, 53, 54, 55, 56, 57, 58, 59, 60, 61, 62, 63, 64, 65, 66, 67, 68, 69, 70, 71, 72, 73, 74, 75, 76, 77, 78, 79, 80, 81, 82, 83, 84, 85, 86, 87] (by decide +kernel) (by decide +kernel)
set_option maxRecDepth 20000 in
theorem gX6_checkpoint_X6_write : GoodIn wsX6_checkpoint (wsV RX6 128 RX6 yX6_write wsX6_write) := goodIn_app (goodIn_of _ (by decide +kernel)) ggX6_checkpoint_X6_write
set_option maxRecDepth 20000 in
theorem ggX6_cut_X6_goOff : GoodIn wsX6_cut wsX6_goOff := goodIn_r _ [6, 1, 7, 8, 9, 10, 11, 12, 13, 14, 15, 16, 17, 18, 19, 20, 21, 22, 23, 24, 25, 26, 27, 28, 29, 30, 31, 32, 33, 34, 35, 36, 37, 38, 39, 40, 41, 42, 43, 44] (by decide +kernel) (by decide +kernel)
set_option maxRecDepth 20000 in
theorem gX6_cut_X6_goOff : GoodIn wsX6_cut (wsV RX6 93 RX6 yX6_goOff wsX6_goOff) := goodIn_app (goodIn_of _ (by decide +kernel)) ggX6_cut_X6_goOff
set_option maxRecDepth 20000 in
theorem ggX6_at_X6_size : GoodIn wsX6_at wsX6_size := goodIn_r _ [10, 1, 2, 11, 12, 16, 17, 18, 19, 20, 21, 22, 23, 24, 25, 26, 27, 28, 29, 30, 31, 32, 33, 34, 35, 36, 37, 38, 39, 40, 41, 42, 43, 44, 45, 46, 47, 48, 49] (by decide +kernel) (by decide +kernel)
set_option maxRecDepth 20000 in
theorem gX6_at_X6_size : GoodIn wsX6_at (wsV RX6 183 RX6 yX6_size wsX6_size) := goodIn_app (goodIn_of _ (by decide +kernel)) ggX6_at_X6_size
set_option maxRecDepth 20000 in
theorem ggX6_disk_X6_isByte : GoodIn wsX6_disk wsX6_isByte := goodIn_r _ [5] (by decide +kernel) (by decide +kernel)
set_option maxRecDepth 20000 in
theorem gX6_disk_X6_isByte : GoodIn wsX6_disk (va_wsS RX6 186 yX6_isByte wsX6_isByte) := goodIn_app (goodIn_of _ (by decide +kernel)) ggX6_disk_X6_isByte
set_option maxRecDepth 20000 in
theorem ggX6_count_X6_used : GoodIn wsX6_count wsX6_used := goodIn_r _ [14, 5, 15, 16, 17, 18, 19, 20, 21, 22, 23, 24, 25, 26, 27, 28, 29, 30, 31, 32, 33, 34, 35, 36, 37, 38, 39, 40, 41, 42, 43, 44, 45, 46, 47, 48, 49] (by decide +kernel) (by decide +kernel)
set_option maxRecDepth 20000 in
theorem gX6_count_X6_used : GoodIn wsX6_count (wsV RX6 111 RX6 yX6_used wsX6_used) := goodIn_app (goodIn_of _ (by decide +kernel)) ggX6_count_X6_used
theorem dX6_init_0 : decode cX6_init 0 = .ok (.aload_n 0, 1) := by decide +kernel
theorem dX6_init_1 : decode cX6_init 1 = .ok (.invokespecial 1, 3) := by decide +kernel
theorem dX6_init_4 : decode cX6_init 4 = .ok (.aload_n 0, 1) := by decide +kernel
theorem dX6_init_5 : decode cX6_init 5 = .ok (.sipush 4096, 3) := by decide +kernel
theorem dX6_init_8 : decode cX6_init 8 = .ok (.newarray .byte, 2) := by decide +kernel
theorem dX6_init_10 : decode cX6_init 10 = .ok (.putfield 7, 3) := by decide +kernel
theorem dX6_init_13 : decode cX6_init 13 = .ok (.aload_n 0, 1) := by decide +kernel
theorem dX6_init_14 : decode cX6_init 14 = .ok (.bipush 64, 2) := by decide +kernel
theorem dX6_init_16 : decode cX6_init 16 = .ok (.newarray .boolean, 2) := by decide +kernel
theorem dX6_init_18 : decode cX6_init 18 = .ok (.putfield 13, 3) := by decide +kernel
theorem dX6_init_21 : decode cX6_init 21 = .ok (.aload_n 0, 1) := by decide +kernel
theorem dX6_init_22 : decode cX6_init 22 = .ok (.iconst 1, 1) := by decide +kernel
theorem dX6_init_23 : decode cX6_init 23 = .ok (.putfield 17, 3) := by decide +kernel
theorem dX6_init_26 : decode cX6_init 26 = .ok (.aload_n 0, 1) := by decide +kernel
theorem dX6_init_27 : decode cX6_init 27 = .ok (.iconst (-1), 1) := by decide +kernel
theorem dX6_init_28 : decode cX6_init 28 = .ok (.putfield 21, 3) := by decide +kernel
theorem dX6_init_31 : decode cX6_init 31 = .ok (.aload_n 0, 1) := by decide +kernel
theorem dX6_init_32 : decode cX6_init 32 = .ok (.bipush 10, 2) := by decide +kernel
theorem dX6_init_34 : decode cX6_init 34 = .ok (.putfield 25, 3) := by decide +kernel
theorem dX6_init_37 : decode cX6_init 37 = .ok (.aload_n 0, 1) := by decide +kernel
theorem dX6_init_38 : decode cX6_init 38 = .ok (.sipush 200, 3) := by decide +kernel
theorem dX6_init_41 : decode cX6_init 41 = .ok (.newarray .byte, 2) := by decide +kernel
theorem dX6_init_43 : decode cX6_init 43 = .ok (.putfield 28, 3) := by decide +kernel
theorem dX6_init_46 : decode cX6_init 46 = .ok (.aload_n 0, 1) := by decide +kernel
theorem dX6_init_47 : decode cX6_init 47 = .ok (.sipush 700, 3) := by decide +kernel
theorem dX6_init_50 : decode cX6_init 50 = .ok (.newarray .byte, 2) := by decide +kernel
theorem dX6_init_52 : decode cX6_init 52 = .ok (.putfield 31, 3) := by decide +kernel
theorem dX6_init_55 : decode cX6_init 55 = .ok (.aload_n 0, 1) := by decide +kernel
theorem dX6_init_56 : decode cX6_init 56 = .ok (.bipush 120, 2) := by decide +kernel
theorem dX6_init_58 : decode cX6_init 58 = .ok (.newarray .int, 2) := by decide +kernel
theorem dX6_init_60 : decode cX6_init 60 = .ok (.putfield 34, 3) := by decide +kernel
theorem dX6_init_63 : decode cX6_init 63 = .ok (.aload_n 0, 1) := by decide +kernel
theorem dX6_init_64 : decode cX6_init 64 = .ok (.iconst 1, 1) := by decide +kernel
theorem dX6_init_65 : decode cX6_init 65 = .ok (.putfield 38, 3) := by decide +kernel
theorem dX6_init_68 : decode cX6_init 68 = .ok (.aload_n 0, 1) := by decide +kernel
theorem dX6_init_69 : decode cX6_init 69 = .ok (.iconst 1, 1) := by decide +kernel
theorem dX6_init_70 : decode cX6_init 70 = .ok (.putfield 41, 3) := by decide +kernel
theorem dX6_init_73 : decode cX6_init 73 = .ok (.aload_n 0, 1) := by decide +kernel
theorem dX6_init_74 : decode cX6_init 74 = .ok (.iconst 1, 1) := by decide +kernel
theorem dX6_init_75 : decode cX6_init 75 = .ok (.putfield 44, 3) := by decide +kernel
theorem dX6_init_78 : decode cX6_init 78 = .ok (.aload_n 0, 1) := by decide +kernel
theorem dX6_init_79 : decode cX6_init 79 = .ok (.iconst 2, 1) := by decide +kernel
theorem dX6_init_80 : decode cX6_init 80 = .ok (.putfield 47, 3) := by decide +kernel
theorem dX6_init_83 : decode cX6_init 83 = .ok (.aload_n 0, 1) := by decide +kernel
theorem dX6_init_84 : decode cX6_init 84 = .ok (.iconst 2, 1) := by decide +kernel
theorem dX6_init_85 : decode cX6_init 85 = .ok (.putfield 50, 3) := by decide +kernel
theorem dX6_init_88 : decode cX6_init 88 = .ok (.aload_n 0, 1) := by decide +kernel
theorem dX6_init_89 : decode cX6_init 89 = .ok (.iconst 1, 1) := by decide +kernel
theorem dX6_init_90 : decode cX6_init 90 = .ok (.putfield 53, 3) := by decide +kernel
theorem dX6_init_93 : decode cX6_init 93 = .ok (.aload_n 0, 1) := by decide +kernel
theorem dX6_init_94 : decode cX6_init 94 = .ok (.sipush 600, 3) := by decide +kernel
theorem dX6_init_97 : decode cX6_init 97 = .ok (.newarray .int, 2) := by decide +kernel
theorem dX6_init_99 : decode cX6_init 99 = .ok (.putfield 56, 3) := by decide +kernel
theorem dX6_init_102 : decode cX6_init 102 = .ok (.aload_n 0, 1) := by decide +kernel
theorem dX6_init_103 : decode cX6_init 103 = .ok (.sipush 600, 3) := by decide +kernel
theorem dX6_init_106 : decode cX6_init 106 = .ok (.newarray .int, 2) := by decide +kernel
theorem dX6_init_108 : decode cX6_init 108 = .ok (.putfield 59, 3) := by decide +kernel
theorem dX6_init_111 : decode cX6_init 111 = .ok (.aload_n 0, 1) := by decide +kernel
theorem dX6_init_112 : decode cX6_init 112 = .ok (.sipush 600, 3) := by decide +kernel
theorem dX6_init_115 : decode cX6_init 115 = .ok (.newarray .int, 2) := by decide +kernel
theorem dX6_init_117 : decode cX6_init 117 = .ok (.putfield 62, 3) := by decide +kernel
theorem dX6_init_120 : decode cX6_init 120 = .ok (.aload_n 0, 1) := by decide +kernel
theorem dX6_init_121 : decode cX6_init 121 = .ok (.bipush 64, 2) := by decide +kernel
theorem dX6_init_123 : decode cX6_init 123 = .ok (.newarray .byte, 2) := by decide +kernel
theorem dX6_init_125 : decode cX6_init 125 = .ok (.putfield 65, 3) := by decide +kernel
theorem dX6_init_128 : decode cX6_init 128 = .ok (.aload_n 0, 1) := by decide +kernel
theorem dX6_init_129 : decode cX6_init 129 = .ok (.bipush 6, 2) := by decide +kernel
theorem dX6_init_131 : decode cX6_init 131 = .ok (.newarray .int, 2) := by decide +kernel
theorem dX6_init_133 : decode cX6_init 133 = .ok (.putfield 68, 3) := by decide +kernel
theorem dX6_init_136 : decode cX6_init 136 = .ok (.aload_n 0, 1) := by decide +kernel
theorem dX6_init_137 : decode cX6_init 137 = .ok (.invokevirtual 71, 3) := by decide +kernel
theorem dX6_init_140 : decode cX6_init 140 = .ok (.iconst 0, 1) := by decide +kernel
theorem dX6_init_141 : decode cX6_init 141 = .ok (.istore_n 1, 1) := by decide +kernel
theorem dX6_init_142 : decode cX6_init 142 = .ok (.iload_n 1, 1) := by decide +kernel
theorem dX6_init_143 : decode cX6_init 143 = .ok (.bipush 64, 2) := by decide +kernel
theorem dX6_init_145 : decode cX6_init 145 = .ok (.if_icmp .ge 21, 3) := by decide +kernel
theorem dX6_init_148 : decode cX6_init 148 = .ok (.aload_n 0, 1) := by decide +kernel
theorem dX6_init_149 : decode cX6_init 149 = .ok (.getfield 7, 3) := by decide +kernel
theorem dX6_init_152 : decode cX6_init 152 = .ok (.iload_n 1, 1) := by decide +kernel
theorem dX6_init_153 : decode cX6_init 153 = .ok (.aload_n 0, 1) := by decide +kernel
theorem dX6_init_154 : decode cX6_init 154 = .ok (.getfield 65, 3) := by decide +kernel
theorem dX6_init_157 : decode cX6_init 157 = .ok (.iload_n 1, 1) := by decide +kernel
theorem dX6_init_158 : decode cX6_init 158 = .ok (.baload, 1) := by decide +kernel
theorem dX6_init_159 : decode cX6_init 159 = .ok (.bastore, 1) := by decide +kernel
theorem dX6_init_160 : decode cX6_init 160 = .ok (.iinc 1 1, 3) := by decide +kernel
theorem dX6_init_163 : decode cX6_init 163 = .ok (.goto (-21), 3) := by decide +kernel
theorem dX6_init_166 : decode cX6_init 166 = .ok (.return_, 1) := by decide +kernel
theorem dX6_add_0 : decode cX6_add 0 = .ok (.iload_n 0, 1) := by decide +kernel
theorem dX6_add_1 : decode cX6_add 1 = .ok (.iload_n 1, 1) := by decide +kernel
theorem dX6_add_2 : decode cX6_add 2 = .ok (.sipush 255, 3) := by decide +kernel
theorem dX6_add_5 : decode cX6_add 5 = .ok (.iand, 1) := by decide +kernel
theorem dX6_add_6 : decode cX6_add 6 = .ok (.ixor, 1) := by decide +kernel
theorem dX6_add_7 : decode cX6_add 7 = .ok (.istore_n 2, 1) := by decide +kernel
theorem dX6_add_8 : decode cX6_add 8 = .ok (.iconst 0, 1) := by decide +kernel
theorem dX6_add_9 : decode cX6_add 9 = .ok (.istore_n 3, 1) := by decide +kernel
theorem dX6_add_10 : decode cX6_add 10 = .ok (.iload_n 3, 1) := by decide +kernel
theorem dX6_add_11 : decode cX6_add 11 = .ok (.bipush 8, 2) := by decide +kernel
theorem dX6_add_13 : decode cX6_add 13 = .ok (.if_icmp .ge 29, 3) := by decide +kernel
theorem dX6_add_16 : decode cX6_add 16 = .ok (.iload_n 2, 1) := by decide +kernel
theorem dX6_add_17 : decode cX6_add 17 = .ok (.iconst 1, 1) := by decide +kernel
theorem dX6_add_18 : decode cX6_add 18 = .ok (.iand, 1) := by decide +kernel
theorem dX6_add_19 : decode cX6_add 19 = .ok (.iconst 1, 1) := by decide +kernel
theorem dX6_add_20 : decode cX6_add 20 = .ok (.if_icmp .ne 12, 3) := by decide +kernel
theorem dX6_add_23 : decode cX6_add 23 = .ok (.iload_n 2, 1) := by decide +kernel
theorem dX6_add_24 : decode cX6_add 24 = .ok (.iconst 1, 1) := by decide +kernel
theorem dX6_add_25 : decode cX6_add 25 = .ok (.iushr, 1) := by decide +kernel
theorem dX6_add_26 : decode cX6_add 26 = .ok (.ldc 74, 2) := by decide +kernel
theorem dX6_add_28 : decode cX6_add 28 = .ok (.ixor, 1) := by decide +kernel
theorem dX6_add_29 : decode cX6_add 29 = .ok (.goto 6, 3) := by decide +kernel
theorem dX6_add_32 : decode cX6_add 32 = .ok (.iload_n 2, 1) := by decide +kernel
theorem dX6_add_33 : decode cX6_add 33 = .ok (.iconst 1, 1) := by decide +kernel
theorem dX6_add_34 : decode cX6_add 34 = .ok (.iushr, 1) := by decide +kernel
theorem dX6_add_35 : decode cX6_add 35 = .ok (.istore_n 2, 1) := by decide +kernel
theorem dX6_add_36 : decode cX6_add 36 = .ok (.iinc 3 1, 3) := by decide +kernel
theorem dX6_add_39 : decode cX6_add 39 = .ok (.goto (-29), 3) := by decide +kernel
theorem dX6_add_42 : decode cX6_add 42 = .ok (.iload_n 2, 1) := by decide +kernel
theorem dX6_add_43 : decode cX6_add 43 = .ok (.ireturn, 1) := by decide +kernel
theorem dX6_headSum_0 : decode cX6_headSum 0 = .ok (.iconst (-1), 1) := by decide +kernel
theorem dX6_headSum_1 : decode cX6_headSum 1 = .ok (.istore_n 2, 1) := by decide +kernel
theorem dX6_headSum_2 : decode cX6_headSum 2 = .ok (.iconst 0, 1) := by decide +kernel
theorem dX6_headSum_3 : decode cX6_headSum 3 = .ok (.istore_n 3, 1) := by decide +kernel
theorem dX6_headSum_4 : decode cX6_headSum 4 = .ok (.iload_n 3, 1) := by decide +kernel
theorem dX6_headSum_5 : decode cX6_headSum 5 = .ok (.bipush 13, 2) := by decide +kernel
theorem dX6_headSum_7 : decode cX6_headSum 7 = .ok (.if_icmp .ge 19, 3) := by decide +kernel
theorem dX6_headSum_10 : decode cX6_headSum 10 = .ok (.iload_n 2, 1) := by decide +kernel
theorem dX6_headSum_11 : decode cX6_headSum 11 = .ok (.aload_n 0, 1) := by decide +kernel
theorem dX6_headSum_12 : decode cX6_headSum 12 = .ok (.iload_n 1, 1) := by decide +kernel
theorem dX6_headSum_13 : decode cX6_headSum 13 = .ok (.iload_n 3, 1) := by decide +kernel
theorem dX6_headSum_14 : decode cX6_headSum 14 = .ok (.iadd, 1) := by decide +kernel
theorem dX6_headSum_15 : decode cX6_headSum 15 = .ok (.baload, 1) := by decide +kernel
theorem dX6_headSum_16 : decode cX6_headSum 16 = .ok (.invokestatic 75, 3) := by decide +kernel
theorem dX6_headSum_19 : decode cX6_headSum 19 = .ok (.istore_n 2, 1) := by decide +kernel
theorem dX6_headSum_20 : decode cX6_headSum 20 = .ok (.iinc 3 1, 3) := by decide +kernel
theorem dX6_headSum_23 : decode cX6_headSum 23 = .ok (.goto (-19), 3) := by decide +kernel
theorem dX6_headSum_26 : decode cX6_headSum 26 = .ok (.iload_n 2, 1) := by decide +kernel
theorem dX6_headSum_27 : decode cX6_headSum 27 = .ok (.iconst (-1), 1) := by decide +kernel
theorem dX6_headSum_28 : decode cX6_headSum 28 = .ok (.ixor, 1) := by decide +kernel
theorem dX6_headSum_29 : decode cX6_headSum 29 = .ok (.ireturn, 1) := by decide +kernel
theorem dX6_set_0 : decode cX6_set 0 = .ok (.iconst 0, 1) := by decide +kernel
theorem dX6_set_1 : decode cX6_set 1 = .ok (.istore_n 3, 1) := by decide +kernel
theorem dX6_set_2 : decode cX6_set 2 = .ok (.iload_n 3, 1) := by decide +kernel
theorem dX6_set_3 : decode cX6_set 3 = .ok (.iconst 4, 1) := by decide +kernel
theorem dX6_set_4 : decode cX6_set 4 = .ok (.if_icmp .ge 27, 3) := by decide +kernel
theorem dX6_set_7 : decode cX6_set 7 = .ok (.aload_n 0, 1) := by decide +kernel
theorem dX6_set_8 : decode cX6_set 8 = .ok (.getfield 65, 3) := by decide +kernel
theorem dX6_set_11 : decode cX6_set 11 = .ok (.iload_n 1, 1) := by decide +kernel
theorem dX6_set_12 : decode cX6_set 12 = .ok (.iload_n 3, 1) := by decide +kernel
theorem dX6_set_13 : decode cX6_set 13 = .ok (.iadd, 1) := by decide +kernel
theorem dX6_set_14 : decode cX6_set 14 = .ok (.iload_n 2, 1) := by decide +kernel
theorem dX6_set_15 : decode cX6_set 15 = .ok (.bipush 24, 2) := by decide +kernel
theorem dX6_set_17 : decode cX6_set 17 = .ok (.bipush 8, 2) := by decide +kernel
theorem dX6_set_19 : decode cX6_set 19 = .ok (.iload_n 3, 1) := by decide +kernel
theorem dX6_set_20 : decode cX6_set 20 = .ok (.imul, 1) := by decide +kernel
theorem dX6_set_21 : decode cX6_set 21 = .ok (.isub, 1) := by decide +kernel
theorem dX6_set_22 : decode cX6_set 22 = .ok (.ishr, 1) := by decide +kernel
theorem dX6_set_23 : decode cX6_set 23 = .ok (.i2b, 1) := by decide +kernel
theorem dX6_set_24 : decode cX6_set 24 = .ok (.bastore, 1) := by decide +kernel
theorem dX6_set_25 : decode cX6_set 25 = .ok (.iinc 3 1, 3) := by decide +kernel
theorem dX6_set_28 : decode cX6_set 28 = .ok (.goto (-26), 3) := by decide +kernel
theorem dX6_set_31 : decode cX6_set 31 = .ok (.return_, 1) := by decide +kernel
theorem dX6_clear_0 : decode cX6_clear 0 = .ok (.iconst 0, 1) := by decide +kernel
theorem dX6_clear_1 : decode cX6_clear 1 = .ok (.istore_n 1, 1) := by decide +kernel
theorem dX6_clear_2 : decode cX6_clear 2 = .ok (.iload_n 1, 1) := by decide +kernel
theorem dX6_clear_3 : decode cX6_clear 3 = .ok (.bipush 64, 2) := by decide +kernel
theorem dX6_clear_5 : decode cX6_clear 5 = .ok (.if_icmp .ge 16, 3) := by decide +kernel
theorem dX6_clear_8 : decode cX6_clear 8 = .ok (.aload_n 0, 1) := by decide +kernel
theorem dX6_clear_9 : decode cX6_clear 9 = .ok (.getfield 65, 3) := by decide +kernel
theorem dX6_clear_12 : decode cX6_clear 12 = .ok (.iload_n 1, 1) := by decide +kernel
theorem dX6_clear_13 : decode cX6_clear 13 = .ok (.iconst 0, 1) := by decide +kernel
theorem dX6_clear_14 : decode cX6_clear 14 = .ok (.bastore, 1) := by decide +kernel
theorem dX6_clear_15 : decode cX6_clear 15 = .ok (.iinc 1 1, 3) := by decide +kernel
theorem dX6_clear_18 : decode cX6_clear 18 = .ok (.goto (-16), 3) := by decide +kernel
theorem dX6_clear_21 : decode cX6_clear 21 = .ok (.return_, 1) := by decide +kernel
theorem dX6_makeHead_0 : decode cX6_makeHead 0 = .ok (.aload_n 0, 1) := by decide +kernel
theorem dX6_makeHead_1 : decode cX6_makeHead 1 = .ok (.invokevirtual 79, 3) := by decide +kernel
theorem dX6_makeHead_4 : decode cX6_makeHead 4 = .ok (.aload_n 0, 1) := by decide +kernel
theorem dX6_makeHead_5 : decode cX6_makeHead 5 = .ok (.iconst 0, 1) := by decide +kernel
theorem dX6_makeHead_6 : decode cX6_makeHead 6 = .ok (.aload_n 0, 1) := by decide +kernel
theorem dX6_makeHead_7 : decode cX6_makeHead 7 = .ok (.getfield 38, 3) := by decide +kernel
theorem dX6_makeHead_10 : decode cX6_makeHead 10 = .ok (.invokevirtual 82, 3) := by decide +kernel
theorem dX6_makeHead_13 : decode cX6_makeHead 13 = .ok (.aload_n 0, 1) := by decide +kernel
theorem dX6_makeHead_14 : decode cX6_makeHead 14 = .ok (.iconst 4, 1) := by decide +kernel
theorem dX6_makeHead_15 : decode cX6_makeHead 15 = .ok (.aload_n 0, 1) := by decide +kernel
theorem dX6_makeHead_16 : decode cX6_makeHead 16 = .ok (.getfield 41, 3) := by decide +kernel
theorem dX6_makeHead_19 : decode cX6_makeHead 19 = .ok (.invokevirtual 82, 3) := by decide +kernel
theorem dX6_makeHead_22 : decode cX6_makeHead 22 = .ok (.aload_n 0, 1) := by decide +kernel
theorem dX6_makeHead_23 : decode cX6_makeHead 23 = .ok (.bipush 8, 2) := by decide +kernel
theorem dX6_makeHead_25 : decode cX6_makeHead 25 = .ok (.aload_n 0, 1) := by decide +kernel
theorem dX6_makeHead_26 : decode cX6_makeHead 26 = .ok (.getfield 44, 3) := by decide +kernel
theorem dX6_makeHead_29 : decode cX6_makeHead 29 = .ok (.invokevirtual 82, 3) := by decide +kernel
theorem dX6_makeHead_32 : decode cX6_makeHead 32 = .ok (.aload_n 0, 1) := by decide +kernel
theorem dX6_makeHead_33 : decode cX6_makeHead 33 = .ok (.getfield 65, 3) := by decide +kernel
theorem dX6_makeHead_36 : decode cX6_makeHead 36 = .ok (.bipush 12, 2) := by decide +kernel
theorem dX6_makeHead_38 : decode cX6_makeHead 38 = .ok (.aload_n 0, 1) := by decide +kernel
theorem dX6_makeHead_39 : decode cX6_makeHead 39 = .ok (.getfield 47, 3) := by decide +kernel
theorem dX6_makeHead_42 : decode cX6_makeHead 42 = .ok (.i2b, 1) := by decide +kernel
theorem dX6_makeHead_43 : decode cX6_makeHead 43 = .ok (.bastore, 1) := by decide +kernel
theorem dX6_makeHead_44 : decode cX6_makeHead 44 = .ok (.aload_n 0, 1) := by decide +kernel
theorem dX6_makeHead_45 : decode cX6_makeHead 45 = .ok (.bipush 13, 2) := by decide +kernel
theorem dX6_makeHead_47 : decode cX6_makeHead 47 = .ok (.aload_n 0, 1) := by decide +kernel
theorem dX6_makeHead_48 : decode cX6_makeHead 48 = .ok (.getfield 65, 3) := by decide +kernel
theorem dX6_makeHead_51 : decode cX6_makeHead 51 = .ok (.iconst 0, 1) := by decide +kernel
theorem dX6_makeHead_52 : decode cX6_makeHead 52 = .ok (.invokestatic 86, 3) := by decide +kernel
theorem dX6_makeHead_55 : decode cX6_makeHead 55 = .ok (.invokevirtual 82, 3) := by decide +kernel
theorem dX6_makeHead_58 : decode cX6_makeHead 58 = .ok (.return_, 1) := by decide +kernel
theorem dX6_write_0 : decode cX6_write 0 = .ok (.bipush 64, 2) := by decide +kernel
theorem dX6_write_2 : decode cX6_write 2 = .ok (.istore_n 2, 1) := by decide +kernel
theorem dX6_write_3 : decode cX6_write 3 = .ok (.aload_n 0, 1) := by decide +kernel
theorem dX6_write_4 : decode cX6_write 4 = .ok (.getfield 21, 3) := by decide +kernel
theorem dX6_write_7 : decode cX6_write 7 = .ok (.ifCond .ne 8, 3) := by decide +kernel
theorem dX6_write_10 : decode cX6_write 10 = .ok (.aload_n 0, 1) := by decide +kernel
theorem dX6_write_11 : decode cX6_write 11 = .ok (.getfield 90, 3) := by decide +kernel
theorem dX6_write_14 : decode cX6_write 14 = .ok (.istore_n 2, 1) := by decide +kernel
theorem dX6_write_15 : decode cX6_write 15 = .ok (.iconst 0, 1) := by decide +kernel
theorem dX6_write_16 : decode cX6_write 16 = .ok (.istore_n 3, 1) := by decide +kernel
theorem dX6_write_17 : decode cX6_write 17 = .ok (.iload_n 3, 1) := by decide +kernel
theorem dX6_write_18 : decode cX6_write 18 = .ok (.iload_n 2, 1) := by decide +kernel
theorem dX6_write_19 : decode cX6_write 19 = .ok (.if_icmp .ge 26, 3) := by decide +kernel
theorem dX6_write_22 : decode cX6_write 22 = .ok (.aload_n 0, 1) := by decide +kernel
theorem dX6_write_23 : decode cX6_write 23 = .ok (.getfield 7, 3) := by decide +kernel
theorem dX6_write_26 : decode cX6_write 26 = .ok (.bipush 64, 2) := by decide +kernel
theorem dX6_write_28 : decode cX6_write 28 = .ok (.iload_n 1, 1) := by decide +kernel
theorem dX6_write_29 : decode cX6_write 29 = .ok (.imul, 1) := by decide +kernel
theorem dX6_write_30 : decode cX6_write 30 = .ok (.iload_n 3, 1) := by decide +kernel
theorem dX6_write_31 : decode cX6_write 31 = .ok (.iadd, 1) := by decide +kernel
theorem dX6_write_32 : decode cX6_write 32 = .ok (.aload_n 0, 1) := by decide +kernel
theorem dX6_write_33 : decode cX6_write 33 = .ok (.getfield 65, 3) := by decide +kernel
theorem dX6_write_36 : decode cX6_write 36 = .ok (.iload_n 3, 1) := by decide +kernel
theorem dX6_write_37 : decode cX6_write 37 = .ok (.baload, 1) := by decide +kernel
theorem dX6_write_38 : decode cX6_write 38 = .ok (.bastore, 1) := by decide +kernel
theorem dX6_write_39 : decode cX6_write 39 = .ok (.iinc 3 1, 3) := by decide +kernel
theorem dX6_write_42 : decode cX6_write 42 = .ok (.goto (-25), 3) := by decide +kernel
theorem dX6_write_45 : decode cX6_write 45 = .ok (.iload_n 2, 1) := by decide +kernel
theorem dX6_write_46 : decode cX6_write 46 = .ok (.bipush 64, 2) := by decide +kernel
theorem dX6_write_48 : decode cX6_write 48 = .ok (.if_icmp .ge 27, 3) := by decide +kernel
theorem dX6_write_51 : decode cX6_write 51 = .ok (.aload_n 0, 1) := by decide +kernel
theorem dX6_write_52 : decode cX6_write 52 = .ok (.getfield 13, 3) := by decide +kernel
theorem dX6_write_55 : decode cX6_write 55 = .ok (.iload_n 1, 1) := by decide +kernel
theorem dX6_write_56 : decode cX6_write 56 = .ok (.dup2, 1) := by decide +kernel
theorem dX6_write_57 : decode cX6_write 57 = .ok (.baload, 1) := by decide +kernel
theorem dX6_write_58 : decode cX6_write 58 = .ok (.iload_n 2, 1) := by decide +kernel
theorem dX6_write_59 : decode cX6_write 59 = .ok (.ifCond .le 7, 3) := by decide +kernel
theorem dX6_write_62 : decode cX6_write 62 = .ok (.iconst 1, 1) := by decide +kernel
theorem dX6_write_63 : decode cX6_write 63 = .ok (.goto 4, 3) := by decide +kernel
theorem dX6_write_66 : decode cX6_write 66 = .ok (.iconst 0, 1) := by decide +kernel
theorem dX6_write_67 : decode cX6_write 67 = .ok (.ior, 1) := by decide +kernel
theorem dX6_write_68 : decode cX6_write 68 = .ok (.bastore, 1) := by decide +kernel
theorem dX6_write_69 : decode cX6_write 69 = .ok (.aload_n 0, 1) := by decide +kernel
theorem dX6_write_70 : decode cX6_write 70 = .ok (.invokevirtual 93, 3) := by decide +kernel
theorem dX6_write_73 : decode cX6_write 73 = .ok (.iconst 0, 1) := by decide +kernel
theorem dX6_write_74 : decode cX6_write 74 = .ok (.ireturn, 1) := by decide +kernel
theorem dX6_write_75 : decode cX6_write 75 = .ok (.aload_n 0, 1) := by decide +kernel
theorem dX6_write_76 : decode cX6_write 76 = .ok (.getfield 13, 3) := by decide +kernel
theorem dX6_write_79 : decode cX6_write 79 = .ok (.iload_n 1, 1) := by decide +kernel
theorem dX6_write_80 : decode cX6_write 80 = .ok (.iconst 0, 1) := by decide +kernel
theorem dX6_write_81 : decode cX6_write 81 = .ok (.bastore, 1) := by decide +kernel
theorem dX6_write_82 : decode cX6_write 82 = .ok (.aload_n 0, 1) := by decide +kernel
theorem dX6_write_83 : decode cX6_write 83 = .ok (.dup, 1) := by decide +kernel
theorem dX6_write_84 : decode cX6_write 84 = .ok (.getfield 96, 3) := by decide +kernel
theorem dX6_write_87 : decode cX6_write 87 = .ok (.iconst 1, 1) := by decide +kernel
theorem dX6_write_88 : decode cX6_write 88 = .ok (.iadd, 1) := by decide +kernel
theorem dX6_write_89 : decode cX6_write 89 = .ok (.putfield 96, 3) := by decide +kernel
theorem dX6_write_92 : decode cX6_write 92 = .ok (.aload_n 0, 1) := by decide +kernel
theorem dX6_write_93 : decode cX6_write 93 = .ok (.dup, 1) := by decide +kernel
theorem dX6_write_94 : decode cX6_write 94 = .ok (.getfield 21, 3) := by decide +kernel
theorem dX6_write_97 : decode cX6_write 97 = .ok (.aload_n 0, 1) := by decide +kernel
theorem dX6_write_98 : decode cX6_write 98 = .ok (.getfield 21, 3) := by decide +kernel
theorem dX6_write_101 : decode cX6_write 101 = .ok (.ifCond .le 7, 3) := by decide +kernel
theorem dX6_write_104 : decode cX6_write 104 = .ok (.iconst 1, 1) := by decide +kernel
theorem dX6_write_105 : decode cX6_write 105 = .ok (.goto 4, 3) := by decide +kernel
theorem dX6_write_108 : decode cX6_write 108 = .ok (.iconst 0, 1) := by decide +kernel
theorem dX6_write_109 : decode cX6_write 109 = .ok (.isub, 1) := by decide +kernel
theorem dX6_write_110 : decode cX6_write 110 = .ok (.putfield 21, 3) := by decide +kernel
theorem dX6_write_113 : decode cX6_write 113 = .ok (.iconst 1, 1) := by decide +kernel
theorem dX6_write_114 : decode cX6_write 114 = .ok (.ireturn, 1) := by decide +kernel
theorem dX6_goOff_0 : decode cX6_goOff 0 = .ok (.aload_n 0, 1) := by decide +kernel
theorem dX6_goOff_1 : decode cX6_goOff 1 = .ok (.iconst 0, 1) := by decide +kernel
theorem dX6_goOff_2 : decode cX6_goOff 2 = .ok (.putfield 17, 3) := by decide +kernel
theorem dX6_goOff_5 : decode cX6_goOff 5 = .ok (.aload_n 0, 1) := by decide +kernel
theorem dX6_goOff_6 : decode cX6_goOff 6 = .ok (.iconst (-1), 1) := by decide +kernel
theorem dX6_goOff_7 : decode cX6_goOff 7 = .ok (.putfield 21, 3) := by decide +kernel
theorem dX6_goOff_10 : decode cX6_goOff 10 = .ok (.aload_n 0, 1) := by decide +kernel
theorem dX6_goOff_11 : decode cX6_goOff 11 = .ok (.iconst 0, 1) := by decide +kernel
theorem dX6_goOff_12 : decode cX6_goOff 12 = .ok (.putfield 99, 3) := by decide +kernel
theorem dX6_goOff_15 : decode cX6_goOff 15 = .ok (.aload_n 0, 1) := by decide +kernel
theorem dX6_goOff_16 : decode cX6_goOff 16 = .ok (.iconst 0, 1) := by decide +kernel
theorem dX6_goOff_17 : decode cX6_goOff 17 = .ok (.putfield 102, 3) := by decide +kernel
theorem dX6_goOff_20 : decode cX6_goOff 20 = .ok (.aload_n 0, 1) := by decide +kernel
theorem dX6_goOff_21 : decode cX6_goOff 21 = .ok (.iconst 0, 1) := by decide +kernel
theorem dX6_goOff_22 : decode cX6_goOff 22 = .ok (.putfield 105, 3) := by decide +kernel
theorem dX6_goOff_25 : decode cX6_goOff 25 = .ok (.return_, 1) := by decide +kernel
theorem dX6_used_0 : decode cX6_used 0 = .ok (.aload_n 0, 1) := by decide +kernel
theorem dX6_used_1 : decode cX6_used 1 = .ok (.getfield 53, 3) := by decide +kernel
theorem dX6_used_4 : decode cX6_used 4 = .ok (.aload_n 0, 1) := by decide +kernel
theorem dX6_used_5 : decode cX6_used 5 = .ok (.getfield 41, 3) := by decide +kernel
theorem dX6_used_8 : decode cX6_used 8 = .ok (.isub, 1) := by decide +kernel
theorem dX6_used_9 : decode cX6_used 9 = .ok (.ireturn, 1) := by decide +kernel
theorem dX6_delay_0 : decode cX6_delay 0 = .ok (.aload_n 0, 1) := by decide +kernel
theorem dX6_delay_1 : decode cX6_delay 1 = .ok (.getfield 17, 3) := by decide +kernel
theorem dX6_delay_4 : decode cX6_delay 4 = .ok (.ifCond .eq 15, 3) := by decide +kernel
theorem dX6_delay_7 : decode cX6_delay 7 = .ok (.iload_n 1, 1) := by decide +kernel
theorem dX6_delay_8 : decode cX6_delay 8 = .ok (.iconst 1, 1) := by decide +kernel
theorem dX6_delay_9 : decode cX6_delay 9 = .ok (.if_icmp .lt 10, 3) := by decide +kernel
theorem dX6_delay_12 : decode cX6_delay 12 = .ok (.iload_n 1, 1) := by decide +kernel
theorem dX6_delay_13 : decode cX6_delay 13 = .ok (.sipush 1000, 3) := by decide +kernel
theorem dX6_delay_16 : decode cX6_delay 16 = .ok (.if_icmp .le 5, 3) := by decide +kernel
theorem dX6_delay_19 : decode cX6_delay 19 = .ok (.iconst 0, 1) := by decide +kernel
theorem dX6_delay_20 : decode cX6_delay 20 = .ok (.ireturn, 1) := by decide +kernel
theorem dX6_delay_21 : decode cX6_delay 21 = .ok (.aload_n 0, 1) := by decide +kernel
theorem dX6_delay_22 : decode cX6_delay 22 = .ok (.iload_n 1, 1) := by decide +kernel
theorem dX6_delay_23 : decode cX6_delay 23 = .ok (.putfield 25, 3) := by decide +kernel
theorem dX6_delay_26 : decode cX6_delay 26 = .ok (.iconst 1, 1) := by decide +kernel
theorem dX6_delay_27 : decode cX6_delay 27 = .ok (.ireturn, 1) := by decide +kernel
theorem dX6_feed_0 : decode cX6_feed 0 = .ok (.iload_n 1, 1) := by decide +kernel
theorem dX6_feed_1 : decode cX6_feed 1 = .ok (.ifCond .lt 20, 3) := by decide +kernel
theorem dX6_feed_4 : decode cX6_feed 4 = .ok (.iload_n 1, 1) := by decide +kernel
theorem dX6_feed_5 : decode cX6_feed 5 = .ok (.sipush 255, 3) := by decide +kernel
theorem dX6_feed_8 : decode cX6_feed 8 = .ok (.if_icmp .gt 13, 3) := by decide +kernel
theorem dX6_feed_11 : decode cX6_feed 11 = .ok (.aload_n 0, 1) := by decide +kernel
theorem dX6_feed_12 : decode cX6_feed 12 = .ok (.getfield 108, 3) := by decide +kernel
theorem dX6_feed_15 : decode cX6_feed 15 = .ok (.sipush 200, 3) := by decide +kernel
theorem dX6_feed_18 : decode cX6_feed 18 = .ok (.if_icmp .ne 5, 3) := by decide +kernel
theorem dX6_feed_21 : decode cX6_feed 21 = .ok (.iconst 0, 1) := by decide +kernel
theorem dX6_feed_22 : decode cX6_feed 22 = .ok (.ireturn, 1) := by decide +kernel
theorem dX6_feed_23 : decode cX6_feed 23 = .ok (.aload_n 0, 1) := by decide +kernel
theorem dX6_feed_24 : decode cX6_feed 24 = .ok (.getfield 28, 3) := by decide +kernel
theorem dX6_feed_27 : decode cX6_feed 27 = .ok (.aload_n 0, 1) := by decide +kernel
theorem dX6_feed_28 : decode cX6_feed 28 = .ok (.getfield 108, 3) := by decide +kernel
theorem dX6_feed_31 : decode cX6_feed 31 = .ok (.iload_n 1, 1) := by decide +kernel
theorem dX6_feed_32 : decode cX6_feed 32 = .ok (.i2b, 1) := by decide +kernel
theorem dX6_feed_33 : decode cX6_feed 33 = .ok (.bastore, 1) := by decide +kernel
theorem dX6_feed_34 : decode cX6_feed 34 = .ok (.aload_n 0, 1) := by decide +kernel
theorem dX6_feed_35 : decode cX6_feed 35 = .ok (.dup, 1) := by decide +kernel
theorem dX6_feed_36 : decode cX6_feed 36 = .ok (.getfield 108, 3) := by decide +kernel
theorem dX6_feed_39 : decode cX6_feed 39 = .ok (.iconst 1, 1) := by decide +kernel
theorem dX6_feed_40 : decode cX6_feed 40 = .ok (.iadd, 1) := by decide +kernel
theorem dX6_feed_41 : decode cX6_feed 41 = .ok (.putfield 108, 3) := by decide +kernel
theorem dX6_feed_44 : decode cX6_feed 44 = .ok (.iconst 1, 1) := by decide +kernel
theorem dX6_feed_45 : decode cX6_feed 45 = .ok (.ireturn, 1) := by decide +kernel
theorem dX6_append_0 : decode cX6_append 0 = .ok (.aload_n 0, 1) := by decide +kernel
theorem dX6_append_1 : decode cX6_append 1 = .ok (.getfield 17, 3) := by decide +kernel
theorem dX6_append_4 : decode cX6_append 4 = .ok (.ifCond .ne 6, 3) := by decide +kernel
theorem dX6_append_7 : decode cX6_append 7 = .ok (.bipush (-2), 2) := by decide +kernel
theorem dX6_append_9 : decode cX6_append 9 = .ok (.ireturn, 1) := by decide +kernel
theorem dX6_append_10 : decode cX6_append 10 = .ok (.aload_n 0, 1) := by decide +kernel
theorem dX6_append_11 : decode cX6_append 11 = .ok (.getfield 108, 3) := by decide +kernel
theorem dX6_append_14 : decode cX6_append 14 = .ok (.ifCond .eq 33, 3) := by decide +kernel
theorem dX6_append_17 : decode cX6_append 17 = .ok (.aload_n 0, 1) := by decide +kernel
theorem dX6_append_18 : decode cX6_append 18 = .ok (.getfield 99, 3) := by decide +kernel
theorem dX6_append_21 : decode cX6_append 21 = .ok (.bipush 6, 2) := by decide +kernel
theorem dX6_append_23 : decode cX6_append 23 = .ok (.iadd, 1) := by decide +kernel
theorem dX6_append_24 : decode cX6_append 24 = .ok (.aload_n 0, 1) := by decide +kernel
theorem dX6_append_25 : decode cX6_append 25 = .ok (.getfield 108, 3) := by decide +kernel
theorem dX6_append_28 : decode cX6_append 28 = .ok (.iadd, 1) := by decide +kernel
theorem dX6_append_29 : decode cX6_append 29 = .ok (.bipush 48, 2) := by decide +kernel
theorem dX6_append_31 : decode cX6_append 31 = .ok (.iadd, 1) := by decide +kernel
theorem dX6_append_32 : decode cX6_append 32 = .ok (.iconst 1, 1) := by decide +kernel
theorem dX6_append_33 : decode cX6_append 33 = .ok (.isub, 1) := by decide +kernel
theorem dX6_append_34 : decode cX6_append 34 = .ok (.bipush 48, 2) := by decide +kernel
theorem dX6_append_36 : decode cX6_append 36 = .ok (.idiv, 1) := by decide +kernel
theorem dX6_append_37 : decode cX6_append 37 = .ok (.bipush 62, 2) := by decide +kernel
theorem dX6_append_39 : decode cX6_append 39 = .ok (.aload_n 0, 1) := by decide +kernel
theorem dX6_append_40 : decode cX6_append 40 = .ok (.invokevirtual 111, 3) := by decide +kernel
theorem dX6_append_43 : decode cX6_append 43 = .ok (.isub, 1) := by decide +kernel
theorem dX6_append_44 : decode cX6_append 44 = .ok (.if_icmp .le 5, 3) := by decide +kernel
theorem dX6_flushAll_0 : decode cX6_flushAll 0 = .ok (.iconst 0, 1) := by decide +kernel
theorem dX6_flushAll_1 : decode cX6_flushAll 1 = .ok (.istore_n 1, 1) := by decide +kernel
theorem dX6_flushAll_2 : decode cX6_flushAll 2 = .ok (.aload_n 0, 1) := by decide +kernel
theorem dX6_flushAll_3 : decode cX6_flushAll 3 = .ok (.getfield 50, 3) := by decide +kernel
theorem dX6_flushAll_6 : decode cX6_flushAll 6 = .ok (.istore_n 2, 1) := by decide +kernel
theorem dX6_flushAll_7 : decode cX6_flushAll 7 = .ok (.iconst 0, 1) := by decide +kernel
theorem dX6_flushAll_8 : decode cX6_flushAll 8 = .ok (.istore_n 3, 1) := by decide +kernel
theorem dX6_flushAll_9 : decode cX6_flushAll 9 = .ok (.iload_n 3, 1) := by decide +kernel
theorem dX6_flushAll_10 : decode cX6_flushAll 10 = .ok (.aload_n 0, 1) := by decide +kernel
theorem dX6_flushAll_11 : decode cX6_flushAll 11 = .ok (.getfield 99, 3) := by decide +kernel
theorem dX6_flushAll_14 : decode cX6_flushAll 14 = .ok (.if_icmp .ge 228, 3) := by decide +kernel
theorem dX6_flushAll_17 : decode cX6_flushAll 17 = .ok (.aload_n 0, 1) := by decide +kernel
theorem dX6_flushAll_18 : decode cX6_flushAll 18 = .ok (.getfield 99, 3) := by decide +kernel
theorem dX6_flushAll_21 : decode cX6_flushAll 21 = .ok (.iload_n 3, 1) := by decide +kernel
theorem dX6_flushAll_22 : decode cX6_flushAll 22 = .ok (.isub, 1) := by decide +kernel
theorem dX6_flushAll_23 : decode cX6_flushAll 23 = .ok (.bipush 48, 2) := by decide +kernel
theorem dX6_flushAll_25 : decode cX6_flushAll 25 = .ok (.if_icmp .ge 12, 3) := by decide +kernel
theorem dX6_flushAll_28 : decode cX6_flushAll 28 = .ok (.aload_n 0, 1) := by decide +kernel
theorem dX6_flushAll_29 : decode cX6_flushAll 29 = .ok (.getfield 99, 3) := by decide +kernel
theorem dX6_flushAll_32 : decode cX6_flushAll 32 = .ok (.iload_n 3, 1) := by decide +kernel
theorem dX6_flushAll_33 : decode cX6_flushAll 33 = .ok (.isub, 1) := by decide +kernel
theorem dX6_flushAll_34 : decode cX6_flushAll 34 = .ok (.goto 5, 3) := by decide +kernel
theorem dX6_flushAll_37 : decode cX6_flushAll 37 = .ok (.bipush 48, 2) := by decide +kernel
theorem dX6_flushAll_39 : decode cX6_flushAll 39 = .ok (.istore 4, 2) := by decide +kernel
theorem dX6_flushAll_41 : decode cX6_flushAll 41 = .ok (.aload_n 0, 1) := by decide +kernel
theorem dX6_flushAll_42 : decode cX6_flushAll 42 = .ok (.invokevirtual 79, 3) := by decide +kernel
theorem dX6_flushAll_45 : decode cX6_flushAll 45 = .ok (.aload_n 0, 1) := by decide +kernel
theorem dX6_flushAll_46 : decode cX6_flushAll 46 = .ok (.iconst 0, 1) := by decide +kernel
theorem dX6_flushAll_47 : decode cX6_flushAll 47 = .ok (.aload_n 0, 1) := by decide +kernel
theorem dX6_flushAll_48 : decode cX6_flushAll 48 = .ok (.getfield 53, 3) := by decide +kernel
theorem dX6_flushAll_51 : decode cX6_flushAll 51 = .ok (.iload_n 1, 1) := by decide +kernel
theorem dX6_flushAll_52 : decode cX6_flushAll 52 = .ok (.iadd, 1) := by decide +kernel
theorem dX6_flushAll_53 : decode cX6_flushAll 53 = .ok (.invokevirtual 82, 3) := by decide +kernel
theorem dX6_flushAll_56 : decode cX6_flushAll 56 = .ok (.aload_n 0, 1) := by decide +kernel
theorem dX6_flushAll_57 : decode cX6_flushAll 57 = .ok (.getfield 65, 3) := by decide +kernel
theorem dX6_flushAll_60 : decode cX6_flushAll 60 = .ok (.iconst 4, 1) := by decide +kernel
theorem dX6_flushAll_61 : decode cX6_flushAll 61 = .ok (.iload 4, 2) := by decide +kernel
theorem dX6_flushAll_63 : decode cX6_flushAll 63 = .ok (.i2b, 1) := by decide +kernel
theorem dX6_flushAll_64 : decode cX6_flushAll 64 = .ok (.bastore, 1) := by decide +kernel
theorem dX6_flushAll_65 : decode cX6_flushAll 65 = .ok (.aload_n 0, 1) := by decide +kernel
theorem dX6_flushAll_66 : decode cX6_flushAll 66 = .ok (.getfield 65, 3) := by decide +kernel
theorem dX6_flushAll_69 : decode cX6_flushAll 69 = .ok (.iconst 5, 1) := by decide +kernel
theorem dX6_flushAll_70 : decode cX6_flushAll 70 = .ok (.iconst (-1), 1) := by decide +kernel
theorem dX6_flushAll_71 : decode cX6_flushAll 71 = .ok (.bastore, 1) := by decide +kernel
theorem dX6_flushAll_72 : decode cX6_flushAll 72 = .ok (.aload_n 0, 1) := by decide +kernel
theorem dX6_flushAll_73 : decode cX6_flushAll 73 = .ok (.getfield 102, 3) := by decide +kernel
theorem dX6_flushAll_76 : decode cX6_flushAll 76 = .ok (.iconst 1, 1) := by decide +kernel
theorem dX6_flushAll_77 : decode cX6_flushAll 77 = .ok (.isub, 1) := by decide +kernel
theorem dX6_flushAll_78 : decode cX6_flushAll 78 = .ok (.istore 5, 2) := by decide +kernel
theorem dX6_flushAll_80 : decode cX6_flushAll 80 = .ok (.iload 5, 2) := by decide +kernel
theorem dX6_flushAll_82 : decode cX6_flushAll 82 = .ok (.ifCond .lt 50, 3) := by decide +kernel
theorem dX6_flushAll_85 : decode cX6_flushAll 85 = .ok (.aload_n 0, 1) := by decide +kernel
theorem dX6_flushAll_86 : decode cX6_flushAll 86 = .ok (.getfield 34, 3) := by decide +kernel
theorem dX6_flushAll_89 : decode cX6_flushAll 89 = .ok (.iload 5, 2) := by decide +kernel
theorem dX6_flushAll_91 : decode cX6_flushAll 91 = .ok (.iaload, 1) := by decide +kernel
theorem dX6_flushAll_92 : decode cX6_flushAll 92 = .ok (.iload_n 3, 1) := by decide +kernel
theorem dX6_flushAll_93 : decode cX6_flushAll 93 = .ok (.if_icmp .lt 33, 3) := by decide +kernel
theorem dX6_flushAll_96 : decode cX6_flushAll 96 = .ok (.aload_n 0, 1) := by decide +kernel
theorem dX6_flushAll_97 : decode cX6_flushAll 97 = .ok (.getfield 34, 3) := by decide +kernel
theorem dX6_flushAll_100 : decode cX6_flushAll 100 = .ok (.iload 5, 2) := by decide +kernel
theorem dX6_flushAll_102 : decode cX6_flushAll 102 = .ok (.iaload, 1) := by decide +kernel
theorem dX6_flushAll_103 : decode cX6_flushAll 103 = .ok (.iload_n 3, 1) := by decide +kernel
theorem dX6_flushAll_104 : decode cX6_flushAll 104 = .ok (.iload 4, 2) := by decide +kernel
theorem dX6_flushAll_106 : decode cX6_flushAll 106 = .ok (.iadd, 1) := by decide +kernel
theorem dX6_flushAll_107 : decode cX6_flushAll 107 = .ok (.if_icmp .ge 19, 3) := by decide +kernel
theorem dX6_flushAll_110 : decode cX6_flushAll 110 = .ok (.aload_n 0, 1) := by decide +kernel
theorem dX6_flushAll_111 : decode cX6_flushAll 111 = .ok (.getfield 65, 3) := by decide +kernel
theorem dX6_flushAll_114 : decode cX6_flushAll 114 = .ok (.iconst 5, 1) := by decide +kernel
theorem dX6_flushAll_115 : decode cX6_flushAll 115 = .ok (.aload_n 0, 1) := by decide +kernel
theorem dX6_flushAll_116 : decode cX6_flushAll 116 = .ok (.getfield 34, 3) := by decide +kernel
theorem dX6_flushAll_119 : decode cX6_flushAll 119 = .ok (.iload 5, 2) := by decide +kernel
theorem dX6_flushAll_121 : decode cX6_flushAll 121 = .ok (.iaload, 1) := by decide +kernel
theorem dX6_flushAll_122 : decode cX6_flushAll 122 = .ok (.iload_n 3, 1) := by decide +kernel
theorem dX6_flushAll_123 : decode cX6_flushAll 123 = .ok (.isub, 1) := by decide +kernel
theorem dX6_flushAll_124 : decode cX6_flushAll 124 = .ok (.i2b, 1) := by decide +kernel
theorem dX6_flushAll_125 : decode cX6_flushAll 125 = .ok (.bastore, 1) := by decide +kernel
theorem dX6_flushAll_126 : decode cX6_flushAll 126 = .ok (.iinc 5 (-1), 3) := by decide +kernel
theorem dX6_flushAll_129 : decode cX6_flushAll 129 = .ok (.goto (-49), 3) := by decide +kernel
theorem dX6_flushAll_132 : decode cX6_flushAll 132 = .ok (.iconst 0, 1) := by decide +kernel
theorem dX6_flushAll_133 : decode cX6_flushAll 133 = .ok (.istore 5, 2) := by decide +kernel
theorem dX6_flushAll_135 : decode cX6_flushAll 135 = .ok (.iload 5, 2) := by decide +kernel
theorem dX6_flushAll_137 : decode cX6_flushAll 137 = .ok (.iload 4, 2) := by decide +kernel
theorem dX6_flushAll_139 : decode cX6_flushAll 139 = .ok (.if_icmp .ge 28, 3) := by decide +kernel
theorem dX6_flushAll_142 : decode cX6_flushAll 142 = .ok (.aload_n 0, 1) := by decide +kernel
theorem dX6_flushAll_143 : decode cX6_flushAll 143 = .ok (.getfield 65, 3) := by decide +kernel
theorem dX6_flushAll_146 : decode cX6_flushAll 146 = .ok (.bipush 16, 2) := by decide +kernel
theorem dX6_flushAll_148 : decode cX6_flushAll 148 = .ok (.iload 5, 2) := by decide +kernel
theorem dX6_flushAll_150 : decode cX6_flushAll 150 = .ok (.iadd, 1) := by decide +kernel
theorem dX6_flushAll_151 : decode cX6_flushAll 151 = .ok (.aload_n 0, 1) := by decide +kernel
theorem dX6_flushAll_152 : decode cX6_flushAll 152 = .ok (.getfield 31, 3) := by decide +kernel
theorem dX6_flushAll_155 : decode cX6_flushAll 155 = .ok (.iload_n 3, 1) := by decide +kernel
theorem dX6_flushAll_156 : decode cX6_flushAll 156 = .ok (.iload 5, 2) := by decide +kernel
theorem dX6_flushAll_158 : decode cX6_flushAll 158 = .ok (.iadd, 1) := by decide +kernel
theorem dX6_flushAll_159 : decode cX6_flushAll 159 = .ok (.baload, 1) := by decide +kernel
theorem dX6_flushAll_160 : decode cX6_flushAll 160 = .ok (.bastore, 1) := by decide +kernel
theorem dX6_flushAll_161 : decode cX6_flushAll 161 = .ok (.iinc 5 1, 3) := by decide +kernel
theorem dX6_flushAll_164 : decode cX6_flushAll 164 = .ok (.goto (-29), 3) := by decide +kernel
theorem dX6_flushAll_167 : decode cX6_flushAll 167 = .ok (.aload_n 0, 1) := by decide +kernel
theorem dX6_flushAll_168 : decode cX6_flushAll 168 = .ok (.bipush 10, 2) := by decide +kernel
theorem dX6_flushAll_170 : decode cX6_flushAll 170 = .ok (.aload_n 0, 1) := by decide +kernel
theorem dX6_flushAll_171 : decode cX6_flushAll 171 = .ok (.getfield 38, 3) := by decide +kernel
theorem dX6_flushAll_174 : decode cX6_flushAll 174 = .ok (.invokevirtual 82, 3) := by decide +kernel
theorem dX6_flushAll_177 : decode cX6_flushAll 177 = .ok (.aload_n 0, 1) := by decide +kernel
theorem dX6_flushAll_178 : decode cX6_flushAll 178 = .ok (.bipush 6, 2) := by decide +kernel
theorem dX6_flushAll_180 : decode cX6_flushAll 180 = .ok (.aload_n 0, 1) := by decide +kernel
theorem dX6_flushAll_181 : decode cX6_flushAll 181 = .ok (.getfield 65, 3) := by decide +kernel
theorem dX6_flushAll_184 : decode cX6_flushAll 184 = .ok (.iconst 0, 1) := by decide +kernel
theorem dX6_flushAll_185 : decode cX6_flushAll 185 = .ok (.invokestatic 125, 3) := by decide +kernel
theorem dX6_flushAll_188 : decode cX6_flushAll 188 = .ok (.invokevirtual 82, 3) := by decide +kernel
theorem dX6_flushAll_191 : decode cX6_flushAll 191 = .ok (.aload_n 0, 1) := by decide +kernel
theorem dX6_flushAll_192 : decode cX6_flushAll 192 = .ok (.iconst 2, 1) := by decide +kernel
theorem dX6_flushAll_193 : decode cX6_flushAll 193 = .ok (.aload_n 0, 1) := by decide +kernel
theorem dX6_flushAll_194 : decode cX6_flushAll 194 = .ok (.getfield 50, 3) := by decide +kernel
theorem dX6_flushAll_197 : decode cX6_flushAll 197 = .ok (.iconst 2, 1) := by decide +kernel
theorem dX6_flushAll_198 : decode cX6_flushAll 198 = .ok (.isub, 1) := by decide +kernel
theorem dX6_flushAll_199 : decode cX6_flushAll 199 = .ok (.iload_n 1, 1) := by decide +kernel
theorem dX6_flushAll_200 : decode cX6_flushAll 200 = .ok (.iadd, 1) := by decide +kernel
theorem dX6_flushAll_201 : decode cX6_flushAll 201 = .ok (.bipush 62, 2) := by decide +kernel
theorem dX6_flushAll_203 : decode cX6_flushAll 203 = .ok (.irem, 1) := by decide +kernel
theorem dX6_flushAll_204 : decode cX6_flushAll 204 = .ok (.iadd, 1) := by decide +kernel
theorem dX6_flushAll_205 : decode cX6_flushAll 205 = .ok (.invokevirtual 128, 3) := by decide +kernel
theorem dX6_flushAll_208 : decode cX6_flushAll 208 = .ok (.ifCond .ne 23, 3) := by decide +kernel
theorem dX6_flushAll_211 : decode cX6_flushAll 211 = .ok (.aload_n 0, 1) := by decide +kernel
theorem dX6_flushAll_212 : decode cX6_flushAll 212 = .ok (.dup, 1) := by decide +kernel
theorem dX6_flushAll_213 : decode cX6_flushAll 213 = .ok (.getfield 132, 3) := by decide +kernel
theorem dX6_flushAll_216 : decode cX6_flushAll 216 = .ok (.iload_n 1, 1) := by decide +kernel
theorem dX6_flushAll_217 : decode cX6_flushAll 217 = .ok (.ifCond .le 7, 3) := by decide +kernel
theorem dX6_flushAll_220 : decode cX6_flushAll 220 = .ok (.iconst 1, 1) := by decide +kernel
theorem dX6_flushAll_221 : decode cX6_flushAll 221 = .ok (.goto 4, 3) := by decide +kernel
theorem dX6_flushAll_224 : decode cX6_flushAll 224 = .ok (.iconst 0, 1) := by decide +kernel
theorem dX6_flushAll_225 : decode cX6_flushAll 225 = .ok (.iadd, 1) := by decide +kernel
theorem dX6_flushAll_226 : decode cX6_flushAll 226 = .ok (.putfield 132, 3) := by decide +kernel
theorem dX6_flushAll_229 : decode cX6_flushAll 229 = .ok (.iload_n 1, 1) := by decide +kernel
theorem dX6_flushAll_230 : decode cX6_flushAll 230 = .ok (.ireturn, 1) := by decide +kernel
theorem dX6_flushAll_231 : decode cX6_flushAll 231 = .ok (.iinc 1 1, 3) := by decide +kernel
theorem dX6_flushAll_234 : decode cX6_flushAll 234 = .ok (.iload_n 3, 1) := by decide +kernel
theorem dX6_flushAll_235 : decode cX6_flushAll 235 = .ok (.iload 4, 2) := by decide +kernel
theorem dX6_flushAll_237 : decode cX6_flushAll 237 = .ok (.iadd, 1) := by decide +kernel
theorem dX6_flushAll_238 : decode cX6_flushAll 238 = .ok (.istore_n 3, 1) := by decide +kernel
theorem dX6_flushAll_239 : decode cX6_flushAll 239 = .ok (.goto (-230), 3) := by decide +kernel
theorem dX6_flushAll_242 : decode cX6_flushAll 242 = .ok (.iconst 0, 1) := by decide +kernel
theorem dX6_flushAll_243 : decode cX6_flushAll 243 = .ok (.istore 4, 2) := by decide +kernel
theorem dX6_flushAll_245 : decode cX6_flushAll 245 = .ok (.iload 4, 2) := by decide +kernel
theorem dX6_flushAll_247 : decode cX6_flushAll 247 = .ok (.aload_n 0, 1) := by decide +kernel
theorem dX6_flushAll_248 : decode cX6_flushAll 248 = .ok (.getfield 102, 3) := by decide +kernel
theorem dX6_flushAll_251 : decode cX6_flushAll 251 = .ok (.if_icmp .ge 124, 3) := by decide +kernel
theorem dX6_flushAll_254 : decode cX6_flushAll 254 = .ok (.iload 4, 2) := by decide +kernel
theorem dX6_flushAll_256 : decode cX6_flushAll 256 = .ok (.iconst 1, 1) := by decide +kernel
theorem dX6_flushAll_257 : decode cX6_flushAll 257 = .ok (.iadd, 1) := by decide +kernel
theorem dX6_flushAll_258 : decode cX6_flushAll 258 = .ok (.aload_n 0, 1) := by decide +kernel
theorem dX6_flushAll_259 : decode cX6_flushAll 259 = .ok (.getfield 102, 3) := by decide +kernel
theorem dX6_flushAll_262 : decode cX6_flushAll 262 = .ok (.if_icmp .ge 15, 3) := by decide +kernel
theorem dX6_flushAll_265 : decode cX6_flushAll 265 = .ok (.aload_n 0, 1) := by decide +kernel
theorem dX6_flushAll_266 : decode cX6_flushAll 266 = .ok (.getfield 34, 3) := by decide +kernel
theorem dX6_flushAll_269 : decode cX6_flushAll 269 = .ok (.iload 4, 2) := by decide +kernel
theorem dX6_flushAll_271 : decode cX6_flushAll 271 = .ok (.iconst 1, 1) := by decide +kernel
theorem dX6_flushAll_272 : decode cX6_flushAll 272 = .ok (.iadd, 1) := by decide +kernel
theorem dX6_flushAll_273 : decode cX6_flushAll 273 = .ok (.iaload, 1) := by decide +kernel
theorem dX6_flushAll_274 : decode cX6_flushAll 274 = .ok (.goto 7, 3) := by decide +kernel
theorem dX6_flushAll_277 : decode cX6_flushAll 277 = .ok (.aload_n 0, 1) := by decide +kernel
theorem dX6_flushAll_278 : decode cX6_flushAll 278 = .ok (.getfield 99, 3) := by decide +kernel
theorem dX6_flushAll_281 : decode cX6_flushAll 281 = .ok (.istore 5, 2) := by decide +kernel
theorem dX6_flushAll_283 : decode cX6_flushAll 283 = .ok (.aload_n 0, 1) := by decide +kernel
theorem dX6_flushAll_284 : decode cX6_flushAll 284 = .ok (.getfield 115, 3) := by decide +kernel
theorem dX6_flushAll_287 : decode cX6_flushAll 287 = .ok (.iconst 1, 1) := by decide +kernel
theorem dX6_flushAll_288 : decode cX6_flushAll 288 = .ok (.iadd, 1) := by decide +kernel
theorem dX6_flushAll_289 : decode cX6_flushAll 289 = .ok (.aload_n 0, 1) := by decide +kernel
theorem dX6_flushAll_290 : decode cX6_flushAll 290 = .ok (.getfield 44, 3) := by decide +kernel
theorem dX6_flushAll_293 : decode cX6_flushAll 293 = .ok (.isub, 1) := by decide +kernel
theorem dX6_flushAll_294 : decode cX6_flushAll 294 = .ok (.istore 6, 2) := by decide +kernel
theorem dX6_flushAll_296 : decode cX6_flushAll 296 = .ok (.aload_n 0, 1) := by decide +kernel
theorem dX6_flushAll_297 : decode cX6_flushAll 297 = .ok (.getfield 56, 3) := by decide +kernel
theorem dX6_flushAll_300 : decode cX6_flushAll 300 = .ok (.iload 6, 2) := by decide +kernel
theorem dX6_flushAll_302 : decode cX6_flushAll 302 = .ok (.iconst 2, 1) := by decide +kernel
theorem dX6_flushAll_303 : decode cX6_flushAll 303 = .ok (.iload_n 2, 1) := by decide +kernel
theorem dX6_flushAll_304 : decode cX6_flushAll 304 = .ok (.iconst 2, 1) := by decide +kernel
theorem dX6_flushAll_305 : decode cX6_flushAll 305 = .ok (.isub, 1) := by decide +kernel
theorem dX6_flushAll_306 : decode cX6_flushAll 306 = .ok (.aload_n 0, 1) := by decide +kernel
theorem dX6_flushAll_307 : decode cX6_flushAll 307 = .ok (.getfield 34, 3) := by decide +kernel
theorem dX6_flushAll_310 : decode cX6_flushAll 310 = .ok (.iload 4, 2) := by decide +kernel
theorem dX6_flushAll_312 : decode cX6_flushAll 312 = .ok (.iaload, 1) := by decide +kernel
theorem dX6_flushAll_313 : decode cX6_flushAll 313 = .ok (.bipush 48, 2) := by decide +kernel
theorem dX6_flushAll_315 : decode cX6_flushAll 315 = .ok (.idiv, 1) := by decide +kernel
theorem dX6_flushAll_316 : decode cX6_flushAll 316 = .ok (.iadd, 1) := by decide +kernel
theorem dX6_flushAll_317 : decode cX6_flushAll 317 = .ok (.bipush 62, 2) := by decide +kernel
theorem dX6_flushAll_319 : decode cX6_flushAll 319 = .ok (.irem, 1) := by decide +kernel
theorem dX6_flushAll_320 : decode cX6_flushAll 320 = .ok (.iadd, 1) := by decide +kernel
theorem dX6_flushAll_321 : decode cX6_flushAll 321 = .ok (.iastore, 1) := by decide +kernel
theorem dX6_flushAll_322 : decode cX6_flushAll 322 = .ok (.aload_n 0, 1) := by decide +kernel
theorem dX6_flushAll_323 : decode cX6_flushAll 323 = .ok (.getfield 59, 3) := by decide +kernel
theorem dX6_flushAll_326 : decode cX6_flushAll 326 = .ok (.iload 6, 2) := by decide +kernel
theorem dX6_flushAll_328 : decode cX6_flushAll 328 = .ok (.aload_n 0, 1) := by decide +kernel
theorem dX6_flushAll_329 : decode cX6_flushAll 329 = .ok (.getfield 34, 3) := by decide +kernel
theorem dX6_flushAll_332 : decode cX6_flushAll 332 = .ok (.iload 4, 2) := by decide +kernel
theorem dX6_flushAll_334 : decode cX6_flushAll 334 = .ok (.iaload, 1) := by decide +kernel
theorem dX6_flushAll_335 : decode cX6_flushAll 335 = .ok (.bipush 48, 2) := by decide +kernel
theorem dX6_flushAll_337 : decode cX6_flushAll 337 = .ok (.irem, 1) := by decide +kernel
theorem dX6_flushAll_338 : decode cX6_flushAll 338 = .ok (.iastore, 1) := by decide +kernel
theorem dX6_flushAll_339 : decode cX6_flushAll 339 = .ok (.aload_n 0, 1) := by decide +kernel
theorem dX6_flushAll_340 : decode cX6_flushAll 340 = .ok (.getfield 62, 3) := by decide +kernel
theorem dX6_flushAll_343 : decode cX6_flushAll 343 = .ok (.iload 6, 2) := by decide +kernel
theorem dX6_flushAll_345 : decode cX6_flushAll 345 = .ok (.iload 5, 2) := by decide +kernel
theorem dX6_flushAll_347 : decode cX6_flushAll 347 = .ok (.aload_n 0, 1) := by decide +kernel
theorem dX6_flushAll_348 : decode cX6_flushAll 348 = .ok (.getfield 34, 3) := by decide +kernel
theorem dX6_flushAll_351 : decode cX6_flushAll 351 = .ok (.iload 4, 2) := by decide +kernel
theorem dX6_flushAll_353 : decode cX6_flushAll 353 = .ok (.iaload, 1) := by decide +kernel
theorem dX6_flushAll_354 : decode cX6_flushAll 354 = .ok (.isub, 1) := by decide +kernel
theorem dX6_flushAll_355 : decode cX6_flushAll 355 = .ok (.bipush 6, 2) := by decide +kernel
theorem dX6_flushAll_357 : decode cX6_flushAll 357 = .ok (.isub, 1) := by decide +kernel
theorem dX6_flushAll_358 : decode cX6_flushAll 358 = .ok (.iastore, 1) := by decide +kernel
theorem dX6_flushAll_359 : decode cX6_flushAll 359 = .ok (.aload_n 0, 1) := by decide +kernel
theorem dX6_flushAll_360 : decode cX6_flushAll 360 = .ok (.dup, 1) := by decide +kernel
theorem dX6_flushAll_361 : decode cX6_flushAll 361 = .ok (.getfield 115, 3) := by decide +kernel
theorem dX6_flushAll_364 : decode cX6_flushAll 364 = .ok (.iconst 1, 1) := by decide +kernel
theorem dX6_flushAll_365 : decode cX6_flushAll 365 = .ok (.iadd, 1) := by decide +kernel
theorem dX6_flushAll_366 : decode cX6_flushAll 366 = .ok (.putfield 115, 3) := by decide +kernel
theorem dX6_flushAll_369 : decode cX6_flushAll 369 = .ok (.iinc 4 1, 3) := by decide +kernel
theorem dX6_flushAll_372 : decode cX6_flushAll 372 = .ok (.goto (-127), 3) := by decide +kernel
theorem dX6_flushAll_375 : decode cX6_flushAll 375 = .ok (.aload_n 0, 1) := by decide +kernel
theorem dX6_flushAll_376 : decode cX6_flushAll 376 = .ok (.iconst 2, 1) := by decide +kernel
theorem dX6_flushAll_377 : decode cX6_flushAll 377 = .ok (.aload_n 0, 1) := by decide +kernel
theorem dX6_flushAll_378 : decode cX6_flushAll 378 = .ok (.getfield 50, 3) := by decide +kernel
theorem dX6_flushAll_381 : decode cX6_flushAll 381 = .ok (.iconst 2, 1) := by decide +kernel
theorem dX6_flushAll_382 : decode cX6_flushAll 382 = .ok (.isub, 1) := by decide +kernel
theorem dX6_flushAll_383 : decode cX6_flushAll 383 = .ok (.iload_n 1, 1) := by decide +kernel
theorem dX6_flushAll_384 : decode cX6_flushAll 384 = .ok (.iadd, 1) := by decide +kernel
theorem dX6_flushAll_385 : decode cX6_flushAll 385 = .ok (.bipush 62, 2) := by decide +kernel
theorem dX6_flushAll_387 : decode cX6_flushAll 387 = .ok (.irem, 1) := by decide +kernel
theorem dX6_flushAll_388 : decode cX6_flushAll 388 = .ok (.iadd, 1) := by decide +kernel
theorem dX6_flushAll_389 : decode cX6_flushAll 389 = .ok (.putfield 50, 3) := by decide +kernel
theorem dX6_flushAll_392 : decode cX6_flushAll 392 = .ok (.aload_n 0, 1) := by decide +kernel
theorem dX6_flushAll_393 : decode cX6_flushAll 393 = .ok (.dup, 1) := by decide +kernel
theorem dX6_flushAll_394 : decode cX6_flushAll 394 = .ok (.getfield 53, 3) := by decide +kernel
theorem dX6_flushAll_397 : decode cX6_flushAll 397 = .ok (.iload_n 1, 1) := by decide +kernel
theorem dX6_flushAll_398 : decode cX6_flushAll 398 = .ok (.iadd, 1) := by decide +kernel
theorem dX6_flushAll_399 : decode cX6_flushAll 399 = .ok (.putfield 53, 3) := by decide +kernel
theorem dX6_flushAll_402 : decode cX6_flushAll 402 = .ok (.aload_n 0, 1) := by decide +kernel
theorem dX6_flushAll_403 : decode cX6_flushAll 403 = .ok (.dup, 1) := by decide +kernel
theorem dX6_flushAll_404 : decode cX6_flushAll 404 = .ok (.getfield 132, 3) := by decide +kernel
theorem dX6_flushAll_407 : decode cX6_flushAll 407 = .ok (.iload_n 1, 1) := by decide +kernel
theorem dX6_flushAll_408 : decode cX6_flushAll 408 = .ok (.ifCond .le 7, 3) := by decide +kernel
theorem dX6_flushAll_411 : decode cX6_flushAll 411 = .ok (.iconst 1, 1) := by decide +kernel
theorem dX6_flushAll_412 : decode cX6_flushAll 412 = .ok (.goto 4, 3) := by decide +kernel
theorem dX6_flushAll_415 : decode cX6_flushAll 415 = .ok (.iconst 0, 1) := by decide +kernel
theorem dX6_flushAll_416 : decode cX6_flushAll 416 = .ok (.iadd, 1) := by decide +kernel
theorem dX6_flushAll_417 : decode cX6_flushAll 417 = .ok (.putfield 132, 3) := by decide +kernel
theorem dX6_flushAll_420 : decode cX6_flushAll 420 = .ok (.aload_n 0, 1) := by decide +kernel
theorem dX6_flushAll_421 : decode cX6_flushAll 421 = .ok (.iconst 0, 1) := by decide +kernel
theorem dX6_flushAll_422 : decode cX6_flushAll 422 = .ok (.putfield 99, 3) := by decide +kernel
theorem dX6_flushAll_425 : decode cX6_flushAll 425 = .ok (.aload_n 0, 1) := by decide +kernel
theorem dX6_flushAll_426 : decode cX6_flushAll 426 = .ok (.iconst 0, 1) := by decide +kernel
theorem dX6_flushAll_427 : decode cX6_flushAll 427 = .ok (.putfield 102, 3) := by decide +kernel
theorem dX6_flushAll_430 : decode cX6_flushAll 430 = .ok (.aload_n 0, 1) := by decide +kernel
theorem dX6_flushAll_431 : decode cX6_flushAll 431 = .ok (.iconst 0, 1) := by decide +kernel
theorem dX6_flushAll_432 : decode cX6_flushAll 432 = .ok (.putfield 105, 3) := by decide +kernel
theorem dX6_flushAll_435 : decode cX6_flushAll 435 = .ok (.iload_n 1, 1) := by decide +kernel
theorem dX6_flushAll_436 : decode cX6_flushAll 436 = .ok (.ireturn, 1) := by decide +kernel
theorem dX6_flush_0 : decode cX6_flush 0 = .ok (.aload_n 0, 1) := by decide +kernel
theorem dX6_flush_1 : decode cX6_flush 1 = .ok (.getfield 17, 3) := by decide +kernel
theorem dX6_flush_4 : decode cX6_flush 4 = .ok (.ifCond .eq 10, 3) := by decide +kernel
theorem dX6_flush_7 : decode cX6_flush 7 = .ok (.aload_n 0, 1) := by decide +kernel
theorem dX6_flush_8 : decode cX6_flush 8 = .ok (.invokevirtual 122, 3) := by decide +kernel
theorem dX6_flush_11 : decode cX6_flush 11 = .ok (.goto 5, 3) := by decide +kernel
theorem dX6_flush_14 : decode cX6_flush 14 = .ok (.bipush (-2), 2) := by decide +kernel
theorem dX6_flush_16 : decode cX6_flush 16 = .ok (.ireturn, 1) := by decide +kernel
theorem dX6_tick_0 : decode cX6_tick 0 = .ok (.iload_n 1, 1) := by decide +kernel
theorem dX6_tick_1 : decode cX6_tick 1 = .ok (.iconst 1, 1) := by decide +kernel
theorem dX6_tick_2 : decode cX6_tick 2 = .ok (.if_icmp .lt 10, 3) := by decide +kernel
theorem dX6_tick_5 : decode cX6_tick 5 = .ok (.iload_n 1, 1) := by decide +kernel
theorem dX6_tick_6 : decode cX6_tick 6 = .ok (.sipush 1000, 3) := by decide +kernel
theorem dX6_tick_9 : decode cX6_tick 9 = .ok (.if_icmp .le 17, 3) := by decide +kernel
theorem dX6_tick_12 : decode cX6_tick 12 = .ok (.aload_n 0, 1) := by decide +kernel
theorem dX6_tick_13 : decode cX6_tick 13 = .ok (.getfield 17, 3) := by decide +kernel
theorem dX6_tick_16 : decode cX6_tick 16 = .ok (.ifCond .eq 7, 3) := by decide +kernel
theorem dX6_tick_19 : decode cX6_tick 19 = .ok (.iconst (-1), 1) := by decide +kernel
theorem dX6_tick_20 : decode cX6_tick 20 = .ok (.goto 5, 3) := by decide +kernel
theorem dX6_tick_23 : decode cX6_tick 23 = .ok (.bipush (-2), 2) := by decide +kernel
theorem dX6_tick_25 : decode cX6_tick 25 = .ok (.ireturn, 1) := by decide +kernel
theorem dX6_tick_26 : decode cX6_tick 26 = .ok (.aload_n 0, 1) := by decide +kernel
theorem dX6_tick_27 : decode cX6_tick 27 = .ok (.getfield 17, 3) := by decide +kernel
theorem dX6_tick_30 : decode cX6_tick 30 = .ok (.ifCond .ne 6, 3) := by decide +kernel
theorem dX6_tick_33 : decode cX6_tick 33 = .ok (.bipush (-2), 2) := by decide +kernel
theorem dX6_tick_35 : decode cX6_tick 35 = .ok (.ireturn, 1) := by decide +kernel
theorem dX6_tick_36 : decode cX6_tick 36 = .ok (.iconst 0, 1) := by decide +kernel
theorem dX6_tick_37 : decode cX6_tick 37 = .ok (.istore_n 2, 1) := by decide +kernel
theorem dX6_tick_38 : decode cX6_tick 38 = .ok (.iconst 0, 1) := by decide +kernel
theorem dX6_tick_39 : decode cX6_tick 39 = .ok (.istore_n 3, 1) := by decide +kernel
theorem dX6_tick_40 : decode cX6_tick 40 = .ok (.iload_n 3, 1) := by decide +kernel
theorem dX6_tick_41 : decode cX6_tick 41 = .ok (.iload_n 1, 1) := by decide +kernel
theorem dX6_tick_42 : decode cX6_tick 42 = .ok (.if_icmp .ge 52, 3) := by decide +kernel
theorem dX6_tick_45 : decode cX6_tick 45 = .ok (.aload_n 0, 1) := by decide +kernel
theorem dX6_tick_46 : decode cX6_tick 46 = .ok (.getfield 17, 3) := by decide +kernel
theorem dX6_tick_49 : decode cX6_tick 49 = .ok (.ifCond .eq 45, 3) := by decide +kernel
theorem dX6_tick_52 : decode cX6_tick 52 = .ok (.aload_n 0, 1) := by decide +kernel
theorem dX6_tick_53 : decode cX6_tick 53 = .ok (.getfield 102, 3) := by decide +kernel
theorem dX6_tick_56 : decode cX6_tick 56 = .ok (.ifCond .le 32, 3) := by decide +kernel
theorem dX6_tick_59 : decode cX6_tick 59 = .ok (.aload_n 0, 1) := by decide +kernel
theorem dX6_tick_60 : decode cX6_tick 60 = .ok (.dup, 1) := by decide +kernel
theorem dX6_tick_61 : decode cX6_tick 61 = .ok (.getfield 105, 3) := by decide +kernel
theorem dX6_tick_64 : decode cX6_tick 64 = .ok (.iconst 1, 1) := by decide +kernel
theorem dX6_tick_65 : decode cX6_tick 65 = .ok (.iadd, 1) := by decide +kernel
theorem dX6_tick_66 : decode cX6_tick 66 = .ok (.putfield 105, 3) := by decide +kernel
theorem dX6_tick_69 : decode cX6_tick 69 = .ok (.aload_n 0, 1) := by decide +kernel
theorem dX6_tick_70 : decode cX6_tick 70 = .ok (.getfield 105, 3) := by decide +kernel
theorem dX6_tick_73 : decode cX6_tick 73 = .ok (.aload_n 0, 1) := by decide +kernel
theorem dX6_tick_74 : decode cX6_tick 74 = .ok (.getfield 25, 3) := by decide +kernel
theorem dX6_tick_77 : decode cX6_tick 77 = .ok (.if_icmp .lt 11, 3) := by decide +kernel
theorem dX6_tick_80 : decode cX6_tick 80 = .ok (.aload_n 0, 1) := by decide +kernel
theorem dX6_tick_81 : decode cX6_tick 81 = .ok (.invokevirtual 122, 3) := by decide +kernel
theorem dX6_tick_84 : decode cX6_tick 84 = .ok (.pop, 1) := by decide +kernel
theorem dX6_tick_85 : decode cX6_tick 85 = .ok (.iinc 2 1, 3) := by decide +kernel
theorem dX6_tick_88 : decode cX6_tick 88 = .ok (.iinc 3 1, 3) := by decide +kernel
theorem dX6_tick_91 : decode cX6_tick 91 = .ok (.goto (-51), 3) := by decide +kernel
theorem dX6_tick_94 : decode cX6_tick 94 = .ok (.iload_n 2, 1) := by decide +kernel
theorem dX6_tick_95 : decode cX6_tick 95 = .ok (.ireturn, 1) := by decide +kernel
theorem dX6_checkpoint_0 : decode cX6_checkpoint 0 = .ok (.aload_n 0, 1) := by decide +kernel
theorem dX6_checkpoint_1 : decode cX6_checkpoint 1 = .ok (.getfield 17, 3) := by decide +kernel
theorem dX6_checkpoint_4 : decode cX6_checkpoint 4 = .ok (.ifCond .ne 6, 3) := by decide +kernel
theorem dX6_checkpoint_7 : decode cX6_checkpoint 7 = .ok (.bipush (-2), 2) := by decide +kernel
theorem dX6_checkpoint_9 : decode cX6_checkpoint 9 = .ok (.ireturn, 1) := by decide +kernel
theorem dX6_checkpoint_10 : decode cX6_checkpoint 10 = .ok (.iload_n 1, 1) := by decide +kernel
theorem dX6_checkpoint_11 : decode cX6_checkpoint 11 = .ok (.aload_n 0, 1) := by decide +kernel
theorem dX6_checkpoint_12 : decode cX6_checkpoint 12 = .ok (.getfield 44, 3) := by decide +kernel
theorem dX6_checkpoint_15 : decode cX6_checkpoint 15 = .ok (.if_icmp .lt 13, 3) := by decide +kernel
theorem dX6_checkpoint_18 : decode cX6_checkpoint 18 = .ok (.iload_n 1, 1) := by decide +kernel
theorem dX6_checkpoint_19 : decode cX6_checkpoint 19 = .ok (.aload_n 0, 1) := by decide +kernel
theorem dX6_checkpoint_20 : decode cX6_checkpoint 20 = .ok (.getfield 115, 3) := by decide +kernel
theorem dX6_checkpoint_23 : decode cX6_checkpoint 23 = .ok (.iconst 1, 1) := by decide +kernel
theorem dX6_checkpoint_24 : decode cX6_checkpoint 24 = .ok (.iadd, 1) := by decide +kernel
theorem dX6_checkpoint_25 : decode cX6_checkpoint 25 = .ok (.if_icmp .le 5, 3) := by decide +kernel
theorem dX6_checkpoint_28 : decode cX6_checkpoint 28 = .ok (.iconst (-1), 1) := by decide +kernel
theorem dX6_checkpoint_29 : decode cX6_checkpoint 29 = .ok (.ireturn, 1) := by decide +kernel
theorem dX6_checkpoint_30 : decode cX6_checkpoint 30 = .ok (.aload_n 0, 1) := by decide +kernel
theorem dX6_checkpoint_31 : decode cX6_checkpoint 31 = .ok (.getfield 50, 3) := by decide +kernel
theorem dX6_checkpoint_34 : decode cX6_checkpoint 34 = .ok (.istore_n 2, 1) := by decide +kernel
theorem dX6_checkpoint_35 : decode cX6_checkpoint 35 = .ok (.aload_n 0, 1) := by decide +kernel
theorem dX6_checkpoint_36 : decode cX6_checkpoint 36 = .ok (.getfield 53, 3) := by decide +kernel
theorem dX6_checkpoint_39 : decode cX6_checkpoint 39 = .ok (.istore_n 3, 1) := by decide +kernel
theorem dX6_checkpoint_40 : decode cX6_checkpoint 40 = .ok (.iload_n 1, 1) := by decide +kernel
theorem dX6_checkpoint_41 : decode cX6_checkpoint 41 = .ok (.istore 4, 2) := by decide +kernel
theorem dX6_checkpoint_43 : decode cX6_checkpoint 43 = .ok (.iload_n 1, 1) := by decide +kernel
theorem dX6_checkpoint_44 : decode cX6_checkpoint 44 = .ok (.aload_n 0, 1) := by decide +kernel
theorem dX6_checkpoint_45 : decode cX6_checkpoint 45 = .ok (.getfield 115, 3) := by decide +kernel
theorem dX6_checkpoint_48 : decode cX6_checkpoint 48 = .ok (.if_icmp .gt 57, 3) := by decide +kernel
theorem dX6_checkpoint_51 : decode cX6_checkpoint 51 = .ok (.aload_n 0, 1) := by decide +kernel
theorem dX6_checkpoint_52 : decode cX6_checkpoint 52 = .ok (.getfield 56, 3) := by decide +kernel
theorem dX6_checkpoint_55 : decode cX6_checkpoint 55 = .ok (.iload_n 1, 1) := by decide +kernel
theorem dX6_checkpoint_56 : decode cX6_checkpoint 56 = .ok (.aload_n 0, 1) := by decide +kernel
theorem dX6_checkpoint_57 : decode cX6_checkpoint 57 = .ok (.getfield 44, 3) := by decide +kernel
theorem dX6_checkpoint_60 : decode cX6_checkpoint 60 = .ok (.isub, 1) := by decide +kernel
theorem dX6_checkpoint_61 : decode cX6_checkpoint 61 = .ok (.iaload, 1) := by decide +kernel
theorem dX6_checkpoint_62 : decode cX6_checkpoint 62 = .ok (.istore_n 2, 1) := by decide +kernel
theorem dX6_checkpoint_63 : decode cX6_checkpoint 63 = .ok (.aload_n 0, 1) := by decide +kernel
theorem dX6_checkpoint_64 : decode cX6_checkpoint 64 = .ok (.bipush 64, 2) := by decide +kernel
theorem dX6_checkpoint_66 : decode cX6_checkpoint 66 = .ok (.iload_n 2, 1) := by decide +kernel
theorem dX6_checkpoint_67 : decode cX6_checkpoint 67 = .ok (.imul, 1) := by decide +kernel
theorem dX6_checkpoint_68 : decode cX6_checkpoint 68 = .ok (.invokevirtual 135, 3) := by decide +kernel
theorem dX6_checkpoint_71 : decode cX6_checkpoint 71 = .ok (.istore_n 3, 1) := by decide +kernel
theorem dX6_checkpoint_72 : decode cX6_checkpoint 72 = .ok (.iload 4, 2) := by decide +kernel
theorem dX6_checkpoint_74 : decode cX6_checkpoint 74 = .ok (.aload_n 0, 1) := by decide +kernel
theorem dX6_checkpoint_75 : decode cX6_checkpoint 75 = .ok (.getfield 44, 3) := by decide +kernel
theorem dX6_checkpoint_78 : decode cX6_checkpoint 78 = .ok (.if_icmp .le 27, 3) := by decide +kernel
theorem dX6_checkpoint_81 : decode cX6_checkpoint 81 = .ok (.aload_n 0, 1) := by decide +kernel
theorem dX6_checkpoint_82 : decode cX6_checkpoint 82 = .ok (.getfield 56, 3) := by decide +kernel
theorem dX6_checkpoint_85 : decode cX6_checkpoint 85 = .ok (.iload 4, 2) := by decide +kernel
theorem dX6_checkpoint_87 : decode cX6_checkpoint 87 = .ok (.iconst 1, 1) := by decide +kernel
theorem dX6_checkpoint_88 : decode cX6_checkpoint 88 = .ok (.isub, 1) := by decide +kernel
theorem dX6_checkpoint_89 : decode cX6_checkpoint 89 = .ok (.aload_n 0, 1) := by decide +kernel
theorem dX6_checkpoint_90 : decode cX6_checkpoint 90 = .ok (.getfield 44, 3) := by decide +kernel
theorem dX6_checkpoint_93 : decode cX6_checkpoint 93 = .ok (.isub, 1) := by decide +kernel
theorem dX6_checkpoint_94 : decode cX6_checkpoint 94 = .ok (.iaload, 1) := by decide +kernel
theorem dX6_checkpoint_95 : decode cX6_checkpoint 95 = .ok (.iload_n 2, 1) := by decide +kernel
theorem dX6_checkpoint_96 : decode cX6_checkpoint 96 = .ok (.if_icmp .ne 9, 3) := by decide +kernel
theorem dX6_checkpoint_99 : decode cX6_checkpoint 99 = .ok (.iinc 4 (-1), 3) := by decide +kernel
theorem dX6_checkpoint_102 : decode cX6_checkpoint 102 = .ok (.goto (-30), 3) := by decide +kernel
theorem dX6_checkpoint_105 : decode cX6_checkpoint 105 = .ok (.aload_n 0, 1) := by decide +kernel
theorem dX6_checkpoint_106 : decode cX6_checkpoint 106 = .ok (.getfield 38, 3) := by decide +kernel
theorem dX6_checkpoint_109 : decode cX6_checkpoint 109 = .ok (.istore 5, 2) := by decide +kernel
theorem dX6_checkpoint_111 : decode cX6_checkpoint 111 = .ok (.aload_n 0, 1) := by decide +kernel
theorem dX6_checkpoint_112 : decode cX6_checkpoint 112 = .ok (.getfield 41, 3) := by decide +kernel
theorem dX6_checkpoint_115 : decode cX6_checkpoint 115 = .ok (.istore 6, 2) := by decide +kernel
theorem dX6_checkpoint_117 : decode cX6_checkpoint 117 = .ok (.aload_n 0, 1) := by decide +kernel
theorem dX6_checkpoint_118 : decode cX6_checkpoint 118 = .ok (.getfield 44, 3) := by decide +kernel
theorem dX6_checkpoint_121 : decode cX6_checkpoint 121 = .ok (.istore 7, 2) := by decide +kernel
theorem dX6_checkpoint_123 : decode cX6_checkpoint 123 = .ok (.aload_n 0, 1) := by decide +kernel
theorem dX6_checkpoint_124 : decode cX6_checkpoint 124 = .ok (.getfield 47, 3) := by decide +kernel
theorem dX6_checkpoint_127 : decode cX6_checkpoint 127 = .ok (.istore 8, 2) := by decide +kernel
theorem dX6_checkpoint_129 : decode cX6_checkpoint 129 = .ok (.aload_n 0, 1) := by decide +kernel
theorem dX6_checkpoint_130 : decode cX6_checkpoint 130 = .ok (.dup, 1) := by decide +kernel
theorem dX6_checkpoint_131 : decode cX6_checkpoint 131 = .ok (.getfield 38, 3) := by decide +kernel
theorem dX6_checkpoint_134 : decode cX6_checkpoint 134 = .ok (.iconst 1, 1) := by decide +kernel
theorem dX6_checkpoint_135 : decode cX6_checkpoint 135 = .ok (.iadd, 1) := by decide +kernel
theorem dX6_checkpoint_136 : decode cX6_checkpoint 136 = .ok (.putfield 38, 3) := by decide +kernel
theorem dX6_checkpoint_139 : decode cX6_checkpoint 139 = .ok (.aload_n 0, 1) := by decide +kernel
theorem dX6_checkpoint_140 : decode cX6_checkpoint 140 = .ok (.iload_n 3, 1) := by decide +kernel
theorem dX6_checkpoint_141 : decode cX6_checkpoint 141 = .ok (.putfield 41, 3) := by decide +kernel
theorem dX6_checkpoint_144 : decode cX6_checkpoint 144 = .ok (.aload_n 0, 1) := by decide +kernel
theorem dX6_checkpoint_145 : decode cX6_checkpoint 145 = .ok (.iload 4, 2) := by decide +kernel
theorem dX6_checkpoint_147 : decode cX6_checkpoint 147 = .ok (.putfield 44, 3) := by decide +kernel
theorem dX6_checkpoint_150 : decode cX6_checkpoint 150 = .ok (.aload_n 0, 1) := by decide +kernel
theorem dX6_checkpoint_151 : decode cX6_checkpoint 151 = .ok (.iload_n 2, 1) := by decide +kernel
theorem dX6_checkpoint_152 : decode cX6_checkpoint 152 = .ok (.putfield 47, 3) := by decide +kernel
theorem dX6_checkpoint_155 : decode cX6_checkpoint 155 = .ok (.aload_n 0, 1) := by decide +kernel
theorem dX6_checkpoint_156 : decode cX6_checkpoint 156 = .ok (.invokevirtual 71, 3) := by decide +kernel
theorem dX6_checkpoint_159 : decode cX6_checkpoint 159 = .ok (.aload_n 0, 1) := by decide +kernel
theorem dX6_checkpoint_160 : decode cX6_checkpoint 160 = .ok (.iconst 1, 1) := by decide +kernel
theorem dX6_checkpoint_161 : decode cX6_checkpoint 161 = .ok (.aload_n 0, 1) := by decide +kernel
theorem dX6_checkpoint_162 : decode cX6_checkpoint 162 = .ok (.getfield 139, 3) := by decide +kernel
theorem dX6_checkpoint_165 : decode cX6_checkpoint 165 = .ok (.isub, 1) := by decide +kernel
theorem dX6_checkpoint_166 : decode cX6_checkpoint 166 = .ok (.invokevirtual 128, 3) := by decide +kernel
theorem dX6_checkpoint_169 : decode cX6_checkpoint 169 = .ok (.ifCond .ne 30, 3) := by decide +kernel
theorem dX6_checkpoint_172 : decode cX6_checkpoint 172 = .ok (.aload_n 0, 1) := by decide +kernel
theorem dX6_checkpoint_173 : decode cX6_checkpoint 173 = .ok (.iload 5, 2) := by decide +kernel
theorem dX6_checkpoint_175 : decode cX6_checkpoint 175 = .ok (.putfield 38, 3) := by decide +kernel
theorem dX6_checkpoint_178 : decode cX6_checkpoint 178 = .ok (.aload_n 0, 1) := by decide +kernel
theorem dX6_checkpoint_179 : decode cX6_checkpoint 179 = .ok (.iload 6, 2) := by decide +kernel
theorem dX6_checkpoint_181 : decode cX6_checkpoint 181 = .ok (.putfield 41, 3) := by decide +kernel
theorem dX6_checkpoint_184 : decode cX6_checkpoint 184 = .ok (.aload_n 0, 1) := by decide +kernel
theorem dX6_checkpoint_185 : decode cX6_checkpoint 185 = .ok (.iload 7, 2) := by decide +kernel
theorem dX6_checkpoint_187 : decode cX6_checkpoint 187 = .ok (.putfield 44, 3) := by decide +kernel
theorem dX6_checkpoint_190 : decode cX6_checkpoint 190 = .ok (.aload_n 0, 1) := by decide +kernel
theorem dX6_checkpoint_191 : decode cX6_checkpoint 191 = .ok (.iload 8, 2) := by decide +kernel
theorem dX6_checkpoint_193 : decode cX6_checkpoint 193 = .ok (.putfield 47, 3) := by decide +kernel
theorem dX6_checkpoint_196 : decode cX6_checkpoint 196 = .ok (.bipush (-2), 2) := by decide +kernel
theorem dX6_checkpoint_198 : decode cX6_checkpoint 198 = .ok (.ireturn, 1) := by decide +kernel
theorem dX6_checkpoint_199 : decode cX6_checkpoint 199 = .ok (.aload_n 0, 1) := by decide +kernel
theorem dX6_checkpoint_200 : decode cX6_checkpoint 200 = .ok (.iconst 1, 1) := by decide +kernel
theorem dX6_checkpoint_201 : decode cX6_checkpoint 201 = .ok (.aload_n 0, 1) := by decide +kernel
theorem dX6_checkpoint_202 : decode cX6_checkpoint 202 = .ok (.getfield 139, 3) := by decide +kernel
theorem dX6_checkpoint_205 : decode cX6_checkpoint 205 = .ok (.isub, 1) := by decide +kernel
theorem dX6_checkpoint_206 : decode cX6_checkpoint 206 = .ok (.putfield 139, 3) := by decide +kernel
theorem dX6_checkpoint_209 : decode cX6_checkpoint 209 = .ok (.iload 4, 2) := by decide +kernel
theorem dX6_checkpoint_211 : decode cX6_checkpoint 211 = .ok (.iload 7, 2) := by decide +kernel
theorem dX6_checkpoint_213 : decode cX6_checkpoint 213 = .ok (.isub, 1) := by decide +kernel
theorem dX6_checkpoint_214 : decode cX6_checkpoint 214 = .ok (.istore 9, 2) := by decide +kernel
theorem dX6_checkpoint_216 : decode cX6_checkpoint 216 = .ok (.iconst 0, 1) := by decide +kernel
theorem dX6_checkpoint_217 : decode cX6_checkpoint 217 = .ok (.istore 10, 2) := by decide +kernel
theorem dX6_checkpoint_219 : decode cX6_checkpoint 219 = .ok (.iload 10, 2) := by decide +kernel
theorem dX6_checkpoint_221 : decode cX6_checkpoint 221 = .ok (.aload_n 0, 1) := by decide +kernel
theorem dX6_checkpoint_222 : decode cX6_checkpoint 222 = .ok (.getfield 115, 3) := by decide +kernel
theorem dX6_checkpoint_225 : decode cX6_checkpoint 225 = .ok (.iload 4, 2) := by decide +kernel
theorem dX6_checkpoint_227 : decode cX6_checkpoint 227 = .ok (.isub, 1) := by decide +kernel
theorem dX6_checkpoint_228 : decode cX6_checkpoint 228 = .ok (.if_icmp .gt 60, 3) := by decide +kernel
theorem dX6_checkpoint_231 : decode cX6_checkpoint 231 = .ok (.aload_n 0, 1) := by decide +kernel
theorem dX6_checkpoint_232 : decode cX6_checkpoint 232 = .ok (.getfield 56, 3) := by decide +kernel
theorem dX6_checkpoint_235 : decode cX6_checkpoint 235 = .ok (.iload 10, 2) := by decide +kernel
theorem dX6_checkpoint_237 : decode cX6_checkpoint 237 = .ok (.aload_n 0, 1) := by decide +kernel
theorem dX6_checkpoint_238 : decode cX6_checkpoint 238 = .ok (.getfield 56, 3) := by decide +kernel
theorem dX6_checkpoint_241 : decode cX6_checkpoint 241 = .ok (.iload 10, 2) := by decide +kernel
theorem dX6_checkpoint_243 : decode cX6_checkpoint 243 = .ok (.iload 9, 2) := by decide +kernel
theorem dX6_checkpoint_245 : decode cX6_checkpoint 245 = .ok (.iadd, 1) := by decide +kernel
theorem dX6_checkpoint_246 : decode cX6_checkpoint 246 = .ok (.iaload, 1) := by decide +kernel
theorem dX6_checkpoint_247 : decode cX6_checkpoint 247 = .ok (.iastore, 1) := by decide +kernel
theorem dX6_checkpoint_248 : decode cX6_checkpoint 248 = .ok (.aload_n 0, 1) := by decide +kernel
theorem dX6_checkpoint_249 : decode cX6_checkpoint 249 = .ok (.getfield 59, 3) := by decide +kernel
theorem dX6_checkpoint_252 : decode cX6_checkpoint 252 = .ok (.iload 10, 2) := by decide +kernel
theorem dX6_checkpoint_254 : decode cX6_checkpoint 254 = .ok (.aload_n 0, 1) := by decide +kernel
theorem dX6_checkpoint_255 : decode cX6_checkpoint 255 = .ok (.getfield 59, 3) := by decide +kernel
theorem dX6_checkpoint_258 : decode cX6_checkpoint 258 = .ok (.iload 10, 2) := by decide +kernel
theorem dX6_checkpoint_260 : decode cX6_checkpoint 260 = .ok (.iload 9, 2) := by decide +kernel
theorem dX6_checkpoint_262 : decode cX6_checkpoint 262 = .ok (.iadd, 1) := by decide +kernel
theorem dX6_checkpoint_263 : decode cX6_checkpoint 263 = .ok (.iaload, 1) := by decide +kernel
theorem dX6_checkpoint_264 : decode cX6_checkpoint 264 = .ok (.iastore, 1) := by decide +kernel
theorem dX6_checkpoint_265 : decode cX6_checkpoint 265 = .ok (.aload_n 0, 1) := by decide +kernel
theorem dX6_checkpoint_266 : decode cX6_checkpoint 266 = .ok (.getfield 62, 3) := by decide +kernel
theorem dX6_checkpoint_269 : decode cX6_checkpoint 269 = .ok (.iload 10, 2) := by decide +kernel
theorem dX6_checkpoint_271 : decode cX6_checkpoint 271 = .ok (.aload_n 0, 1) := by decide +kernel
theorem dX6_checkpoint_272 : decode cX6_checkpoint 272 = .ok (.getfield 62, 3) := by decide +kernel
theorem dX6_checkpoint_275 : decode cX6_checkpoint 275 = .ok (.iload 10, 2) := by decide +kernel
theorem dX6_checkpoint_277 : decode cX6_checkpoint 277 = .ok (.iload 9, 2) := by decide +kernel
theorem dX6_checkpoint_279 : decode cX6_checkpoint 279 = .ok (.iadd, 1) := by decide +kernel
theorem dX6_checkpoint_280 : decode cX6_checkpoint 280 = .ok (.iaload, 1) := by decide +kernel
theorem dX6_checkpoint_281 : decode cX6_checkpoint 281 = .ok (.iastore, 1) := by decide +kernel
theorem dX6_checkpoint_282 : decode cX6_checkpoint 282 = .ok (.iinc 10 1, 3) := by decide +kernel
theorem dX6_checkpoint_285 : decode cX6_checkpoint 285 = .ok (.goto (-66), 3) := by decide +kernel
theorem dX6_checkpoint_288 : decode cX6_checkpoint 288 = .ok (.iload_n 3, 1) := by decide +kernel
theorem dX6_checkpoint_289 : decode cX6_checkpoint 289 = .ok (.iload 6, 2) := by decide +kernel
theorem dX6_checkpoint_291 : decode cX6_checkpoint 291 = .ok (.isub, 1) := by decide +kernel
theorem dX6_checkpoint_292 : decode cX6_checkpoint 292 = .ok (.ireturn, 1) := by decide +kernel
theorem dX6_cut_0 : decode cX6_cut 0 = .ok (.aload_n 0, 1) := by decide +kernel
theorem dX6_cut_1 : decode cX6_cut 1 = .ok (.getfield 17, 3) := by decide +kernel
theorem dX6_cut_4 : decode cX6_cut 4 = .ok (.ifCond .ne 5, 3) := by decide +kernel
theorem dX6_cut_7 : decode cX6_cut 7 = .ok (.iconst 0, 1) := by decide +kernel
theorem dX6_cut_8 : decode cX6_cut 8 = .ok (.ireturn, 1) := by decide +kernel
theorem dX6_cut_9 : decode cX6_cut 9 = .ok (.aload_n 0, 1) := by decide +kernel
theorem dX6_cut_10 : decode cX6_cut 10 = .ok (.invokevirtual 93, 3) := by decide +kernel
theorem dX6_cut_13 : decode cX6_cut 13 = .ok (.iconst 1, 1) := by decide +kernel
theorem dX6_cut_14 : decode cX6_cut 14 = .ok (.ireturn, 1) := by decide +kernel
theorem dX6_arm_0 : decode cX6_arm 0 = .ok (.aload_n 0, 1) := by decide +kernel
theorem dX6_arm_1 : decode cX6_arm 1 = .ok (.getfield 17, 3) := by decide +kernel
theorem dX6_arm_4 : decode cX6_arm 4 = .ok (.ifCond .eq 23, 3) := by decide +kernel
theorem dX6_arm_7 : decode cX6_arm 7 = .ok (.iload_n 1, 1) := by decide +kernel
theorem dX6_arm_8 : decode cX6_arm 8 = .ok (.ifCond .lt 19, 3) := by decide +kernel
theorem dX6_arm_11 : decode cX6_arm 11 = .ok (.iload_n 1, 1) := by decide +kernel
theorem dX6_arm_12 : decode cX6_arm 12 = .ok (.bipush 100, 2) := by decide +kernel
theorem dX6_arm_14 : decode cX6_arm 14 = .ok (.if_icmp .gt 13, 3) := by decide +kernel
theorem dX6_arm_17 : decode cX6_arm 17 = .ok (.iload_n 2, 1) := by decide +kernel
theorem dX6_arm_18 : decode cX6_arm 18 = .ok (.ifCond .lt 9, 3) := by decide +kernel
theorem dX6_arm_21 : decode cX6_arm 21 = .ok (.iload_n 2, 1) := by decide +kernel
theorem dX6_arm_22 : decode cX6_arm 22 = .ok (.bipush 63, 2) := by decide +kernel
theorem dX6_arm_24 : decode cX6_arm 24 = .ok (.if_icmp .le 5, 3) := by decide +kernel
theorem dX6_arm_27 : decode cX6_arm 27 = .ok (.iconst 0, 1) := by decide +kernel
theorem dX6_arm_28 : decode cX6_arm 28 = .ok (.ireturn, 1) := by decide +kernel
theorem dX6_arm_29 : decode cX6_arm 29 = .ok (.aload_n 0, 1) := by decide +kernel
theorem dX6_arm_30 : decode cX6_arm 30 = .ok (.iload_n 1, 1) := by decide +kernel
theorem dX6_arm_31 : decode cX6_arm 31 = .ok (.putfield 21, 3) := by decide +kernel
theorem dX6_arm_34 : decode cX6_arm 34 = .ok (.aload_n 0, 1) := by decide +kernel
theorem dX6_arm_35 : decode cX6_arm 35 = .ok (.iload_n 2, 1) := by decide +kernel
theorem dX6_arm_36 : decode cX6_arm 36 = .ok (.putfield 90, 3) := by decide +kernel
theorem dX6_arm_39 : decode cX6_arm 39 = .ok (.iconst 1, 1) := by decide +kernel
theorem dX6_arm_40 : decode cX6_arm 40 = .ok (.ireturn, 1) := by decide +kernel
theorem dX6_start_0 : decode cX6_start 0 = .ok (.aload_n 0, 1) := by decide +kernel
theorem dX6_start_1 : decode cX6_start 1 = .ok (.getfield 17, 3) := by decide +kernel
theorem dX6_start_4 : decode cX6_start 4 = .ok (.ifCond .eq 5, 3) := by decide +kernel
theorem dX6_start_7 : decode cX6_start 7 = .ok (.iconst (-1), 1) := by decide +kernel
theorem dX6_start_8 : decode cX6_start 8 = .ok (.ireturn, 1) := by decide +kernel
theorem dX6_start_9 : decode cX6_start 9 = .ok (.aload_n 0, 1) := by decide +kernel
theorem dX6_start_10 : decode cX6_start 10 = .ok (.iconst 0, 1) := by decide +kernel
theorem dX6_start_11 : decode cX6_start 11 = .ok (.invokevirtual 164, 3) := by decide +kernel
theorem dX6_first_0 : decode cX6_first 0 = .ok (.aload_n 0, 1) := by decide +kernel
theorem dX6_first_1 : decode cX6_first 1 = .ok (.getfield 17, 3) := by decide +kernel
theorem dX6_first_4 : decode cX6_first 4 = .ok (.ifCond .eq 10, 3) := by decide +kernel
theorem dX6_first_7 : decode cX6_first 7 = .ok (.aload_n 0, 1) := by decide +kernel
theorem dX6_first_8 : decode cX6_first 8 = .ok (.getfield 44, 3) := by decide +kernel
theorem dX6_first_11 : decode cX6_first 11 = .ok (.goto 5, 3) := by decide +kernel
theorem dX6_first_14 : decode cX6_first 14 = .ok (.bipush (-2), 2) := by decide +kernel
theorem dX6_first_16 : decode cX6_first 16 = .ok (.ireturn, 1) := by decide +kernel
theorem dX6_safe_0 : decode cX6_safe 0 = .ok (.aload_n 0, 1) := by decide +kernel
theorem dX6_safe_1 : decode cX6_safe 1 = .ok (.getfield 17, 3) := by decide +kernel
theorem dX6_safe_4 : decode cX6_safe 4 = .ok (.ifCond .eq 10, 3) := by decide +kernel
theorem dX6_safe_7 : decode cX6_safe 7 = .ok (.aload_n 0, 1) := by decide +kernel
theorem dX6_safe_8 : decode cX6_safe 8 = .ok (.getfield 115, 3) := by decide +kernel
theorem dX6_safe_11 : decode cX6_safe 11 = .ok (.goto 5, 3) := by decide +kernel
theorem dX6_safe_14 : decode cX6_safe 14 = .ok (.bipush (-2), 2) := by decide +kernel
theorem dX6_safe_16 : decode cX6_safe 16 = .ok (.ireturn, 1) := by decide +kernel
theorem dX6_size_0 : decode cX6_size 0 = .ok (.aload_n 0, 1) := by decide +kernel
theorem dX6_size_1 : decode cX6_size 1 = .ok (.getfield 17, 3) := by decide +kernel
theorem dX6_size_4 : decode cX6_size 4 = .ok (.ifCond .ne 6, 3) := by decide +kernel
theorem dX6_size_7 : decode cX6_size 7 = .ok (.bipush (-2), 2) := by decide +kernel
theorem dX6_size_9 : decode cX6_size 9 = .ok (.ireturn, 1) := by decide +kernel
theorem dX6_size_10 : decode cX6_size 10 = .ok (.iload_n 1, 1) := by decide +kernel
theorem dX6_size_11 : decode cX6_size 11 = .ok (.aload_n 0, 1) := by decide +kernel
theorem dX6_size_12 : decode cX6_size 12 = .ok (.getfield 44, 3) := by decide +kernel
theorem dX6_size_15 : decode cX6_size 15 = .ok (.if_icmp .lt 25, 3) := by decide +kernel
theorem dX6_size_18 : decode cX6_size 18 = .ok (.iload_n 1, 1) := by decide +kernel
theorem dX6_size_19 : decode cX6_size 19 = .ok (.aload_n 0, 1) := by decide +kernel
theorem dX6_size_20 : decode cX6_size 20 = .ok (.getfield 115, 3) := by decide +kernel
theorem dX6_size_23 : decode cX6_size 23 = .ok (.if_icmp .gt 17, 3) := by decide +kernel
theorem dX6_size_26 : decode cX6_size 26 = .ok (.aload_n 0, 1) := by decide +kernel
theorem dX6_size_27 : decode cX6_size 27 = .ok (.getfield 62, 3) := by decide +kernel
theorem dX6_size_30 : decode cX6_size 30 = .ok (.iload_n 1, 1) := by decide +kernel
theorem dX6_size_31 : decode cX6_size 31 = .ok (.aload_n 0, 1) := by decide +kernel
theorem dX6_size_32 : decode cX6_size 32 = .ok (.getfield 44, 3) := by decide +kernel
theorem dX6_size_35 : decode cX6_size 35 = .ok (.isub, 1) := by decide +kernel
theorem dX6_size_36 : decode cX6_size 36 = .ok (.iaload, 1) := by decide +kernel
theorem dX6_size_37 : decode cX6_size 37 = .ok (.goto 4, 3) := by decide +kernel
theorem dX6_size_40 : decode cX6_size 40 = .ok (.iconst (-1), 1) := by decide +kernel
theorem dX6_size_41 : decode cX6_size 41 = .ok (.ireturn, 1) := by decide +kernel
theorem dX6_at_0 : decode cX6_at 0 = .ok (.aload_n 0, 1) := by decide +kernel
theorem dX6_at_1 : decode cX6_at 1 = .ok (.getfield 17, 3) := by decide +kernel
theorem dX6_at_4 : decode cX6_at 4 = .ok (.ifCond .ne 6, 3) := by decide +kernel
theorem dX6_at_7 : decode cX6_at 7 = .ok (.bipush (-2), 2) := by decide +kernel
theorem dX6_at_9 : decode cX6_at 9 = .ok (.ireturn, 1) := by decide +kernel
theorem dX6_at_10 : decode cX6_at 10 = .ok (.iload_n 2, 1) := by decide +kernel
theorem dX6_at_11 : decode cX6_at 11 = .ok (.ifCond .lt 12, 3) := by decide +kernel
theorem dX6_at_14 : decode cX6_at 14 = .ok (.iload_n 2, 1) := by decide +kernel
theorem dX6_at_15 : decode cX6_at 15 = .ok (.aload_n 0, 1) := by decide +kernel
theorem dX6_at_16 : decode cX6_at 16 = .ok (.iload_n 1, 1) := by decide +kernel
theorem dX6_at_17 : decode cX6_at 17 = .ok (.invokevirtual 183, 3) := by decide +kernel
theorem dX6_at_20 : decode cX6_at 20 = .ok (.if_icmp .lt 5, 3) := by decide +kernel
theorem dX6_at_23 : decode cX6_at 23 = .ok (.iconst (-1), 1) := by decide +kernel
theorem dX6_at_24 : decode cX6_at 24 = .ok (.ireturn, 1) := by decide +kernel
theorem dX6_at_25 : decode cX6_at 25 = .ok (.iload_n 1, 1) := by decide +kernel
theorem dX6_at_26 : decode cX6_at 26 = .ok (.aload_n 0, 1) := by decide +kernel
theorem dX6_at_27 : decode cX6_at 27 = .ok (.getfield 44, 3) := by decide +kernel
theorem dX6_at_30 : decode cX6_at 30 = .ok (.isub, 1) := by decide +kernel
theorem dX6_at_31 : decode cX6_at 31 = .ok (.istore_n 3, 1) := by decide +kernel
theorem dX6_at_32 : decode cX6_at 32 = .ok (.aload_n 0, 1) := by decide +kernel
theorem dX6_at_33 : decode cX6_at 33 = .ok (.getfield 56, 3) := by decide +kernel
theorem dX6_at_36 : decode cX6_at 36 = .ok (.iload_n 3, 1) := by decide +kernel
theorem dX6_at_37 : decode cX6_at 37 = .ok (.iaload, 1) := by decide +kernel
theorem dX6_at_38 : decode cX6_at 38 = .ok (.istore 4, 2) := by decide +kernel
theorem dX6_at_40 : decode cX6_at 40 = .ok (.aload_n 0, 1) := by decide +kernel
theorem dX6_at_41 : decode cX6_at 41 = .ok (.getfield 59, 3) := by decide +kernel
theorem dX6_at_44 : decode cX6_at 44 = .ok (.iload_n 3, 1) := by decide +kernel
theorem dX6_at_45 : decode cX6_at 45 = .ok (.iaload, 1) := by decide +kernel
theorem dX6_at_46 : decode cX6_at 46 = .ok (.bipush 6, 2) := by decide +kernel
theorem dX6_at_48 : decode cX6_at 48 = .ok (.iadd, 1) := by decide +kernel
theorem dX6_at_49 : decode cX6_at 49 = .ok (.iload_n 2, 1) := by decide +kernel
theorem dX6_at_50 : decode cX6_at 50 = .ok (.iadd, 1) := by decide +kernel
theorem dX6_at_51 : decode cX6_at 51 = .ok (.istore 5, 2) := by decide +kernel
theorem dX6_at_53 : decode cX6_at 53 = .ok (.iload 5, 2) := by decide +kernel
theorem dX6_at_55 : decode cX6_at 55 = .ok (.aload_n 0, 1) := by decide +kernel
theorem dX6_at_56 : decode cX6_at 56 = .ok (.getfield 7, 3) := by decide +kernel
theorem dX6_at_59 : decode cX6_at 59 = .ok (.bipush 64, 2) := by decide +kernel
theorem dX6_at_61 : decode cX6_at 61 = .ok (.iload 4, 2) := by decide +kernel
theorem dX6_at_63 : decode cX6_at 63 = .ok (.imul, 1) := by decide +kernel
theorem dX6_at_64 : decode cX6_at 64 = .ok (.iconst 4, 1) := by decide +kernel
theorem dX6_at_65 : decode cX6_at 65 = .ok (.iadd, 1) := by decide +kernel
theorem dX6_at_66 : decode cX6_at 66 = .ok (.baload, 1) := by decide +kernel
theorem dX6_at_67 : decode cX6_at 67 = .ok (.sipush 255, 3) := by decide +kernel
theorem dX6_at_70 : decode cX6_at 70 = .ok (.iand, 1) := by decide +kernel
theorem dX6_at_71 : decode cX6_at 71 = .ok (.if_icmp .lt 34, 3) := by decide +kernel
theorem dX6_at_74 : decode cX6_at 74 = .ok (.iload 5, 2) := by decide +kernel
theorem dX6_at_76 : decode cX6_at 76 = .ok (.aload_n 0, 1) := by decide +kernel
theorem dX6_at_77 : decode cX6_at 77 = .ok (.getfield 7, 3) := by decide +kernel
theorem dX6_at_80 : decode cX6_at 80 = .ok (.bipush 64, 2) := by decide +kernel
theorem dX6_at_82 : decode cX6_at 82 = .ok (.iload 4, 2) := by decide +kernel
theorem dX6_at_84 : decode cX6_at 84 = .ok (.imul, 1) := by decide +kernel
theorem dX6_at_85 : decode cX6_at 85 = .ok (.iconst 4, 1) := by decide +kernel
theorem dX6_at_86 : decode cX6_at 86 = .ok (.iadd, 1) := by decide +kernel
theorem dX6_at_87 : decode cX6_at 87 = .ok (.baload, 1) := by decide +kernel
theorem dX6_at_88 : decode cX6_at 88 = .ok (.sipush 255, 3) := by decide +kernel
theorem dX6_at_91 : decode cX6_at 91 = .ok (.iand, 1) := by decide +kernel
theorem dX6_at_92 : decode cX6_at 92 = .ok (.isub, 1) := by decide +kernel
theorem dX6_at_93 : decode cX6_at 93 = .ok (.istore 5, 2) := by decide +kernel
theorem dX6_at_95 : decode cX6_at 95 = .ok (.iload 4, 2) := by decide +kernel
theorem dX6_at_97 : decode cX6_at 97 = .ok (.invokestatic 176, 3) := by decide +kernel
theorem dX6_at_100 : decode cX6_at 100 = .ok (.istore 4, 2) := by decide +kernel
theorem dX6_at_102 : decode cX6_at 102 = .ok (.goto (-49), 3) := by decide +kernel
theorem dX6_at_105 : decode cX6_at 105 = .ok (.aload_n 0, 1) := by decide +kernel
theorem dX6_at_106 : decode cX6_at 106 = .ok (.getfield 7, 3) := by decide +kernel
theorem dX6_at_109 : decode cX6_at 109 = .ok (.bipush 64, 2) := by decide +kernel
theorem dX6_at_111 : decode cX6_at 111 = .ok (.iload 4, 2) := by decide +kernel
theorem dX6_at_113 : decode cX6_at 113 = .ok (.imul, 1) := by decide +kernel
theorem dX6_at_114 : decode cX6_at 114 = .ok (.bipush 16, 2) := by decide +kernel
theorem dX6_at_116 : decode cX6_at 116 = .ok (.iadd, 1) := by decide +kernel
theorem dX6_at_117 : decode cX6_at 117 = .ok (.iload 5, 2) := by decide +kernel
theorem dX6_at_119 : decode cX6_at 119 = .ok (.iadd, 1) := by decide +kernel
theorem dX6_at_120 : decode cX6_at 120 = .ok (.baload, 1) := by decide +kernel
theorem dX6_at_121 : decode cX6_at 121 = .ok (.sipush 255, 3) := by decide +kernel
theorem dX6_at_124 : decode cX6_at 124 = .ok (.iand, 1) := by decide +kernel
theorem dX6_at_125 : decode cX6_at 125 = .ok (.ireturn, 1) := by decide +kernel
theorem dX6_isByte_0 : decode cX6_isByte 0 = .ok (.iload_n 0, 1) := by decide +kernel
theorem dX6_isByte_1 : decode cX6_isByte 1 = .ok (.ifCond .lt 23, 3) := by decide +kernel
theorem dX6_isByte_4 : decode cX6_isByte 4 = .ok (.iload_n 0, 1) := by decide +kernel
theorem dX6_isByte_5 : decode cX6_isByte 5 = .ok (.bipush 64, 2) := by decide +kernel
theorem dX6_isByte_7 : decode cX6_isByte 7 = .ok (.if_icmp .ge 17, 3) := by decide +kernel
theorem dX6_isByte_10 : decode cX6_isByte 10 = .ok (.iload_n 1, 1) := by decide +kernel
theorem dX6_isByte_11 : decode cX6_isByte 11 = .ok (.ifCond .lt 13, 3) := by decide +kernel
theorem dX6_isByte_14 : decode cX6_isByte 14 = .ok (.iload_n 1, 1) := by decide +kernel
theorem dX6_isByte_15 : decode cX6_isByte 15 = .ok (.bipush 64, 2) := by decide +kernel
theorem dX6_isByte_17 : decode cX6_isByte 17 = .ok (.if_icmp .ge 7, 3) := by decide +kernel
theorem dX6_isByte_20 : decode cX6_isByte 20 = .ok (.iconst 1, 1) := by decide +kernel
theorem dX6_isByte_21 : decode cX6_isByte 21 = .ok (.goto 4, 3) := by decide +kernel
theorem dX6_isByte_24 : decode cX6_isByte 24 = .ok (.iconst 0, 1) := by decide +kernel
theorem dX6_isByte_25 : decode cX6_isByte 25 = .ok (.ireturn, 1) := by decide +kernel
theorem dX6_disk_0 : decode cX6_disk 0 = .ok (.iload_n 1, 1) := by decide +kernel
theorem dX6_disk_1 : decode cX6_disk 1 = .ok (.iload_n 2, 1) := by decide +kernel
theorem dX6_disk_2 : decode cX6_disk 2 = .ok (.invokestatic 186, 3) := by decide +kernel
theorem dX6_disk_5 : decode cX6_disk 5 = .ok (.ifCond .eq 21, 3) := by decide +kernel
theorem dX6_disk_8 : decode cX6_disk 8 = .ok (.aload_n 0, 1) := by decide +kernel
theorem dX6_disk_9 : decode cX6_disk 9 = .ok (.getfield 7, 3) := by decide +kernel
theorem dX6_disk_12 : decode cX6_disk 12 = .ok (.bipush 64, 2) := by decide +kernel
theorem dX6_disk_14 : decode cX6_disk 14 = .ok (.iload_n 1, 1) := by decide +kernel
theorem dX6_disk_15 : decode cX6_disk 15 = .ok (.imul, 1) := by decide +kernel
theorem dX6_disk_16 : decode cX6_disk 16 = .ok (.iload_n 2, 1) := by decide +kernel
theorem dX6_disk_17 : decode cX6_disk 17 = .ok (.iadd, 1) := by decide +kernel
theorem dX6_disk_18 : decode cX6_disk 18 = .ok (.baload, 1) := by decide +kernel
theorem dX6_disk_19 : decode cX6_disk 19 = .ok (.sipush 255, 3) := by decide +kernel
theorem dX6_disk_22 : decode cX6_disk 22 = .ok (.iand, 1) := by decide +kernel
theorem dX6_disk_23 : decode cX6_disk 23 = .ok (.goto 4, 3) := by decide +kernel
theorem dX6_disk_26 : decode cX6_disk 26 = .ok (.iconst (-1), 1) := by decide +kernel
theorem dX6_disk_27 : decode cX6_disk 27 = .ok (.ireturn, 1) := by decide +kernel
theorem dX6_poke_0 : decode cX6_poke 0 = .ok (.aload_n 0, 1) := by decide +kernel
theorem dX6_poke_1 : decode cX6_poke 1 = .ok (.getfield 17, 3) := by decide +kernel
theorem dX6_poke_4 : decode cX6_poke 4 = .ok (.ifCond .ne 23, 3) := by decide +kernel
theorem dX6_poke_7 : decode cX6_poke 7 = .ok (.iload_n 1, 1) := by decide +kernel
theorem dX6_poke_8 : decode cX6_poke 8 = .ok (.iload_n 2, 1) := by decide +kernel
theorem dX6_poke_9 : decode cX6_poke 9 = .ok (.invokestatic 186, 3) := by decide +kernel
theorem dX6_poke_12 : decode cX6_poke 12 = .ok (.ifCond .eq 15, 3) := by decide +kernel
theorem dX6_poke_15 : decode cX6_poke 15 = .ok (.iload_n 3, 1) := by decide +kernel
theorem dX6_poke_16 : decode cX6_poke 16 = .ok (.iconst 1, 1) := by decide +kernel
theorem dX6_poke_17 : decode cX6_poke 17 = .ok (.if_icmp .lt 10, 3) := by decide +kernel
theorem dX6_poke_20 : decode cX6_poke 20 = .ok (.iload_n 3, 1) := by decide +kernel
theorem dX6_poke_21 : decode cX6_poke 21 = .ok (.sipush 255, 3) := by decide +kernel
theorem dX6_poke_24 : decode cX6_poke 24 = .ok (.if_icmp .le 5, 3) := by decide +kernel
theorem dX6_poke_27 : decode cX6_poke 27 = .ok (.iconst 0, 1) := by decide +kernel
theorem dX6_poke_28 : decode cX6_poke 28 = .ok (.ireturn, 1) := by decide +kernel
theorem dX6_poke_29 : decode cX6_poke 29 = .ok (.aload_n 0, 1) := by decide +kernel
theorem dX6_poke_30 : decode cX6_poke 30 = .ok (.getfield 7, 3) := by decide +kernel
theorem dX6_poke_33 : decode cX6_poke 33 = .ok (.bipush 64, 2) := by decide +kernel
theorem dX6_poke_35 : decode cX6_poke 35 = .ok (.iload_n 1, 1) := by decide +kernel
theorem dX6_poke_36 : decode cX6_poke 36 = .ok (.imul, 1) := by decide +kernel
theorem dX6_poke_37 : decode cX6_poke 37 = .ok (.iload_n 2, 1) := by decide +kernel
theorem dX6_poke_38 : decode cX6_poke 38 = .ok (.iadd, 1) := by decide +kernel
theorem dX6_poke_39 : decode cX6_poke 39 = .ok (.dup2, 1) := by decide +kernel
theorem dX6_poke_40 : decode cX6_poke 40 = .ok (.baload, 1) := by decide +kernel
theorem dX6_poke_41 : decode cX6_poke 41 = .ok (.iload_n 3, 1) := by decide +kernel
theorem dX6_poke_42 : decode cX6_poke 42 = .ok (.ixor, 1) := by decide +kernel
theorem dX6_poke_43 : decode cX6_poke 43 = .ok (.i2b, 1) := by decide +kernel
theorem dX6_poke_44 : decode cX6_poke 44 = .ok (.bastore, 1) := by decide +kernel
theorem dX6_poke_45 : decode cX6_poke 45 = .ok (.iconst 1, 1) := by decide +kernel
theorem dX6_poke_46 : decode cX6_poke 46 = .ok (.ireturn, 1) := by decide +kernel
theorem dX6_torn_0 : decode cX6_torn 0 = .ok (.iload_n 1, 1) := by decide +kernel
theorem dX6_torn_1 : decode cX6_torn 1 = .ok (.ifCond .lt 22, 3) := by decide +kernel
theorem dX6_torn_4 : decode cX6_torn 4 = .ok (.iload_n 1, 1) := by decide +kernel
theorem dX6_torn_5 : decode cX6_torn 5 = .ok (.bipush 64, 2) := by decide +kernel
theorem dX6_torn_7 : decode cX6_torn 7 = .ok (.if_icmp .ge 16, 3) := by decide +kernel
theorem dX6_torn_10 : decode cX6_torn 10 = .ok (.aload_n 0, 1) := by decide +kernel
theorem dX6_torn_11 : decode cX6_torn 11 = .ok (.getfield 13, 3) := by decide +kernel
theorem dX6_torn_14 : decode cX6_torn 14 = .ok (.iload_n 1, 1) := by decide +kernel
theorem dX6_torn_15 : decode cX6_torn 15 = .ok (.baload, 1) := by decide +kernel
theorem dX6_torn_16 : decode cX6_torn 16 = .ok (.ifCond .eq 7, 3) := by decide +kernel
theorem dX6_torn_19 : decode cX6_torn 19 = .ok (.iconst 1, 1) := by decide +kernel
theorem dX6_torn_20 : decode cX6_torn 20 = .ok (.goto 4, 3) := by decide +kernel
theorem dX6_torn_23 : decode cX6_torn 23 = .ok (.iconst 0, 1) := by decide +kernel
theorem dX6_torn_24 : decode cX6_torn 24 = .ok (.ireturn, 1) := by decide +kernel
theorem dX6_count_0 : decode cX6_count 0 = .ok (.iload_n 1, 1) := by decide +kernel
theorem dX6_count_1 : decode cX6_count 1 = .ok (.tableswitch 208 0 9 #[55, 68, 85, 102, 119, 136, 153, 158, 163, 191], 55) := by decide +kernel
theorem dX6_count_56 : decode cX6_count 56 = .ok (.aload_n 0, 1) := by decide +kernel
theorem dX6_count_57 : decode cX6_count 57 = .ok (.getfield 17, 3) := by decide +kernel
theorem dX6_count_60 : decode cX6_count 60 = .ok (.ifCond .eq 7, 3) := by decide +kernel
theorem dX6_count_63 : decode cX6_count 63 = .ok (.iconst 1, 1) := by decide +kernel
theorem dX6_count_64 : decode cX6_count 64 = .ok (.goto 4, 3) := by decide +kernel
theorem dX6_count_67 : decode cX6_count 67 = .ok (.iconst 0, 1) := by decide +kernel
theorem dX6_count_68 : decode cX6_count 68 = .ok (.ireturn, 1) := by decide +kernel
theorem dX6_count_69 : decode cX6_count 69 = .ok (.aload_n 0, 1) := by decide +kernel
theorem dX6_count_70 : decode cX6_count 70 = .ok (.getfield 17, 3) := by decide +kernel
theorem dX6_count_73 : decode cX6_count 73 = .ok (.ifCond .eq 10, 3) := by decide +kernel
theorem dX6_count_76 : decode cX6_count 76 = .ok (.aload_n 0, 1) := by decide +kernel
theorem dX6_count_77 : decode cX6_count 77 = .ok (.getfield 102, 3) := by decide +kernel
theorem dX6_count_80 : decode cX6_count 80 = .ok (.goto 5, 3) := by decide +kernel
theorem dX6_count_83 : decode cX6_count 83 = .ok (.bipush (-2), 2) := by decide +kernel
theorem dX6_count_85 : decode cX6_count 85 = .ok (.ireturn, 1) := by decide +kernel
theorem dX6_count_86 : decode cX6_count 86 = .ok (.aload_n 0, 1) := by decide +kernel
theorem dX6_count_87 : decode cX6_count 87 = .ok (.getfield 17, 3) := by decide +kernel
theorem dX6_count_90 : decode cX6_count 90 = .ok (.ifCond .eq 10, 3) := by decide +kernel
theorem dX6_count_93 : decode cX6_count 93 = .ok (.aload_n 0, 1) := by decide +kernel
theorem dX6_count_94 : decode cX6_count 94 = .ok (.getfield 99, 3) := by decide +kernel
theorem dX6_count_97 : decode cX6_count 97 = .ok (.goto 5, 3) := by decide +kernel
theorem dX6_count_100 : decode cX6_count 100 = .ok (.bipush (-2), 2) := by decide +kernel
theorem dX6_count_102 : decode cX6_count 102 = .ok (.ireturn, 1) := by decide +kernel
theorem dX6_count_103 : decode cX6_count 103 = .ok (.aload_n 0, 1) := by decide +kernel
theorem dX6_count_104 : decode cX6_count 104 = .ok (.getfield 17, 3) := by decide +kernel
theorem dX6_count_107 : decode cX6_count 107 = .ok (.ifCond .eq 10, 3) := by decide +kernel
theorem dX6_count_110 : decode cX6_count 110 = .ok (.aload_n 0, 1) := by decide +kernel
theorem dX6_count_111 : decode cX6_count 111 = .ok (.invokevirtual 111, 3) := by decide +kernel
theorem dX6_count_114 : decode cX6_count 114 = .ok (.goto 5, 3) := by decide +kernel
theorem dX6_count_117 : decode cX6_count 117 = .ok (.bipush (-2), 2) := by decide +kernel
theorem dX6_count_119 : decode cX6_count 119 = .ok (.ireturn, 1) := by decide +kernel
theorem dX6_count_120 : decode cX6_count 120 = .ok (.aload_n 0, 1) := by decide +kernel
theorem dX6_count_121 : decode cX6_count 121 = .ok (.getfield 17, 3) := by decide +kernel
theorem dX6_count_124 : decode cX6_count 124 = .ok (.ifCond .eq 10, 3) := by decide +kernel
theorem dX6_count_127 : decode cX6_count 127 = .ok (.aload_n 0, 1) := by decide +kernel
theorem dX6_count_128 : decode cX6_count 128 = .ok (.getfield 50, 3) := by decide +kernel
theorem dX6_count_131 : decode cX6_count 131 = .ok (.goto 5, 3) := by decide +kernel
theorem dX6_count_134 : decode cX6_count 134 = .ok (.bipush (-2), 2) := by decide +kernel
theorem dX6_count_136 : decode cX6_count 136 = .ok (.ireturn, 1) := by decide +kernel
theorem dX6_count_137 : decode cX6_count 137 = .ok (.aload_n 0, 1) := by decide +kernel
theorem dX6_count_138 : decode cX6_count 138 = .ok (.getfield 17, 3) := by decide +kernel
theorem dX6_count_141 : decode cX6_count 141 = .ok (.ifCond .eq 10, 3) := by decide +kernel
theorem dX6_count_144 : decode cX6_count 144 = .ok (.aload_n 0, 1) := by decide +kernel
theorem dX6_count_145 : decode cX6_count 145 = .ok (.getfield 53, 3) := by decide +kernel
theorem dX6_count_148 : decode cX6_count 148 = .ok (.goto 5, 3) := by decide +kernel
theorem dX6_count_151 : decode cX6_count 151 = .ok (.bipush (-2), 2) := by decide +kernel
theorem dX6_count_153 : decode cX6_count 153 = .ok (.ireturn, 1) := by decide +kernel
theorem dX6_count_154 : decode cX6_count 154 = .ok (.aload_n 0, 1) := by decide +kernel
theorem dX6_count_155 : decode cX6_count 155 = .ok (.getfield 96, 3) := by decide +kernel
theorem dX6_count_158 : decode cX6_count 158 = .ok (.ireturn, 1) := by decide +kernel
theorem dX6_count_159 : decode cX6_count 159 = .ok (.aload_n 0, 1) := by decide +kernel
theorem dX6_count_160 : decode cX6_count 160 = .ok (.getfield 132, 3) := by decide +kernel
theorem dX6_count_163 : decode cX6_count 163 = .ok (.ireturn, 1) := by decide +kernel
theorem dX6_count_164 : decode cX6_count 164 = .ok (.aload_n 0, 1) := by decide +kernel
theorem dX6_count_165 : decode cX6_count 165 = .ok (.getfield 17, 3) := by decide +kernel
theorem dX6_count_168 : decode cX6_count 168 = .ok (.ifCond .ne 8, 3) := by decide +kernel
theorem dX6_count_171 : decode cX6_count 171 = .ok (.bipush (-2), 2) := by decide +kernel
theorem dX6_count_173 : decode cX6_count 173 = .ok (.goto 18, 3) := by decide +kernel
theorem dX6_count_176 : decode cX6_count 176 = .ok (.aload_n 0, 1) := by decide +kernel
theorem dX6_count_177 : decode cX6_count 177 = .ok (.getfield 102, 3) := by decide +kernel
theorem dX6_count_180 : decode cX6_count 180 = .ok (.ifCond .ne 7, 3) := by decide +kernel
theorem dX6_count_183 : decode cX6_count 183 = .ok (.iconst (-1), 1) := by decide +kernel
theorem dX6_count_184 : decode cX6_count 184 = .ok (.goto 7, 3) := by decide +kernel
theorem dX6_count_187 : decode cX6_count 187 = .ok (.aload_n 0, 1) := by decide +kernel
theorem dX6_count_188 : decode cX6_count 188 = .ok (.getfield 105, 3) := by decide +kernel
theorem dX6_count_191 : decode cX6_count 191 = .ok (.ireturn, 1) := by decide +kernel
theorem dX6_count_192 : decode cX6_count 192 = .ok (.aload_n 0, 1) := by decide +kernel
theorem dX6_count_193 : decode cX6_count 193 = .ok (.getfield 17, 3) := by decide +kernel
theorem dX6_count_196 : decode cX6_count 196 = .ok (.ifCond .eq 10, 3) := by decide +kernel
theorem dX6_count_199 : decode cX6_count 199 = .ok (.aload_n 0, 1) := by decide +kernel
theorem dX6_count_200 : decode cX6_count 200 = .ok (.getfield 38, 3) := by decide +kernel
theorem dX6_count_203 : decode cX6_count 203 = .ok (.goto 5, 3) := by decide +kernel
theorem dX6_count_206 : decode cX6_count 206 = .ok (.bipush (-2), 2) := by decide +kernel
theorem dX6_count_208 : decode cX6_count 208 = .ok (.ireturn, 1) := by decide +kernel
theorem dX6_count_209 : decode cX6_count 209 = .ok (.iconst (-1), 1) := by decide +kernel
theorem dX6_count_210 : decode cX6_count 210 = .ok (.ireturn, 1) := by decide +kernel
