set_option maxRecDepth 20000 in
theorem ggX0_init_X0_openAt : GoodIn wsX0_init wsX0_openAt := goodIn_r _ [10, 11, 12, 13, 14, 15, 16, 17, 18, 19, 20, 21, 22, 23, 24, 25] (by decide +kernel) (by decide +kernel)
set_option maxRecDepth 20000 in
theorem gX0_init_X0_openAt : GoodIn wsX0_init (wsV RX0 15 RX0 yX0_openAt wsX0_openAt) := goodIn_app (goodIn_of _ (by decide +kernel)) ggX0_init_X0_openAt
set_option maxRecDepth 20000 in
theorem ggX0_firstBeginningWith_X0_has : GoodIn wsX0_firstBeginningWith wsX0_has := goodIn_r _ [5, 6, 7, 21, 22, 23, 24, 25, 26, 27, 28] (by decide +kernel) (by decide +kernel)
set_option maxRecDepth 20000 in
theorem gX0_firstBeginningWith_X0_has : GoodIn wsX0_firstBeginningWith (wsV RX0 52 RX0 yX0_has wsX0_has) := goodIn_app (goodIn_of _ (by decide +kernel)) ggX0_firstBeginningWith_X0_has
set_option maxRecDepth 20000 in
theorem ggX3_setNumber_X3_set : GoodIn wsX3_setNumber wsX3_set := goodIn_r _ [5, 6, 7, 8] (by decide +kernel) (by decide +kernel)
set_option maxRecDepth 20000 in
theorem gX3_setNumber_X3_set : GoodIn wsX3_setNumber (wsV RX3 19 RX3 yX3_set wsX3_set) := goodIn_app (goodIn_of _ (by decide +kernel)) ggX3_setNumber_X3_set
set_option maxRecDepth 20000 in
theorem ggX3_takeWhole_X3_takeBytes : GoodIn wsX3_takeWhole wsX3_takeBytes := goodIn_r _ [6, 7, 8, 9, 5, 10, 11, 12, 13, 14, 15, 16, 17] (by decide +kernel) (by decide +kernel)
set_option maxRecDepth 20000 in
theorem gX3_takeWhole_X3_takeBytes : GoodIn wsX3_takeWhole (wsV RX3 23 RX3 yX3_takeBytes wsX3_takeBytes) := goodIn_app (goodIn_of _ (by decide +kernel)) ggX3_takeWhole_X3_takeBytes
set_option maxRecDepth 20000 in
theorem ggX3_takeBytes_X3_get : GoodIn wsX3_takeBytes wsX3_get := goodIn_r _ [5, 6, 11, 12] (by decide +kernel) (by decide +kernel)
set_option maxRecDepth 20000 in
theorem gX3_takeBytes_X3_get : GoodIn wsX3_takeBytes (wsV RX3 27 RX3 yX3_get wsX3_get) := goodIn_app (goodIn_of _ (by decide +kernel)) ggX3_takeBytes_X3_get
set_option maxRecDepth 20000 in
theorem ggX3_takeBytes_X3_set : GoodIn wsX3_takeBytes wsX3_set := goodIn_r _ [10, 6, 11, 12] (by decide +kernel) (by decide +kernel)
set_option maxRecDepth 20000 in
theorem gX3_takeBytes_X3_set : GoodIn wsX3_takeBytes (wsV RX3 19 RX3 yX3_set wsX3_set) := goodIn_app (goodIn_of _ (by decide +kernel)) ggX3_takeBytes_X3_set
set_option maxRecDepth 20000 in
theorem ggX3_headSum_X3_sumOver : GoodIn wsX3_headSum wsX3_sumOver := goodIn_r _ [5, 6, 7, 8, 9] (by decide +kernel) (by decide +kernel)
set_option maxRecDepth 20000 in
theorem gX3_headSum_X3_sumOver : GoodIn wsX3_headSum (wsV RX3 32 RX3 yX3_sumOver wsX3_sumOver) := goodIn_app (goodIn_of _ (by decide +kernel)) ggX3_headSum_X3_sumOver
set_option maxRecDepth 20000 in
theorem ggX3_makeHead_X3_clear : GoodIn wsX3_makeHead wsX3_clear := goodIn_r _ [5, 6, 24, 25] (by decide +kernel) (by decide +kernel)
set_option maxRecDepth 20000 in
theorem gX3_makeHead_X3_clear : GoodIn wsX3_makeHead (wsV RX3 36 RX3 yX3_clear wsX3_clear) := goodIn_app (goodIn_of _ (by decide +kernel)) ggX3_makeHead_X3_clear
set_option maxRecDepth 20000 in
theorem ggX3_makeHead_X3_setNumber : GoodIn wsX3_makeHead wsX3_setNumber := goodIn_r _ [10, 11, 12, 13, 4, 14, 6, 24, 25] (by decide +kernel) (by decide +kernel)
set_option maxRecDepth 20000 in
theorem gX3_makeHead_X3_setNumber : GoodIn wsX3_makeHead (wsV RX3 39 RX3 yX3_setNumber wsX3_setNumber) := goodIn_app (goodIn_of _ (by decide +kernel)) ggX3_makeHead_X3_setNumber
set_option maxRecDepth 20000 in
theorem ggX3_makeHead_X3_set : GoodIn wsX3_makeHead wsX3_set := goodIn_r _ [14, 6, 24, 25] (by decide +kernel) (by decide +kernel)
set_option maxRecDepth 20000 in
theorem gX3_makeHead_X3_set : GoodIn wsX3_makeHead (wsV RX3 19 RX3 yX3_set wsX3_set) := goodIn_app (goodIn_of _ (by decide +kernel)) ggX3_makeHead_X3_set
set_option maxRecDepth 20000 in
theorem ggX3_makeHead_X3_headSum : GoodIn wsX3_makeHead wsX3_headSum := goodIn_r _ [18, 19, 20, 21, 4, 22, 6, 23, 24, 25] (by decide +kernel) (by decide +kernel)
set_option maxRecDepth 20000 in
theorem gX3_makeHead_X3_headSum : GoodIn wsX3_makeHead (wsV RX3 42 RX3 yX3_headSum wsX3_headSum) := goodIn_app (goodIn_of _ (by decide +kernel)) ggX3_makeHead_X3_headSum
set_option maxRecDepth 20000 in
theorem ggX3_isGoodHead_X3_number : GoodIn wsX3_isGoodHead wsX3_number := goodIn_r _ [7, 8, 34, 35] (by decide +kernel) (by decide +kernel)
set_option maxRecDepth 20000 in
theorem gX3_isGoodHead_X3_number : GoodIn wsX3_isGoodHead (wsV RX3 46 RX3 yX3_number wsX3_number) := goodIn_app (goodIn_of _ (by decide +kernel)) ggX3_isGoodHead_X3_number
set_option maxRecDepth 20000 in
theorem ggX3_isGoodHead_X3_headSum : GoodIn wsX3_isGoodHead wsX3_headSum := goodIn_r _ [12, 13, 14, 15, 6, 16, 8, 17, 34, 35] (by decide +kernel) (by decide +kernel)
set_option maxRecDepth 20000 in
theorem gX3_isGoodHead_X3_headSum : GoodIn wsX3_isGoodHead (wsV RX3 42 RX3 yX3_headSum wsX3_headSum) := goodIn_app (goodIn_of _ (by decide +kernel)) ggX3_isGoodHead_X3_headSum
set_option maxRecDepth 20000 in
theorem ggX3_isGoodHead_X3_headVersion : GoodIn wsX3_isGoodHead wsX3_headVersion := goodIn_r _ [21, 3, 4, 5, 6, 7, 8, 34, 35] (by decide +kernel) (by decide +kernel)
set_option maxRecDepth 20000 in
theorem gX3_isGoodHead_X3_headVersion : GoodIn wsX3_isGoodHead (wsV RX3 49 RX3 yX3_headVersion wsX3_headVersion) := goodIn_app (goodIn_of _ (by decide +kernel)) ggX3_isGoodHead_X3_headVersion
set_option maxRecDepth 20000 in
theorem ggX3_isGoodHead_X3_headRecord : GoodIn wsX3_isGoodHead wsX3_headRecord := goodIn_r _ [25, 3, 4, 5, 6, 7, 8, 34, 35] (by decide +kernel) (by decide +kernel)
set_option maxRecDepth 20000 in
theorem gX3_isGoodHead_X3_headRecord : GoodIn wsX3_isGoodHead (wsV RX3 52 RX3 yX3_headRecord wsX3_headRecord) := goodIn_app (goodIn_of _ (by decide +kernel)) ggX3_isGoodHead_X3_headRecord
set_option maxRecDepth 20000 in
theorem ggX3_isGoodHead_X3_headPlace : GoodIn wsX3_isGoodHead wsX3_headPlace := goodIn_r _ [29, 30, 31, 32, 6, 33, 8, 34, 35] (by decide +kernel) (by decide +kernel)
set_option maxRecDepth 20000 in
theorem gX3_isGoodHead_X3_headPlace : GoodIn wsX3_isGoodHead (wsV RX3 56 RX3 yX3_headPlace wsX3_headPlace) := goodIn_app (goodIn_of _ (by decide +kernel)) ggX3_isGoodHead_X3_headPlace
set_option maxRecDepth 20000 in
theorem ggX3_headVersion_X3_number : GoodIn wsX3_headVersion wsX3_number := goodIn_r _ [5, 6, 7, 8] (by decide +kernel) (by decide +kernel)
set_option maxRecDepth 20000 in
theorem gX3_headVersion_X3_number : GoodIn wsX3_headVersion (wsV RX3 46 RX3 yX3_number wsX3_number) := goodIn_app (goodIn_of _ (by decide +kernel)) ggX3_headVersion_X3_number
set_option maxRecDepth 20000 in
theorem ggX3_headRecord_X3_number : GoodIn wsX3_headRecord wsX3_number := goodIn_r _ [5, 6, 7, 8] (by decide +kernel) (by decide +kernel)
set_option maxRecDepth 20000 in
theorem gX3_headRecord_X3_number : GoodIn wsX3_headRecord (wsV RX3 46 RX3 yX3_number wsX3_number) := goodIn_app (goodIn_of _ (by decide +kernel)) ggX3_headRecord_X3_number
set_option maxRecDepth 20000 in
theorem ggX3_headPlace_X3_get : GoodIn wsX3_headPlace wsX3_get := goodIn_r _ [5, 6, 7, 8] (by decide +kernel) (by decide +kernel)
set_option maxRecDepth 20000 in
theorem gX3_headPlace_X3_get : GoodIn wsX3_headPlace (wsV RX3 27 RX3 yX3_get wsX3_get) := goodIn_app (goodIn_of _ (by decide +kernel)) ggX3_headPlace_X3_get
set_option maxRecDepth 20000 in
theorem ggX4_init_X3_init : GoodIn wsX4_init wsX3_init := goodIn_r _ [13, 14, 2, 3, 15, 16, 17, 22, 23] (by decide +kernel) (by decide +kernel)
set_option maxRecDepth 20000 in
theorem gX4_init_X3_init : GoodIn wsX4_init (wsX3_init) := ggX4_init_X3_init
set_option maxRecDepth 20000 in
theorem ggX4_write_X4_sector : GoodIn wsX4_write wsX4_sector := goodIn_r _ [8, 9, 33, 34, 35, 36] (by decide +kernel) (by decide +kernel)
set_option maxRecDepth 20000 in
theorem gX4_write_X4_sector : GoodIn wsX4_write (wsV RX4 28 RX4 yX4_sector wsX4_sector) := goodIn_app (goodIn_of _ (by decide +kernel)) ggX4_write_X4_sector
set_option maxRecDepth 20000 in
theorem ggX4_write_X3_takeWhole : GoodIn wsX4_write wsX3_takeWhole := goodIn_r _ [32, 15, 16, 17, 18, 13, 19, 20, 21, 22, 23, 24, 25, 26, 27, 28, 37, 38] (by decide +kernel) (by decide +kernel)
set_option maxRecDepth 20000 in
theorem gX4_write_X3_takeWhole : GoodIn wsX4_write (wsV RX4 36 RX3 yX3_takeWhole wsX3_takeWhole) := goodIn_app (goodIn_of _ (by decide +kernel)) ggX4_write_X3_takeWhole
set_option maxRecDepth 20000 in
theorem ggX4_latestHead_X4_sector : GoodIn wsX4_latestHead wsX4_sector := goodIn_r _ [5, 6, 49, 50, 51, 52] (by decide +kernel) (by decide +kernel)
set_option maxRecDepth 20000 in
theorem gX4_latestHead_X4_sector : GoodIn wsX4_latestHead (wsV RX4 28 RX4 yX4_sector wsX4_sector) := goodIn_app (goodIn_of _ (by decide +kernel)) ggX4_latestHead_X4_sector
set_option maxRecDepth 20000 in
theorem ggX4_latestHead_X3_isGoodHead : GoodIn wsX4_latestHead wsX3_isGoodHead := goodIn_r _ [11, 12, 13, 14, 15, 16, 10, 17, 18, 19, 20, 21, 22, 23, 24, 25, 26, 27, 28, 29, 30, 31, 32, 33, 34, 35, 36, 37, 38, 39, 40, 41, 42, 43, 53, 54] (by decide +kernel) (by decide +kernel)
set_option maxRecDepth 20000 in
theorem gX4_latestHead_X3_isGoodHead : GoodIn wsX4_latestHead (wsV RX4 40 RX3 yX3_isGoodHead wsX3_isGoodHead) := goodIn_app (goodIn_of _ (by decide +kernel)) ggX4_latestHead_X3_isGoodHead
set_option maxRecDepth 20000 in
theorem ggX4_headVersion_X4_latestHead : GoodIn wsX4_headVersion wsX4_latestHead := goodIn_r _ [5, 6, 7, 8, 4, 9, 10, 11, 12, 13, 14, 15, 16, 17, 18, 19, 20, 21, 22, 23, 24, 25, 26, 27, 28, 29, 30, 31, 32, 33, 34, 35, 36, 37, 38, 39, 40, 41, 42, 43, 44, 45, 46, 47, 48, 49, 50, 51, 52, 53, 54, 55, 56, 57, 58] (by decide +kernel) (by decide +kernel)
set_option maxRecDepth 20000 in
theorem gX4_headVersion_X4_latestHead : GoodIn wsX4_headVersion (wsV RX4 52 RX4 yX4_latestHead wsX4_latestHead) := goodIn_app (goodIn_of _ (by decide +kernel)) ggX4_headVersion_X4_latestHead
set_option maxRecDepth 20000 in
theorem ggX4_headVersion_X4_sector : GoodIn wsX4_headVersion wsX4_sector := goodIn_r _ [9, 10, 53, 54, 55, 56] (by decide +kernel) (by decide +kernel)
set_option maxRecDepth 20000 in
theorem gX4_headVersion_X4_sector : GoodIn wsX4_headVersion (wsV RX4 28 RX4 yX4_sector wsX4_sector) := goodIn_app (goodIn_of _ (by decide +kernel)) ggX4_headVersion_X4_sector
set_option maxRecDepth 20000 in
theorem ggX4_headVersion_X3_headVersion : GoodIn wsX4_headVersion wsX3_headVersion := goodIn_r _ [35, 18, 19, 20, 14, 21, 22, 57, 58] (by decide +kernel) (by decide +kernel)
set_option maxRecDepth 20000 in
theorem gX4_headVersion_X3_headVersion : GoodIn wsX4_headVersion (wsV RX4 44 RX3 yX3_headVersion wsX3_headVersion) := goodIn_app (goodIn_of _ (by decide +kernel)) ggX4_headVersion_X3_headVersion
theorem dX0_init_0 : decode cX0_init 0 = .ok (.aload_n 0, 1) := by decide +kernel
theorem dX0_init_1 : decode cX0_init 1 = .ok (.invokespecial 3, 3) := by decide +kernel
theorem dX0_init_4 : decode cX0_init 4 = .ok (.aload_n 0, 1) := by decide +kernel
theorem dX0_init_5 : decode cX0_init 5 = .ok (.sipush 512, 3) := by decide +kernel
theorem dX0_init_8 : decode cX0_init 8 = .ok (.newarray .int, 2) := by decide +kernel
theorem dX0_init_10 : decode cX0_init 10 = .ok (.putfield 9, 3) := by decide +kernel
theorem dX0_init_13 : decode cX0_init 13 = .ok (.aload_n 0, 1) := by decide +kernel
theorem dX0_init_14 : decode cX0_init 14 = .ok (.iconst 2, 1) := by decide +kernel
theorem dX0_init_15 : decode cX0_init 15 = .ok (.iconst 1, 1) := by decide +kernel
theorem dX0_init_16 : decode cX0_init 16 = .ok (.iconst 1, 1) := by decide +kernel
theorem dX0_init_17 : decode cX0_init 17 = .ok (.invokevirtual 15, 3) := by decide +kernel
theorem dX0_init_20 : decode cX0_init 20 = .ok (.return_, 1) := by decide +kernel
theorem dX0_openAt_0 : decode cX0_openAt 0 = .ok (.aload_n 0, 1) := by decide +kernel
theorem dX0_openAt_1 : decode cX0_openAt 1 = .ok (.iload_n 3, 1) := by decide +kernel
theorem dX0_openAt_2 : decode cX0_openAt 2 = .ok (.putfield 19, 3) := by decide +kernel
theorem dX0_openAt_5 : decode cX0_openAt 5 = .ok (.aload_n 0, 1) := by decide +kernel
theorem dX0_openAt_6 : decode cX0_openAt 6 = .ok (.iload_n 3, 1) := by decide +kernel
theorem dX0_openAt_7 : decode cX0_openAt 7 = .ok (.putfield 23, 3) := by decide +kernel
theorem dX0_openAt_10 : decode cX0_openAt 10 = .ok (.aload_n 0, 1) := by decide +kernel
theorem dX0_openAt_11 : decode cX0_openAt 11 = .ok (.iload_n 3, 1) := by decide +kernel
theorem dX0_openAt_12 : decode cX0_openAt 12 = .ok (.iconst 1, 1) := by decide +kernel
theorem dX0_openAt_13 : decode cX0_openAt 13 = .ok (.isub, 1) := by decide +kernel
theorem dX0_openAt_14 : decode cX0_openAt 14 = .ok (.putfield 26, 3) := by decide +kernel
theorem dX0_openAt_17 : decode cX0_openAt 17 = .ok (.aload_n 0, 1) := by decide +kernel
theorem dX0_openAt_18 : decode cX0_openAt 18 = .ok (.iload_n 1, 1) := by decide +kernel
theorem dX0_openAt_19 : decode cX0_openAt 19 = .ok (.putfield 29, 3) := by decide +kernel
theorem dX0_openAt_22 : decode cX0_openAt 22 = .ok (.aload_n 0, 1) := by decide +kernel
theorem dX0_openAt_23 : decode cX0_openAt 23 = .ok (.iconst 0, 1) := by decide +kernel
theorem dX0_openAt_24 : decode cX0_openAt 24 = .ok (.putfield 32, 3) := by decide +kernel
theorem dX0_openAt_27 : decode cX0_openAt 27 = .ok (.aload_n 0, 1) := by decide +kernel
theorem dX0_openAt_28 : decode cX0_openAt 28 = .ok (.iload_n 1, 1) := by decide +kernel
theorem dX0_openAt_29 : decode cX0_openAt 29 = .ok (.putfield 35, 3) := by decide +kernel
theorem dX0_openAt_32 : decode cX0_openAt 32 = .ok (.aload_n 0, 1) := by decide +kernel
theorem dX0_openAt_33 : decode cX0_openAt 33 = .ok (.iload_n 2, 1) := by decide +kernel
theorem dX0_openAt_34 : decode cX0_openAt 34 = .ok (.putfield 38, 3) := by decide +kernel
theorem dX0_openAt_37 : decode cX0_openAt 37 = .ok (.return_, 1) := by decide +kernel
theorem dX0_has_0 : decode cX0_has 0 = .ok (.iload_n 1, 1) := by decide +kernel
theorem dX0_has_1 : decode cX0_has 1 = .ok (.aload_n 0, 1) := by decide +kernel
theorem dX0_has_2 : decode cX0_has 2 = .ok (.getfield 19, 3) := by decide +kernel
theorem dX0_has_5 : decode cX0_has 5 = .ok (.if_icmp .lt 15, 3) := by decide +kernel
theorem dX0_has_8 : decode cX0_has 8 = .ok (.iload_n 1, 1) := by decide +kernel
theorem dX0_has_9 : decode cX0_has 9 = .ok (.aload_n 0, 1) := by decide +kernel
theorem dX0_has_10 : decode cX0_has 10 = .ok (.getfield 26, 3) := by decide +kernel
theorem dX0_has_13 : decode cX0_has 13 = .ok (.if_icmp .gt 7, 3) := by decide +kernel
theorem dX0_has_16 : decode cX0_has 16 = .ok (.iconst 1, 1) := by decide +kernel
theorem dX0_has_17 : decode cX0_has 17 = .ok (.goto 4, 3) := by decide +kernel
theorem dX0_has_20 : decode cX0_has 20 = .ok (.iconst 0, 1) := by decide +kernel
theorem dX0_has_21 : decode cX0_has 21 = .ok (.ireturn, 1) := by decide +kernel
theorem dX0_placeOf_0 : decode cX0_placeOf 0 = .ok (.iload_n 1, 1) := by decide +kernel
theorem dX0_placeOf_1 : decode cX0_placeOf 1 = .ok (.aload_n 0, 1) := by decide +kernel
theorem dX0_placeOf_2 : decode cX0_placeOf 2 = .ok (.getfield 26, 3) := by decide +kernel
theorem dX0_placeOf_5 : decode cX0_placeOf 5 = .ok (.if_icmp .le 10, 3) := by decide +kernel
theorem dX0_placeOf_8 : decode cX0_placeOf 8 = .ok (.aload_n 0, 1) := by decide +kernel
theorem dX0_placeOf_9 : decode cX0_placeOf 9 = .ok (.getfield 35, 3) := by decide +kernel
theorem dX0_placeOf_12 : decode cX0_placeOf 12 = .ok (.goto 11, 3) := by decide +kernel
theorem dX0_placeOf_15 : decode cX0_placeOf 15 = .ok (.aload_n 0, 1) := by decide +kernel
theorem dX0_placeOf_16 : decode cX0_placeOf 16 = .ok (.iload_n 1, 1) := by decide +kernel
theorem dX0_placeOf_17 : decode cX0_placeOf 17 = .ok (.invokevirtual 49, 3) := by decide +kernel
theorem dX0_placeOf_20 : decode cX0_placeOf 20 = .ok (.bipush 64, 2) := by decide +kernel
theorem dX0_placeOf_22 : decode cX0_placeOf 22 = .ok (.idiv, 1) := by decide +kernel
theorem dX0_placeOf_23 : decode cX0_placeOf 23 = .ok (.ireturn, 1) := by decide +kernel
theorem dX0_firstBeginningWith_0 : decode cX0_firstBeginningWith 0 = .ok (.aload_n 0, 1) := by decide +kernel
theorem dX0_firstBeginningWith_1 : decode cX0_firstBeginningWith 1 = .ok (.iload_n 1, 1) := by decide +kernel
theorem dX0_firstBeginningWith_2 : decode cX0_firstBeginningWith 2 = .ok (.invokevirtual 52, 3) := by decide +kernel
theorem dX0_firstBeginningWith_5 : decode cX0_firstBeginningWith 5 = .ok (.ifCond .ne 5, 3) := by decide +kernel
theorem dX0_firstBeginningWith_8 : decode cX0_firstBeginningWith 8 = .ok (.iload_n 1, 1) := by decide +kernel
theorem dX0_firstBeginningWith_9 : decode cX0_firstBeginningWith 9 = .ok (.ireturn, 1) := by decide +kernel
theorem dX0_firstBeginningWith_10 : decode cX0_firstBeginningWith 10 = .ok (.iload_n 1, 1) := by decide +kernel
theorem dX0_firstBeginningWith_11 : decode cX0_firstBeginningWith 11 = .ok (.istore_n 2, 1) := by decide +kernel
theorem dX0_firstBeginningWith_12 : decode cX0_firstBeginningWith 12 = .ok (.iconst 0, 1) := by decide +kernel
theorem dX0_firstBeginningWith_13 : decode cX0_firstBeginningWith 13 = .ok (.istore_n 3, 1) := by decide +kernel
theorem dX0_firstBeginningWith_14 : decode cX0_firstBeginningWith 14 = .ok (.iload_n 3, 1) := by decide +kernel
theorem dX0_firstBeginningWith_15 : decode cX0_firstBeginningWith 15 = .ok (.sipush 512, 3) := by decide +kernel
theorem dX0_firstBeginningWith_18 : decode cX0_firstBeginningWith 18 = .ok (.if_icmp .ge 40, 3) := by decide +kernel
theorem dX0_firstBeginningWith_21 : decode cX0_firstBeginningWith 21 = .ok (.aload_n 0, 1) := by decide +kernel
theorem dX0_firstBeginningWith_22 : decode cX0_firstBeginningWith 22 = .ok (.iload_n 2, 1) := by decide +kernel
theorem dX0_firstBeginningWith_23 : decode cX0_firstBeginningWith 23 = .ok (.iconst 1, 1) := by decide +kernel
theorem dX0_firstBeginningWith_24 : decode cX0_firstBeginningWith 24 = .ok (.isub, 1) := by decide +kernel
theorem dX0_firstBeginningWith_25 : decode cX0_firstBeginningWith 25 = .ok (.invokevirtual 52, 3) := by decide +kernel
theorem dX0_firstBeginningWith_28 : decode cX0_firstBeginningWith 28 = .ok (.ifCond .eq 30, 3) := by decide +kernel
theorem dX0_firstBeginningWith_31 : decode cX0_firstBeginningWith 31 = .ok (.aload_n 0, 1) := by decide +kernel
theorem dX0_firstBeginningWith_32 : decode cX0_firstBeginningWith 32 = .ok (.iload_n 2, 1) := by decide +kernel
theorem dX0_firstBeginningWith_33 : decode cX0_firstBeginningWith 33 = .ok (.iconst 1, 1) := by decide +kernel
theorem dX0_firstBeginningWith_34 : decode cX0_firstBeginningWith 34 = .ok (.isub, 1) := by decide +kernel
theorem dX0_firstBeginningWith_35 : decode cX0_firstBeginningWith 35 = .ok (.invokevirtual 56, 3) := by decide +kernel
theorem dX0_firstBeginningWith_38 : decode cX0_firstBeginningWith 38 = .ok (.aload_n 0, 1) := by decide +kernel
theorem dX0_firstBeginningWith_39 : decode cX0_firstBeginningWith 39 = .ok (.iload_n 1, 1) := by decide +kernel
theorem dX0_firstBeginningWith_40 : decode cX0_firstBeginningWith 40 = .ok (.invokevirtual 56, 3) := by decide +kernel
theorem dX0_firstBeginningWith_43 : decode cX0_firstBeginningWith 43 = .ok (.if_icmp .eq 6, 3) := by decide +kernel
theorem dX0_firstBeginningWith_46 : decode cX0_firstBeginningWith 46 = .ok (.goto 12, 3) := by decide +kernel
theorem dX0_firstBeginningWith_49 : decode cX0_firstBeginningWith 49 = .ok (.iinc 2 (-1), 3) := by decide +kernel
theorem dX0_firstBeginningWith_52 : decode cX0_firstBeginningWith 52 = .ok (.iinc 3 1, 3) := by decide +kernel
theorem dX0_firstBeginningWith_55 : decode cX0_firstBeginningWith 55 = .ok (.goto (-41), 3) := by decide +kernel
theorem dX0_firstBeginningWith_58 : decode cX0_firstBeginningWith 58 = .ok (.iload_n 2, 1) := by decide +kernel
theorem dX0_firstBeginningWith_59 : decode cX0_firstBeginningWith 59 = .ok (.ireturn, 1) := by decide +kernel
theorem dX0_giveUpBefore_0 : decode cX0_giveUpBefore 0 = .ok (.iload_n 1, 1) := by decide +kernel
theorem dX0_giveUpBefore_1 : decode cX0_giveUpBefore 1 = .ok (.aload_n 0, 1) := by decide +kernel
theorem dX0_giveUpBefore_2 : decode cX0_giveUpBefore 2 = .ok (.getfield 26, 3) := by decide +kernel
theorem dX0_giveUpBefore_5 : decode cX0_giveUpBefore 5 = .ok (.if_icmp .le 10, 3) := by decide +kernel
theorem dX0_giveUpBefore_8 : decode cX0_giveUpBefore 8 = .ok (.aload_n 0, 1) := by decide +kernel
theorem dX0_giveUpBefore_9 : decode cX0_giveUpBefore 9 = .ok (.getfield 32, 3) := by decide +kernel
theorem dX0_giveUpBefore_12 : decode cX0_giveUpBefore 12 = .ok (.goto 14, 3) := by decide +kernel
theorem dX0_giveUpBefore_15 : decode cX0_giveUpBefore 15 = .ok (.iload_n 3, 1) := by decide +kernel
theorem dX0_giveUpBefore_16 : decode cX0_giveUpBefore 16 = .ok (.aload_n 0, 1) := by decide +kernel
theorem dX0_giveUpBefore_17 : decode cX0_giveUpBefore 17 = .ok (.getfield 29, 3) := by decide +kernel
theorem dX0_giveUpBefore_20 : decode cX0_giveUpBefore 20 = .ok (.isub, 1) := by decide +kernel
theorem dX0_giveUpBefore_21 : decode cX0_giveUpBefore 21 = .ok (.bipush 62, 2) := by decide +kernel
theorem dX0_giveUpBefore_23 : decode cX0_giveUpBefore 23 = .ok (.invokestatic 59, 3) := by decide +kernel
theorem dX0_giveUpBefore_26 : decode cX0_giveUpBefore 26 = .ok (.istore 4, 2) := by decide +kernel
theorem dX0_giveUpBefore_28 : decode cX0_giveUpBefore 28 = .ok (.aload_n 0, 1) := by decide +kernel
theorem dX0_giveUpBefore_29 : decode cX0_giveUpBefore 29 = .ok (.dup, 1) := by decide +kernel
theorem dX0_giveUpBefore_30 : decode cX0_giveUpBefore 30 = .ok (.getfield 32, 3) := by decide +kernel
theorem dX0_giveUpBefore_33 : decode cX0_giveUpBefore 33 = .ok (.iload 4, 2) := by decide +kernel
theorem dX0_giveUpBefore_35 : decode cX0_giveUpBefore 35 = .ok (.isub, 1) := by decide +kernel
theorem dX0_giveUpBefore_36 : decode cX0_giveUpBefore 36 = .ok (.putfield 32, 3) := by decide +kernel
theorem dX0_giveUpBefore_39 : decode cX0_giveUpBefore 39 = .ok (.aload_n 0, 1) := by decide +kernel
theorem dX0_giveUpBefore_40 : decode cX0_giveUpBefore 40 = .ok (.iload_n 3, 1) := by decide +kernel
theorem dX0_giveUpBefore_41 : decode cX0_giveUpBefore 41 = .ok (.putfield 29, 3) := by decide +kernel
theorem dX0_giveUpBefore_44 : decode cX0_giveUpBefore 44 = .ok (.aload_n 0, 1) := by decide +kernel
theorem dX0_giveUpBefore_45 : decode cX0_giveUpBefore 45 = .ok (.iload_n 2, 1) := by decide +kernel
theorem dX0_giveUpBefore_46 : decode cX0_giveUpBefore 46 = .ok (.putfield 19, 3) := by decide +kernel
theorem dX0_giveUpBefore_49 : decode cX0_giveUpBefore 49 = .ok (.aload_n 0, 1) := by decide +kernel
theorem dX0_giveUpBefore_50 : decode cX0_giveUpBefore 50 = .ok (.iload_n 1, 1) := by decide +kernel
theorem dX0_giveUpBefore_51 : decode cX0_giveUpBefore 51 = .ok (.putfield 23, 3) := by decide +kernel
theorem dX0_giveUpBefore_54 : decode cX0_giveUpBefore 54 = .ok (.iload 4, 2) := by decide +kernel
theorem dX0_giveUpBefore_56 : decode cX0_giveUpBefore 56 = .ok (.ireturn, 1) := by decide +kernel
theorem dX1_init_0 : decode cX1_init 0 = .ok (.aload_n 0, 1) := by decide +kernel
theorem dX1_init_1 : decode cX1_init 1 = .ok (.invokespecial 3, 3) := by decide +kernel
theorem dX1_init_4 : decode cX1_init 4 = .ok (.aload_n 0, 1) := by decide +kernel
theorem dX1_init_5 : decode cX1_init 5 = .ok (.sipush 606, 3) := by decide +kernel
theorem dX1_init_8 : decode cX1_init 8 = .ok (.newarray .int, 2) := by decide +kernel
theorem dX1_init_10 : decode cX1_init 10 = .ok (.putfield 9, 3) := by decide +kernel
theorem dX1_init_13 : decode cX1_init 13 = .ok (.aload_n 0, 1) := by decide +kernel
theorem dX1_init_14 : decode cX1_init 14 = .ok (.iconst 0, 1) := by decide +kernel
theorem dX1_init_15 : decode cX1_init 15 = .ok (.putfield 15, 3) := by decide +kernel
theorem dX1_init_18 : decode cX1_init 18 = .ok (.aload_n 0, 1) := by decide +kernel
theorem dX1_init_19 : decode cX1_init 19 = .ok (.iconst 0, 1) := by decide +kernel
theorem dX1_init_20 : decode cX1_init 20 = .ok (.putfield 19, 3) := by decide +kernel
theorem dX1_init_23 : decode cX1_init 23 = .ok (.aload_n 0, 1) := by decide +kernel
theorem dX1_init_24 : decode cX1_init 24 = .ok (.iconst 0, 1) := by decide +kernel
theorem dX1_init_25 : decode cX1_init 25 = .ok (.putfield 22, 3) := by decide +kernel
theorem dX1_init_28 : decode cX1_init 28 = .ok (.return_, 1) := by decide +kernel
theorem dX1_empty_0 : decode cX1_empty 0 = .ok (.aload_n 0, 1) := by decide +kernel
theorem dX1_empty_1 : decode cX1_empty 1 = .ok (.iconst 0, 1) := by decide +kernel
theorem dX1_empty_2 : decode cX1_empty 2 = .ok (.putfield 15, 3) := by decide +kernel
theorem dX1_empty_5 : decode cX1_empty 5 = .ok (.aload_n 0, 1) := by decide +kernel
theorem dX1_empty_6 : decode cX1_empty 6 = .ok (.iconst 0, 1) := by decide +kernel
theorem dX1_empty_7 : decode cX1_empty 7 = .ok (.putfield 19, 3) := by decide +kernel
theorem dX1_empty_10 : decode cX1_empty 10 = .ok (.aload_n 0, 1) := by decide +kernel
theorem dX1_empty_11 : decode cX1_empty 11 = .ok (.iconst 0, 1) := by decide +kernel
theorem dX1_empty_12 : decode cX1_empty 12 = .ok (.putfield 22, 3) := by decide +kernel
theorem dX1_empty_15 : decode cX1_empty 15 = .ok (.return_, 1) := by decide +kernel
theorem dX1_sectorsWith_0 : decode cX1_sectorsWith 0 = .ok (.aload_n 0, 1) := by decide +kernel
theorem dX1_sectorsWith_1 : decode cX1_sectorsWith 1 = .ok (.getfield 15, 3) := by decide +kernel
theorem dX1_sectorsWith_4 : decode cX1_sectorsWith 4 = .ok (.iload_n 1, 1) := by decide +kernel
theorem dX1_sectorsWith_5 : decode cX1_sectorsWith 5 = .ok (.iadd, 1) := by decide +kernel
theorem dX1_sectorsWith_6 : decode cX1_sectorsWith 6 = .ok (.bipush 48, 2) := by decide +kernel
theorem dX1_sectorsWith_8 : decode cX1_sectorsWith 8 = .ok (.iadd, 1) := by decide +kernel
theorem dX1_sectorsWith_9 : decode cX1_sectorsWith 9 = .ok (.iconst 1, 1) := by decide +kernel
theorem dX1_sectorsWith_10 : decode cX1_sectorsWith 10 = .ok (.isub, 1) := by decide +kernel
theorem dX1_sectorsWith_11 : decode cX1_sectorsWith 11 = .ok (.bipush 48, 2) := by decide +kernel
theorem dX1_sectorsWith_13 : decode cX1_sectorsWith 13 = .ok (.idiv, 1) := by decide +kernel
theorem dX1_sectorsWith_14 : decode cX1_sectorsWith 14 = .ok (.ireturn, 1) := by decide +kernel
theorem dX1_tellTo_0 : decode cX1_tellTo 0 = .ok (.iconst 0, 1) := by decide +kernel
theorem dX1_tellTo_1 : decode cX1_tellTo 1 = .ok (.istore_n 3, 1) := by decide +kernel
theorem dX1_tellTo_2 : decode cX1_tellTo 2 = .ok (.iconst 0, 1) := by decide +kernel
theorem dX1_tellTo_3 : decode cX1_tellTo 3 = .ok (.istore 4, 2) := by decide +kernel
theorem dX1_tellTo_5 : decode cX1_tellTo 5 = .ok (.iload 4, 2) := by decide +kernel
theorem dX1_tellTo_7 : decode cX1_tellTo 7 = .ok (.aload_n 0, 1) := by decide +kernel
theorem dX1_tellTo_8 : decode cX1_tellTo 8 = .ok (.getfield 19, 3) := by decide +kernel
theorem dX1_tellTo_11 : decode cX1_tellTo 11 = .ok (.if_icmp .ge 31, 3) := by decide +kernel
theorem dX1_tellTo_14 : decode cX1_tellTo 14 = .ok (.aload_n 1, 1) := by decide +kernel
theorem dX1_tellTo_15 : decode cX1_tellTo 15 = .ok (.iload_n 2, 1) := by decide +kernel
theorem dX1_tellTo_16 : decode cX1_tellTo 16 = .ok (.iload_n 3, 1) := by decide +kernel
theorem dX1_tellTo_17 : decode cX1_tellTo 17 = .ok (.bipush 48, 2) := by decide +kernel
theorem dX1_tellTo_19 : decode cX1_tellTo 19 = .ok (.idiv, 1) := by decide +kernel
theorem dX1_tellTo_20 : decode cX1_tellTo 20 = .ok (.invokestatic 54, 3) := by decide +kernel
theorem dX1_tellTo_23 : decode cX1_tellTo 23 = .ok (.iload_n 3, 1) := by decide +kernel
theorem dX1_tellTo_24 : decode cX1_tellTo 24 = .ok (.bipush 48, 2) := by decide +kernel
theorem dX1_tellTo_26 : decode cX1_tellTo 26 = .ok (.irem, 1) := by decide +kernel
theorem dX1_tellTo_27 : decode cX1_tellTo 27 = .ok (.invokevirtual 57, 3) := by decide +kernel
theorem dX1_tellTo_30 : decode cX1_tellTo 30 = .ok (.aload_n 0, 1) := by decide +kernel
theorem dX1_tellTo_31 : decode cX1_tellTo 31 = .ok (.iload_n 3, 1) := by decide +kernel
theorem dX1_tellTo_32 : decode cX1_tellTo 32 = .ok (.invokevirtual 33, 3) := by decide +kernel
theorem dX1_tellTo_35 : decode cX1_tellTo 35 = .ok (.istore_n 3, 1) := by decide +kernel
theorem dX1_tellTo_36 : decode cX1_tellTo 36 = .ok (.iinc 4 1, 3) := by decide +kernel
theorem dX1_tellTo_39 : decode cX1_tellTo 39 = .ok (.goto (-34), 3) := by decide +kernel
theorem dX1_tellTo_42 : decode cX1_tellTo 42 = .ok (.return_, 1) := by decide +kernel
theorem dX2_init_0 : decode cX2_init 0 = .ok (.aload_n 0, 1) := by decide +kernel
theorem dX2_init_1 : decode cX2_init 1 = .ok (.invokespecial 3, 3) := by decide +kernel
theorem dX2_init_4 : decode cX2_init 4 = .ok (.aload_n 0, 1) := by decide +kernel
theorem dX2_init_5 : decode cX2_init 5 = .ok (.bipush 6, 2) := by decide +kernel
theorem dX2_init_7 : decode cX2_init 7 = .ok (.newarray .int, 2) := by decide +kernel
theorem dX2_init_9 : decode cX2_init 9 = .ok (.putfield 9, 3) := by decide +kernel
theorem dX2_init_12 : decode cX2_init 12 = .ok (.aload_n 0, 1) := by decide +kernel
theorem dX2_init_13 : decode cX2_init 13 = .ok (.iconst 0, 1) := by decide +kernel
theorem dX2_init_14 : decode cX2_init 14 = .ok (.putfield 15, 3) := by decide +kernel
theorem dX2_init_17 : decode cX2_init 17 = .ok (.aload_n 0, 1) := by decide +kernel
theorem dX2_init_18 : decode cX2_init 18 = .ok (.iconst 2, 1) := by decide +kernel
theorem dX2_init_19 : decode cX2_init 19 = .ok (.putfield 19, 3) := by decide +kernel
theorem dX2_init_22 : decode cX2_init 22 = .ok (.aload_n 0, 1) := by decide +kernel
theorem dX2_init_23 : decode cX2_init 23 = .ok (.iconst 0, 1) := by decide +kernel
theorem dX2_init_24 : decode cX2_init 24 = .ok (.putfield 22, 3) := by decide +kernel
theorem dX2_init_27 : decode cX2_init 27 = .ok (.aload_n 0, 1) := by decide +kernel
theorem dX2_init_28 : decode cX2_init 28 = .ok (.iconst 0, 1) := by decide +kernel
theorem dX2_init_29 : decode cX2_init 29 = .ok (.putfield 25, 3) := by decide +kernel
theorem dX2_init_32 : decode cX2_init 32 = .ok (.return_, 1) := by decide +kernel
theorem dX3_init_0 : decode cX3_init 0 = .ok (.aload_n 0, 1) := by decide +kernel
theorem dX3_init_1 : decode cX3_init 1 = .ok (.invokespecial 3, 3) := by decide +kernel
theorem dX3_init_4 : decode cX3_init 4 = .ok (.aload_n 0, 1) := by decide +kernel
theorem dX3_init_5 : decode cX3_init 5 = .ok (.bipush 64, 2) := by decide +kernel
theorem dX3_init_7 : decode cX3_init 7 = .ok (.newarray .int, 2) := by decide +kernel
theorem dX3_init_9 : decode cX3_init 9 = .ok (.putfield 9, 3) := by decide +kernel
theorem dX3_init_12 : decode cX3_init 12 = .ok (.aload_n 0, 1) := by decide +kernel
theorem dX3_init_13 : decode cX3_init 13 = .ok (.iconst 0, 1) := by decide +kernel
theorem dX3_init_14 : decode cX3_init 14 = .ok (.putfield 15, 3) := by decide +kernel
theorem dX3_init_17 : decode cX3_init 17 = .ok (.return_, 1) := by decide +kernel
theorem dX3_get_0 : decode cX3_get 0 = .ok (.iload_n 1, 1) := by decide +kernel
theorem dX3_get_1 : decode cX3_get 1 = .ok (.ifCond .lt 21, 3) := by decide +kernel
theorem dX3_get_4 : decode cX3_get 4 = .ok (.iload_n 1, 1) := by decide +kernel
theorem dX3_get_5 : decode cX3_get 5 = .ok (.aload_n 0, 1) := by decide +kernel
theorem dX3_get_6 : decode cX3_get 6 = .ok (.getfield 9, 3) := by decide +kernel
theorem dX3_get_9 : decode cX3_get 9 = .ok (.arraylength, 1) := by decide +kernel
theorem dX3_get_10 : decode cX3_get 10 = .ok (.if_icmp .ge 12, 3) := by decide +kernel
theorem dX3_get_13 : decode cX3_get 13 = .ok (.aload_n 0, 1) := by decide +kernel
theorem dX3_get_14 : decode cX3_get 14 = .ok (.getfield 9, 3) := by decide +kernel
theorem dX3_get_17 : decode cX3_get 17 = .ok (.iload_n 1, 1) := by decide +kernel
theorem dX3_get_18 : decode cX3_get 18 = .ok (.iaload, 1) := by decide +kernel
theorem dX3_get_19 : decode cX3_get 19 = .ok (.goto 4, 3) := by decide +kernel
theorem dX3_get_22 : decode cX3_get 22 = .ok (.iconst 0, 1) := by decide +kernel
theorem dX3_get_23 : decode cX3_get 23 = .ok (.ireturn, 1) := by decide +kernel
theorem dX3_set_0 : decode cX3_set 0 = .ok (.iload_n 1, 1) := by decide +kernel
theorem dX3_set_1 : decode cX3_set 1 = .ok (.ifCond .lt 23, 3) := by decide +kernel
theorem dX3_set_4 : decode cX3_set 4 = .ok (.iload_n 1, 1) := by decide +kernel
theorem dX3_set_5 : decode cX3_set 5 = .ok (.aload_n 0, 1) := by decide +kernel
theorem dX3_set_6 : decode cX3_set 6 = .ok (.getfield 9, 3) := by decide +kernel
theorem dX3_set_9 : decode cX3_set 9 = .ok (.arraylength, 1) := by decide +kernel
theorem dX3_set_10 : decode cX3_set 10 = .ok (.if_icmp .ge 14, 3) := by decide +kernel
theorem dX3_set_13 : decode cX3_set 13 = .ok (.aload_n 0, 1) := by decide +kernel
theorem dX3_set_14 : decode cX3_set 14 = .ok (.getfield 9, 3) := by decide +kernel
theorem dX3_set_17 : decode cX3_set 17 = .ok (.iload_n 1, 1) := by decide +kernel
theorem dX3_set_18 : decode cX3_set 18 = .ok (.iload_n 2, 1) := by decide +kernel
theorem dX3_set_19 : decode cX3_set 19 = .ok (.sipush 255, 3) := by decide +kernel
theorem dX3_set_22 : decode cX3_set 22 = .ok (.iand, 1) := by decide +kernel
theorem dX3_set_23 : decode cX3_set 23 = .ok (.iastore, 1) := by decide +kernel
theorem dX3_set_24 : decode cX3_set 24 = .ok (.return_, 1) := by decide +kernel
theorem dX3_number_0 : decode cX3_number 0 = .ok (.iload_n 1, 1) := by decide +kernel
theorem dX3_number_1 : decode cX3_number 1 = .ok (.ifCond .lt 14, 3) := by decide +kernel
theorem dX3_number_4 : decode cX3_number 4 = .ok (.iload_n 1, 1) := by decide +kernel
theorem dX3_number_5 : decode cX3_number 5 = .ok (.aload_n 0, 1) := by decide +kernel
theorem dX3_number_6 : decode cX3_number 6 = .ok (.getfield 9, 3) := by decide +kernel
theorem dX3_number_9 : decode cX3_number 9 = .ok (.arraylength, 1) := by decide +kernel
theorem dX3_number_10 : decode cX3_number 10 = .ok (.iconst 4, 1) := by decide +kernel
theorem dX3_number_11 : decode cX3_number 11 = .ok (.isub, 1) := by decide +kernel
theorem dX3_number_12 : decode cX3_number 12 = .ok (.if_icmp .le 5, 3) := by decide +kernel
theorem dX3_number_15 : decode cX3_number 15 = .ok (.iconst 0, 1) := by decide +kernel
theorem dX3_number_16 : decode cX3_number 16 = .ok (.ireturn, 1) := by decide +kernel
theorem dX3_number_17 : decode cX3_number 17 = .ok (.aload_n 0, 1) := by decide +kernel
theorem dX3_number_18 : decode cX3_number 18 = .ok (.getfield 9, 3) := by decide +kernel
theorem dX3_number_21 : decode cX3_number 21 = .ok (.iload_n 1, 1) := by decide +kernel
theorem dX3_number_22 : decode cX3_number 22 = .ok (.iaload, 1) := by decide +kernel
theorem dX3_number_23 : decode cX3_number 23 = .ok (.bipush 24, 2) := by decide +kernel
theorem dX3_number_25 : decode cX3_number 25 = .ok (.ishl, 1) := by decide +kernel
theorem dX3_number_26 : decode cX3_number 26 = .ok (.aload_n 0, 1) := by decide +kernel
theorem dX3_number_27 : decode cX3_number 27 = .ok (.getfield 9, 3) := by decide +kernel
theorem dX3_number_30 : decode cX3_number 30 = .ok (.iload_n 1, 1) := by decide +kernel
theorem dX3_number_31 : decode cX3_number 31 = .ok (.iconst 1, 1) := by decide +kernel
theorem dX3_number_32 : decode cX3_number 32 = .ok (.iadd, 1) := by decide +kernel
theorem dX3_number_33 : decode cX3_number 33 = .ok (.iaload, 1) := by decide +kernel
theorem dX3_number_34 : decode cX3_number 34 = .ok (.bipush 16, 2) := by decide +kernel
theorem dX3_number_36 : decode cX3_number 36 = .ok (.ishl, 1) := by decide +kernel
theorem dX3_number_37 : decode cX3_number 37 = .ok (.ior, 1) := by decide +kernel
theorem dX3_number_38 : decode cX3_number 38 = .ok (.aload_n 0, 1) := by decide +kernel
theorem dX3_number_39 : decode cX3_number 39 = .ok (.getfield 9, 3) := by decide +kernel
theorem dX3_number_42 : decode cX3_number 42 = .ok (.iload_n 1, 1) := by decide +kernel
theorem dX3_number_43 : decode cX3_number 43 = .ok (.iconst 2, 1) := by decide +kernel
theorem dX3_number_44 : decode cX3_number 44 = .ok (.iadd, 1) := by decide +kernel
theorem dX3_number_45 : decode cX3_number 45 = .ok (.iaload, 1) := by decide +kernel
theorem dX3_number_46 : decode cX3_number 46 = .ok (.bipush 8, 2) := by decide +kernel
theorem dX3_number_48 : decode cX3_number 48 = .ok (.ishl, 1) := by decide +kernel
theorem dX3_number_49 : decode cX3_number 49 = .ok (.ior, 1) := by decide +kernel
theorem dX3_number_50 : decode cX3_number 50 = .ok (.aload_n 0, 1) := by decide +kernel
theorem dX3_number_51 : decode cX3_number 51 = .ok (.getfield 9, 3) := by decide +kernel
theorem dX3_number_54 : decode cX3_number 54 = .ok (.iload_n 1, 1) := by decide +kernel
theorem dX3_number_55 : decode cX3_number 55 = .ok (.iconst 3, 1) := by decide +kernel
theorem dX3_number_56 : decode cX3_number 56 = .ok (.iadd, 1) := by decide +kernel
theorem dX3_number_57 : decode cX3_number 57 = .ok (.iaload, 1) := by decide +kernel
theorem dX3_number_58 : decode cX3_number 58 = .ok (.ior, 1) := by decide +kernel
theorem dX3_number_59 : decode cX3_number 59 = .ok (.ireturn, 1) := by decide +kernel
theorem dX3_setNumber_0 : decode cX3_setNumber 0 = .ok (.aload_n 0, 1) := by decide +kernel
theorem dX3_setNumber_1 : decode cX3_setNumber 1 = .ok (.iload_n 1, 1) := by decide +kernel
theorem dX3_setNumber_2 : decode cX3_setNumber 2 = .ok (.iload_n 2, 1) := by decide +kernel
theorem dX3_setNumber_3 : decode cX3_setNumber 3 = .ok (.bipush 24, 2) := by decide +kernel
theorem dX3_setNumber_5 : decode cX3_setNumber 5 = .ok (.iushr, 1) := by decide +kernel
theorem dX3_setNumber_6 : decode cX3_setNumber 6 = .ok (.invokevirtual 19, 3) := by decide +kernel
theorem dX3_setNumber_9 : decode cX3_setNumber 9 = .ok (.aload_n 0, 1) := by decide +kernel
theorem dX3_setNumber_10 : decode cX3_setNumber 10 = .ok (.iload_n 1, 1) := by decide +kernel
theorem dX3_setNumber_11 : decode cX3_setNumber 11 = .ok (.iconst 1, 1) := by decide +kernel
theorem dX3_setNumber_12 : decode cX3_setNumber 12 = .ok (.iadd, 1) := by decide +kernel
theorem dX3_setNumber_13 : decode cX3_setNumber 13 = .ok (.iload_n 2, 1) := by decide +kernel
theorem dX3_setNumber_14 : decode cX3_setNumber 14 = .ok (.bipush 16, 2) := by decide +kernel
theorem dX3_setNumber_16 : decode cX3_setNumber 16 = .ok (.iushr, 1) := by decide +kernel
theorem dX3_setNumber_17 : decode cX3_setNumber 17 = .ok (.invokevirtual 19, 3) := by decide +kernel
theorem dX3_setNumber_20 : decode cX3_setNumber 20 = .ok (.aload_n 0, 1) := by decide +kernel
theorem dX3_setNumber_21 : decode cX3_setNumber 21 = .ok (.iload_n 1, 1) := by decide +kernel
theorem dX3_setNumber_22 : decode cX3_setNumber 22 = .ok (.iconst 2, 1) := by decide +kernel
theorem dX3_setNumber_23 : decode cX3_setNumber 23 = .ok (.iadd, 1) := by decide +kernel
theorem dX3_setNumber_24 : decode cX3_setNumber 24 = .ok (.iload_n 2, 1) := by decide +kernel
theorem dX3_setNumber_25 : decode cX3_setNumber 25 = .ok (.bipush 8, 2) := by decide +kernel
theorem dX3_setNumber_27 : decode cX3_setNumber 27 = .ok (.iushr, 1) := by decide +kernel
theorem dX3_setNumber_28 : decode cX3_setNumber 28 = .ok (.invokevirtual 19, 3) := by decide +kernel
theorem dX3_setNumber_31 : decode cX3_setNumber 31 = .ok (.aload_n 0, 1) := by decide +kernel
theorem dX3_setNumber_32 : decode cX3_setNumber 32 = .ok (.iload_n 1, 1) := by decide +kernel
theorem dX3_setNumber_33 : decode cX3_setNumber 33 = .ok (.iconst 3, 1) := by decide +kernel
theorem dX3_setNumber_34 : decode cX3_setNumber 34 = .ok (.iadd, 1) := by decide +kernel
theorem dX3_setNumber_35 : decode cX3_setNumber 35 = .ok (.iload_n 2, 1) := by decide +kernel
theorem dX3_setNumber_36 : decode cX3_setNumber 36 = .ok (.invokevirtual 19, 3) := by decide +kernel
theorem dX3_setNumber_39 : decode cX3_setNumber 39 = .ok (.return_, 1) := by decide +kernel
theorem dX3_clear_0 : decode cX3_clear 0 = .ok (.iconst 0, 1) := by decide +kernel
theorem dX3_clear_1 : decode cX3_clear 1 = .ok (.istore_n 1, 1) := by decide +kernel
theorem dX3_clear_2 : decode cX3_clear 2 = .ok (.iload_n 1, 1) := by decide +kernel
theorem dX3_clear_3 : decode cX3_clear 3 = .ok (.aload_n 0, 1) := by decide +kernel
theorem dX3_clear_4 : decode cX3_clear 4 = .ok (.getfield 9, 3) := by decide +kernel
theorem dX3_clear_7 : decode cX3_clear 7 = .ok (.arraylength, 1) := by decide +kernel
theorem dX3_clear_8 : decode cX3_clear 8 = .ok (.if_icmp .ge 16, 3) := by decide +kernel
theorem dX3_clear_11 : decode cX3_clear 11 = .ok (.aload_n 0, 1) := by decide +kernel
theorem dX3_clear_12 : decode cX3_clear 12 = .ok (.getfield 9, 3) := by decide +kernel
theorem dX3_clear_15 : decode cX3_clear 15 = .ok (.iload_n 1, 1) := by decide +kernel
theorem dX3_clear_16 : decode cX3_clear 16 = .ok (.iconst 0, 1) := by decide +kernel
theorem dX3_clear_17 : decode cX3_clear 17 = .ok (.iastore, 1) := by decide +kernel
theorem dX3_clear_18 : decode cX3_clear 18 = .ok (.iinc 1 1, 3) := by decide +kernel
theorem dX3_clear_21 : decode cX3_clear 21 = .ok (.goto (-19), 3) := by decide +kernel
theorem dX3_clear_24 : decode cX3_clear 24 = .ok (.return_, 1) := by decide +kernel
theorem dX3_takeWhole_0 : decode cX3_takeWhole 0 = .ok (.aload_n 0, 1) := by decide +kernel
theorem dX3_takeWhole_1 : decode cX3_takeWhole 1 = .ok (.aload_n 1, 1) := by decide +kernel
theorem dX3_takeWhole_2 : decode cX3_takeWhole 2 = .ok (.bipush 64, 2) := by decide +kernel
theorem dX3_takeWhole_4 : decode cX3_takeWhole 4 = .ok (.invokevirtual 23, 3) := by decide +kernel
theorem dX3_takeWhole_7 : decode cX3_takeWhole 7 = .ok (.aload_n 0, 1) := by decide +kernel
theorem dX3_takeWhole_8 : decode cX3_takeWhole 8 = .ok (.iconst 0, 1) := by decide +kernel
theorem dX3_takeWhole_9 : decode cX3_takeWhole 9 = .ok (.putfield 15, 3) := by decide +kernel
theorem dX3_takeWhole_12 : decode cX3_takeWhole 12 = .ok (.return_, 1) := by decide +kernel
theorem dX3_takeBytes_0 : decode cX3_takeBytes 0 = .ok (.iconst 0, 1) := by decide +kernel
theorem dX3_takeBytes_1 : decode cX3_takeBytes 1 = .ok (.istore_n 3, 1) := by decide +kernel
theorem dX3_takeBytes_2 : decode cX3_takeBytes 2 = .ok (.iload_n 3, 1) := by decide +kernel
theorem dX3_takeBytes_3 : decode cX3_takeBytes 3 = .ok (.iload_n 2, 1) := by decide +kernel
theorem dX3_takeBytes_4 : decode cX3_takeBytes 4 = .ok (.if_icmp .ge 25, 3) := by decide +kernel
theorem dX3_takeBytes_7 : decode cX3_takeBytes 7 = .ok (.iload_n 3, 1) := by decide +kernel
theorem dX3_takeBytes_8 : decode cX3_takeBytes 8 = .ok (.bipush 64, 2) := by decide +kernel
theorem dX3_takeBytes_10 : decode cX3_takeBytes 10 = .ok (.if_icmp .ge 19, 3) := by decide +kernel
theorem dX3_takeBytes_13 : decode cX3_takeBytes 13 = .ok (.aload_n 0, 1) := by decide +kernel
theorem dX3_takeBytes_14 : decode cX3_takeBytes 14 = .ok (.iload_n 3, 1) := by decide +kernel
theorem dX3_takeBytes_15 : decode cX3_takeBytes 15 = .ok (.aload_n 1, 1) := by decide +kernel
theorem dX3_takeBytes_16 : decode cX3_takeBytes 16 = .ok (.iload_n 3, 1) := by decide +kernel
theorem dX3_takeBytes_17 : decode cX3_takeBytes 17 = .ok (.invokevirtual 27, 3) := by decide +kernel
theorem dX3_takeBytes_20 : decode cX3_takeBytes 20 = .ok (.invokevirtual 19, 3) := by decide +kernel
theorem dX3_takeBytes_23 : decode cX3_takeBytes 23 = .ok (.iinc 3 1, 3) := by decide +kernel
theorem dX3_takeBytes_26 : decode cX3_takeBytes 26 = .ok (.goto (-24), 3) := by decide +kernel
theorem dX3_takeBytes_29 : decode cX3_takeBytes 29 = .ok (.return_, 1) := by decide +kernel
theorem dX3_sumOver_0 : decode cX3_sumOver 0 = .ok (.iload_n 1, 1) := by decide +kernel
theorem dX3_sumOver_1 : decode cX3_sumOver 1 = .ok (.istore 4, 2) := by decide +kernel
theorem dX3_sumOver_3 : decode cX3_sumOver 3 = .ok (.iload_n 2, 1) := by decide +kernel
theorem dX3_sumOver_4 : decode cX3_sumOver 4 = .ok (.istore 5, 2) := by decide +kernel
theorem dX3_sumOver_6 : decode cX3_sumOver 6 = .ok (.iload 5, 2) := by decide +kernel
theorem dX3_sumOver_8 : decode cX3_sumOver 8 = .ok (.ifCond .lt 77, 3) := by decide +kernel
theorem dX3_sumOver_11 : decode cX3_sumOver 11 = .ok (.iload 5, 2) := by decide +kernel
theorem dX3_sumOver_13 : decode cX3_sumOver 13 = .ok (.iload_n 3, 1) := by decide +kernel
theorem dX3_sumOver_14 : decode cX3_sumOver 14 = .ok (.if_icmp .ge 71, 3) := by decide +kernel
theorem dX3_sumOver_17 : decode cX3_sumOver 17 = .ok (.iload 5, 2) := by decide +kernel
theorem dX3_sumOver_19 : decode cX3_sumOver 19 = .ok (.aload_n 0, 1) := by decide +kernel
theorem dX3_sumOver_20 : decode cX3_sumOver 20 = .ok (.getfield 9, 3) := by decide +kernel
theorem dX3_sumOver_23 : decode cX3_sumOver 23 = .ok (.arraylength, 1) := by decide +kernel
theorem dX3_sumOver_24 : decode cX3_sumOver 24 = .ok (.if_icmp .ge 61, 3) := by decide +kernel
theorem dX3_sumOver_27 : decode cX3_sumOver 27 = .ok (.iload 4, 2) := by decide +kernel
theorem dX3_sumOver_29 : decode cX3_sumOver 29 = .ok (.aload_n 0, 1) := by decide +kernel
theorem dX3_sumOver_30 : decode cX3_sumOver 30 = .ok (.getfield 9, 3) := by decide +kernel
theorem dX3_sumOver_33 : decode cX3_sumOver 33 = .ok (.iload 5, 2) := by decide +kernel
theorem dX3_sumOver_35 : decode cX3_sumOver 35 = .ok (.iaload, 1) := by decide +kernel
theorem dX3_sumOver_36 : decode cX3_sumOver 36 = .ok (.ixor, 1) := by decide +kernel
theorem dX3_sumOver_37 : decode cX3_sumOver 37 = .ok (.istore 4, 2) := by decide +kernel
theorem dX3_sumOver_39 : decode cX3_sumOver 39 = .ok (.iconst 0, 1) := by decide +kernel
theorem dX3_sumOver_40 : decode cX3_sumOver 40 = .ok (.istore 6, 2) := by decide +kernel
theorem dX3_sumOver_42 : decode cX3_sumOver 42 = .ok (.iload 6, 2) := by decide +kernel
theorem dX3_sumOver_44 : decode cX3_sumOver 44 = .ok (.bipush 8, 2) := by decide +kernel
theorem dX3_sumOver_46 : decode cX3_sumOver 46 = .ok (.if_icmp .ge 33, 3) := by decide +kernel
theorem dX3_sumOver_49 : decode cX3_sumOver 49 = .ok (.iload 4, 2) := by decide +kernel
theorem dX3_sumOver_51 : decode cX3_sumOver 51 = .ok (.iconst 1, 1) := by decide +kernel
theorem dX3_sumOver_52 : decode cX3_sumOver 52 = .ok (.iand, 1) := by decide +kernel
theorem dX3_sumOver_53 : decode cX3_sumOver 53 = .ok (.iconst 1, 1) := by decide +kernel
theorem dX3_sumOver_54 : decode cX3_sumOver 54 = .ok (.if_icmp .ne 13, 3) := by decide +kernel
theorem dX3_sumOver_57 : decode cX3_sumOver 57 = .ok (.iload 4, 2) := by decide +kernel
theorem dX3_sumOver_59 : decode cX3_sumOver 59 = .ok (.iconst 1, 1) := by decide +kernel
theorem dX3_sumOver_60 : decode cX3_sumOver 60 = .ok (.iushr, 1) := by decide +kernel
theorem dX3_sumOver_61 : decode cX3_sumOver 61 = .ok (.ldc 31, 2) := by decide +kernel
theorem dX3_sumOver_63 : decode cX3_sumOver 63 = .ok (.ixor, 1) := by decide +kernel
theorem dX3_sumOver_64 : decode cX3_sumOver 64 = .ok (.goto 7, 3) := by decide +kernel
theorem dX3_sumOver_67 : decode cX3_sumOver 67 = .ok (.iload 4, 2) := by decide +kernel
theorem dX3_sumOver_69 : decode cX3_sumOver 69 = .ok (.iconst 1, 1) := by decide +kernel
theorem dX3_sumOver_70 : decode cX3_sumOver 70 = .ok (.iushr, 1) := by decide +kernel
theorem dX3_sumOver_71 : decode cX3_sumOver 71 = .ok (.istore 4, 2) := by decide +kernel
theorem dX3_sumOver_73 : decode cX3_sumOver 73 = .ok (.iinc 6 1, 3) := by decide +kernel
theorem dX3_sumOver_76 : decode cX3_sumOver 76 = .ok (.goto (-34), 3) := by decide +kernel
theorem dX3_sumOver_79 : decode cX3_sumOver 79 = .ok (.iinc 5 1, 3) := by decide +kernel
theorem dX3_sumOver_82 : decode cX3_sumOver 82 = .ok (.goto (-76), 3) := by decide +kernel
theorem dX3_sumOver_85 : decode cX3_sumOver 85 = .ok (.iload 4, 2) := by decide +kernel
theorem dX3_sumOver_87 : decode cX3_sumOver 87 = .ok (.ireturn, 1) := by decide +kernel
theorem dX3_headSum_0 : decode cX3_headSum 0 = .ok (.aload_n 0, 1) := by decide +kernel
theorem dX3_headSum_1 : decode cX3_headSum 1 = .ok (.iconst (-1), 1) := by decide +kernel
theorem dX3_headSum_2 : decode cX3_headSum 2 = .ok (.iconst 0, 1) := by decide +kernel
theorem dX3_headSum_3 : decode cX3_headSum 3 = .ok (.bipush 13, 2) := by decide +kernel
theorem dX3_headSum_5 : decode cX3_headSum 5 = .ok (.invokevirtual 32, 3) := by decide +kernel
theorem dX3_headSum_8 : decode cX3_headSum 8 = .ok (.iconst (-1), 1) := by decide +kernel
theorem dX3_headSum_9 : decode cX3_headSum 9 = .ok (.ixor, 1) := by decide +kernel
theorem dX3_headSum_10 : decode cX3_headSum 10 = .ok (.ireturn, 1) := by decide +kernel
theorem dX3_makeHead_0 : decode cX3_makeHead 0 = .ok (.aload_n 0, 1) := by decide +kernel
theorem dX3_makeHead_1 : decode cX3_makeHead 1 = .ok (.invokevirtual 36, 3) := by decide +kernel
theorem dX3_makeHead_4 : decode cX3_makeHead 4 = .ok (.aload_n 0, 1) := by decide +kernel
theorem dX3_makeHead_5 : decode cX3_makeHead 5 = .ok (.iconst 0, 1) := by decide +kernel
theorem dX3_makeHead_6 : decode cX3_makeHead 6 = .ok (.iload_n 1, 1) := by decide +kernel
theorem dX3_makeHead_7 : decode cX3_makeHead 7 = .ok (.invokevirtual 39, 3) := by decide +kernel
theorem dX3_makeHead_10 : decode cX3_makeHead 10 = .ok (.aload_n 0, 1) := by decide +kernel
theorem dX3_makeHead_11 : decode cX3_makeHead 11 = .ok (.iconst 4, 1) := by decide +kernel
theorem dX3_makeHead_12 : decode cX3_makeHead 12 = .ok (.iload_n 2, 1) := by decide +kernel
theorem dX3_makeHead_13 : decode cX3_makeHead 13 = .ok (.invokevirtual 39, 3) := by decide +kernel
theorem dX3_makeHead_16 : decode cX3_makeHead 16 = .ok (.aload_n 0, 1) := by decide +kernel
theorem dX3_makeHead_17 : decode cX3_makeHead 17 = .ok (.bipush 8, 2) := by decide +kernel
theorem dX3_makeHead_19 : decode cX3_makeHead 19 = .ok (.iload_n 3, 1) := by decide +kernel
theorem dX3_makeHead_20 : decode cX3_makeHead 20 = .ok (.invokevirtual 39, 3) := by decide +kernel
theorem dX3_makeHead_23 : decode cX3_makeHead 23 = .ok (.aload_n 0, 1) := by decide +kernel
theorem dX3_makeHead_24 : decode cX3_makeHead 24 = .ok (.bipush 12, 2) := by decide +kernel
theorem dX3_makeHead_26 : decode cX3_makeHead 26 = .ok (.iload 4, 2) := by decide +kernel
theorem dX3_makeHead_28 : decode cX3_makeHead 28 = .ok (.invokevirtual 19, 3) := by decide +kernel
theorem dX3_makeHead_31 : decode cX3_makeHead 31 = .ok (.aload_n 0, 1) := by decide +kernel
theorem dX3_makeHead_32 : decode cX3_makeHead 32 = .ok (.bipush 13, 2) := by decide +kernel
theorem dX3_makeHead_34 : decode cX3_makeHead 34 = .ok (.aload_n 0, 1) := by decide +kernel
theorem dX3_makeHead_35 : decode cX3_makeHead 35 = .ok (.invokevirtual 42, 3) := by decide +kernel
theorem dX3_makeHead_38 : decode cX3_makeHead 38 = .ok (.invokevirtual 39, 3) := by decide +kernel
theorem dX3_makeHead_41 : decode cX3_makeHead 41 = .ok (.return_, 1) := by decide +kernel
theorem dX3_isGoodHead_0 : decode cX3_isGoodHead 0 = .ok (.aload_n 0, 1) := by decide +kernel
theorem dX3_isGoodHead_1 : decode cX3_isGoodHead 1 = .ok (.getfield 15, 3) := by decide +kernel
theorem dX3_isGoodHead_4 : decode cX3_isGoodHead 4 = .ok (.ifCond .ne 61, 3) := by decide +kernel
theorem dX3_isGoodHead_7 : decode cX3_isGoodHead 7 = .ok (.aload_n 0, 1) := by decide +kernel
theorem dX3_isGoodHead_8 : decode cX3_isGoodHead 8 = .ok (.bipush 13, 2) := by decide +kernel
theorem dX3_isGoodHead_10 : decode cX3_isGoodHead 10 = .ok (.invokevirtual 46, 3) := by decide +kernel
theorem dX3_isGoodHead_13 : decode cX3_isGoodHead 13 = .ok (.aload_n 0, 1) := by decide +kernel
theorem dX3_isGoodHead_14 : decode cX3_isGoodHead 14 = .ok (.invokevirtual 42, 3) := by decide +kernel
theorem dX3_isGoodHead_17 : decode cX3_isGoodHead 17 = .ok (.if_icmp .ne 48, 3) := by decide +kernel
theorem dX3_isGoodHead_20 : decode cX3_isGoodHead 20 = .ok (.aload_n 0, 1) := by decide +kernel
theorem dX3_isGoodHead_21 : decode cX3_isGoodHead 21 = .ok (.invokevirtual 49, 3) := by decide +kernel
theorem dX3_isGoodHead_24 : decode cX3_isGoodHead 24 = .ok (.ifCond .eq 41, 3) := by decide +kernel
theorem dX3_isGoodHead_27 : decode cX3_isGoodHead 27 = .ok (.aload_n 0, 1) := by decide +kernel
theorem dX3_isGoodHead_28 : decode cX3_isGoodHead 28 = .ok (.invokevirtual 52, 3) := by decide +kernel
theorem dX3_isGoodHead_31 : decode cX3_isGoodHead 31 = .ok (.iconst 1, 1) := by decide +kernel
theorem dX3_isGoodHead_32 : decode cX3_isGoodHead 32 = .ok (.if_icmp .lt 33, 3) := by decide +kernel
theorem dX3_isGoodHead_35 : decode cX3_isGoodHead 35 = .ok (.aload_n 0, 1) := by decide +kernel
theorem dX3_isGoodHead_36 : decode cX3_isGoodHead 36 = .ok (.invokevirtual 52, 3) := by decide +kernel
theorem dX3_isGoodHead_39 : decode cX3_isGoodHead 39 = .ok (.ldc 55, 2) := by decide +kernel
theorem dX3_isGoodHead_41 : decode cX3_isGoodHead 41 = .ok (.if_icmp .gt 24, 3) := by decide +kernel
theorem dX3_isGoodHead_44 : decode cX3_isGoodHead 44 = .ok (.aload_n 0, 1) := by decide +kernel
theorem dX3_isGoodHead_45 : decode cX3_isGoodHead 45 = .ok (.invokevirtual 56, 3) := by decide +kernel
theorem dX3_isGoodHead_48 : decode cX3_isGoodHead 48 = .ok (.iconst 2, 1) := by decide +kernel
theorem dX3_isGoodHead_49 : decode cX3_isGoodHead 49 = .ok (.if_icmp .lt 16, 3) := by decide +kernel
theorem dX3_isGoodHead_52 : decode cX3_isGoodHead 52 = .ok (.aload_n 0, 1) := by decide +kernel
theorem dX3_isGoodHead_53 : decode cX3_isGoodHead 53 = .ok (.invokevirtual 56, 3) := by decide +kernel
theorem dX3_isGoodHead_56 : decode cX3_isGoodHead 56 = .ok (.bipush 64, 2) := by decide +kernel
theorem dX3_isGoodHead_58 : decode cX3_isGoodHead 58 = .ok (.if_icmp .ge 7, 3) := by decide +kernel
theorem dX3_isGoodHead_61 : decode cX3_isGoodHead 61 = .ok (.iconst 1, 1) := by decide +kernel
theorem dX3_isGoodHead_62 : decode cX3_isGoodHead 62 = .ok (.goto 4, 3) := by decide +kernel
theorem dX3_isGoodHead_65 : decode cX3_isGoodHead 65 = .ok (.iconst 0, 1) := by decide +kernel
theorem dX3_isGoodHead_66 : decode cX3_isGoodHead 66 = .ok (.ireturn, 1) := by decide +kernel
theorem dX3_headVersion_0 : decode cX3_headVersion 0 = .ok (.aload_n 0, 1) := by decide +kernel
theorem dX3_headVersion_1 : decode cX3_headVersion 1 = .ok (.iconst 0, 1) := by decide +kernel
theorem dX3_headVersion_2 : decode cX3_headVersion 2 = .ok (.invokevirtual 46, 3) := by decide +kernel
theorem dX3_headVersion_5 : decode cX3_headVersion 5 = .ok (.ireturn, 1) := by decide +kernel
theorem dX3_headRecord_0 : decode cX3_headRecord 0 = .ok (.aload_n 0, 1) := by decide +kernel
theorem dX3_headRecord_1 : decode cX3_headRecord 1 = .ok (.bipush 8, 2) := by decide +kernel
theorem dX3_headRecord_3 : decode cX3_headRecord 3 = .ok (.invokevirtual 46, 3) := by decide +kernel
theorem dX3_headRecord_6 : decode cX3_headRecord 6 = .ok (.ireturn, 1) := by decide +kernel
theorem dX3_headPlace_0 : decode cX3_headPlace 0 = .ok (.aload_n 0, 1) := by decide +kernel
theorem dX3_headPlace_1 : decode cX3_headPlace 1 = .ok (.bipush 12, 2) := by decide +kernel
theorem dX3_headPlace_3 : decode cX3_headPlace 3 = .ok (.invokevirtual 27, 3) := by decide +kernel
theorem dX3_headPlace_6 : decode cX3_headPlace 6 = .ok (.ireturn, 1) := by decide +kernel
theorem dX4_init_0 : decode cX4_init 0 = .ok (.aload_n 0, 1) := by decide +kernel
theorem dX4_init_1 : decode cX4_init 1 = .ok (.invokespecial 3, 3) := by decide +kernel
theorem dX4_init_4 : decode cX4_init 4 = .ok (.aload_n 0, 1) := by decide +kernel
theorem dX4_init_5 : decode cX4_init 5 = .ok (.bipush 64, 2) := by decide +kernel
theorem dX4_init_7 : decode cX4_init 7 = .ok (.anewarray 9, 3) := by decide +kernel
theorem dX4_init_10 : decode cX4_init 10 = .ok (.putfield 11, 3) := by decide +kernel
theorem dX4_init_13 : decode cX4_init 13 = .ok (.iconst 0, 1) := by decide +kernel
theorem dX4_init_14 : decode cX4_init 14 = .ok (.istore_n 1, 1) := by decide +kernel
theorem dX4_init_15 : decode cX4_init 15 = .ok (.iload_n 1, 1) := by decide +kernel
theorem dX4_init_16 : decode cX4_init 16 = .ok (.aload_n 0, 1) := by decide +kernel
theorem dX4_init_17 : decode cX4_init 17 = .ok (.getfield 11, 3) := by decide +kernel
theorem dX4_init_20 : decode cX4_init 20 = .ok (.arraylength, 1) := by decide +kernel
theorem dX4_init_21 : decode cX4_init 21 = .ok (.if_icmp .ge 22, 3) := by decide +kernel
theorem dX4_init_24 : decode cX4_init 24 = .ok (.aload_n 0, 1) := by decide +kernel
theorem dX4_init_25 : decode cX4_init 25 = .ok (.getfield 11, 3) := by decide +kernel
theorem dX4_init_28 : decode cX4_init 28 = .ok (.iload_n 1, 1) := by decide +kernel
theorem dX4_init_29 : decode cX4_init 29 = .ok (.new 9, 3) := by decide +kernel
theorem dX4_init_32 : decode cX4_init 32 = .ok (.dup, 1) := by decide +kernel
theorem dX4_init_33 : decode cX4_init 33 = .ok (.invokespecial 17, 3) := by decide +kernel
theorem dX4_init_36 : decode cX4_init 36 = .ok (.aastore, 1) := by decide +kernel
theorem dX4_init_37 : decode cX4_init 37 = .ok (.iinc 1 1, 3) := by decide +kernel
theorem dX4_init_40 : decode cX4_init 40 = .ok (.goto (-25), 3) := by decide +kernel
theorem dX4_init_43 : decode cX4_init 43 = .ok (.aload_n 0, 1) := by decide +kernel
theorem dX4_init_44 : decode cX4_init 44 = .ok (.iconst 0, 1) := by decide +kernel
theorem dX4_init_45 : decode cX4_init 45 = .ok (.putfield 18, 3) := by decide +kernel
theorem dX4_init_48 : decode cX4_init 48 = .ok (.aload_n 0, 1) := by decide +kernel
theorem dX4_init_49 : decode cX4_init 49 = .ok (.iconst (-1), 1) := by decide +kernel
theorem dX4_init_50 : decode cX4_init 50 = .ok (.putfield 22, 3) := by decide +kernel
theorem dX4_init_53 : decode cX4_init 53 = .ok (.aload_n 0, 1) := by decide +kernel
theorem dX4_init_54 : decode cX4_init 54 = .ok (.iconst 0, 1) := by decide +kernel
theorem dX4_init_55 : decode cX4_init 55 = .ok (.putfield 25, 3) := by decide +kernel
theorem dX4_init_58 : decode cX4_init 58 = .ok (.return_, 1) := by decide +kernel
theorem dX4_sector_0 : decode cX4_sector 0 = .ok (.aload_n 0, 1) := by decide +kernel
theorem dX4_sector_1 : decode cX4_sector 1 = .ok (.getfield 11, 3) := by decide +kernel
theorem dX4_sector_4 : decode cX4_sector 4 = .ok (.iload_n 1, 1) := by decide +kernel
theorem dX4_sector_5 : decode cX4_sector 5 = .ok (.ifCond .lt 16, 3) := by decide +kernel
theorem dX4_sector_8 : decode cX4_sector 8 = .ok (.iload_n 1, 1) := by decide +kernel
theorem dX4_sector_9 : decode cX4_sector 9 = .ok (.aload_n 0, 1) := by decide +kernel
theorem dX4_sector_10 : decode cX4_sector 10 = .ok (.getfield 11, 3) := by decide +kernel
theorem dX4_sector_13 : decode cX4_sector 13 = .ok (.arraylength, 1) := by decide +kernel
theorem dX4_sector_14 : decode cX4_sector 14 = .ok (.if_icmp .ge 7, 3) := by decide +kernel
theorem dX4_sector_17 : decode cX4_sector 17 = .ok (.iload_n 1, 1) := by decide +kernel
theorem dX4_sector_18 : decode cX4_sector 18 = .ok (.goto 4, 3) := by decide +kernel
theorem dX4_sector_21 : decode cX4_sector 21 = .ok (.iconst 0, 1) := by decide +kernel
theorem dX4_sector_22 : decode cX4_sector 22 = .ok (.aaload, 1) := by decide +kernel
theorem dX4_sector_23 : decode cX4_sector 23 = .ok (.areturn, 1) := by decide +kernel
theorem dX4_write_0 : decode cX4_write 0 = .ok (.aload_n 0, 1) := by decide +kernel
theorem dX4_write_1 : decode cX4_write 1 = .ok (.getfield 22, 3) := by decide +kernel
theorem dX4_write_4 : decode cX4_write 4 = .ok (.ifCond .ne 18, 3) := by decide +kernel
theorem dX4_write_7 : decode cX4_write 7 = .ok (.aload_n 0, 1) := by decide +kernel
theorem dX4_write_8 : decode cX4_write 8 = .ok (.iload_n 1, 1) := by decide +kernel
theorem dX4_write_9 : decode cX4_write 9 = .ok (.invokevirtual 28, 3) := by decide +kernel
theorem dX4_write_12 : decode cX4_write 12 = .ok (.aload_n 2, 1) := by decide +kernel
theorem dX4_write_13 : decode cX4_write 13 = .ok (.aload_n 0, 1) := by decide +kernel
theorem dX4_write_14 : decode cX4_write 14 = .ok (.getfield 25, 3) := by decide +kernel
theorem dX4_write_17 : decode cX4_write 17 = .ok (.invokevirtual 32, 3) := by decide +kernel
theorem dX4_write_20 : decode cX4_write 20 = .ok (.iconst 0, 1) := by decide +kernel
theorem dX4_write_21 : decode cX4_write 21 = .ok (.ireturn, 1) := by decide +kernel
theorem dX4_write_22 : decode cX4_write 22 = .ok (.aload_n 0, 1) := by decide +kernel
theorem dX4_write_23 : decode cX4_write 23 = .ok (.getfield 22, 3) := by decide +kernel
theorem dX4_write_26 : decode cX4_write 26 = .ok (.ifCond .le 13, 3) := by decide +kernel
theorem dX4_write_29 : decode cX4_write 29 = .ok (.aload_n 0, 1) := by decide +kernel
theorem dX4_write_30 : decode cX4_write 30 = .ok (.dup, 1) := by decide +kernel
theorem dX4_write_31 : decode cX4_write 31 = .ok (.getfield 22, 3) := by decide +kernel
theorem dX4_write_34 : decode cX4_write 34 = .ok (.iconst 1, 1) := by decide +kernel
theorem dX4_write_35 : decode cX4_write 35 = .ok (.isub, 1) := by decide +kernel
theorem dX4_write_36 : decode cX4_write 36 = .ok (.putfield 22, 3) := by decide +kernel
theorem dX4_write_39 : decode cX4_write 39 = .ok (.aload_n 0, 1) := by decide +kernel
theorem dX4_write_40 : decode cX4_write 40 = .ok (.iload_n 1, 1) := by decide +kernel
theorem dX4_write_41 : decode cX4_write 41 = .ok (.invokevirtual 28, 3) := by decide +kernel
theorem dX4_write_44 : decode cX4_write 44 = .ok (.aload_n 2, 1) := by decide +kernel
theorem dX4_write_45 : decode cX4_write 45 = .ok (.invokevirtual 36, 3) := by decide +kernel
theorem dX4_write_48 : decode cX4_write 48 = .ok (.aload_n 0, 1) := by decide +kernel
theorem dX4_write_49 : decode cX4_write 49 = .ok (.dup, 1) := by decide +kernel
theorem dX4_write_50 : decode cX4_write 50 = .ok (.getfield 18, 3) := by decide +kernel
theorem dX4_write_53 : decode cX4_write 53 = .ok (.iconst 1, 1) := by decide +kernel
theorem dX4_write_54 : decode cX4_write 54 = .ok (.iadd, 1) := by decide +kernel
theorem dX4_write_55 : decode cX4_write 55 = .ok (.putfield 18, 3) := by decide +kernel
theorem dX4_write_58 : decode cX4_write 58 = .ok (.iconst 1, 1) := by decide +kernel
theorem dX4_write_59 : decode cX4_write 59 = .ok (.ireturn, 1) := by decide +kernel
theorem dX4_latestHead_0 : decode cX4_latestHead 0 = .ok (.aload_n 0, 1) := by decide +kernel
theorem dX4_latestHead_1 : decode cX4_latestHead 1 = .ok (.iconst 0, 1) := by decide +kernel
theorem dX4_latestHead_2 : decode cX4_latestHead 2 = .ok (.invokevirtual 28, 3) := by decide +kernel
theorem dX4_latestHead_5 : decode cX4_latestHead 5 = .ok (.invokevirtual 40, 3) := by decide +kernel
theorem dX4_latestHead_8 : decode cX4_latestHead 8 = .ok (.istore_n 1, 1) := by decide +kernel
theorem dX4_latestHead_9 : decode cX4_latestHead 9 = .ok (.aload_n 0, 1) := by decide +kernel
theorem dX4_latestHead_10 : decode cX4_latestHead 10 = .ok (.iconst 1, 1) := by decide +kernel
theorem dX4_latestHead_11 : decode cX4_latestHead 11 = .ok (.invokevirtual 28, 3) := by decide +kernel
theorem dX4_latestHead_14 : decode cX4_latestHead 14 = .ok (.invokevirtual 40, 3) := by decide +kernel
theorem dX4_latestHead_17 : decode cX4_latestHead 17 = .ok (.istore_n 2, 1) := by decide +kernel
theorem dX4_latestHead_18 : decode cX4_latestHead 18 = .ok (.iload_n 1, 1) := by decide +kernel
theorem dX4_latestHead_19 : decode cX4_latestHead 19 = .ok (.ifCond .eq 35, 3) := by decide +kernel
theorem dX4_latestHead_22 : decode cX4_latestHead 22 = .ok (.iload_n 2, 1) := by decide +kernel
theorem dX4_latestHead_23 : decode cX4_latestHead 23 = .ok (.ifCond .eq 31, 3) := by decide +kernel
theorem dX4_latestHead_26 : decode cX4_latestHead 26 = .ok (.aload_n 0, 1) := by decide +kernel
theorem dX4_latestHead_27 : decode cX4_latestHead 27 = .ok (.iconst 0, 1) := by decide +kernel
theorem dX4_latestHead_28 : decode cX4_latestHead 28 = .ok (.invokevirtual 28, 3) := by decide +kernel
theorem dX4_latestHead_31 : decode cX4_latestHead 31 = .ok (.invokevirtual 44, 3) := by decide +kernel
theorem dX4_latestHead_34 : decode cX4_latestHead 34 = .ok (.aload_n 0, 1) := by decide +kernel
theorem dX4_latestHead_35 : decode cX4_latestHead 35 = .ok (.iconst 1, 1) := by decide +kernel
theorem dX4_latestHead_36 : decode cX4_latestHead 36 = .ok (.invokevirtual 28, 3) := by decide +kernel
theorem dX4_latestHead_39 : decode cX4_latestHead 39 = .ok (.invokevirtual 44, 3) := by decide +kernel
theorem dX4_latestHead_42 : decode cX4_latestHead 42 = .ok (.invokestatic 48, 3) := by decide +kernel
theorem dX4_latestHead_45 : decode cX4_latestHead 45 = .ok (.ifCond .eq 7, 3) := by decide +kernel
theorem dX4_latestHead_48 : decode cX4_latestHead 48 = .ok (.iconst 1, 1) := by decide +kernel
theorem dX4_latestHead_49 : decode cX4_latestHead 49 = .ok (.goto 4, 3) := by decide +kernel
theorem dX4_latestHead_52 : decode cX4_latestHead 52 = .ok (.iconst 0, 1) := by decide +kernel
theorem dX4_latestHead_53 : decode cX4_latestHead 53 = .ok (.ireturn, 1) := by decide +kernel
theorem dX4_latestHead_54 : decode cX4_latestHead 54 = .ok (.iload_n 1, 1) := by decide +kernel
theorem dX4_latestHead_55 : decode cX4_latestHead 55 = .ok (.ifCond .eq 7, 3) := by decide +kernel
theorem dX4_latestHead_58 : decode cX4_latestHead 58 = .ok (.iconst 0, 1) := by decide +kernel
theorem dX4_latestHead_59 : decode cX4_latestHead 59 = .ok (.goto 12, 3) := by decide +kernel
theorem dX4_latestHead_62 : decode cX4_latestHead 62 = .ok (.iload_n 2, 1) := by decide +kernel
theorem dX4_latestHead_63 : decode cX4_latestHead 63 = .ok (.ifCond .eq 7, 3) := by decide +kernel
theorem dX4_latestHead_66 : decode cX4_latestHead 66 = .ok (.iconst 1, 1) := by decide +kernel
theorem dX4_latestHead_67 : decode cX4_latestHead 67 = .ok (.goto 4, 3) := by decide +kernel
theorem dX4_latestHead_70 : decode cX4_latestHead 70 = .ok (.iconst (-1), 1) := by decide +kernel
theorem dX4_latestHead_71 : decode cX4_latestHead 71 = .ok (.ireturn, 1) := by decide +kernel
theorem dX4_headVersion_0 : decode cX4_headVersion 0 = .ok (.aload_n 0, 1) := by decide +kernel
theorem dX4_headVersion_1 : decode cX4_headVersion 1 = .ok (.invokevirtual 52, 3) := by decide +kernel
theorem dX4_headVersion_4 : decode cX4_headVersion 4 = .ok (.istore_n 1, 1) := by decide +kernel
theorem dX4_headVersion_5 : decode cX4_headVersion 5 = .ok (.iload_n 1, 1) := by decide +kernel
theorem dX4_headVersion_6 : decode cX4_headVersion 6 = .ok (.iconst (-1), 1) := by decide +kernel
theorem dX4_headVersion_7 : decode cX4_headVersion 7 = .ok (.if_icmp .ne 7, 3) := by decide +kernel
theorem dX4_headVersion_10 : decode cX4_headVersion 10 = .ok (.iconst 0, 1) := by decide +kernel
theorem dX4_headVersion_11 : decode cX4_headVersion 11 = .ok (.goto 11, 3) := by decide +kernel
theorem dX4_headVersion_14 : decode cX4_headVersion 14 = .ok (.aload_n 0, 1) := by decide +kernel
theorem dX4_headVersion_15 : decode cX4_headVersion 15 = .ok (.iload_n 1, 1) := by decide +kernel
theorem dX4_headVersion_16 : decode cX4_headVersion 16 = .ok (.invokevirtual 28, 3) := by decide +kernel
theorem dX4_headVersion_19 : decode cX4_headVersion 19 = .ok (.invokevirtual 44, 3) := by decide +kernel
theorem dX4_headVersion_22 : decode cX4_headVersion 22 = .ok (.ireturn, 1) := by decide +kernel
