set_option maxRecDepth 20000 in
theorem ggX3_init_X2_init : GoodIn wsX3_init wsX2_init := goodIn_r _ [15, 16, 2, 3, 17, 4, 18, 19, 20, 21, 22, 23, 24, 25, 26, 27, 37, 38, 39, 40, 41, 42, 43, 44, 45, 46, 47, 48, 49, 50] (by decide +kernel) (by decide +kernel)
set_option maxRecDepth 20000 in
theorem gX3_init_X2_init_n25 : GoodIn wsX3_init (wsX2_init) := ggX3_init_X2_init
theorem dX3_init_0 : decode cX3_init 0 = .ok (.aload_n 0, 1) := by decide +kernel
theorem dX3_init_1 : decode cX3_init 1 = .ok (.invokespecial 1, 3) := by decide +kernel
theorem dX3_init_4 : decode cX3_init 4 = .ok (.aload_n 0, 1) := by decide +kernel
theorem dX3_init_5 : decode cX3_init 5 = .ok (.bipush 10, 2) := by decide +kernel
theorem dX3_init_7 : decode cX3_init 7 = .ok (.newarray .int, 2) := by decide +kernel
theorem dX3_init_9 : decode cX3_init 9 = .ok (.putfield 9, 3) := by decide +kernel
theorem dX3_init_12 : decode cX3_init 12 = .ok (.aload_n 0, 1) := by decide +kernel
theorem dX3_init_13 : decode cX3_init 13 = .ok (.bipush 8, 2) := by decide +kernel
theorem dX3_init_15 : decode cX3_init 15 = .ok (.newarray .int, 2) := by decide +kernel
theorem dX3_init_17 : decode cX3_init 17 = .ok (.dup, 1) := by decide +kernel
theorem dX3_init_18 : decode cX3_init 18 = .ok (.iconst 0, 1) := by decide +kernel
theorem dX3_init_19 : decode cX3_init 19 = .ok (.bipush 8, 2) := by decide +kernel
theorem dX3_init_21 : decode cX3_init 21 = .ok (.iastore, 1) := by decide +kernel
theorem dX3_init_22 : decode cX3_init 22 = .ok (.dup, 1) := by decide +kernel
theorem dX3_init_23 : decode cX3_init 23 = .ok (.iconst 1, 1) := by decide +kernel
theorem dX3_init_24 : decode cX3_init 24 = .ok (.bipush 8, 2) := by decide +kernel
theorem dX3_init_26 : decode cX3_init 26 = .ok (.iastore, 1) := by decide +kernel
theorem dX3_init_27 : decode cX3_init 27 = .ok (.dup, 1) := by decide +kernel
theorem dX3_init_28 : decode cX3_init 28 = .ok (.iconst 2, 1) := by decide +kernel
theorem dX3_init_29 : decode cX3_init 29 = .ok (.bipush 8, 2) := by decide +kernel
theorem dX3_init_31 : decode cX3_init 31 = .ok (.iastore, 1) := by decide +kernel
theorem dX3_init_32 : decode cX3_init 32 = .ok (.dup, 1) := by decide +kernel
theorem dX3_init_33 : decode cX3_init 33 = .ok (.iconst 3, 1) := by decide +kernel
theorem dX3_init_34 : decode cX3_init 34 = .ok (.bipush 8, 2) := by decide +kernel
theorem dX3_init_36 : decode cX3_init 36 = .ok (.iastore, 1) := by decide +kernel
theorem dX3_init_37 : decode cX3_init 37 = .ok (.dup, 1) := by decide +kernel
theorem dX3_init_38 : decode cX3_init 38 = .ok (.iconst 4, 1) := by decide +kernel
theorem dX3_init_39 : decode cX3_init 39 = .ok (.bipush 8, 2) := by decide +kernel
theorem dX3_init_41 : decode cX3_init 41 = .ok (.iastore, 1) := by decide +kernel
theorem dX3_init_42 : decode cX3_init 42 = .ok (.dup, 1) := by decide +kernel
theorem dX3_init_43 : decode cX3_init 43 = .ok (.iconst 5, 1) := by decide +kernel
theorem dX3_init_44 : decode cX3_init 44 = .ok (.bipush 8, 2) := by decide +kernel
theorem dX3_init_46 : decode cX3_init 46 = .ok (.iastore, 1) := by decide +kernel
theorem dX3_init_47 : decode cX3_init 47 = .ok (.dup, 1) := by decide +kernel
theorem dX3_init_48 : decode cX3_init 48 = .ok (.bipush 6, 2) := by decide +kernel
theorem dX3_init_50 : decode cX3_init 50 = .ok (.bipush 8, 2) := by decide +kernel
theorem dX3_init_52 : decode cX3_init 52 = .ok (.iastore, 1) := by decide +kernel
theorem dX3_init_53 : decode cX3_init 53 = .ok (.dup, 1) := by decide +kernel
theorem dX3_init_54 : decode cX3_init 54 = .ok (.bipush 7, 2) := by decide +kernel
theorem dX3_init_56 : decode cX3_init 56 = .ok (.bipush 8, 2) := by decide +kernel
theorem dX3_init_58 : decode cX3_init 58 = .ok (.iastore, 1) := by decide +kernel
theorem dX3_init_59 : decode cX3_init 59 = .ok (.putfield 13, 3) := by decide +kernel
theorem dX3_init_62 : decode cX3_init 62 = .ok (.aload_n 0, 1) := by decide +kernel
theorem dX3_init_63 : decode cX3_init 63 = .ok (.iconst (-1), 1) := by decide +kernel
theorem dX3_init_64 : decode cX3_init 64 = .ok (.putfield 16, 3) := by decide +kernel
theorem dX3_init_67 : decode cX3_init 67 = .ok (.aload_n 0, 1) := by decide +kernel
theorem dX3_init_68 : decode cX3_init 68 = .ok (.iconst 1, 1) := by decide +kernel
theorem dX3_init_69 : decode cX3_init 69 = .ok (.putfield 20, 3) := by decide +kernel
theorem dX3_init_72 : decode cX3_init 72 = .ok (.aload_n 0, 1) := by decide +kernel
theorem dX3_init_73 : decode cX3_init 73 = .ok (.new 23, 3) := by decide +kernel
theorem dX3_init_76 : decode cX3_init 76 = .ok (.dup, 1) := by decide +kernel
theorem dX3_init_77 : decode cX3_init 77 = .ok (.invokespecial 25, 3) := by decide +kernel
theorem dX3_init_80 : decode cX3_init 80 = .ok (.putfield 26, 3) := by decide +kernel
theorem dX3_init_83 : decode cX3_init 83 = .ok (.aload_n 0, 1) := by decide +kernel
theorem dX3_init_84 : decode cX3_init 84 = .ok (.new 23, 3) := by decide +kernel
theorem dX3_init_87 : decode cX3_init 87 = .ok (.dup, 1) := by decide +kernel
theorem dX3_init_88 : decode cX3_init 88 = .ok (.invokespecial 25, 3) := by decide +kernel
theorem dX3_init_91 : decode cX3_init 91 = .ok (.putfield 30, 3) := by decide +kernel
theorem dX3_init_94 : decode cX3_init 94 = .ok (.return_, 1) := by decide +kernel
theorem dX3_thrown_0 : decode cX3_thrown 0 = .ok (.aload_n 0, 1) := by decide +kernel
theorem dX3_thrown_1 : decode cX3_thrown 1 = .ok (.getfield 33, 3) := by decide +kernel
theorem dX3_thrown_4 : decode cX3_thrown 4 = .ok (.ireturn, 1) := by decide +kernel
theorem dX3_no_0 : decode cX3_no 0 = .ok (.aload_n 0, 1) := by decide +kernel
theorem dX3_no_1 : decode cX3_no 1 = .ok (.iload_n 1, 1) := by decide +kernel
theorem dX3_no_2 : decode cX3_no 2 = .ok (.putfield 33, 3) := by decide +kernel
theorem dX3_no_5 : decode cX3_no 5 = .ok (.iconst 0, 1) := by decide +kernel
theorem dX3_no_6 : decode cX3_no 6 = .ok (.ireturn, 1) := by decide +kernel
theorem dX3_isIn_0 : decode cX3_isIn 0 = .ok (.iload_n 0, 1) := by decide +kernel
theorem dX3_isIn_1 : decode cX3_isIn 1 = .ok (.iload_n 1, 1) := by decide +kernel
theorem dX3_isIn_2 : decode cX3_isIn 2 = .ok (.if_icmp .lt 12, 3) := by decide +kernel
theorem dX3_isIn_5 : decode cX3_isIn 5 = .ok (.iload_n 0, 1) := by decide +kernel
theorem dX3_isIn_6 : decode cX3_isIn 6 = .ok (.iload_n 2, 1) := by decide +kernel
theorem dX3_isIn_7 : decode cX3_isIn 7 = .ok (.if_icmp .gt 7, 3) := by decide +kernel
theorem dX3_isIn_10 : decode cX3_isIn 10 = .ok (.iconst 1, 1) := by decide +kernel
theorem dX3_isIn_11 : decode cX3_isIn 11 = .ok (.goto 4, 3) := by decide +kernel
theorem dX3_isIn_14 : decode cX3_isIn 14 = .ok (.iconst 0, 1) := by decide +kernel
theorem dX3_isIn_15 : decode cX3_isIn 15 = .ok (.ireturn, 1) := by decide +kernel
set_option maxRecDepth 20000 in
theorem ggX3_isBarge_X3_isIn : GoodIn wsX3_isBarge wsX3_isIn := goodIn_r _ [5] (by decide +kernel) (by decide +kernel)
set_option maxRecDepth 20000 in
theorem gX3_isBarge_X3_isIn : GoodIn wsX3_isBarge (va_wsS RX3 39 yX3_isIn wsX3_isIn) := goodIn_app (goodIn_of _ (by decide +kernel)) ggX3_isBarge_X3_isIn
theorem dX3_isBarge_0 : decode cX3_isBarge 0 = .ok (.iload_n 1, 1) := by decide +kernel
theorem dX3_isBarge_1 : decode cX3_isBarge 1 = .ok (.iconst 0, 1) := by decide +kernel
theorem dX3_isBarge_2 : decode cX3_isBarge 2 = .ok (.aload_n 0, 1) := by decide +kernel
theorem dX3_isBarge_3 : decode cX3_isBarge 3 = .ok (.getfield 36, 3) := by decide +kernel
theorem dX3_isBarge_6 : decode cX3_isBarge 6 = .ok (.iconst 1, 1) := by decide +kernel
theorem dX3_isBarge_7 : decode cX3_isBarge 7 = .ok (.isub, 1) := by decide +kernel
theorem dX3_isBarge_8 : decode cX3_isBarge 8 = .ok (.invokestatic 39, 3) := by decide +kernel
theorem dX3_isBarge_11 : decode cX3_isBarge 11 = .ok (.ireturn, 1) := by decide +kernel
theorem dX3_lockOf_0 : decode cX3_lockOf 0 = .ok (.aload_n 0, 1) := by decide +kernel
theorem dX3_lockOf_1 : decode cX3_lockOf 1 = .ok (.getfield 9, 3) := by decide +kernel
theorem dX3_lockOf_4 : decode cX3_lockOf 4 = .ok (.iload_n 2, 1) := by decide +kernel
theorem dX3_lockOf_5 : decode cX3_lockOf 5 = .ok (.iaload, 1) := by decide +kernel
theorem dX3_lockOf_6 : decode cX3_lockOf 6 = .ok (.aload_n 1, 1) := by decide +kernel
theorem dX3_lockOf_7 : decode cX3_lockOf 7 = .ok (.getfield 43, 3) := by decide +kernel
theorem dX3_lockOf_10 : decode cX3_lockOf 10 = .ok (.iload_n 2, 1) := by decide +kernel
theorem dX3_lockOf_11 : decode cX3_lockOf 11 = .ok (.iaload, 1) := by decide +kernel
theorem dX3_lockOf_12 : decode cX3_lockOf 12 = .ok (.if_icmp .ge 14, 3) := by decide +kernel
theorem dX3_lockOf_15 : decode cX3_lockOf 15 = .ok (.aload_n 1, 1) := by decide +kernel
theorem dX3_lockOf_16 : decode cX3_lockOf 16 = .ok (.getfield 43, 3) := by decide +kernel
theorem dX3_lockOf_19 : decode cX3_lockOf 19 = .ok (.iload_n 2, 1) := by decide +kernel
theorem dX3_lockOf_20 : decode cX3_lockOf 20 = .ok (.iaload, 1) := by decide +kernel
theorem dX3_lockOf_21 : decode cX3_lockOf 21 = .ok (.iconst 1, 1) := by decide +kernel
theorem dX3_lockOf_22 : decode cX3_lockOf 22 = .ok (.isub, 1) := by decide +kernel
theorem dX3_lockOf_23 : decode cX3_lockOf 23 = .ok (.goto 28, 3) := by decide +kernel
theorem dX3_lockOf_26 : decode cX3_lockOf 26 = .ok (.aload_n 0, 1) := by decide +kernel
theorem dX3_lockOf_27 : decode cX3_lockOf 27 = .ok (.getfield 9, 3) := by decide +kernel
theorem dX3_lockOf_30 : decode cX3_lockOf 30 = .ok (.iload_n 2, 1) := by decide +kernel
theorem dX3_lockOf_31 : decode cX3_lockOf 31 = .ok (.iaload, 1) := by decide +kernel
theorem dX3_lockOf_32 : decode cX3_lockOf 32 = .ok (.aload_n 1, 1) := by decide +kernel
theorem dX3_lockOf_33 : decode cX3_lockOf 33 = .ok (.getfield 43, 3) := by decide +kernel
theorem dX3_lockOf_36 : decode cX3_lockOf 36 = .ok (.iload_n 2, 1) := by decide +kernel
theorem dX3_lockOf_37 : decode cX3_lockOf 37 = .ok (.iaload, 1) := by decide +kernel
theorem dX3_lockOf_38 : decode cX3_lockOf 38 = .ok (.if_icmp .le 12, 3) := by decide +kernel
theorem dX3_lockOf_41 : decode cX3_lockOf 41 = .ok (.aload_n 1, 1) := by decide +kernel
theorem dX3_lockOf_42 : decode cX3_lockOf 42 = .ok (.getfield 43, 3) := by decide +kernel
theorem dX3_lockOf_45 : decode cX3_lockOf 45 = .ok (.iload_n 2, 1) := by decide +kernel
theorem dX3_lockOf_46 : decode cX3_lockOf 46 = .ok (.iaload, 1) := by decide +kernel
theorem dX3_lockOf_47 : decode cX3_lockOf 47 = .ok (.goto 4, 3) := by decide +kernel
theorem dX3_lockOf_50 : decode cX3_lockOf 50 = .ok (.iconst (-1), 1) := by decide +kernel
theorem dX3_lockOf_51 : decode cX3_lockOf 51 = .ok (.ireturn, 1) := by decide +kernel
theorem dX3_goesDown_0 : decode cX3_goesDown 0 = .ok (.aload_n 0, 1) := by decide +kernel
theorem dX3_goesDown_1 : decode cX3_goesDown 1 = .ok (.getfield 9, 3) := by decide +kernel
theorem dX3_goesDown_4 : decode cX3_goesDown 4 = .ok (.iload_n 2, 1) := by decide +kernel
theorem dX3_goesDown_5 : decode cX3_goesDown 5 = .ok (.iaload, 1) := by decide +kernel
theorem dX3_goesDown_6 : decode cX3_goesDown 6 = .ok (.aload_n 1, 1) := by decide +kernel
theorem dX3_goesDown_7 : decode cX3_goesDown 7 = .ok (.getfield 43, 3) := by decide +kernel
theorem dX3_goesDown_10 : decode cX3_goesDown 10 = .ok (.iload_n 2, 1) := by decide +kernel
theorem dX3_goesDown_11 : decode cX3_goesDown 11 = .ok (.iaload, 1) := by decide +kernel
theorem dX3_goesDown_12 : decode cX3_goesDown 12 = .ok (.if_icmp .ge 7, 3) := by decide +kernel
theorem dX3_goesDown_15 : decode cX3_goesDown 15 = .ok (.iconst 1, 1) := by decide +kernel
theorem dX3_goesDown_16 : decode cX3_goesDown 16 = .ok (.goto 4, 3) := by decide +kernel
theorem dX3_goesDown_19 : decode cX3_goesDown 19 = .ok (.iconst 0, 1) := by decide +kernel
theorem dX3_goesDown_20 : decode cX3_goesDown 20 = .ok (.ireturn, 1) := by decide +kernel
set_option maxRecDepth 20000 in
theorem ggX3_isWaiting_X3_lockOf : GoodIn wsX3_isWaiting wsX3_lockOf := goodIn_r _ [5, 6, 21, 22, 23, 24, 25, 26, 27, 28, 29, 7, 8, 9, 10, 11, 12, 13, 14, 15, 16, 17, 18, 19, 20] (by decide +kernel) (by decide +kernel)
set_option maxRecDepth 20000 in
theorem gX3_isWaiting_X3_lockOf : GoodIn wsX3_isWaiting (wsV RX3 46 RX3 yX3_lockOf wsX3_lockOf) := goodIn_app (goodIn_of _ (by decide +kernel)) ggX3_isWaiting_X3_lockOf
theorem dX3_isWaiting_0 : decode cX3_isWaiting 0 = .ok (.aload_n 0, 1) := by decide +kernel
theorem dX3_isWaiting_1 : decode cX3_isWaiting 1 = .ok (.aload_n 1, 1) := by decide +kernel
theorem dX3_isWaiting_2 : decode cX3_isWaiting 2 = .ok (.iload_n 2, 1) := by decide +kernel
theorem dX3_isWaiting_3 : decode cX3_isWaiting 3 = .ok (.invokevirtual 46, 3) := by decide +kernel
theorem dX3_isWaiting_6 : decode cX3_isWaiting 6 = .ok (.iload_n 3, 1) := by decide +kernel
theorem dX3_isWaiting_7 : decode cX3_isWaiting 7 = .ok (.if_icmp .ne 20, 3) := by decide +kernel
theorem dX3_isWaiting_10 : decode cX3_isWaiting 10 = .ok (.aload_n 1, 1) := by decide +kernel
theorem dX3_isWaiting_11 : decode cX3_isWaiting 11 = .ok (.getfield 50, 3) := by decide +kernel
theorem dX3_isWaiting_14 : decode cX3_isWaiting 14 = .ok (.iload_n 2, 1) := by decide +kernel
theorem dX3_isWaiting_15 : decode cX3_isWaiting 15 = .ok (.iaload, 1) := by decide +kernel
theorem dX3_isWaiting_16 : decode cX3_isWaiting 16 = .ok (.aload_n 1, 1) := by decide +kernel
theorem dX3_isWaiting_17 : decode cX3_isWaiting 17 = .ok (.getfield 53, 3) := by decide +kernel
theorem dX3_isWaiting_20 : decode cX3_isWaiting 20 = .ok (.if_icmp .eq 7, 3) := by decide +kernel
theorem dX3_isWaiting_23 : decode cX3_isWaiting 23 = .ok (.iconst 1, 1) := by decide +kernel
theorem dX3_isWaiting_24 : decode cX3_isWaiting 24 = .ok (.goto 4, 3) := by decide +kernel
theorem dX3_isWaiting_27 : decode cX3_isWaiting 27 = .ok (.iconst 0, 1) := by decide +kernel
theorem dX3_isWaiting_28 : decode cX3_isWaiting 28 = .ok (.ireturn, 1) := by decide +kernel
set_option maxRecDepth 20000 in
theorem ggX3_fits_X3_goesDown : GoodIn wsX3_fits wsX3_goesDown := goodIn_r _ [5, 6, 21, 22, 23, 24, 25, 26, 27, 28, 29, 7, 8, 9, 10, 11, 12, 13, 14, 15, 16, 17, 18, 19, 20] (by decide +kernel) (by decide +kernel)
set_option maxRecDepth 20000 in
theorem gX3_fits_X3_goesDown : GoodIn wsX3_fits (wsV RX3 56 RX3 yX3_goesDown wsX3_goesDown) := goodIn_app (goodIn_of _ (by decide +kernel)) ggX3_fits_X3_goesDown
theorem dX3_fits_0 : decode cX3_fits 0 = .ok (.aload_n 0, 1) := by decide +kernel
theorem dX3_fits_1 : decode cX3_fits 1 = .ok (.aload_n 1, 1) := by decide +kernel
theorem dX3_fits_2 : decode cX3_fits 2 = .ok (.iload_n 2, 1) := by decide +kernel
theorem dX3_fits_3 : decode cX3_fits 3 = .ok (.invokevirtual 56, 3) := by decide +kernel
theorem dX3_fits_6 : decode cX3_fits 6 = .ok (.aload_n 1, 1) := by decide +kernel
theorem dX3_fits_7 : decode cX3_fits 7 = .ok (.getfield 60, 3) := by decide +kernel
theorem dX3_fits_10 : decode cX3_fits 10 = .ok (.iload_n 3, 1) := by decide +kernel
theorem dX3_fits_11 : decode cX3_fits 11 = .ok (.iaload, 1) := by decide +kernel
theorem dX3_fits_12 : decode cX3_fits 12 = .ok (.iconst 1, 1) := by decide +kernel
theorem dX3_fits_13 : decode cX3_fits 13 = .ok (.if_icmp .ne 7, 3) := by decide +kernel
theorem dX3_fits_16 : decode cX3_fits 16 = .ok (.iconst 1, 1) := by decide +kernel
theorem dX3_fits_17 : decode cX3_fits 17 = .ok (.goto 4, 3) := by decide +kernel
theorem dX3_fits_20 : decode cX3_fits 20 = .ok (.iconst 0, 1) := by decide +kernel
theorem dX3_fits_21 : decode cX3_fits 21 = .ok (.if_icmp .ne 7, 3) := by decide +kernel
theorem dX3_fits_24 : decode cX3_fits 24 = .ok (.iconst 1, 1) := by decide +kernel
theorem dX3_fits_25 : decode cX3_fits 25 = .ok (.goto 4, 3) := by decide +kernel
theorem dX3_fits_28 : decode cX3_fits 28 = .ok (.iconst 0, 1) := by decide +kernel
theorem dX3_fits_29 : decode cX3_fits 29 = .ok (.ireturn, 1) := by decide +kernel
set_option maxRecDepth 20000 in
theorem ggX3_canServe_X3_fits : GoodIn wsX3_canServe wsX3_fits := goodIn_r _ [7, 8, 9, 10, 6, 11, 12, 19, 20, 21, 22, 23, 24, 25, 26, 27, 28, 29, 30, 31, 32, 33, 34, 35, 36, 37, 38, 39, 40, 41] (by decide +kernel) (by decide +kernel)
set_option maxRecDepth 20000 in
theorem gX3_canServe_X3_fits : GoodIn wsX3_canServe (wsV RX3 70 RX3 yX3_fits wsX3_fits) := goodIn_app (goodIn_of _ (by decide +kernel)) ggX3_canServe_X3_fits
set_option maxRecDepth 20000 in
theorem ggX3_canServe_X3_goesDown : GoodIn wsX3_canServe wsX3_goesDown := goodIn_r _ [11, 12, 33, 34, 35, 36, 37, 38, 39, 40, 41, 19, 20, 21, 22, 23, 24, 25, 26, 27, 28, 29, 30, 31, 32] (by decide +kernel) (by decide +kernel)
set_option maxRecDepth 20000 in
theorem gX3_canServe_X3_goesDown : GoodIn wsX3_canServe (wsV RX3 56 RX3 yX3_goesDown wsX3_goesDown) := goodIn_app (goodIn_of _ (by decide +kernel)) ggX3_canServe_X3_goesDown
set_option maxRecDepth 20000 in
theorem ggX3_canServe_X2_canFill : GoodIn wsX3_canServe wsX2_canFill := goodIn_r _ [17, 18, 19, 20, 21, 22, 23, 24, 25, 26, 27, 28, 29, 30, 31, 32] (by decide +kernel) (by decide +kernel)
set_option maxRecDepth 20000 in
theorem gX3_canServe_X2_canFill : GoodIn wsX3_canServe (wsV RX3 74 RX2 yX2_canFill wsX2_canFill) := goodIn_app (goodIn_of _ (by decide +kernel)) ggX3_canServe_X2_canFill
theorem dX3_canServe_0 : decode cX3_canServe 0 = .ok (.aload_n 1, 1) := by decide +kernel
theorem dX3_canServe_1 : decode cX3_canServe 1 = .ok (.getfield 63, 3) := by decide +kernel
theorem dX3_canServe_4 : decode cX3_canServe 4 = .ok (.iload_n 2, 1) := by decide +kernel
theorem dX3_canServe_5 : decode cX3_canServe 5 = .ok (.iaload, 1) := by decide +kernel
theorem dX3_canServe_6 : decode cX3_canServe 6 = .ok (.aload_n 0, 1) := by decide +kernel
theorem dX3_canServe_7 : decode cX3_canServe 7 = .ok (.getfield 20, 3) := by decide +kernel
theorem dX3_canServe_10 : decode cX3_canServe 10 = .ok (.if_icmp .lt 20, 3) := by decide +kernel
theorem dX3_canServe_13 : decode cX3_canServe 13 = .ok (.aload_n 0, 1) := by decide +kernel
theorem dX3_canServe_14 : decode cX3_canServe 14 = .ok (.getfield 66, 3) := by decide +kernel
theorem dX3_canServe_17 : decode cX3_canServe 17 = .ok (.ifCond .eq 15, 3) := by decide +kernel
theorem dX3_canServe_20 : decode cX3_canServe 20 = .ok (.aload_n 0, 1) := by decide +kernel
theorem dX3_canServe_21 : decode cX3_canServe 21 = .ok (.aload_n 1, 1) := by decide +kernel
theorem dX3_canServe_22 : decode cX3_canServe 22 = .ok (.iload_n 2, 1) := by decide +kernel
theorem dX3_canServe_23 : decode cX3_canServe 23 = .ok (.iload_n 3, 1) := by decide +kernel
theorem dX3_canServe_24 : decode cX3_canServe 24 = .ok (.invokevirtual 70, 3) := by decide +kernel
theorem dX3_canServe_27 : decode cX3_canServe 27 = .ok (.ifCond .ne 5, 3) := by decide +kernel
theorem dX3_canServe_30 : decode cX3_canServe 30 = .ok (.iconst 0, 1) := by decide +kernel
theorem dX3_canServe_31 : decode cX3_canServe 31 = .ok (.ireturn, 1) := by decide +kernel
theorem dX3_canServe_32 : decode cX3_canServe 32 = .ok (.aload_n 0, 1) := by decide +kernel
theorem dX3_canServe_33 : decode cX3_canServe 33 = .ok (.aload_n 1, 1) := by decide +kernel
theorem dX3_canServe_34 : decode cX3_canServe 34 = .ok (.iload_n 2, 1) := by decide +kernel
theorem dX3_canServe_35 : decode cX3_canServe 35 = .ok (.invokevirtual 56, 3) := by decide +kernel
theorem dX3_canServe_38 : decode cX3_canServe 38 = .ok (.ifCond .eq 13, 3) := by decide +kernel
theorem dX3_canServe_41 : decode cX3_canServe 41 = .ok (.aload_n 1, 1) := by decide +kernel
theorem dX3_canServe_42 : decode cX3_canServe 42 = .ok (.getfield 60, 3) := by decide +kernel
theorem dX3_canServe_45 : decode cX3_canServe 45 = .ok (.iload_n 3, 1) := by decide +kernel
theorem dX3_canServe_46 : decode cX3_canServe 46 = .ok (.iaload, 1) := by decide +kernel
theorem dX3_canServe_47 : decode cX3_canServe 47 = .ok (.iconst 1, 1) := by decide +kernel
theorem dX3_canServe_48 : decode cX3_canServe 48 = .ok (.if_icmp .eq 11, 3) := by decide +kernel
theorem dX3_canServe_51 : decode cX3_canServe 51 = .ok (.aload_n 1, 1) := by decide +kernel
theorem dX3_canServe_52 : decode cX3_canServe 52 = .ok (.iload_n 3, 1) := by decide +kernel
theorem dX3_canServe_53 : decode cX3_canServe 53 = .ok (.invokevirtual 74, 3) := by decide +kernel
theorem dX3_canServe_56 : decode cX3_canServe 56 = .ok (.ifCond .eq 7, 3) := by decide +kernel
theorem dX3_canServe_59 : decode cX3_canServe 59 = .ok (.iconst 1, 1) := by decide +kernel
theorem dX3_canServe_60 : decode cX3_canServe 60 = .ok (.goto 4, 3) := by decide +kernel
theorem dX3_canServe_63 : decode cX3_canServe 63 = .ok (.iconst 0, 1) := by decide +kernel
theorem dX3_canServe_64 : decode cX3_canServe 64 = .ok (.ireturn, 1) := by decide +kernel
set_option maxRecDepth 20000 in
theorem ggX3_nextAt_X3_isWaiting : GoodIn wsX3_nextAt wsX3_isWaiting := goodIn_r _ [6, 7, 8, 9, 5, 10, 11, 41, 42, 43, 44, 45, 46, 47, 48, 49, 50, 51, 52, 53, 54, 32, 33, 34, 35, 36, 37, 38, 39, 40] (by decide +kernel) (by decide +kernel)
set_option maxRecDepth 20000 in
theorem gX3_nextAt_X3_isWaiting : GoodIn wsX3_nextAt (wsV RX3 78 RX3 yX3_isWaiting wsX3_isWaiting) := goodIn_app (goodIn_of _ (by decide +kernel)) ggX3_nextAt_X3_isWaiting
set_option maxRecDepth 20000 in
theorem ggX3_nextAt_X3_canServe : GoodIn wsX3_nextAt wsX3_canServe := goodIn_r _ [15, 16, 17, 18, 19, 20, 5, 21, 22, 23, 24, 25, 11, 26, 27, 28, 29, 30, 31, 41, 42, 43, 44, 45, 46, 47, 48, 49, 50, 51, 52, 53, 54, 32, 33, 34, 35, 36, 37, 38, 39, 40] (by decide +kernel) (by decide +kernel)
set_option maxRecDepth 20000 in
theorem gX3_nextAt_X3_canServe : GoodIn wsX3_nextAt (wsV RX3 81 RX3 yX3_canServe wsX3_canServe) := goodIn_app (goodIn_of _ (by decide +kernel)) ggX3_nextAt_X3_canServe
set_option maxRecDepth 20000 in
theorem ggX3_nextAt_X3_fits : GoodIn wsX3_nextAt wsX3_fits := goodIn_r _ [21, 22, 23, 24, 5, 25, 11, 41, 42, 43, 44, 45, 46, 47, 48, 49, 50, 51, 52, 53, 54, 32, 33, 34, 35, 36, 37, 38, 39, 40] (by decide +kernel) (by decide +kernel)
set_option maxRecDepth 20000 in
theorem gX3_nextAt_X3_fits : GoodIn wsX3_nextAt (wsV RX3 70 RX3 yX3_fits wsX3_fits) := goodIn_app (goodIn_of _ (by decide +kernel)) ggX3_nextAt_X3_fits
theorem dX3_nextAt_0 : decode cX3_nextAt 0 = .ok (.iconst (-1), 1) := by decide +kernel
theorem dX3_nextAt_1 : decode cX3_nextAt 1 = .ok (.istore_n 3, 1) := by decide +kernel
theorem dX3_nextAt_2 : decode cX3_nextAt 2 = .ok (.iconst 0, 1) := by decide +kernel
theorem dX3_nextAt_3 : decode cX3_nextAt 3 = .ok (.istore 4, 2) := by decide +kernel
theorem dX3_nextAt_5 : decode cX3_nextAt 5 = .ok (.iload 4, 2) := by decide +kernel
theorem dX3_nextAt_7 : decode cX3_nextAt 7 = .ok (.aload_n 0, 1) := by decide +kernel
theorem dX3_nextAt_8 : decode cX3_nextAt 8 = .ok (.getfield 36, 3) := by decide +kernel
theorem dX3_nextAt_11 : decode cX3_nextAt 11 = .ok (.if_icmp .ge 60, 3) := by decide +kernel
theorem dX3_nextAt_14 : decode cX3_nextAt 14 = .ok (.aload_n 0, 1) := by decide +kernel
theorem dX3_nextAt_15 : decode cX3_nextAt 15 = .ok (.aload_n 1, 1) := by decide +kernel
theorem dX3_nextAt_16 : decode cX3_nextAt 16 = .ok (.iload 4, 2) := by decide +kernel
theorem dX3_nextAt_18 : decode cX3_nextAt 18 = .ok (.iload_n 2, 1) := by decide +kernel
theorem dX3_nextAt_19 : decode cX3_nextAt 19 = .ok (.invokevirtual 78, 3) := by decide +kernel
theorem dX3_nextAt_22 : decode cX3_nextAt 22 = .ok (.ifCond .eq 43, 3) := by decide +kernel
theorem dX3_nextAt_25 : decode cX3_nextAt 25 = .ok (.aload_n 0, 1) := by decide +kernel
theorem dX3_nextAt_26 : decode cX3_nextAt 26 = .ok (.aload_n 1, 1) := by decide +kernel
theorem dX3_nextAt_27 : decode cX3_nextAt 27 = .ok (.iload 4, 2) := by decide +kernel
theorem dX3_nextAt_29 : decode cX3_nextAt 29 = .ok (.iload_n 2, 1) := by decide +kernel
theorem dX3_nextAt_30 : decode cX3_nextAt 30 = .ok (.invokevirtual 81, 3) := by decide +kernel
theorem dX3_nextAt_33 : decode cX3_nextAt 33 = .ok (.ifCond .ne 6, 3) := by decide +kernel
theorem dX3_nextAt_36 : decode cX3_nextAt 36 = .ok (.goto 29, 3) := by decide +kernel
theorem dX3_nextAt_39 : decode cX3_nextAt 39 = .ok (.aload_n 0, 1) := by decide +kernel
theorem dX3_nextAt_40 : decode cX3_nextAt 40 = .ok (.aload_n 1, 1) := by decide +kernel
theorem dX3_nextAt_41 : decode cX3_nextAt 41 = .ok (.iload 4, 2) := by decide +kernel
theorem dX3_nextAt_43 : decode cX3_nextAt 43 = .ok (.iload_n 2, 1) := by decide +kernel
theorem dX3_nextAt_44 : decode cX3_nextAt 44 = .ok (.invokevirtual 70, 3) := by decide +kernel
theorem dX3_nextAt_47 : decode cX3_nextAt 47 = .ok (.ifCond .eq 6, 3) := by decide +kernel
theorem dX3_nextAt_50 : decode cX3_nextAt 50 = .ok (.iload 4, 2) := by decide +kernel
theorem dX3_nextAt_52 : decode cX3_nextAt 52 = .ok (.ireturn, 1) := by decide +kernel
theorem dX3_nextAt_53 : decode cX3_nextAt 53 = .ok (.iload_n 3, 1) := by decide +kernel
theorem dX3_nextAt_54 : decode cX3_nextAt 54 = .ok (.iconst (-1), 1) := by decide +kernel
theorem dX3_nextAt_55 : decode cX3_nextAt 55 = .ok (.if_icmp .ne 8, 3) := by decide +kernel
theorem dX3_nextAt_58 : decode cX3_nextAt 58 = .ok (.iload 4, 2) := by decide +kernel
theorem dX3_nextAt_60 : decode cX3_nextAt 60 = .ok (.goto 4, 3) := by decide +kernel
theorem dX3_nextAt_63 : decode cX3_nextAt 63 = .ok (.iload_n 3, 1) := by decide +kernel
theorem dX3_nextAt_64 : decode cX3_nextAt 64 = .ok (.istore_n 3, 1) := by decide +kernel
theorem dX3_nextAt_65 : decode cX3_nextAt 65 = .ok (.iinc 4 1, 3) := by decide +kernel
theorem dX3_nextAt_68 : decode cX3_nextAt 68 = .ok (.goto (-63), 3) := by decide +kernel
theorem dX3_nextAt_71 : decode cX3_nextAt 71 = .ok (.iload_n 3, 1) := by decide +kernel
theorem dX3_nextAt_72 : decode cX3_nextAt 72 = .ok (.ireturn, 1) := by decide +kernel
set_option maxRecDepth 20000 in
theorem ggX3_serve_X3_goesDown : GoodIn wsX3_serve wsX3_goesDown := goodIn_r _ [6, 7, 44, 45, 46, 47, 48, 49, 50, 51, 52, 30, 31, 32, 33, 34, 35, 36, 37, 38, 39, 40, 41, 42, 43] (by decide +kernel) (by decide +kernel)
set_option maxRecDepth 20000 in
theorem gX3_serve_X3_goesDown : GoodIn wsX3_serve (wsV RX3 56 RX3 yX3_goesDown wsX3_goesDown) := goodIn_app (goodIn_of _ (by decide +kernel)) ggX3_serve_X3_goesDown
set_option maxRecDepth 20000 in
theorem ggX3_serve_X2_fill : GoodIn wsX3_serve wsX2_fill := goodIn_r _ [12, 13, 14, 15, 30, 31, 32, 33, 34, 35, 36, 37, 38, 39, 40, 41, 42, 43] (by decide +kernel) (by decide +kernel)
set_option maxRecDepth 20000 in
theorem gX3_serve_X2_fill : GoodIn wsX3_serve (wsV RX3 84 RX2 yX2_fill wsX2_fill) := goodIn_app (goodIn_of _ (by decide +kernel)) ggX3_serve_X2_fill
set_option maxRecDepth 20000 in
theorem ggX3_serve_X2_empty : GoodIn wsX3_serve wsX2_empty := goodIn_r _ [19, 15, 20, 21, 22, 11, 23, 13, 24, 25, 26, 27, 28, 29, 30, 31, 32, 33, 34, 35, 36, 37, 38, 39, 40, 41, 42, 43] (by decide +kernel) (by decide +kernel)
set_option maxRecDepth 20000 in
theorem gX3_serve_X2_empty : GoodIn wsX3_serve (wsV RX3 88 RX2 yX2_empty wsX2_empty) := goodIn_app (goodIn_of _ (by decide +kernel)) ggX3_serve_X2_empty
theorem dX3_serve_0 : decode cX3_serve 0 = .ok (.aload_n 0, 1) := by decide +kernel
theorem dX3_serve_1 : decode cX3_serve 1 = .ok (.aload_n 1, 1) := by decide +kernel
theorem dX3_serve_2 : decode cX3_serve 2 = .ok (.iload_n 3, 1) := by decide +kernel
theorem dX3_serve_3 : decode cX3_serve 3 = .ok (.invokevirtual 56, 3) := by decide +kernel
theorem dX3_serve_6 : decode cX3_serve 6 = .ok (.ifCond .eq 35, 3) := by decide +kernel
theorem dX3_serve_9 : decode cX3_serve 9 = .ok (.aload_n 1, 1) := by decide +kernel
theorem dX3_serve_10 : decode cX3_serve 10 = .ok (.getfield 60, 3) := by decide +kernel
theorem dX3_serve_13 : decode cX3_serve 13 = .ok (.iload_n 2, 1) := by decide +kernel
theorem dX3_serve_14 : decode cX3_serve 14 = .ok (.iaload, 1) := by decide +kernel
theorem dX3_serve_15 : decode cX3_serve 15 = .ok (.ifCond .ne 8, 3) := by decide +kernel
theorem dX3_serve_18 : decode cX3_serve 18 = .ok (.aload_n 1, 1) := by decide +kernel
theorem dX3_serve_19 : decode cX3_serve 19 = .ok (.iload_n 2, 1) := by decide +kernel
theorem dX3_serve_20 : decode cX3_serve 20 = .ok (.invokevirtual 84, 3) := by decide +kernel
theorem dX3_serve_23 : decode cX3_serve 23 = .ok (.aload_n 1, 1) := by decide +kernel
theorem dX3_serve_24 : decode cX3_serve 24 = .ok (.iload_n 2, 1) := by decide +kernel
theorem dX3_serve_25 : decode cX3_serve 25 = .ok (.invokevirtual 88, 3) := by decide +kernel
theorem dX3_serve_28 : decode cX3_serve 28 = .ok (.aload_n 1, 1) := by decide +kernel
theorem dX3_serve_29 : decode cX3_serve 29 = .ok (.getfield 43, 3) := by decide +kernel
theorem dX3_serve_32 : decode cX3_serve 32 = .ok (.iload_n 3, 1) := by decide +kernel
theorem dX3_serve_33 : decode cX3_serve 33 = .ok (.dup2, 1) := by decide +kernel
theorem dX3_serve_34 : decode cX3_serve 34 = .ok (.iaload, 1) := by decide +kernel
theorem dX3_serve_35 : decode cX3_serve 35 = .ok (.iconst 1, 1) := by decide +kernel
theorem dX3_serve_36 : decode cX3_serve 36 = .ok (.isub, 1) := by decide +kernel
theorem dX3_serve_37 : decode cX3_serve 37 = .ok (.iastore, 1) := by decide +kernel
theorem dX3_serve_38 : decode cX3_serve 38 = .ok (.goto 33, 3) := by decide +kernel
theorem dX3_serve_41 : decode cX3_serve 41 = .ok (.aload_n 1, 1) := by decide +kernel
theorem dX3_serve_42 : decode cX3_serve 42 = .ok (.getfield 60, 3) := by decide +kernel
theorem dX3_serve_45 : decode cX3_serve 45 = .ok (.iload_n 2, 1) := by decide +kernel
theorem dX3_serve_46 : decode cX3_serve 46 = .ok (.iaload, 1) := by decide +kernel
theorem dX3_serve_47 : decode cX3_serve 47 = .ok (.iconst 1, 1) := by decide +kernel
theorem dX3_serve_48 : decode cX3_serve 48 = .ok (.if_icmp .ne 8, 3) := by decide +kernel
theorem dX3_serve_51 : decode cX3_serve 51 = .ok (.aload_n 1, 1) := by decide +kernel
theorem dX3_serve_52 : decode cX3_serve 52 = .ok (.iload_n 2, 1) := by decide +kernel
theorem dX3_serve_53 : decode cX3_serve 53 = .ok (.invokevirtual 88, 3) := by decide +kernel
theorem dX3_serve_56 : decode cX3_serve 56 = .ok (.aload_n 1, 1) := by decide +kernel
theorem dX3_serve_57 : decode cX3_serve 57 = .ok (.iload_n 2, 1) := by decide +kernel
theorem dX3_serve_58 : decode cX3_serve 58 = .ok (.invokevirtual 84, 3) := by decide +kernel
theorem dX3_serve_61 : decode cX3_serve 61 = .ok (.aload_n 1, 1) := by decide +kernel
theorem dX3_serve_62 : decode cX3_serve 62 = .ok (.getfield 43, 3) := by decide +kernel
theorem dX3_serve_65 : decode cX3_serve 65 = .ok (.iload_n 3, 1) := by decide +kernel
theorem dX3_serve_66 : decode cX3_serve 66 = .ok (.dup2, 1) := by decide +kernel
theorem dX3_serve_67 : decode cX3_serve 67 = .ok (.iaload, 1) := by decide +kernel
theorem dX3_serve_68 : decode cX3_serve 68 = .ok (.iconst 1, 1) := by decide +kernel
theorem dX3_serve_69 : decode cX3_serve 69 = .ok (.iadd, 1) := by decide +kernel
theorem dX3_serve_70 : decode cX3_serve 70 = .ok (.iastore, 1) := by decide +kernel
theorem dX3_serve_71 : decode cX3_serve 71 = .ok (.aload_n 1, 1) := by decide +kernel
theorem dX3_serve_72 : decode cX3_serve 72 = .ok (.getfield 63, 3) := by decide +kernel
theorem dX3_serve_75 : decode cX3_serve 75 = .ok (.iload_n 3, 1) := by decide +kernel
theorem dX3_serve_76 : decode cX3_serve 76 = .ok (.dup2, 1) := by decide +kernel
theorem dX3_serve_77 : decode cX3_serve 77 = .ok (.iaload, 1) := by decide +kernel
theorem dX3_serve_78 : decode cX3_serve 78 = .ok (.aload_n 0, 1) := by decide +kernel
theorem dX3_serve_79 : decode cX3_serve 79 = .ok (.getfield 20, 3) := by decide +kernel
theorem dX3_serve_82 : decode cX3_serve 82 = .ok (.isub, 1) := by decide +kernel
theorem dX3_serve_83 : decode cX3_serve 83 = .ok (.iastore, 1) := by decide +kernel
theorem dX3_serve_84 : decode cX3_serve 84 = .ok (.aload_n 1, 1) := by decide +kernel
theorem dX3_serve_85 : decode cX3_serve 85 = .ok (.dup, 1) := by decide +kernel
theorem dX3_serve_86 : decode cX3_serve 86 = .ok (.getfield 91, 3) := by decide +kernel
theorem dX3_serve_89 : decode cX3_serve 89 = .ok (.aload_n 0, 1) := by decide +kernel
theorem dX3_serve_90 : decode cX3_serve 90 = .ok (.getfield 20, 3) := by decide +kernel
theorem dX3_serve_93 : decode cX3_serve 93 = .ok (.iadd, 1) := by decide +kernel
theorem dX3_serve_94 : decode cX3_serve 94 = .ok (.putfield 91, 3) := by decide +kernel
theorem dX3_serve_97 : decode cX3_serve 97 = .ok (.aload_n 1, 1) := by decide +kernel
theorem dX3_serve_98 : decode cX3_serve 98 = .ok (.getfield 94, 3) := by decide +kernel
theorem dX3_serve_101 : decode cX3_serve 101 = .ok (.iload_n 3, 1) := by decide +kernel
theorem dX3_serve_102 : decode cX3_serve 102 = .ok (.dup2, 1) := by decide +kernel
theorem dX3_serve_103 : decode cX3_serve 103 = .ok (.iaload, 1) := by decide +kernel
theorem dX3_serve_104 : decode cX3_serve 104 = .ok (.iconst 1, 1) := by decide +kernel
theorem dX3_serve_105 : decode cX3_serve 105 = .ok (.iadd, 1) := by decide +kernel
theorem dX3_serve_106 : decode cX3_serve 106 = .ok (.iastore, 1) := by decide +kernel
theorem dX3_serve_107 : decode cX3_serve 107 = .ok (.aload_n 1, 1) := by decide +kernel
theorem dX3_serve_108 : decode cX3_serve 108 = .ok (.getfield 97, 3) := by decide +kernel
theorem dX3_serve_111 : decode cX3_serve 111 = .ok (.iload_n 2, 1) := by decide +kernel
theorem dX3_serve_112 : decode cX3_serve 112 = .ok (.dup2, 1) := by decide +kernel
theorem dX3_serve_113 : decode cX3_serve 113 = .ok (.iaload, 1) := by decide +kernel
theorem dX3_serve_114 : decode cX3_serve 114 = .ok (.iconst 1, 1) := by decide +kernel
theorem dX3_serve_115 : decode cX3_serve 115 = .ok (.iadd, 1) := by decide +kernel
theorem dX3_serve_116 : decode cX3_serve 116 = .ok (.iastore, 1) := by decide +kernel
theorem dX3_serve_117 : decode cX3_serve 117 = .ok (.aload_n 1, 1) := by decide +kernel
theorem dX3_serve_118 : decode cX3_serve 118 = .ok (.getfield 50, 3) := by decide +kernel
theorem dX3_serve_121 : decode cX3_serve 121 = .ok (.iload_n 3, 1) := by decide +kernel
theorem dX3_serve_122 : decode cX3_serve 122 = .ok (.aload_n 1, 1) := by decide +kernel
theorem dX3_serve_123 : decode cX3_serve 123 = .ok (.getfield 53, 3) := by decide +kernel
theorem dX3_serve_126 : decode cX3_serve 126 = .ok (.iastore, 1) := by decide +kernel
theorem dX3_serve_127 : decode cX3_serve 127 = .ok (.return_, 1) := by decide +kernel
set_option maxRecDepth 20000 in
theorem ggX3_grind_X2_pour : GoodIn wsX3_grind wsX2_pour := goodIn_r _ [10, 11, 12, 13, 4, 14, 15, 16, 26, 27, 28, 29, 30, 31, 32, 33, 34, 35, 36, 37, 38, 39] (by decide +kernel) (by decide +kernel)
set_option maxRecDepth 20000 in
theorem gX3_grind_X2_pour : GoodIn wsX3_grind (wsV RX3 115 RX2 yX2_pour wsX2_pour) := goodIn_app (goodIn_of _ (by decide +kernel)) ggX3_grind_X2_pour
theorem dX3_grind_0 : decode cX3_grind 0 = .ok (.aload_n 0, 1) := by decide +kernel
theorem dX3_grind_1 : decode cX3_grind 1 = .ok (.getfield 16, 3) := by decide +kernel
theorem dX3_grind_4 : decode cX3_grind 4 = .ok (.iconst (-1), 1) := by decide +kernel
theorem dX3_grind_5 : decode cX3_grind 5 = .ok (.if_icmp .eq 19, 3) := by decide +kernel
theorem dX3_grind_8 : decode cX3_grind 8 = .ok (.aload_n 1, 1) := by decide +kernel
theorem dX3_grind_9 : decode cX3_grind 9 = .ok (.getfield 100, 3) := by decide +kernel
theorem dX3_grind_12 : decode cX3_grind 12 = .ok (.aload_n 0, 1) := by decide +kernel
theorem dX3_grind_13 : decode cX3_grind 13 = .ok (.getfield 16, 3) := by decide +kernel
theorem dX3_grind_16 : decode cX3_grind 16 = .ok (.iaload, 1) := by decide +kernel
theorem dX3_grind_17 : decode cX3_grind 17 = .ok (.aload_n 1, 1) := by decide +kernel
theorem dX3_grind_18 : decode cX3_grind 18 = .ok (.getfield 103, 3) := by decide +kernel
theorem dX3_grind_21 : decode cX3_grind 21 = .ok (.if_icmp .gt 4, 3) := by decide +kernel
theorem dX3_grind_24 : decode cX3_grind 24 = .ok (.return_, 1) := by decide +kernel
theorem dX3_grind_25 : decode cX3_grind 25 = .ok (.bipush 10, 2) := by decide +kernel
theorem dX3_grind_27 : decode cX3_grind 27 = .ok (.aload_n 1, 1) := by decide +kernel
theorem dX3_grind_28 : decode cX3_grind 28 = .ok (.getfield 100, 3) := by decide +kernel
theorem dX3_grind_31 : decode cX3_grind 31 = .ok (.aload_n 0, 1) := by decide +kernel
theorem dX3_grind_32 : decode cX3_grind 32 = .ok (.getfield 16, 3) := by decide +kernel
theorem dX3_grind_35 : decode cX3_grind 35 = .ok (.iaload, 1) := by decide +kernel
theorem dX3_grind_36 : decode cX3_grind 36 = .ok (.aload_n 1, 1) := by decide +kernel
theorem dX3_grind_37 : decode cX3_grind 37 = .ok (.getfield 103, 3) := by decide +kernel
theorem dX3_grind_40 : decode cX3_grind 40 = .ok (.isub, 1) := by decide +kernel
theorem dX3_grind_41 : decode cX3_grind 41 = .ok (.invokestatic 106, 3) := by decide +kernel
theorem dX3_grind_44 : decode cX3_grind 44 = .ok (.istore_n 2, 1) := by decide +kernel
theorem dX3_grind_45 : decode cX3_grind 45 = .ok (.aload_n 1, 1) := by decide +kernel
theorem dX3_grind_46 : decode cX3_grind 46 = .ok (.getfield 100, 3) := by decide +kernel
theorem dX3_grind_49 : decode cX3_grind 49 = .ok (.aload_n 0, 1) := by decide +kernel
theorem dX3_grind_50 : decode cX3_grind 50 = .ok (.getfield 16, 3) := by decide +kernel
theorem dX3_grind_53 : decode cX3_grind 53 = .ok (.dup2, 1) := by decide +kernel
theorem dX3_grind_54 : decode cX3_grind 54 = .ok (.iaload, 1) := by decide +kernel
theorem dX3_grind_55 : decode cX3_grind 55 = .ok (.iload_n 2, 1) := by decide +kernel
theorem dX3_grind_56 : decode cX3_grind 56 = .ok (.isub, 1) := by decide +kernel
theorem dX3_grind_57 : decode cX3_grind 57 = .ok (.iastore, 1) := by decide +kernel
theorem dX3_grind_58 : decode cX3_grind 58 = .ok (.aload_n 1, 1) := by decide +kernel
theorem dX3_grind_59 : decode cX3_grind 59 = .ok (.getfield 112, 3) := by decide +kernel
theorem dX3_grind_62 : decode cX3_grind 62 = .ok (.aload_n 0, 1) := by decide +kernel
theorem dX3_grind_63 : decode cX3_grind 63 = .ok (.getfield 16, 3) := by decide +kernel
theorem dX3_grind_66 : decode cX3_grind 66 = .ok (.dup2, 1) := by decide +kernel
theorem dX3_grind_67 : decode cX3_grind 67 = .ok (.iaload, 1) := by decide +kernel
theorem dX3_grind_68 : decode cX3_grind 68 = .ok (.iload_n 2, 1) := by decide +kernel
theorem dX3_grind_69 : decode cX3_grind 69 = .ok (.iadd, 1) := by decide +kernel
theorem dX3_grind_70 : decode cX3_grind 70 = .ok (.iastore, 1) := by decide +kernel
theorem dX3_grind_71 : decode cX3_grind 71 = .ok (.aload_n 1, 1) := by decide +kernel
theorem dX3_grind_72 : decode cX3_grind 72 = .ok (.dup, 1) := by decide +kernel
theorem dX3_grind_73 : decode cX3_grind 73 = .ok (.getfield 91, 3) := by decide +kernel
theorem dX3_grind_76 : decode cX3_grind 76 = .ok (.iload_n 2, 1) := by decide +kernel
theorem dX3_grind_77 : decode cX3_grind 77 = .ok (.iconst 5, 1) := by decide +kernel
theorem dX3_grind_78 : decode cX3_grind 78 = .ok (.idiv, 1) := by decide +kernel
theorem dX3_grind_79 : decode cX3_grind 79 = .ok (.iadd, 1) := by decide +kernel
theorem dX3_grind_80 : decode cX3_grind 80 = .ok (.putfield 91, 3) := by decide +kernel
theorem dX3_grind_83 : decode cX3_grind 83 = .ok (.aload_n 1, 1) := by decide +kernel
theorem dX3_grind_84 : decode cX3_grind 84 = .ok (.aload_n 0, 1) := by decide +kernel
theorem dX3_grind_85 : decode cX3_grind 85 = .ok (.getfield 16, 3) := by decide +kernel
theorem dX3_grind_88 : decode cX3_grind 88 = .ok (.iconst 1, 1) := by decide +kernel
theorem dX3_grind_89 : decode cX3_grind 89 = .ok (.isub, 1) := by decide +kernel
theorem dX3_grind_90 : decode cX3_grind 90 = .ok (.iload_n 2, 1) := by decide +kernel
theorem dX3_grind_91 : decode cX3_grind 91 = .ok (.invokevirtual 115, 3) := by decide +kernel
theorem dX3_grind_94 : decode cX3_grind 94 = .ok (.return_, 1) := by decide +kernel
set_option maxRecDepth 20000 in
theorem ggX3_pass_X2_pour : GoodIn wsX3_pass wsX2_pour := goodIn_r _ [6, 7, 8, 9, 10, 11, 12, 13, 79, 80, 81, 82, 83, 84, 85, 86, 87, 88, 89, 90, 91, 92] (by decide +kernel) (by decide +kernel)
set_option maxRecDepth 20000 in
theorem gX3_pass_X2_pour : GoodIn wsX3_pass (wsV RX3 115 RX2 yX2_pour wsX2_pour) := goodIn_app (goodIn_of _ (by decide +kernel)) ggX3_pass_X2_pour
set_option maxRecDepth 20000 in
theorem ggX3_pass_X3_grind : GoodIn wsX3_pass wsX3_grind := goodIn_r _ [18, 19, 20, 21, 10, 22, 2, 3, 4, 5, 6, 7, 8, 9, 11, 12, 13, 70, 71, 72, 73, 74, 75, 76, 77, 78, 79, 80, 81, 82, 83, 84, 85, 86, 87, 88, 89, 90, 91, 92] (by decide +kernel) (by decide +kernel)
set_option maxRecDepth 20000 in
theorem gX3_pass_X3_grind : GoodIn wsX3_pass (wsV RX3 119 RX3 yX3_grind wsX3_grind) := goodIn_app (goodIn_of _ (by decide +kernel)) ggX3_pass_X3_grind
set_option maxRecDepth 20000 in
theorem ggX3_pass_X3_nextAt : GoodIn wsX3_pass wsX3_nextAt := goodIn_r _ [26, 27, 28, 29, 30, 17, 31, 32, 33, 34, 35, 36, 37, 38, 39, 40, 41, 42, 43, 44, 45, 46, 47, 48, 49, 50, 51, 52, 53, 5, 54, 7, 70, 71, 72, 73, 74, 75, 76, 77, 78, 79, 80, 81, 82, 83, 84, 85, 86, 87, 88, 89, 90, 91, 92] (by decide +kernel) (by decide +kernel)
set_option maxRecDepth 20000 in
theorem gX3_pass_X3_nextAt : GoodIn wsX3_pass (wsV RX3 123 RX3 yX3_nextAt wsX3_nextAt) := goodIn_app (goodIn_of _ (by decide +kernel)) ggX3_pass_X3_nextAt
set_option maxRecDepth 20000 in
theorem ggX3_pass_X3_serve : GoodIn wsX3_pass wsX3_serve := goodIn_r _ [58, 41, 47, 48, 49, 17, 50, 36, 59, 60, 61, 5, 62, 7, 63, 64, 65, 66, 67, 68, 69, 3, 4, 6, 8, 9, 10, 11, 12, 13, 79, 80, 81, 82, 83, 84, 85, 86, 87, 88, 89, 90, 91, 92, 70, 71, 72, 73, 74, 75, 76, 77, 78] (by decide +kernel) (by decide +kernel)
set_option maxRecDepth 20000 in
theorem gX3_pass_X3_serve : GoodIn wsX3_pass (wsV RX3 126 RX3 yX3_serve wsX3_serve) := goodIn_app (goodIn_of _ (by decide +kernel)) ggX3_pass_X3_serve
theorem dX3_pass_0 : decode cX3_pass 0 = .ok (.aload_n 1, 1) := by decide +kernel
theorem dX3_pass_1 : decode cX3_pass 1 = .ok (.iconst 5, 1) := by decide +kernel
theorem dX3_pass_2 : decode cX3_pass 2 = .ok (.aload_n 0, 1) := by decide +kernel
theorem dX3_pass_3 : decode cX3_pass 3 = .ok (.getfield 13, 3) := by decide +kernel
theorem dX3_pass_6 : decode cX3_pass 6 = .ok (.aload_n 1, 1) := by decide +kernel
theorem dX3_pass_7 : decode cX3_pass 7 = .ok (.getfield 53, 3) := by decide +kernel
theorem dX3_pass_10 : decode cX3_pass 10 = .ok (.bipush 8, 2) := by decide +kernel
theorem dX3_pass_12 : decode cX3_pass 12 = .ok (.irem, 1) := by decide +kernel
theorem dX3_pass_13 : decode cX3_pass 13 = .ok (.iaload, 1) := by decide +kernel
theorem dX3_pass_14 : decode cX3_pass 14 = .ok (.invokevirtual 115, 3) := by decide +kernel
theorem dX3_pass_17 : decode cX3_pass 17 = .ok (.aload_n 0, 1) := by decide +kernel
theorem dX3_pass_18 : decode cX3_pass 18 = .ok (.aload_n 1, 1) := by decide +kernel
theorem dX3_pass_19 : decode cX3_pass 19 = .ok (.invokevirtual 119, 3) := by decide +kernel
theorem dX3_pass_22 : decode cX3_pass 22 = .ok (.iconst 0, 1) := by decide +kernel
theorem dX3_pass_23 : decode cX3_pass 23 = .ok (.istore_n 2, 1) := by decide +kernel
theorem dX3_pass_24 : decode cX3_pass 24 = .ok (.iconst 4, 1) := by decide +kernel
theorem dX3_pass_25 : decode cX3_pass 25 = .ok (.istore_n 3, 1) := by decide +kernel
theorem dX3_pass_26 : decode cX3_pass 26 = .ok (.iload_n 3, 1) := by decide +kernel
theorem dX3_pass_27 : decode cX3_pass 27 = .ok (.ifCond .lt 37, 3) := by decide +kernel
theorem dX3_pass_30 : decode cX3_pass 30 = .ok (.aload_n 0, 1) := by decide +kernel
theorem dX3_pass_31 : decode cX3_pass 31 = .ok (.aload_n 1, 1) := by decide +kernel
theorem dX3_pass_32 : decode cX3_pass 32 = .ok (.iload_n 3, 1) := by decide +kernel
theorem dX3_pass_33 : decode cX3_pass 33 = .ok (.invokevirtual 123, 3) := by decide +kernel
theorem dX3_pass_36 : decode cX3_pass 36 = .ok (.istore 4, 2) := by decide +kernel
theorem dX3_pass_38 : decode cX3_pass 38 = .ok (.iload 4, 2) := by decide +kernel
theorem dX3_pass_40 : decode cX3_pass 40 = .ok (.iconst (-1), 1) := by decide +kernel
theorem dX3_pass_41 : decode cX3_pass 41 = .ok (.if_icmp .ne 6, 3) := by decide +kernel
theorem dX3_pass_44 : decode cX3_pass 44 = .ok (.goto 14, 3) := by decide +kernel
theorem dX3_pass_47 : decode cX3_pass 47 = .ok (.aload_n 0, 1) := by decide +kernel
theorem dX3_pass_48 : decode cX3_pass 48 = .ok (.aload_n 1, 1) := by decide +kernel
theorem dX3_pass_49 : decode cX3_pass 49 = .ok (.iload_n 3, 1) := by decide +kernel
theorem dX3_pass_50 : decode cX3_pass 50 = .ok (.iload 4, 2) := by decide +kernel
theorem dX3_pass_52 : decode cX3_pass 52 = .ok (.invokevirtual 126, 3) := by decide +kernel
theorem dX3_pass_55 : decode cX3_pass 55 = .ok (.iinc 2 1, 3) := by decide +kernel
theorem dX3_pass_58 : decode cX3_pass 58 = .ok (.iinc 3 (-1), 3) := by decide +kernel
theorem dX3_pass_61 : decode cX3_pass 61 = .ok (.goto (-35), 3) := by decide +kernel
theorem dX3_pass_64 : decode cX3_pass 64 = .ok (.aload_n 1, 1) := by decide +kernel
theorem dX3_pass_65 : decode cX3_pass 65 = .ok (.dup, 1) := by decide +kernel
theorem dX3_pass_66 : decode cX3_pass 66 = .ok (.getfield 53, 3) := by decide +kernel
theorem dX3_pass_69 : decode cX3_pass 69 = .ok (.iconst 1, 1) := by decide +kernel
theorem dX3_pass_70 : decode cX3_pass 70 = .ok (.iadd, 1) := by decide +kernel
theorem dX3_pass_71 : decode cX3_pass 71 = .ok (.putfield 53, 3) := by decide +kernel
theorem dX3_pass_74 : decode cX3_pass 74 = .ok (.iload_n 2, 1) := by decide +kernel
theorem dX3_pass_75 : decode cX3_pass 75 = .ok (.ireturn, 1) := by decide +kernel
set_option maxRecDepth 20000 in
theorem ggX3_passAll_X3_pass : GoodIn wsX3_passAll wsX3_pass := goodIn_r _ [5, 6, 7, 8, 9, 10, 11, 12, 13, 14, 15, 16, 17, 18, 19, 20, 21, 4, 22, 23, 24, 25, 26, 27, 28, 29, 30, 31, 32, 33, 34, 35, 36, 37, 38, 39, 40, 41, 42, 43, 44, 45, 46, 47, 48, 49, 50, 51, 52, 53, 54, 55, 56, 57, 58, 59, 60, 61, 62, 63, 64, 65, 66, 67, 68, 69, 70, 71, 72, 73, 74, 75, 76, 77, 78, 79, 80, 81, 82, 83, 84, 85, 86, 87, 88, 89, 90, 91, 92, 93, 94, 95, 96] (by decide +kernel) (by decide +kernel)
set_option maxRecDepth 20000 in
theorem gX3_passAll_X3_pass : GoodIn wsX3_passAll (wsV RX3 130 RX3 yX3_pass wsX3_pass) := goodIn_app (goodIn_of _ (by decide +kernel)) ggX3_passAll_X3_pass
theorem dX3_passAll_0 : decode cX3_passAll 0 = .ok (.iconst 0, 1) := by decide +kernel
theorem dX3_passAll_1 : decode cX3_passAll 1 = .ok (.istore_n 3, 1) := by decide +kernel
theorem dX3_passAll_2 : decode cX3_passAll 2 = .ok (.iconst 0, 1) := by decide +kernel
theorem dX3_passAll_3 : decode cX3_passAll 3 = .ok (.istore 4, 2) := by decide +kernel
theorem dX3_passAll_5 : decode cX3_passAll 5 = .ok (.iload 4, 2) := by decide +kernel
theorem dX3_passAll_7 : decode cX3_passAll 7 = .ok (.iload_n 2, 1) := by decide +kernel
theorem dX3_passAll_8 : decode cX3_passAll 8 = .ok (.if_icmp .ge 17, 3) := by decide +kernel
theorem dX3_passAll_11 : decode cX3_passAll 11 = .ok (.iload_n 3, 1) := by decide +kernel
theorem dX3_passAll_12 : decode cX3_passAll 12 = .ok (.aload_n 0, 1) := by decide +kernel
theorem dX3_passAll_13 : decode cX3_passAll 13 = .ok (.aload_n 1, 1) := by decide +kernel
theorem dX3_passAll_14 : decode cX3_passAll 14 = .ok (.invokevirtual 130, 3) := by decide +kernel
theorem dX3_passAll_17 : decode cX3_passAll 17 = .ok (.iadd, 1) := by decide +kernel
theorem dX3_passAll_18 : decode cX3_passAll 18 = .ok (.istore_n 3, 1) := by decide +kernel
theorem dX3_passAll_19 : decode cX3_passAll 19 = .ok (.iinc 4 1, 3) := by decide +kernel
theorem dX3_passAll_22 : decode cX3_passAll 22 = .ok (.goto (-17), 3) := by decide +kernel
theorem dX3_passAll_25 : decode cX3_passAll 25 = .ok (.iload_n 3, 1) := by decide +kernel
theorem dX3_passAll_26 : decode cX3_passAll 26 = .ok (.ireturn, 1) := by decide +kernel
set_option maxRecDepth 20000 in
theorem ggX3_setSpring_X3_isIn : GoodIn wsX3_setSpring wsX3_isIn := goodIn_r _ [6] (by decide +kernel) (by decide +kernel)
set_option maxRecDepth 20000 in
theorem gX3_setSpring_X3_isIn : GoodIn wsX3_setSpring (va_wsS RX3 39 yX3_isIn wsX3_isIn) := goodIn_app (goodIn_of _ (by decide +kernel)) ggX3_setSpring_X3_isIn
set_option maxRecDepth 20000 in
theorem ggX3_setSpring_X3_no : GoodIn wsX3_setSpring wsX3_no := goodIn_r _ [10, 1, 11, 12, 13, 14, 15, 16, 17, 18, 19] (by decide +kernel) (by decide +kernel)
set_option maxRecDepth 20000 in
theorem gX3_setSpring_X3_no : GoodIn wsX3_setSpring (wsV RX3 134 RX3 yX3_no wsX3_no) := goodIn_app (goodIn_of _ (by decide +kernel)) ggX3_setSpring_X3_no
theorem dX3_setSpring_0 : decode cX3_setSpring 0 = .ok (.aload_n 0, 1) := by decide +kernel
theorem dX3_setSpring_1 : decode cX3_setSpring 1 = .ok (.iconst 0, 1) := by decide +kernel
theorem dX3_setSpring_2 : decode cX3_setSpring 2 = .ok (.putfield 33, 3) := by decide +kernel
theorem dX3_setSpring_5 : decode cX3_setSpring 5 = .ok (.iload_n 1, 1) := by decide +kernel
theorem dX3_setSpring_6 : decode cX3_setSpring 6 = .ok (.iconst 0, 1) := by decide +kernel
theorem dX3_setSpring_7 : decode cX3_setSpring 7 = .ok (.bipush 7, 2) := by decide +kernel
theorem dX3_setSpring_9 : decode cX3_setSpring 9 = .ok (.invokestatic 39, 3) := by decide +kernel
theorem dX3_setSpring_12 : decode cX3_setSpring 12 = .ok (.ifCond .ne 9, 3) := by decide +kernel
theorem dX3_setSpring_15 : decode cX3_setSpring 15 = .ok (.aload_n 0, 1) := by decide +kernel
theorem dX3_setSpring_16 : decode cX3_setSpring 16 = .ok (.iconst 1, 1) := by decide +kernel
theorem dX3_setSpring_17 : decode cX3_setSpring 17 = .ok (.invokevirtual 134, 3) := by decide +kernel
theorem dX3_setSpring_20 : decode cX3_setSpring 20 = .ok (.ireturn, 1) := by decide +kernel
theorem dX3_setSpring_21 : decode cX3_setSpring 21 = .ok (.iload_n 2, 1) := by decide +kernel
theorem dX3_setSpring_22 : decode cX3_setSpring 22 = .ok (.iconst 0, 1) := by decide +kernel
theorem dX3_setSpring_23 : decode cX3_setSpring 23 = .ok (.bipush 30, 2) := by decide +kernel
theorem dX3_setSpring_25 : decode cX3_setSpring 25 = .ok (.invokestatic 39, 3) := by decide +kernel
theorem dX3_setSpring_28 : decode cX3_setSpring 28 = .ok (.ifCond .ne 9, 3) := by decide +kernel
theorem dX3_setSpring_31 : decode cX3_setSpring 31 = .ok (.aload_n 0, 1) := by decide +kernel
theorem dX3_setSpring_32 : decode cX3_setSpring 32 = .ok (.iconst 2, 1) := by decide +kernel
theorem dX3_setSpring_33 : decode cX3_setSpring 33 = .ok (.invokevirtual 134, 3) := by decide +kernel
theorem dX3_setSpring_36 : decode cX3_setSpring 36 = .ok (.ireturn, 1) := by decide +kernel
theorem dX3_setSpring_37 : decode cX3_setSpring 37 = .ok (.aload_n 0, 1) := by decide +kernel
theorem dX3_setSpring_38 : decode cX3_setSpring 38 = .ok (.getfield 13, 3) := by decide +kernel
theorem dX3_setSpring_41 : decode cX3_setSpring 41 = .ok (.iload_n 1, 1) := by decide +kernel
theorem dX3_setSpring_42 : decode cX3_setSpring 42 = .ok (.iaload, 1) := by decide +kernel
theorem dX3_setSpring_43 : decode cX3_setSpring 43 = .ok (.istore_n 3, 1) := by decide +kernel
theorem dX3_setSpring_44 : decode cX3_setSpring 44 = .ok (.aload_n 0, 1) := by decide +kernel
theorem dX3_setSpring_45 : decode cX3_setSpring 45 = .ok (.getfield 13, 3) := by decide +kernel
theorem dX3_setSpring_48 : decode cX3_setSpring 48 = .ok (.iload_n 1, 1) := by decide +kernel
theorem dX3_setSpring_49 : decode cX3_setSpring 49 = .ok (.iload_n 2, 1) := by decide +kernel
theorem dX3_setSpring_50 : decode cX3_setSpring 50 = .ok (.iastore, 1) := by decide +kernel
theorem dX3_setSpring_51 : decode cX3_setSpring 51 = .ok (.iload_n 3, 1) := by decide +kernel
theorem dX3_setSpring_52 : decode cX3_setSpring 52 = .ok (.ireturn, 1) := by decide +kernel
set_option maxRecDepth 20000 in
theorem ggX3_setMill_X3_isIn : GoodIn wsX3_setMill wsX3_isIn := goodIn_r _ [7] (by decide +kernel) (by decide +kernel)
set_option maxRecDepth 20000 in
theorem gX3_setMill_X3_isIn : GoodIn wsX3_setMill (va_wsS RX3 39 yX3_isIn wsX3_isIn) := goodIn_app (goodIn_of _ (by decide +kernel)) ggX3_setMill_X3_isIn
set_option maxRecDepth 20000 in
theorem ggX3_setMill_X3_no : GoodIn wsX3_setMill wsX3_no := goodIn_r _ [11, 1, 12, 13, 14, 15, 16, 17, 18, 19, 20] (by decide +kernel) (by decide +kernel)
set_option maxRecDepth 20000 in
theorem gX3_setMill_X3_no : GoodIn wsX3_setMill (wsV RX3 134 RX3 yX3_no wsX3_no) := goodIn_app (goodIn_of _ (by decide +kernel)) ggX3_setMill_X3_no
theorem dX3_setMill_0 : decode cX3_setMill 0 = .ok (.aload_n 0, 1) := by decide +kernel
theorem dX3_setMill_1 : decode cX3_setMill 1 = .ok (.iconst 0, 1) := by decide +kernel
theorem dX3_setMill_2 : decode cX3_setMill 2 = .ok (.putfield 33, 3) := by decide +kernel
theorem dX3_setMill_5 : decode cX3_setMill 5 = .ok (.iload_n 1, 1) := by decide +kernel
theorem dX3_setMill_6 : decode cX3_setMill 6 = .ok (.iconst (-1), 1) := by decide +kernel
theorem dX3_setMill_7 : decode cX3_setMill 7 = .ok (.iconst 5, 1) := by decide +kernel
theorem dX3_setMill_8 : decode cX3_setMill 8 = .ok (.invokestatic 39, 3) := by decide +kernel
theorem dX3_setMill_11 : decode cX3_setMill 11 = .ok (.ifCond .ne 9, 3) := by decide +kernel
theorem dX3_setMill_14 : decode cX3_setMill 14 = .ok (.aload_n 0, 1) := by decide +kernel
theorem dX3_setMill_15 : decode cX3_setMill 15 = .ok (.iconst 1, 1) := by decide +kernel
theorem dX3_setMill_16 : decode cX3_setMill 16 = .ok (.invokevirtual 134, 3) := by decide +kernel
theorem dX3_setMill_19 : decode cX3_setMill 19 = .ok (.ireturn, 1) := by decide +kernel
theorem dX3_setMill_20 : decode cX3_setMill 20 = .ok (.iload_n 2, 1) := by decide +kernel
theorem dX3_setMill_21 : decode cX3_setMill 21 = .ok (.iconst 0, 1) := by decide +kernel
theorem dX3_setMill_22 : decode cX3_setMill 22 = .ok (.bipush 100, 2) := by decide +kernel
theorem dX3_setMill_24 : decode cX3_setMill 24 = .ok (.invokestatic 39, 3) := by decide +kernel
theorem dX3_setMill_27 : decode cX3_setMill 27 = .ok (.ifCond .ne 9, 3) := by decide +kernel
theorem dX3_setMill_30 : decode cX3_setMill 30 = .ok (.aload_n 0, 1) := by decide +kernel
theorem dX3_setMill_31 : decode cX3_setMill 31 = .ok (.iconst 2, 1) := by decide +kernel
theorem dX3_setMill_32 : decode cX3_setMill 32 = .ok (.invokevirtual 134, 3) := by decide +kernel
theorem dX3_setMill_35 : decode cX3_setMill 35 = .ok (.ireturn, 1) := by decide +kernel
theorem dX3_setMill_36 : decode cX3_setMill 36 = .ok (.aload_n 0, 1) := by decide +kernel
theorem dX3_setMill_37 : decode cX3_setMill 37 = .ok (.getfield 26, 3) := by decide +kernel
theorem dX3_setMill_40 : decode cX3_setMill 40 = .ok (.getfield 103, 3) := by decide +kernel
theorem dX3_setMill_43 : decode cX3_setMill 43 = .ok (.istore_n 3, 1) := by decide +kernel
theorem dX3_setMill_44 : decode cX3_setMill 44 = .ok (.aload_n 0, 1) := by decide +kernel
theorem dX3_setMill_45 : decode cX3_setMill 45 = .ok (.iload_n 1, 1) := by decide +kernel
theorem dX3_setMill_46 : decode cX3_setMill 46 = .ok (.putfield 16, 3) := by decide +kernel
theorem dX3_setMill_49 : decode cX3_setMill 49 = .ok (.aload_n 0, 1) := by decide +kernel
theorem dX3_setMill_50 : decode cX3_setMill 50 = .ok (.getfield 26, 3) := by decide +kernel
theorem dX3_setMill_53 : decode cX3_setMill 53 = .ok (.iload_n 2, 1) := by decide +kernel
theorem dX3_setMill_54 : decode cX3_setMill 54 = .ok (.putfield 103, 3) := by decide +kernel
theorem dX3_setMill_57 : decode cX3_setMill 57 = .ok (.iload_n 3, 1) := by decide +kernel
theorem dX3_setMill_58 : decode cX3_setMill 58 = .ok (.ireturn, 1) := by decide +kernel
theorem dX3_setDrought_0 : decode cX3_setDrought 0 = .ok (.aload_n 0, 1) := by decide +kernel
theorem dX3_setDrought_1 : decode cX3_setDrought 1 = .ok (.iconst 0, 1) := by decide +kernel
theorem dX3_setDrought_2 : decode cX3_setDrought 2 = .ok (.putfield 33, 3) := by decide +kernel
theorem dX3_setDrought_5 : decode cX3_setDrought 5 = .ok (.aload_n 0, 1) := by decide +kernel
theorem dX3_setDrought_6 : decode cX3_setDrought 6 = .ok (.getfield 66, 3) := by decide +kernel
theorem dX3_setDrought_9 : decode cX3_setDrought 9 = .ok (.istore_n 2, 1) := by decide +kernel
theorem dX3_setDrought_10 : decode cX3_setDrought 10 = .ok (.aload_n 0, 1) := by decide +kernel
theorem dX3_setDrought_11 : decode cX3_setDrought 11 = .ok (.iload_n 1, 1) := by decide +kernel
theorem dX3_setDrought_12 : decode cX3_setDrought 12 = .ok (.putfield 66, 3) := by decide +kernel
theorem dX3_setDrought_15 : decode cX3_setDrought 15 = .ok (.iload_n 2, 1) := by decide +kernel
theorem dX3_setDrought_16 : decode cX3_setDrought 16 = .ok (.ireturn, 1) := by decide +kernel
set_option maxRecDepth 20000 in
theorem ggX3_setFee_X3_isIn : GoodIn wsX3_setFee wsX3_isIn := goodIn_r _ [6] (by decide +kernel) (by decide +kernel)
set_option maxRecDepth 20000 in
theorem gX3_setFee_X3_isIn : GoodIn wsX3_setFee (va_wsS RX3 39 yX3_isIn wsX3_isIn) := goodIn_app (goodIn_of _ (by decide +kernel)) ggX3_setFee_X3_isIn
set_option maxRecDepth 20000 in
theorem ggX3_setFee_X3_no : GoodIn wsX3_setFee wsX3_no := goodIn_r _ [10, 1, 11, 12, 13, 14, 15, 16, 17, 18, 19] (by decide +kernel) (by decide +kernel)
set_option maxRecDepth 20000 in
theorem gX3_setFee_X3_no : GoodIn wsX3_setFee (wsV RX3 134 RX3 yX3_no wsX3_no) := goodIn_app (goodIn_of _ (by decide +kernel)) ggX3_setFee_X3_no
theorem dX3_setFee_0 : decode cX3_setFee 0 = .ok (.aload_n 0, 1) := by decide +kernel
theorem dX3_setFee_1 : decode cX3_setFee 1 = .ok (.iconst 0, 1) := by decide +kernel
theorem dX3_setFee_2 : decode cX3_setFee 2 = .ok (.putfield 33, 3) := by decide +kernel
theorem dX3_setFee_5 : decode cX3_setFee 5 = .ok (.iload_n 1, 1) := by decide +kernel
theorem dX3_setFee_6 : decode cX3_setFee 6 = .ok (.iconst 0, 1) := by decide +kernel
theorem dX3_setFee_7 : decode cX3_setFee 7 = .ok (.bipush 20, 2) := by decide +kernel
theorem dX3_setFee_9 : decode cX3_setFee 9 = .ok (.invokestatic 39, 3) := by decide +kernel
theorem dX3_setFee_12 : decode cX3_setFee 12 = .ok (.ifCond .ne 9, 3) := by decide +kernel
theorem dX3_setFee_15 : decode cX3_setFee 15 = .ok (.aload_n 0, 1) := by decide +kernel
theorem dX3_setFee_16 : decode cX3_setFee 16 = .ok (.iconst 1, 1) := by decide +kernel
theorem dX3_setFee_17 : decode cX3_setFee 17 = .ok (.invokevirtual 134, 3) := by decide +kernel
theorem dX3_setFee_20 : decode cX3_setFee 20 = .ok (.ireturn, 1) := by decide +kernel
theorem dX3_setFee_21 : decode cX3_setFee 21 = .ok (.aload_n 0, 1) := by decide +kernel
theorem dX3_setFee_22 : decode cX3_setFee 22 = .ok (.getfield 20, 3) := by decide +kernel
theorem dX3_setFee_25 : decode cX3_setFee 25 = .ok (.istore_n 2, 1) := by decide +kernel
theorem dX3_setFee_26 : decode cX3_setFee 26 = .ok (.aload_n 0, 1) := by decide +kernel
theorem dX3_setFee_27 : decode cX3_setFee 27 = .ok (.iload_n 1, 1) := by decide +kernel
theorem dX3_setFee_28 : decode cX3_setFee 28 = .ok (.putfield 20, 3) := by decide +kernel
theorem dX3_setFee_31 : decode cX3_setFee 31 = .ok (.iload_n 2, 1) := by decide +kernel
theorem dX3_setFee_32 : decode cX3_setFee 32 = .ok (.ireturn, 1) := by decide +kernel
set_option maxRecDepth 20000 in
theorem ggX3_water_X3_isIn : GoodIn wsX3_water wsX3_isIn := goodIn_r _ [6] (by decide +kernel) (by decide +kernel)
set_option maxRecDepth 20000 in
theorem gX3_water_X3_isIn : GoodIn wsX3_water (va_wsS RX3 39 yX3_isIn wsX3_isIn) := goodIn_app (goodIn_of _ (by decide +kernel)) ggX3_water_X3_isIn
set_option maxRecDepth 20000 in
theorem ggX3_water_X3_no : GoodIn wsX3_water wsX3_no := goodIn_r _ [10, 1, 23, 24, 25, 26, 27, 28, 29, 30, 31] (by decide +kernel) (by decide +kernel)
set_option maxRecDepth 20000 in
theorem gX3_water_X3_no : GoodIn wsX3_water (wsV RX3 134 RX3 yX3_no wsX3_no) := goodIn_app (goodIn_of _ (by decide +kernel)) ggX3_water_X3_no
set_option maxRecDepth 20000 in
theorem ggX3_water_X2_pour : GoodIn wsX3_water wsX2_pour := goodIn_r _ [15, 16, 17, 18, 19, 20, 21, 22, 32, 33, 34, 35, 36, 37, 38, 39, 40, 41, 42, 43, 44, 45] (by decide +kernel) (by decide +kernel)
set_option maxRecDepth 20000 in
theorem gX3_water_X2_pour : GoodIn wsX3_water (wsV RX3 115 RX2 yX2_pour wsX2_pour) := goodIn_app (goodIn_of _ (by decide +kernel)) ggX3_water_X2_pour
theorem dX3_water_0 : decode cX3_water 0 = .ok (.aload_n 0, 1) := by decide +kernel
theorem dX3_water_1 : decode cX3_water 1 = .ok (.iconst 0, 1) := by decide +kernel
theorem dX3_water_2 : decode cX3_water 2 = .ok (.putfield 33, 3) := by decide +kernel
theorem dX3_water_5 : decode cX3_water 5 = .ok (.iload_n 1, 1) := by decide +kernel
theorem dX3_water_6 : decode cX3_water 6 = .ok (.iconst 0, 1) := by decide +kernel
theorem dX3_water_7 : decode cX3_water 7 = .ok (.iconst 5, 1) := by decide +kernel
theorem dX3_water_8 : decode cX3_water 8 = .ok (.invokestatic 39, 3) := by decide +kernel
theorem dX3_water_11 : decode cX3_water 11 = .ok (.ifCond .ne 9, 3) := by decide +kernel
theorem dX3_water_14 : decode cX3_water 14 = .ok (.aload_n 0, 1) := by decide +kernel
theorem dX3_water_15 : decode cX3_water 15 = .ok (.iconst 1, 1) := by decide +kernel
theorem dX3_water_16 : decode cX3_water 16 = .ok (.invokevirtual 134, 3) := by decide +kernel
theorem dX3_water_19 : decode cX3_water 19 = .ok (.ireturn, 1) := by decide +kernel
theorem dX3_water_20 : decode cX3_water 20 = .ok (.iload_n 2, 1) := by decide +kernel
theorem dX3_water_21 : decode cX3_water 21 = .ok (.iconst 1, 1) := by decide +kernel
theorem dX3_water_22 : decode cX3_water 22 = .ok (.bipush 60, 2) := by decide +kernel
theorem dX3_water_24 : decode cX3_water 24 = .ok (.invokestatic 39, 3) := by decide +kernel
theorem dX3_water_27 : decode cX3_water 27 = .ok (.ifCond .ne 9, 3) := by decide +kernel
theorem dX3_water_30 : decode cX3_water 30 = .ok (.aload_n 0, 1) := by decide +kernel
theorem dX3_water_31 : decode cX3_water 31 = .ok (.iconst 2, 1) := by decide +kernel
theorem dX3_water_32 : decode cX3_water 32 = .ok (.invokevirtual 134, 3) := by decide +kernel
theorem dX3_water_35 : decode cX3_water 35 = .ok (.ireturn, 1) := by decide +kernel
theorem dX3_water_36 : decode cX3_water 36 = .ok (.iload_n 2, 1) := by decide +kernel
theorem dX3_water_37 : decode cX3_water 37 = .ok (.iconst 1, 1) := by decide +kernel
theorem dX3_water_38 : decode cX3_water 38 = .ok (.iadd, 1) := by decide +kernel
theorem dX3_water_39 : decode cX3_water 39 = .ok (.iconst 2, 1) := by decide +kernel
theorem dX3_water_40 : decode cX3_water 40 = .ok (.idiv, 1) := by decide +kernel
theorem dX3_water_41 : decode cX3_water 41 = .ok (.istore_n 3, 1) := by decide +kernel
theorem dX3_water_42 : decode cX3_water 42 = .ok (.aload_n 0, 1) := by decide +kernel
theorem dX3_water_43 : decode cX3_water 43 = .ok (.getfield 26, 3) := by decide +kernel
theorem dX3_water_46 : decode cX3_water 46 = .ok (.getfield 91, 3) := by decide +kernel
theorem dX3_water_49 : decode cX3_water 49 = .ok (.iload_n 3, 1) := by decide +kernel
theorem dX3_water_50 : decode cX3_water 50 = .ok (.if_icmp .ge 9, 3) := by decide +kernel
theorem dX3_water_53 : decode cX3_water 53 = .ok (.aload_n 0, 1) := by decide +kernel
theorem dX3_water_54 : decode cX3_water 54 = .ok (.iconst 3, 1) := by decide +kernel
theorem dX3_water_55 : decode cX3_water 55 = .ok (.invokevirtual 134, 3) := by decide +kernel
theorem dX3_water_58 : decode cX3_water 58 = .ok (.ireturn, 1) := by decide +kernel
theorem dX3_water_59 : decode cX3_water 59 = .ok (.aload_n 0, 1) := by decide +kernel
theorem dX3_water_60 : decode cX3_water 60 = .ok (.getfield 26, 3) := by decide +kernel
theorem dX3_water_63 : decode cX3_water 63 = .ok (.dup, 1) := by decide +kernel
theorem dX3_water_64 : decode cX3_water 64 = .ok (.getfield 91, 3) := by decide +kernel
theorem dX3_water_67 : decode cX3_water 67 = .ok (.iload_n 3, 1) := by decide +kernel
theorem dX3_water_68 : decode cX3_water 68 = .ok (.isub, 1) := by decide +kernel
theorem dX3_water_69 : decode cX3_water 69 = .ok (.putfield 91, 3) := by decide +kernel
theorem dX3_water_72 : decode cX3_water 72 = .ok (.aload_n 0, 1) := by decide +kernel
theorem dX3_water_73 : decode cX3_water 73 = .ok (.getfield 26, 3) := by decide +kernel
theorem dX3_water_76 : decode cX3_water 76 = .ok (.iload_n 1, 1) := by decide +kernel
theorem dX3_water_77 : decode cX3_water 77 = .ok (.iload_n 2, 1) := by decide +kernel
theorem dX3_water_78 : decode cX3_water 78 = .ok (.invokevirtual 115, 3) := by decide +kernel
theorem dX3_water_81 : decode cX3_water 81 = .ok (.aload_n 0, 1) := by decide +kernel
theorem dX3_water_82 : decode cX3_water 82 = .ok (.getfield 26, 3) := by decide +kernel
theorem dX3_water_85 : decode cX3_water 85 = .ok (.getfield 91, 3) := by decide +kernel
theorem dX3_water_88 : decode cX3_water 88 = .ok (.ireturn, 1) := by decide +kernel
set_option maxRecDepth 20000 in
theorem ggX3_work_X3_isIn : GoodIn wsX3_work wsX3_isIn := goodIn_r _ [6] (by decide +kernel) (by decide +kernel)
set_option maxRecDepth 20000 in
theorem gX3_work_X3_isIn : GoodIn wsX3_work (va_wsS RX3 39 yX3_isIn wsX3_isIn) := goodIn_app (goodIn_of _ (by decide +kernel)) ggX3_work_X3_isIn
set_option maxRecDepth 20000 in
theorem ggX3_work_X2_canFill : GoodIn wsX3_work wsX2_canFill := goodIn_r _ [11, 12, 42, 43, 44, 45, 46, 47, 48, 49, 50, 51, 52, 53, 54, 55] (by decide +kernel) (by decide +kernel)
set_option maxRecDepth 20000 in
theorem gX3_work_X2_canFill : GoodIn wsX3_work (wsV RX3 74 RX2 yX2_canFill wsX2_canFill) := goodIn_app (goodIn_of _ (by decide +kernel)) ggX3_work_X2_canFill
set_option maxRecDepth 20000 in
theorem ggX3_work_X2_empty : GoodIn wsX3_work wsX2_empty := goodIn_r _ [16, 17, 18, 19, 20, 10, 21, 12, 22, 23, 24, 25, 26, 27, 42, 43, 44, 45, 46, 47, 48, 49, 50, 51, 52, 53, 54, 55] (by decide +kernel) (by decide +kernel)
set_option maxRecDepth 20000 in
theorem gX3_work_X2_empty : GoodIn wsX3_work (wsV RX3 88 RX2 yX2_empty wsX2_empty) := goodIn_app (goodIn_of _ (by decide +kernel)) ggX3_work_X2_empty
set_option maxRecDepth 20000 in
theorem ggX3_work_X2_fill : GoodIn wsX3_work wsX2_fill := goodIn_r _ [31, 12, 32, 17, 42, 43, 44, 45, 46, 47, 48, 49, 50, 51, 52, 53, 54, 55] (by decide +kernel) (by decide +kernel)
set_option maxRecDepth 20000 in
theorem gX3_work_X2_fill : GoodIn wsX3_work (wsV RX3 84 RX2 yX2_fill wsX2_fill) := goodIn_app (goodIn_of _ (by decide +kernel)) ggX3_work_X2_fill
theorem dX3_work_0 : decode cX3_work 0 = .ok (.aload_n 0, 1) := by decide +kernel
theorem dX3_work_1 : decode cX3_work 1 = .ok (.iload_n 1, 1) := by decide +kernel
theorem dX3_work_2 : decode cX3_work 2 = .ok (.iconst 0, 1) := by decide +kernel
theorem dX3_work_3 : decode cX3_work 3 = .ok (.iconst 4, 1) := by decide +kernel
theorem dX3_work_4 : decode cX3_work 4 = .ok (.invokestatic 39, 3) := by decide +kernel
theorem dX3_work_7 : decode cX3_work 7 = .ok (.ifCond .ne 7, 3) := by decide +kernel
theorem dX3_work_10 : decode cX3_work 10 = .ok (.iconst 1, 1) := by decide +kernel
theorem dX3_work_11 : decode cX3_work 11 = .ok (.goto 31, 3) := by decide +kernel
theorem dX3_work_14 : decode cX3_work 14 = .ok (.aload_n 0, 1) := by decide +kernel
theorem dX3_work_15 : decode cX3_work 15 = .ok (.getfield 26, 3) := by decide +kernel
theorem dX3_work_18 : decode cX3_work 18 = .ok (.getfield 60, 3) := by decide +kernel
theorem dX3_work_21 : decode cX3_work 21 = .ok (.iload_n 1, 1) := by decide +kernel
theorem dX3_work_22 : decode cX3_work 22 = .ok (.iaload, 1) := by decide +kernel
theorem dX3_work_23 : decode cX3_work 23 = .ok (.ifCond .ne 18, 3) := by decide +kernel
theorem dX3_work_26 : decode cX3_work 26 = .ok (.aload_n 0, 1) := by decide +kernel
theorem dX3_work_27 : decode cX3_work 27 = .ok (.getfield 26, 3) := by decide +kernel
theorem dX3_work_30 : decode cX3_work 30 = .ok (.iload_n 1, 1) := by decide +kernel
theorem dX3_work_31 : decode cX3_work 31 = .ok (.invokevirtual 74, 3) := by decide +kernel
theorem dX3_work_34 : decode cX3_work 34 = .ok (.ifCond .ne 7, 3) := by decide +kernel
theorem dX3_work_37 : decode cX3_work 37 = .ok (.iconst 2, 1) := by decide +kernel
theorem dX3_work_38 : decode cX3_work 38 = .ok (.goto 4, 3) := by decide +kernel
theorem dX3_work_41 : decode cX3_work 41 = .ok (.iconst 0, 1) := by decide +kernel
theorem dX3_work_42 : decode cX3_work 42 = .ok (.putfield 33, 3) := by decide +kernel
theorem dX3_work_45 : decode cX3_work 45 = .ok (.aload_n 0, 1) := by decide +kernel
theorem dX3_work_46 : decode cX3_work 46 = .ok (.getfield 33, 3) := by decide +kernel
theorem dX3_work_49 : decode cX3_work 49 = .ok (.ifCond .le 5, 3) := by decide +kernel
theorem dX3_work_52 : decode cX3_work 52 = .ok (.iconst 0, 1) := by decide +kernel
theorem dX3_work_53 : decode cX3_work 53 = .ok (.ireturn, 1) := by decide +kernel
theorem dX3_work_54 : decode cX3_work 54 = .ok (.aload_n 0, 1) := by decide +kernel
theorem dX3_work_55 : decode cX3_work 55 = .ok (.getfield 26, 3) := by decide +kernel
theorem dX3_work_58 : decode cX3_work 58 = .ok (.getfield 60, 3) := by decide +kernel
theorem dX3_work_61 : decode cX3_work 61 = .ok (.iload_n 1, 1) := by decide +kernel
theorem dX3_work_62 : decode cX3_work 62 = .ok (.iaload, 1) := by decide +kernel
theorem dX3_work_63 : decode cX3_work 63 = .ok (.iconst 1, 1) := by decide +kernel
theorem dX3_work_64 : decode cX3_work 64 = .ok (.if_icmp .ne 14, 3) := by decide +kernel
theorem dX3_work_67 : decode cX3_work 67 = .ok (.aload_n 0, 1) := by decide +kernel
theorem dX3_work_68 : decode cX3_work 68 = .ok (.getfield 26, 3) := by decide +kernel
theorem dX3_work_71 : decode cX3_work 71 = .ok (.iload_n 1, 1) := by decide +kernel
theorem dX3_work_72 : decode cX3_work 72 = .ok (.invokevirtual 88, 3) := by decide +kernel
theorem dX3_work_75 : decode cX3_work 75 = .ok (.goto 11, 3) := by decide +kernel
theorem dX3_work_78 : decode cX3_work 78 = .ok (.aload_n 0, 1) := by decide +kernel
theorem dX3_work_79 : decode cX3_work 79 = .ok (.getfield 26, 3) := by decide +kernel
theorem dX3_work_82 : decode cX3_work 82 = .ok (.iload_n 1, 1) := by decide +kernel
theorem dX3_work_83 : decode cX3_work 83 = .ok (.invokevirtual 84, 3) := by decide +kernel
theorem dX3_work_86 : decode cX3_work 86 = .ok (.aload_n 0, 1) := by decide +kernel
theorem dX3_work_87 : decode cX3_work 87 = .ok (.getfield 26, 3) := by decide +kernel
theorem dX3_work_90 : decode cX3_work 90 = .ok (.getfield 60, 3) := by decide +kernel
theorem dX3_work_93 : decode cX3_work 93 = .ok (.iload_n 1, 1) := by decide +kernel
theorem dX3_work_94 : decode cX3_work 94 = .ok (.iaload, 1) := by decide +kernel
theorem dX3_work_95 : decode cX3_work 95 = .ok (.iconst 1, 1) := by decide +kernel
theorem dX3_work_96 : decode cX3_work 96 = .ok (.if_icmp .ne 7, 3) := by decide +kernel
theorem dX3_work_99 : decode cX3_work 99 = .ok (.iconst 1, 1) := by decide +kernel
theorem dX3_work_100 : decode cX3_work 100 = .ok (.goto 4, 3) := by decide +kernel
theorem dX3_work_103 : decode cX3_work 103 = .ok (.iconst 0, 1) := by decide +kernel
theorem dX3_work_104 : decode cX3_work 104 = .ok (.ireturn, 1) := by decide +kernel
set_option maxRecDepth 20000 in
theorem ggX3_barge_X3_isIn : GoodIn wsX3_barge wsX3_isIn := goodIn_r _ [8] (by decide +kernel) (by decide +kernel)
set_option maxRecDepth 20000 in
theorem gX3_barge_X3_isIn : GoodIn wsX3_barge (va_wsS RX3 39 yX3_isIn wsX3_isIn) := goodIn_app (goodIn_of _ (by decide +kernel)) ggX3_barge_X3_isIn
set_option maxRecDepth 20000 in
theorem ggX3_barge_X3_no : GoodIn wsX3_barge wsX3_no := goodIn_r _ [12, 1, 13, 14, 15, 16, 17, 18, 19, 20, 21] (by decide +kernel) (by decide +kernel)
set_option maxRecDepth 20000 in
theorem gX3_barge_X3_no : GoodIn wsX3_barge (wsV RX3 134 RX3 yX3_no wsX3_no) := goodIn_app (goodIn_of _ (by decide +kernel)) ggX3_barge_X3_no
theorem dX3_barge_0 : decode cX3_barge 0 = .ok (.aload_n 0, 1) := by decide +kernel
theorem dX3_barge_1 : decode cX3_barge 1 = .ok (.iconst 0, 1) := by decide +kernel
theorem dX3_barge_2 : decode cX3_barge 2 = .ok (.putfield 33, 3) := by decide +kernel
theorem dX3_barge_5 : decode cX3_barge 5 = .ok (.iload_n 1, 1) := by decide +kernel
theorem dX3_barge_6 : decode cX3_barge 6 = .ok (.iconst 0, 1) := by decide +kernel
theorem dX3_barge_7 : decode cX3_barge 7 = .ok (.iconst 5, 1) := by decide +kernel
theorem dX3_barge_8 : decode cX3_barge 8 = .ok (.invokestatic 39, 3) := by decide +kernel
theorem dX3_barge_11 : decode cX3_barge 11 = .ok (.ifCond .eq 12, 3) := by decide +kernel
theorem dX3_barge_14 : decode cX3_barge 14 = .ok (.iload_n 2, 1) := by decide +kernel
theorem dX3_barge_15 : decode cX3_barge 15 = .ok (.iconst 0, 1) := by decide +kernel
theorem dX3_barge_16 : decode cX3_barge 16 = .ok (.iconst 5, 1) := by decide +kernel
theorem dX3_barge_17 : decode cX3_barge 17 = .ok (.invokestatic 39, 3) := by decide +kernel
theorem dX3_barge_20 : decode cX3_barge 20 = .ok (.ifCond .ne 9, 3) := by decide +kernel
theorem dX3_barge_23 : decode cX3_barge 23 = .ok (.aload_n 0, 1) := by decide +kernel
theorem dX3_barge_24 : decode cX3_barge 24 = .ok (.iconst 1, 1) := by decide +kernel
theorem dX3_barge_25 : decode cX3_barge 25 = .ok (.invokevirtual 134, 3) := by decide +kernel
theorem dX3_barge_28 : decode cX3_barge 28 = .ok (.ireturn, 1) := by decide +kernel
theorem dX3_barge_29 : decode cX3_barge 29 = .ok (.iload_n 3, 1) := by decide +kernel
theorem dX3_barge_30 : decode cX3_barge 30 = .ok (.iconst 0, 1) := by decide +kernel
theorem dX3_barge_31 : decode cX3_barge 31 = .ok (.bipush 99, 2) := by decide +kernel
theorem dX3_barge_33 : decode cX3_barge 33 = .ok (.invokestatic 39, 3) := by decide +kernel
theorem dX3_barge_36 : decode cX3_barge 36 = .ok (.ifCond .ne 9, 3) := by decide +kernel
theorem dX3_barge_39 : decode cX3_barge 39 = .ok (.aload_n 0, 1) := by decide +kernel
theorem dX3_barge_40 : decode cX3_barge 40 = .ok (.iconst 2, 1) := by decide +kernel
theorem dX3_barge_41 : decode cX3_barge 41 = .ok (.invokevirtual 134, 3) := by decide +kernel
theorem dX3_barge_44 : decode cX3_barge 44 = .ok (.ireturn, 1) := by decide +kernel
theorem dX3_barge_45 : decode cX3_barge 45 = .ok (.aload_n 0, 1) := by decide +kernel
theorem dX3_barge_46 : decode cX3_barge 46 = .ok (.getfield 36, 3) := by decide +kernel
theorem dX3_barge_49 : decode cX3_barge 49 = .ok (.bipush 10, 2) := by decide +kernel
theorem dX3_barge_51 : decode cX3_barge 51 = .ok (.if_icmp .ne 9, 3) := by decide +kernel
theorem dX3_barge_54 : decode cX3_barge 54 = .ok (.aload_n 0, 1) := by decide +kernel
theorem dX3_barge_55 : decode cX3_barge 55 = .ok (.iconst 3, 1) := by decide +kernel
theorem dX3_barge_56 : decode cX3_barge 56 = .ok (.invokevirtual 134, 3) := by decide +kernel
theorem dX3_barge_59 : decode cX3_barge 59 = .ok (.ireturn, 1) := by decide +kernel
theorem dX3_barge_60 : decode cX3_barge 60 = .ok (.aload_n 0, 1) := by decide +kernel
theorem dX3_barge_61 : decode cX3_barge 61 = .ok (.getfield 26, 3) := by decide +kernel
theorem dX3_barge_64 : decode cX3_barge 64 = .ok (.getfield 43, 3) := by decide +kernel
theorem dX3_barge_67 : decode cX3_barge 67 = .ok (.aload_n 0, 1) := by decide +kernel
theorem dX3_barge_68 : decode cX3_barge 68 = .ok (.getfield 36, 3) := by decide +kernel
theorem dX3_barge_71 : decode cX3_barge 71 = .ok (.iload_n 1, 1) := by decide +kernel
theorem dX3_barge_72 : decode cX3_barge 72 = .ok (.iastore, 1) := by decide +kernel
theorem dX3_barge_73 : decode cX3_barge 73 = .ok (.aload_n 0, 1) := by decide +kernel
theorem dX3_barge_74 : decode cX3_barge 74 = .ok (.getfield 26, 3) := by decide +kernel
theorem dX3_barge_77 : decode cX3_barge 77 = .ok (.getfield 63, 3) := by decide +kernel
theorem dX3_barge_80 : decode cX3_barge 80 = .ok (.aload_n 0, 1) := by decide +kernel
theorem dX3_barge_81 : decode cX3_barge 81 = .ok (.getfield 36, 3) := by decide +kernel
theorem dX3_barge_84 : decode cX3_barge 84 = .ok (.iload_n 3, 1) := by decide +kernel
theorem dX3_barge_85 : decode cX3_barge 85 = .ok (.iastore, 1) := by decide +kernel
theorem dX3_barge_86 : decode cX3_barge 86 = .ok (.aload_n 0, 1) := by decide +kernel
theorem dX3_barge_87 : decode cX3_barge 87 = .ok (.getfield 9, 3) := by decide +kernel
theorem dX3_barge_90 : decode cX3_barge 90 = .ok (.aload_n 0, 1) := by decide +kernel
theorem dX3_barge_91 : decode cX3_barge 91 = .ok (.getfield 36, 3) := by decide +kernel
theorem dX3_barge_94 : decode cX3_barge 94 = .ok (.iload_n 2, 1) := by decide +kernel
theorem dX3_barge_95 : decode cX3_barge 95 = .ok (.iastore, 1) := by decide +kernel
theorem dX3_barge_96 : decode cX3_barge 96 = .ok (.aload_n 0, 1) := by decide +kernel
theorem dX3_barge_97 : decode cX3_barge 97 = .ok (.dup, 1) := by decide +kernel
theorem dX3_barge_98 : decode cX3_barge 98 = .ok (.getfield 36, 3) := by decide +kernel
theorem dX3_barge_101 : decode cX3_barge 101 = .ok (.iconst 1, 1) := by decide +kernel
theorem dX3_barge_102 : decode cX3_barge 102 = .ok (.iadd, 1) := by decide +kernel
theorem dX3_barge_103 : decode cX3_barge 103 = .ok (.putfield 36, 3) := by decide +kernel
theorem dX3_barge_106 : decode cX3_barge 106 = .ok (.aload_n 0, 1) := by decide +kernel
theorem dX3_barge_107 : decode cX3_barge 107 = .ok (.getfield 36, 3) := by decide +kernel
theorem dX3_barge_110 : decode cX3_barge 110 = .ok (.iconst 1, 1) := by decide +kernel
theorem dX3_barge_111 : decode cX3_barge 111 = .ok (.isub, 1) := by decide +kernel
theorem dX3_barge_112 : decode cX3_barge 112 = .ok (.ireturn, 1) := by decide +kernel
set_option maxRecDepth 20000 in
theorem ggX3_send_X3_isBarge : GoodIn wsX3_send wsX3_isBarge := goodIn_r _ [7, 8, 9, 10, 6, 11, 16, 17, 18, 19, 20, 21, 22, 23, 24] (by decide +kernel) (by decide +kernel)
set_option maxRecDepth 20000 in
theorem gX3_send_X3_isBarge : GoodIn wsX3_send (wsV RX3 138 RX3 yX3_isBarge wsX3_isBarge) := goodIn_app (goodIn_of _ (by decide +kernel)) ggX3_send_X3_isBarge
set_option maxRecDepth 20000 in
theorem ggX3_send_X3_isIn : GoodIn wsX3_send wsX3_isIn := goodIn_r _ [11] (by decide +kernel) (by decide +kernel)
set_option maxRecDepth 20000 in
theorem gX3_send_X3_isIn : GoodIn wsX3_send (va_wsS RX3 39 yX3_isIn wsX3_isIn) := goodIn_app (goodIn_of _ (by decide +kernel)) ggX3_send_X3_isIn
set_option maxRecDepth 20000 in
theorem ggX3_send_X3_no : GoodIn wsX3_send wsX3_no := goodIn_r _ [15, 1, 16, 17, 18, 19, 20, 21, 22, 23, 24] (by decide +kernel) (by decide +kernel)
set_option maxRecDepth 20000 in
theorem gX3_send_X3_no : GoodIn wsX3_send (wsV RX3 134 RX3 yX3_no wsX3_no) := goodIn_app (goodIn_of _ (by decide +kernel)) ggX3_send_X3_no
theorem dX3_send_0 : decode cX3_send 0 = .ok (.aload_n 0, 1) := by decide +kernel
theorem dX3_send_1 : decode cX3_send 1 = .ok (.iconst 0, 1) := by decide +kernel
theorem dX3_send_2 : decode cX3_send 2 = .ok (.putfield 33, 3) := by decide +kernel
theorem dX3_send_5 : decode cX3_send 5 = .ok (.aload_n 0, 1) := by decide +kernel
theorem dX3_send_6 : decode cX3_send 6 = .ok (.iload_n 1, 1) := by decide +kernel
theorem dX3_send_7 : decode cX3_send 7 = .ok (.invokevirtual 138, 3) := by decide +kernel
theorem dX3_send_10 : decode cX3_send 10 = .ok (.ifCond .eq 12, 3) := by decide +kernel
theorem dX3_send_13 : decode cX3_send 13 = .ok (.iload_n 2, 1) := by decide +kernel
theorem dX3_send_14 : decode cX3_send 14 = .ok (.iconst 0, 1) := by decide +kernel
theorem dX3_send_15 : decode cX3_send 15 = .ok (.iconst 5, 1) := by decide +kernel
theorem dX3_send_16 : decode cX3_send 16 = .ok (.invokestatic 39, 3) := by decide +kernel
theorem dX3_send_19 : decode cX3_send 19 = .ok (.ifCond .ne 9, 3) := by decide +kernel
theorem dX3_send_22 : decode cX3_send 22 = .ok (.aload_n 0, 1) := by decide +kernel
theorem dX3_send_23 : decode cX3_send 23 = .ok (.iconst 1, 1) := by decide +kernel
theorem dX3_send_24 : decode cX3_send 24 = .ok (.invokevirtual 134, 3) := by decide +kernel
theorem dX3_send_27 : decode cX3_send 27 = .ok (.ireturn, 1) := by decide +kernel
theorem dX3_send_28 : decode cX3_send 28 = .ok (.aload_n 0, 1) := by decide +kernel
theorem dX3_send_29 : decode cX3_send 29 = .ok (.getfield 9, 3) := by decide +kernel
theorem dX3_send_32 : decode cX3_send 32 = .ok (.iload_n 1, 1) := by decide +kernel
theorem dX3_send_33 : decode cX3_send 33 = .ok (.iaload, 1) := by decide +kernel
theorem dX3_send_34 : decode cX3_send 34 = .ok (.istore_n 3, 1) := by decide +kernel
theorem dX3_send_35 : decode cX3_send 35 = .ok (.aload_n 0, 1) := by decide +kernel
theorem dX3_send_36 : decode cX3_send 36 = .ok (.getfield 9, 3) := by decide +kernel
theorem dX3_send_39 : decode cX3_send 39 = .ok (.iload_n 1, 1) := by decide +kernel
theorem dX3_send_40 : decode cX3_send 40 = .ok (.iload_n 2, 1) := by decide +kernel
theorem dX3_send_41 : decode cX3_send 41 = .ok (.iastore, 1) := by decide +kernel
theorem dX3_send_42 : decode cX3_send 42 = .ok (.iload_n 3, 1) := by decide +kernel
theorem dX3_send_43 : decode cX3_send 43 = .ok (.ireturn, 1) := by decide +kernel
set_option maxRecDepth 20000 in
theorem ggX3_bargeTold_X3_lockOf : GoodIn wsX3_bargeTold wsX3_lockOf := goodIn_r _ [7, 2, 8, 9, 10, 11, 12, 13, 14, 15, 16, 17, 18, 19, 20, 21, 22, 23, 24, 25, 26, 27, 28, 29, 30] (by decide +kernel) (by decide +kernel)
set_option maxRecDepth 20000 in
theorem gX3_bargeTold_X3_lockOf : GoodIn wsX3_bargeTold (wsV RX3 46 RX3 yX3_lockOf wsX3_lockOf) := goodIn_app (goodIn_of _ (by decide +kernel)) ggX3_bargeTold_X3_lockOf
theorem dX3_bargeTold_0 : decode cX3_bargeTold 0 = .ok (.iload_n 2, 1) := by decide +kernel
theorem dX3_bargeTold_1 : decode cX3_bargeTold 1 = .ok (.tableswitch 68 0 3 #[31, 41, 48, 58], 31) := by decide +kernel
theorem dX3_bargeTold_32 : decode cX3_bargeTold 32 = .ok (.aload_n 0, 1) := by decide +kernel
theorem dX3_bargeTold_33 : decode cX3_bargeTold 33 = .ok (.getfield 26, 3) := by decide +kernel
theorem dX3_bargeTold_36 : decode cX3_bargeTold 36 = .ok (.getfield 43, 3) := by decide +kernel
theorem dX3_bargeTold_39 : decode cX3_bargeTold 39 = .ok (.iload_n 1, 1) := by decide +kernel
theorem dX3_bargeTold_40 : decode cX3_bargeTold 40 = .ok (.iaload, 1) := by decide +kernel
theorem dX3_bargeTold_41 : decode cX3_bargeTold 41 = .ok (.ireturn, 1) := by decide +kernel
theorem dX3_bargeTold_42 : decode cX3_bargeTold 42 = .ok (.aload_n 0, 1) := by decide +kernel
theorem dX3_bargeTold_43 : decode cX3_bargeTold 43 = .ok (.getfield 9, 3) := by decide +kernel
theorem dX3_bargeTold_46 : decode cX3_bargeTold 46 = .ok (.iload_n 1, 1) := by decide +kernel
theorem dX3_bargeTold_47 : decode cX3_bargeTold 47 = .ok (.iaload, 1) := by decide +kernel
theorem dX3_bargeTold_48 : decode cX3_bargeTold 48 = .ok (.ireturn, 1) := by decide +kernel
theorem dX3_bargeTold_49 : decode cX3_bargeTold 49 = .ok (.aload_n 0, 1) := by decide +kernel
theorem dX3_bargeTold_50 : decode cX3_bargeTold 50 = .ok (.getfield 26, 3) := by decide +kernel
theorem dX3_bargeTold_53 : decode cX3_bargeTold 53 = .ok (.getfield 63, 3) := by decide +kernel
theorem dX3_bargeTold_56 : decode cX3_bargeTold 56 = .ok (.iload_n 1, 1) := by decide +kernel
theorem dX3_bargeTold_57 : decode cX3_bargeTold 57 = .ok (.iaload, 1) := by decide +kernel
theorem dX3_bargeTold_58 : decode cX3_bargeTold 58 = .ok (.ireturn, 1) := by decide +kernel
theorem dX3_bargeTold_59 : decode cX3_bargeTold 59 = .ok (.aload_n 0, 1) := by decide +kernel
theorem dX3_bargeTold_60 : decode cX3_bargeTold 60 = .ok (.getfield 26, 3) := by decide +kernel
theorem dX3_bargeTold_63 : decode cX3_bargeTold 63 = .ok (.getfield 94, 3) := by decide +kernel
theorem dX3_bargeTold_66 : decode cX3_bargeTold 66 = .ok (.iload_n 1, 1) := by decide +kernel
theorem dX3_bargeTold_67 : decode cX3_bargeTold 67 = .ok (.iaload, 1) := by decide +kernel
theorem dX3_bargeTold_68 : decode cX3_bargeTold 68 = .ok (.ireturn, 1) := by decide +kernel
theorem dX3_bargeTold_69 : decode cX3_bargeTold 69 = .ok (.aload_n 0, 1) := by decide +kernel
theorem dX3_bargeTold_70 : decode cX3_bargeTold 70 = .ok (.aload_n 0, 1) := by decide +kernel
theorem dX3_bargeTold_71 : decode cX3_bargeTold 71 = .ok (.getfield 26, 3) := by decide +kernel
theorem dX3_bargeTold_74 : decode cX3_bargeTold 74 = .ok (.iload_n 1, 1) := by decide +kernel
theorem dX3_bargeTold_75 : decode cX3_bargeTold 75 = .ok (.invokevirtual 46, 3) := by decide +kernel
theorem dX3_bargeTold_78 : decode cX3_bargeTold 78 = .ok (.ireturn, 1) := by decide +kernel
set_option maxRecDepth 20000 in
theorem ggX3_told_X3_isBarge : GoodIn wsX3_told wsX3_isBarge := goodIn_r _ [6, 7, 8, 9, 5, 10, 25, 26, 27, 28, 29, 30, 31, 32, 33] (by decide +kernel) (by decide +kernel)
set_option maxRecDepth 20000 in
theorem gX3_told_X3_isBarge : GoodIn wsX3_told (wsV RX3 138 RX3 yX3_isBarge wsX3_isBarge) := goodIn_app (goodIn_of _ (by decide +kernel)) ggX3_told_X3_isBarge
set_option maxRecDepth 20000 in
theorem ggX3_told_X3_isIn : GoodIn wsX3_told wsX3_isIn := goodIn_r _ [10] (by decide +kernel) (by decide +kernel)
set_option maxRecDepth 20000 in
theorem gX3_told_X3_isIn : GoodIn wsX3_told (va_wsS RX3 39 yX3_isIn wsX3_isIn) := goodIn_app (goodIn_of _ (by decide +kernel)) ggX3_told_X3_isIn
set_option maxRecDepth 20000 in
theorem ggX3_told_X3_bargeTold : GoodIn wsX3_told wsX3_bargeTold := goodIn_r _ [14, 15, 16, 17, 18, 19, 5, 20, 25, 26, 27, 28, 29, 30, 31, 32, 33, 34, 35, 36, 37, 38, 39, 40, 41, 42, 43, 44, 45, 46, 47] (by decide +kernel) (by decide +kernel)
set_option maxRecDepth 20000 in
theorem gX3_told_X3_bargeTold : GoodIn wsX3_told (wsV RX3 141 RX3 yX3_bargeTold wsX3_bargeTold) := goodIn_app (goodIn_of _ (by decide +kernel)) ggX3_told_X3_bargeTold
set_option maxRecDepth 20000 in
theorem ggX3_told_X3_no : GoodIn wsX3_told wsX3_no := goodIn_r _ [24, 1, 25, 26, 27, 28, 29, 30, 31, 32, 33] (by decide +kernel) (by decide +kernel)
set_option maxRecDepth 20000 in
theorem gX3_told_X3_no : GoodIn wsX3_told (wsV RX3 134 RX3 yX3_no wsX3_no) := goodIn_app (goodIn_of _ (by decide +kernel)) ggX3_told_X3_no
theorem dX3_told_0 : decode cX3_told 0 = .ok (.aload_n 0, 1) := by decide +kernel
theorem dX3_told_1 : decode cX3_told 1 = .ok (.iconst 0, 1) := by decide +kernel
theorem dX3_told_2 : decode cX3_told 2 = .ok (.putfield 33, 3) := by decide +kernel
theorem dX3_told_5 : decode cX3_told 5 = .ok (.aload_n 0, 1) := by decide +kernel
theorem dX3_told_6 : decode cX3_told 6 = .ok (.iload_n 1, 1) := by decide +kernel
theorem dX3_told_7 : decode cX3_told 7 = .ok (.invokevirtual 138, 3) := by decide +kernel
theorem dX3_told_10 : decode cX3_told 10 = .ok (.ifCond .eq 21, 3) := by decide +kernel
theorem dX3_told_13 : decode cX3_told 13 = .ok (.iload_n 2, 1) := by decide +kernel
theorem dX3_told_14 : decode cX3_told 14 = .ok (.iconst 0, 1) := by decide +kernel
theorem dX3_told_15 : decode cX3_told 15 = .ok (.iconst 4, 1) := by decide +kernel
theorem dX3_told_16 : decode cX3_told 16 = .ok (.invokestatic 39, 3) := by decide +kernel
theorem dX3_told_19 : decode cX3_told 19 = .ok (.ifCond .eq 12, 3) := by decide +kernel
theorem dX3_told_22 : decode cX3_told 22 = .ok (.aload_n 0, 1) := by decide +kernel
theorem dX3_told_23 : decode cX3_told 23 = .ok (.iload_n 1, 1) := by decide +kernel
theorem dX3_told_24 : decode cX3_told 24 = .ok (.iload_n 2, 1) := by decide +kernel
theorem dX3_told_25 : decode cX3_told 25 = .ok (.invokevirtual 141, 3) := by decide +kernel
theorem dX3_told_28 : decode cX3_told 28 = .ok (.goto 8, 3) := by decide +kernel
theorem dX3_told_31 : decode cX3_told 31 = .ok (.aload_n 0, 1) := by decide +kernel
theorem dX3_told_32 : decode cX3_told 32 = .ok (.iconst 1, 1) := by decide +kernel
theorem dX3_told_33 : decode cX3_told 33 = .ok (.invokevirtual 134, 3) := by decide +kernel
theorem dX3_told_36 : decode cX3_told 36 = .ok (.ireturn, 1) := by decide +kernel
theorem dX3_bargesAt_0 : decode cX3_bargesAt 0 = .ok (.iconst 0, 1) := by decide +kernel
theorem dX3_bargesAt_1 : decode cX3_bargesAt 1 = .ok (.istore_n 2, 1) := by decide +kernel
theorem dX3_bargesAt_2 : decode cX3_bargesAt 2 = .ok (.iconst 0, 1) := by decide +kernel
theorem dX3_bargesAt_3 : decode cX3_bargesAt 3 = .ok (.istore_n 3, 1) := by decide +kernel
theorem dX3_bargesAt_4 : decode cX3_bargesAt 4 = .ok (.iload_n 3, 1) := by decide +kernel
theorem dX3_bargesAt_5 : decode cX3_bargesAt 5 = .ok (.aload_n 0, 1) := by decide +kernel
theorem dX3_bargesAt_6 : decode cX3_bargesAt 6 = .ok (.getfield 36, 3) := by decide +kernel
theorem dX3_bargesAt_9 : decode cX3_bargesAt 9 = .ok (.if_icmp .ge 30, 3) := by decide +kernel
theorem dX3_bargesAt_12 : decode cX3_bargesAt 12 = .ok (.iload_n 2, 1) := by decide +kernel
theorem dX3_bargesAt_13 : decode cX3_bargesAt 13 = .ok (.aload_n 0, 1) := by decide +kernel
theorem dX3_bargesAt_14 : decode cX3_bargesAt 14 = .ok (.getfield 26, 3) := by decide +kernel
theorem dX3_bargesAt_17 : decode cX3_bargesAt 17 = .ok (.getfield 43, 3) := by decide +kernel
theorem dX3_bargesAt_20 : decode cX3_bargesAt 20 = .ok (.iload_n 3, 1) := by decide +kernel
theorem dX3_bargesAt_21 : decode cX3_bargesAt 21 = .ok (.iaload, 1) := by decide +kernel
theorem dX3_bargesAt_22 : decode cX3_bargesAt 22 = .ok (.iload_n 1, 1) := by decide +kernel
theorem dX3_bargesAt_23 : decode cX3_bargesAt 23 = .ok (.if_icmp .ne 7, 3) := by decide +kernel
theorem dX3_bargesAt_26 : decode cX3_bargesAt 26 = .ok (.iconst 1, 1) := by decide +kernel
theorem dX3_bargesAt_27 : decode cX3_bargesAt 27 = .ok (.goto 4, 3) := by decide +kernel
theorem dX3_bargesAt_30 : decode cX3_bargesAt 30 = .ok (.iconst 0, 1) := by decide +kernel
theorem dX3_bargesAt_31 : decode cX3_bargesAt 31 = .ok (.iadd, 1) := by decide +kernel
theorem dX3_bargesAt_32 : decode cX3_bargesAt 32 = .ok (.istore_n 2, 1) := by decide +kernel
theorem dX3_bargesAt_33 : decode cX3_bargesAt 33 = .ok (.iinc 3 1, 3) := by decide +kernel
theorem dX3_bargesAt_36 : decode cX3_bargesAt 36 = .ok (.goto (-32), 3) := by decide +kernel
theorem dX3_bargesAt_39 : decode cX3_bargesAt 39 = .ok (.iload_n 2, 1) := by decide +kernel
theorem dX3_bargesAt_40 : decode cX3_bargesAt 40 = .ok (.ireturn, 1) := by decide +kernel
set_option maxRecDepth 20000 in
theorem ggX3_poundTold_X3_bargesAt : GoodIn wsX3_poundTold wsX3_bargesAt := goodIn_r _ [6, 7, 1, 8, 9, 10, 11, 12, 13, 14, 15, 16, 17, 18, 19, 20, 21, 22, 23, 24, 25, 26, 27, 28, 29, 30] (by decide +kernel) (by decide +kernel)
set_option maxRecDepth 20000 in
theorem gX3_poundTold_X3_bargesAt : GoodIn wsX3_poundTold (wsV RX3 144 RX3 yX3_bargesAt wsX3_bargesAt) := goodIn_app (goodIn_of _ (by decide +kernel)) ggX3_poundTold_X3_bargesAt
theorem dX3_poundTold_0 : decode cX3_poundTold 0 = .ok (.iload_n 2, 1) := by decide +kernel
theorem dX3_poundTold_1 : decode cX3_poundTold 1 = .ok (.ifCond .ne 15, 3) := by decide +kernel
theorem dX3_poundTold_4 : decode cX3_poundTold 4 = .ok (.aload_n 0, 1) := by decide +kernel
theorem dX3_poundTold_5 : decode cX3_poundTold 5 = .ok (.getfield 26, 3) := by decide +kernel
theorem dX3_poundTold_8 : decode cX3_poundTold 8 = .ok (.getfield 100, 3) := by decide +kernel
theorem dX3_poundTold_11 : decode cX3_poundTold 11 = .ok (.iload_n 1, 1) := by decide +kernel
theorem dX3_poundTold_12 : decode cX3_poundTold 12 = .ok (.iaload, 1) := by decide +kernel
theorem dX3_poundTold_13 : decode cX3_poundTold 13 = .ok (.goto 42, 3) := by decide +kernel
theorem dX3_poundTold_16 : decode cX3_poundTold 16 = .ok (.iload_n 2, 1) := by decide +kernel
theorem dX3_poundTold_17 : decode cX3_poundTold 17 = .ok (.iconst 1, 1) := by decide +kernel
theorem dX3_poundTold_18 : decode cX3_poundTold 18 = .ok (.if_icmp .ne 11, 3) := by decide +kernel
theorem dX3_poundTold_21 : decode cX3_poundTold 21 = .ok (.aload_n 0, 1) := by decide +kernel
theorem dX3_poundTold_22 : decode cX3_poundTold 22 = .ok (.iload_n 1, 1) := by decide +kernel
theorem dX3_poundTold_23 : decode cX3_poundTold 23 = .ok (.invokevirtual 144, 3) := by decide +kernel
theorem dX3_poundTold_26 : decode cX3_poundTold 26 = .ok (.goto 29, 3) := by decide +kernel
theorem dX3_poundTold_29 : decode cX3_poundTold 29 = .ok (.iload_n 2, 1) := by decide +kernel
theorem dX3_poundTold_30 : decode cX3_poundTold 30 = .ok (.iconst 2, 1) := by decide +kernel
theorem dX3_poundTold_31 : decode cX3_poundTold 31 = .ok (.if_icmp .ne 15, 3) := by decide +kernel
theorem dX3_poundTold_34 : decode cX3_poundTold 34 = .ok (.aload_n 0, 1) := by decide +kernel
theorem dX3_poundTold_35 : decode cX3_poundTold 35 = .ok (.getfield 26, 3) := by decide +kernel
theorem dX3_poundTold_38 : decode cX3_poundTold 38 = .ok (.getfield 147, 3) := by decide +kernel
theorem dX3_poundTold_41 : decode cX3_poundTold 41 = .ok (.iload_n 1, 1) := by decide +kernel
theorem dX3_poundTold_42 : decode cX3_poundTold 42 = .ok (.iaload, 1) := by decide +kernel
theorem dX3_poundTold_43 : decode cX3_poundTold 43 = .ok (.goto 12, 3) := by decide +kernel
theorem dX3_poundTold_46 : decode cX3_poundTold 46 = .ok (.aload_n 0, 1) := by decide +kernel
theorem dX3_poundTold_47 : decode cX3_poundTold 47 = .ok (.getfield 26, 3) := by decide +kernel
theorem dX3_poundTold_50 : decode cX3_poundTold 50 = .ok (.getfield 112, 3) := by decide +kernel
theorem dX3_poundTold_53 : decode cX3_poundTold 53 = .ok (.iload_n 1, 1) := by decide +kernel
theorem dX3_poundTold_54 : decode cX3_poundTold 54 = .ok (.iaload, 1) := by decide +kernel
theorem dX3_poundTold_55 : decode cX3_poundTold 55 = .ok (.ireturn, 1) := by decide +kernel
set_option maxRecDepth 20000 in
theorem ggX3_pound_X3_isIn : GoodIn wsX3_pound wsX3_isIn := goodIn_r _ [5] (by decide +kernel) (by decide +kernel)
set_option maxRecDepth 20000 in
theorem gX3_pound_X3_isIn : GoodIn wsX3_pound (va_wsS RX3 39 yX3_isIn wsX3_isIn) := goodIn_app (goodIn_of _ (by decide +kernel)) ggX3_pound_X3_isIn
set_option maxRecDepth 20000 in
theorem ggX3_pound_X3_poundTold : GoodIn wsX3_pound wsX3_poundTold := goodIn_r _ [9, 10, 11, 12, 13, 4, 14, 15, 20, 21, 22, 23, 24, 25, 26, 27, 28, 29, 30, 31, 32, 33, 34, 35, 36, 37, 38, 39, 40, 41, 42] (by decide +kernel) (by decide +kernel)
set_option maxRecDepth 20000 in
theorem gX3_pound_X3_poundTold : GoodIn wsX3_pound (wsV RX3 150 RX3 yX3_poundTold wsX3_poundTold) := goodIn_app (goodIn_of _ (by decide +kernel)) ggX3_pound_X3_poundTold
set_option maxRecDepth 20000 in
theorem ggX3_pound_X3_no : GoodIn wsX3_pound wsX3_no := goodIn_r _ [19, 1, 20, 21, 22, 23, 24, 25, 26, 27, 28] (by decide +kernel) (by decide +kernel)
set_option maxRecDepth 20000 in
theorem gX3_pound_X3_no : GoodIn wsX3_pound (wsV RX3 134 RX3 yX3_no wsX3_no) := goodIn_app (goodIn_of _ (by decide +kernel)) ggX3_pound_X3_no
theorem dX3_pound_0 : decode cX3_pound 0 = .ok (.aload_n 0, 1) := by decide +kernel
theorem dX3_pound_1 : decode cX3_pound 1 = .ok (.iconst 0, 1) := by decide +kernel
theorem dX3_pound_2 : decode cX3_pound 2 = .ok (.putfield 33, 3) := by decide +kernel
theorem dX3_pound_5 : decode cX3_pound 5 = .ok (.iload_n 1, 1) := by decide +kernel
theorem dX3_pound_6 : decode cX3_pound 6 = .ok (.iconst 0, 1) := by decide +kernel
theorem dX3_pound_7 : decode cX3_pound 7 = .ok (.iconst 5, 1) := by decide +kernel
theorem dX3_pound_8 : decode cX3_pound 8 = .ok (.invokestatic 39, 3) := by decide +kernel
theorem dX3_pound_11 : decode cX3_pound 11 = .ok (.ifCond .eq 21, 3) := by decide +kernel
theorem dX3_pound_14 : decode cX3_pound 14 = .ok (.iload_n 2, 1) := by decide +kernel
theorem dX3_pound_15 : decode cX3_pound 15 = .ok (.iconst 0, 1) := by decide +kernel
theorem dX3_pound_16 : decode cX3_pound 16 = .ok (.iconst 3, 1) := by decide +kernel
theorem dX3_pound_17 : decode cX3_pound 17 = .ok (.invokestatic 39, 3) := by decide +kernel
theorem dX3_pound_20 : decode cX3_pound 20 = .ok (.ifCond .eq 12, 3) := by decide +kernel
theorem dX3_pound_23 : decode cX3_pound 23 = .ok (.aload_n 0, 1) := by decide +kernel
theorem dX3_pound_24 : decode cX3_pound 24 = .ok (.iload_n 1, 1) := by decide +kernel
theorem dX3_pound_25 : decode cX3_pound 25 = .ok (.iload_n 2, 1) := by decide +kernel
theorem dX3_pound_26 : decode cX3_pound 26 = .ok (.invokevirtual 150, 3) := by decide +kernel
theorem dX3_pound_29 : decode cX3_pound 29 = .ok (.goto 8, 3) := by decide +kernel
theorem dX3_pound_32 : decode cX3_pound 32 = .ok (.aload_n 0, 1) := by decide +kernel
theorem dX3_pound_33 : decode cX3_pound 33 = .ok (.iconst 1, 1) := by decide +kernel
theorem dX3_pound_34 : decode cX3_pound 34 = .ok (.invokevirtual 134, 3) := by decide +kernel
theorem dX3_pound_37 : decode cX3_pound 37 = .ok (.ireturn, 1) := by decide +kernel
set_option maxRecDepth 20000 in
theorem ggX3_waitingAt_X3_lockOf : GoodIn wsX3_waitingAt wsX3_lockOf := goodIn_r _ [7, 8, 9, 10, 11, 12, 13, 14, 15, 16, 17, 18, 19, 20, 21, 22, 23, 24, 25, 26, 27, 28, 29, 30, 31] (by decide +kernel) (by decide +kernel)
set_option maxRecDepth 20000 in
theorem gX3_waitingAt_X3_lockOf : GoodIn wsX3_waitingAt (wsV RX3 46 RX3 yX3_lockOf wsX3_lockOf) := goodIn_app (goodIn_of _ (by decide +kernel)) ggX3_waitingAt_X3_lockOf
theorem dX3_waitingAt_0 : decode cX3_waitingAt 0 = .ok (.iconst 0, 1) := by decide +kernel
theorem dX3_waitingAt_1 : decode cX3_waitingAt 1 = .ok (.istore_n 2, 1) := by decide +kernel
theorem dX3_waitingAt_2 : decode cX3_waitingAt 2 = .ok (.iconst 0, 1) := by decide +kernel
theorem dX3_waitingAt_3 : decode cX3_waitingAt 3 = .ok (.istore_n 3, 1) := by decide +kernel
theorem dX3_waitingAt_4 : decode cX3_waitingAt 4 = .ok (.iload_n 3, 1) := by decide +kernel
theorem dX3_waitingAt_5 : decode cX3_waitingAt 5 = .ok (.aload_n 0, 1) := by decide +kernel
theorem dX3_waitingAt_6 : decode cX3_waitingAt 6 = .ok (.getfield 36, 3) := by decide +kernel
theorem dX3_waitingAt_9 : decode cX3_waitingAt 9 = .ok (.if_icmp .ge 30, 3) := by decide +kernel
theorem dX3_waitingAt_12 : decode cX3_waitingAt 12 = .ok (.iload_n 2, 1) := by decide +kernel
theorem dX3_waitingAt_13 : decode cX3_waitingAt 13 = .ok (.aload_n 0, 1) := by decide +kernel
theorem dX3_waitingAt_14 : decode cX3_waitingAt 14 = .ok (.aload_n 0, 1) := by decide +kernel
theorem dX3_waitingAt_15 : decode cX3_waitingAt 15 = .ok (.getfield 26, 3) := by decide +kernel
theorem dX3_waitingAt_18 : decode cX3_waitingAt 18 = .ok (.iload_n 3, 1) := by decide +kernel
theorem dX3_waitingAt_19 : decode cX3_waitingAt 19 = .ok (.invokevirtual 46, 3) := by decide +kernel
theorem dX3_waitingAt_22 : decode cX3_waitingAt 22 = .ok (.iload_n 1, 1) := by decide +kernel
theorem dX3_waitingAt_23 : decode cX3_waitingAt 23 = .ok (.if_icmp .ne 7, 3) := by decide +kernel
theorem dX3_waitingAt_26 : decode cX3_waitingAt 26 = .ok (.iconst 1, 1) := by decide +kernel
theorem dX3_waitingAt_27 : decode cX3_waitingAt 27 = .ok (.goto 4, 3) := by decide +kernel
theorem dX3_waitingAt_30 : decode cX3_waitingAt 30 = .ok (.iconst 0, 1) := by decide +kernel
theorem dX3_waitingAt_31 : decode cX3_waitingAt 31 = .ok (.iadd, 1) := by decide +kernel
theorem dX3_waitingAt_32 : decode cX3_waitingAt 32 = .ok (.istore_n 2, 1) := by decide +kernel
theorem dX3_waitingAt_33 : decode cX3_waitingAt 33 = .ok (.iinc 3 1, 3) := by decide +kernel
theorem dX3_waitingAt_36 : decode cX3_waitingAt 36 = .ok (.goto (-32), 3) := by decide +kernel
theorem dX3_waitingAt_39 : decode cX3_waitingAt 39 = .ok (.iload_n 2, 1) := by decide +kernel
theorem dX3_waitingAt_40 : decode cX3_waitingAt 40 = .ok (.ireturn, 1) := by decide +kernel
set_option maxRecDepth 20000 in
theorem ggX3_lockTold_X3_waitingAt : GoodIn wsX3_lockTold wsX3_waitingAt := goodIn_r _ [6, 7, 1, 8, 9, 10, 5, 11, 12, 41, 42, 43, 44, 45, 46, 47, 48, 49, 50, 51, 52, 53, 54, 55, 56, 57, 58, 59, 60, 61, 62, 63] (by decide +kernel) (by decide +kernel)
set_option maxRecDepth 20000 in
theorem gX3_lockTold_X3_waitingAt : GoodIn wsX3_lockTold (wsV RX3 153 RX3 yX3_waitingAt wsX3_waitingAt) := goodIn_app (goodIn_of _ (by decide +kernel)) ggX3_lockTold_X3_waitingAt
set_option maxRecDepth 20000 in
theorem ggX3_lockTold_X3_nextAt : GoodIn wsX3_lockTold wsX3_nextAt := goodIn_r _ [16, 7, 17, 18, 19, 5, 20, 8, 9, 10, 11, 12, 21, 22, 23, 24, 25, 26, 27, 28, 29, 30, 31, 32, 33, 34, 35, 36, 37, 38, 39, 40, 41, 42, 43, 44, 45, 46, 47, 48, 49, 50, 51, 52, 53, 54, 55, 56, 57, 58, 59, 60, 61, 62, 63] (by decide +kernel) (by decide +kernel)
set_option maxRecDepth 20000 in
theorem gX3_lockTold_X3_nextAt : GoodIn wsX3_lockTold (wsV RX3 123 RX3 yX3_nextAt wsX3_nextAt) := goodIn_app (goodIn_of _ (by decide +kernel)) ggX3_lockTold_X3_nextAt
theorem dX3_lockTold_0 : decode cX3_lockTold 0 = .ok (.iload_n 2, 1) := by decide +kernel
theorem dX3_lockTold_1 : decode cX3_lockTold 1 = .ok (.tableswitch 67 0 3 #[31, 41, 47, 57], 31) := by decide +kernel
theorem dX3_lockTold_32 : decode cX3_lockTold 32 = .ok (.aload_n 0, 1) := by decide +kernel
theorem dX3_lockTold_33 : decode cX3_lockTold 33 = .ok (.getfield 26, 3) := by decide +kernel
theorem dX3_lockTold_36 : decode cX3_lockTold 36 = .ok (.getfield 60, 3) := by decide +kernel
theorem dX3_lockTold_39 : decode cX3_lockTold 39 = .ok (.iload_n 1, 1) := by decide +kernel
theorem dX3_lockTold_40 : decode cX3_lockTold 40 = .ok (.iaload, 1) := by decide +kernel
theorem dX3_lockTold_41 : decode cX3_lockTold 41 = .ok (.ireturn, 1) := by decide +kernel
theorem dX3_lockTold_42 : decode cX3_lockTold 42 = .ok (.aload_n 0, 1) := by decide +kernel
theorem dX3_lockTold_43 : decode cX3_lockTold 43 = .ok (.iload_n 1, 1) := by decide +kernel
theorem dX3_lockTold_44 : decode cX3_lockTold 44 = .ok (.invokevirtual 153, 3) := by decide +kernel
theorem dX3_lockTold_47 : decode cX3_lockTold 47 = .ok (.ireturn, 1) := by decide +kernel
theorem dX3_lockTold_48 : decode cX3_lockTold 48 = .ok (.aload_n 0, 1) := by decide +kernel
theorem dX3_lockTold_49 : decode cX3_lockTold 49 = .ok (.getfield 26, 3) := by decide +kernel
theorem dX3_lockTold_52 : decode cX3_lockTold 52 = .ok (.getfield 97, 3) := by decide +kernel
theorem dX3_lockTold_55 : decode cX3_lockTold 55 = .ok (.iload_n 1, 1) := by decide +kernel
theorem dX3_lockTold_56 : decode cX3_lockTold 56 = .ok (.iaload, 1) := by decide +kernel
theorem dX3_lockTold_57 : decode cX3_lockTold 57 = .ok (.ireturn, 1) := by decide +kernel
theorem dX3_lockTold_58 : decode cX3_lockTold 58 = .ok (.aload_n 0, 1) := by decide +kernel
theorem dX3_lockTold_59 : decode cX3_lockTold 59 = .ok (.getfield 26, 3) := by decide +kernel
theorem dX3_lockTold_62 : decode cX3_lockTold 62 = .ok (.getfield 156, 3) := by decide +kernel
theorem dX3_lockTold_65 : decode cX3_lockTold 65 = .ok (.iload_n 1, 1) := by decide +kernel
theorem dX3_lockTold_66 : decode cX3_lockTold 66 = .ok (.iaload, 1) := by decide +kernel
theorem dX3_lockTold_67 : decode cX3_lockTold 67 = .ok (.ireturn, 1) := by decide +kernel
theorem dX3_lockTold_68 : decode cX3_lockTold 68 = .ok (.aload_n 0, 1) := by decide +kernel
theorem dX3_lockTold_69 : decode cX3_lockTold 69 = .ok (.aload_n 0, 1) := by decide +kernel
theorem dX3_lockTold_70 : decode cX3_lockTold 70 = .ok (.getfield 26, 3) := by decide +kernel
theorem dX3_lockTold_73 : decode cX3_lockTold 73 = .ok (.iload_n 1, 1) := by decide +kernel
theorem dX3_lockTold_74 : decode cX3_lockTold 74 = .ok (.invokevirtual 123, 3) := by decide +kernel
theorem dX3_lockTold_77 : decode cX3_lockTold 77 = .ok (.ireturn, 1) := by decide +kernel
set_option maxRecDepth 20000 in
theorem ggX3_lock_X3_isIn : GoodIn wsX3_lock wsX3_isIn := goodIn_r _ [5] (by decide +kernel) (by decide +kernel)
set_option maxRecDepth 20000 in
theorem gX3_lock_X3_isIn : GoodIn wsX3_lock (va_wsS RX3 39 yX3_isIn wsX3_isIn) := goodIn_app (goodIn_of _ (by decide +kernel)) ggX3_lock_X3_isIn
set_option maxRecDepth 20000 in
theorem ggX3_lock_X3_lockTold : GoodIn wsX3_lock wsX3_lockTold := goodIn_r _ [9, 10, 11, 12, 13, 4, 14, 15, 16, 17, 18, 19, 20, 21, 22, 23, 24, 25, 26, 27, 28, 29, 30, 31, 32, 33, 34, 35, 36, 37, 38, 39, 40, 41, 42, 43, 44, 45, 46, 47, 48, 53, 54, 55, 56, 57, 58, 59, 60, 61, 62, 63, 64, 65, 66, 67, 68, 69, 70, 71, 72, 73, 74, 75] (by decide +kernel) (by decide +kernel)
set_option maxRecDepth 20000 in
theorem gX3_lock_X3_lockTold : GoodIn wsX3_lock (wsV RX3 159 RX3 yX3_lockTold wsX3_lockTold) := goodIn_app (goodIn_of _ (by decide +kernel)) ggX3_lock_X3_lockTold
set_option maxRecDepth 20000 in
theorem ggX3_lock_X3_no : GoodIn wsX3_lock wsX3_no := goodIn_r _ [52, 1, 53, 54, 55, 56, 57, 58, 59, 60, 61] (by decide +kernel) (by decide +kernel)
set_option maxRecDepth 20000 in
theorem gX3_lock_X3_no : GoodIn wsX3_lock (wsV RX3 134 RX3 yX3_no wsX3_no) := goodIn_app (goodIn_of _ (by decide +kernel)) ggX3_lock_X3_no
theorem dX3_lock_0 : decode cX3_lock 0 = .ok (.aload_n 0, 1) := by decide +kernel
theorem dX3_lock_1 : decode cX3_lock 1 = .ok (.iconst 0, 1) := by decide +kernel
theorem dX3_lock_2 : decode cX3_lock 2 = .ok (.putfield 33, 3) := by decide +kernel
theorem dX3_lock_5 : decode cX3_lock 5 = .ok (.iload_n 1, 1) := by decide +kernel
theorem dX3_lock_6 : decode cX3_lock 6 = .ok (.iconst 0, 1) := by decide +kernel
theorem dX3_lock_7 : decode cX3_lock 7 = .ok (.iconst 4, 1) := by decide +kernel
theorem dX3_lock_8 : decode cX3_lock 8 = .ok (.invokestatic 39, 3) := by decide +kernel
theorem dX3_lock_11 : decode cX3_lock 11 = .ok (.ifCond .eq 21, 3) := by decide +kernel
theorem dX3_lock_14 : decode cX3_lock 14 = .ok (.iload_n 2, 1) := by decide +kernel
theorem dX3_lock_15 : decode cX3_lock 15 = .ok (.iconst 0, 1) := by decide +kernel
theorem dX3_lock_16 : decode cX3_lock 16 = .ok (.iconst 4, 1) := by decide +kernel
theorem dX3_lock_17 : decode cX3_lock 17 = .ok (.invokestatic 39, 3) := by decide +kernel
theorem dX3_lock_20 : decode cX3_lock 20 = .ok (.ifCond .eq 12, 3) := by decide +kernel
theorem dX3_lock_23 : decode cX3_lock 23 = .ok (.aload_n 0, 1) := by decide +kernel
theorem dX3_lock_24 : decode cX3_lock 24 = .ok (.iload_n 1, 1) := by decide +kernel
theorem dX3_lock_25 : decode cX3_lock 25 = .ok (.iload_n 2, 1) := by decide +kernel
theorem dX3_lock_26 : decode cX3_lock 26 = .ok (.invokevirtual 159, 3) := by decide +kernel
theorem dX3_lock_29 : decode cX3_lock 29 = .ok (.goto 8, 3) := by decide +kernel
theorem dX3_lock_32 : decode cX3_lock 32 = .ok (.aload_n 0, 1) := by decide +kernel
theorem dX3_lock_33 : decode cX3_lock 33 = .ok (.iconst 1, 1) := by decide +kernel
theorem dX3_lock_34 : decode cX3_lock 34 = .ok (.invokevirtual 134, 3) := by decide +kernel
theorem dX3_lock_37 : decode cX3_lock 37 = .ok (.ireturn, 1) := by decide +kernel
theorem dX3_come_0 : decode cX3_come 0 = .ok (.iconst 0, 1) := by decide +kernel
theorem dX3_come_1 : decode cX3_come 1 = .ok (.istore_n 2, 1) := by decide +kernel
theorem dX3_come_2 : decode cX3_come 2 = .ok (.iconst 0, 1) := by decide +kernel
theorem dX3_come_3 : decode cX3_come 3 = .ok (.istore_n 3, 1) := by decide +kernel
theorem dX3_come_4 : decode cX3_come 4 = .ok (.iload_n 3, 1) := by decide +kernel
theorem dX3_come_5 : decode cX3_come 5 = .ok (.aload_n 0, 1) := by decide +kernel
theorem dX3_come_6 : decode cX3_come 6 = .ok (.getfield 36, 3) := by decide +kernel
theorem dX3_come_9 : decode cX3_come 9 = .ok (.if_icmp .ge 32, 3) := by decide +kernel
theorem dX3_come_12 : decode cX3_come 12 = .ok (.iload_n 2, 1) := by decide +kernel
theorem dX3_come_13 : decode cX3_come 13 = .ok (.aload_n 1, 1) := by decide +kernel
theorem dX3_come_14 : decode cX3_come 14 = .ok (.getfield 43, 3) := by decide +kernel
theorem dX3_come_17 : decode cX3_come 17 = .ok (.iload_n 3, 1) := by decide +kernel
theorem dX3_come_18 : decode cX3_come 18 = .ok (.iaload, 1) := by decide +kernel
theorem dX3_come_19 : decode cX3_come 19 = .ok (.aload_n 0, 1) := by decide +kernel
theorem dX3_come_20 : decode cX3_come 20 = .ok (.getfield 9, 3) := by decide +kernel
theorem dX3_come_23 : decode cX3_come 23 = .ok (.iload_n 3, 1) := by decide +kernel
theorem dX3_come_24 : decode cX3_come 24 = .ok (.iaload, 1) := by decide +kernel
theorem dX3_come_25 : decode cX3_come 25 = .ok (.if_icmp .ne 7, 3) := by decide +kernel
theorem dX3_come_28 : decode cX3_come 28 = .ok (.iconst 1, 1) := by decide +kernel
theorem dX3_come_29 : decode cX3_come 29 = .ok (.goto 4, 3) := by decide +kernel
theorem dX3_come_32 : decode cX3_come 32 = .ok (.iconst 0, 1) := by decide +kernel
theorem dX3_come_33 : decode cX3_come 33 = .ok (.iadd, 1) := by decide +kernel
theorem dX3_come_34 : decode cX3_come 34 = .ok (.istore_n 2, 1) := by decide +kernel
theorem dX3_come_35 : decode cX3_come 35 = .ok (.iinc 3 1, 3) := by decide +kernel
theorem dX3_come_38 : decode cX3_come 38 = .ok (.goto (-34), 3) := by decide +kernel
theorem dX3_come_41 : decode cX3_come 41 = .ok (.iload_n 2, 1) := by decide +kernel
theorem dX3_come_42 : decode cX3_come 42 = .ok (.ireturn, 1) := by decide +kernel
set_option maxRecDepth 20000 in
theorem ggX3_counted_X3_come : GoodIn wsX3_counted wsX3_come := goodIn_r _ [8, 1, 9, 35, 36, 37, 38, 39, 40, 41, 42, 43, 21, 22, 23, 24, 25, 26, 27, 28, 29, 30, 31, 32, 33, 34] (by decide +kernel) (by decide +kernel)
set_option maxRecDepth 20000 in
theorem gX3_counted_X3_come : GoodIn wsX3_counted (wsV RX3 162 RX3 yX3_come wsX3_come) := goodIn_app (goodIn_of _ (by decide +kernel)) ggX3_counted_X3_come
set_option maxRecDepth 20000 in
theorem ggX3_counted_X2_allWater : GoodIn wsX3_counted wsX2_allWater := goodIn_r _ [14, 15, 21, 22, 23, 24, 25, 26, 27, 28, 29, 30, 31, 32, 33, 34] (by decide +kernel) (by decide +kernel)
set_option maxRecDepth 20000 in
theorem gX3_counted_X2_allWater : GoodIn wsX3_counted (wsV RX3 165 RX2 yX2_allWater wsX2_allWater) := goodIn_app (goodIn_of _ (by decide +kernel)) ggX3_counted_X2_allWater
set_option maxRecDepth 20000 in
theorem ggX3_counted_X2_fullOnes : GoodIn wsX3_counted wsX2_fullOnes := goodIn_r _ [19, 20, 21, 22, 23, 24, 25, 26, 27, 28, 29, 30, 31, 32, 33, 34] (by decide +kernel) (by decide +kernel)
set_option maxRecDepth 20000 in
theorem gX3_counted_X2_fullOnes : GoodIn wsX3_counted (wsV RX3 169 RX2 yX2_fullOnes wsX2_fullOnes) := goodIn_app (goodIn_of _ (by decide +kernel)) ggX3_counted_X2_fullOnes
theorem dX3_counted_0 : decode cX3_counted 0 = .ok (.iload_n 2, 1) := by decide +kernel
theorem dX3_counted_1 : decode cX3_counted 1 = .ok (.tableswitch 97 0 8 #[51, 56, 61, 67, 72, 77, 82, 87, 92], 51) := by decide +kernel
theorem dX3_counted_52 : decode cX3_counted 52 = .ok (.aload_n 1, 1) := by decide +kernel
theorem dX3_counted_53 : decode cX3_counted 53 = .ok (.getfield 53, 3) := by decide +kernel
theorem dX3_counted_56 : decode cX3_counted 56 = .ok (.ireturn, 1) := by decide +kernel
theorem dX3_counted_57 : decode cX3_counted 57 = .ok (.aload_n 0, 1) := by decide +kernel
theorem dX3_counted_58 : decode cX3_counted 58 = .ok (.getfield 36, 3) := by decide +kernel
theorem dX3_counted_61 : decode cX3_counted 61 = .ok (.ireturn, 1) := by decide +kernel
theorem dX3_counted_62 : decode cX3_counted 62 = .ok (.aload_n 0, 1) := by decide +kernel
theorem dX3_counted_63 : decode cX3_counted 63 = .ok (.aload_n 1, 1) := by decide +kernel
theorem dX3_counted_64 : decode cX3_counted 64 = .ok (.invokevirtual 162, 3) := by decide +kernel
theorem dX3_counted_67 : decode cX3_counted 67 = .ok (.ireturn, 1) := by decide +kernel
theorem dX3_counted_68 : decode cX3_counted 68 = .ok (.aload_n 1, 1) := by decide +kernel
theorem dX3_counted_69 : decode cX3_counted 69 = .ok (.getfield 91, 3) := by decide +kernel
theorem dX3_counted_72 : decode cX3_counted 72 = .ok (.ireturn, 1) := by decide +kernel
theorem dX3_counted_73 : decode cX3_counted 73 = .ok (.aload_n 1, 1) := by decide +kernel
theorem dX3_counted_74 : decode cX3_counted 74 = .ok (.invokevirtual 165, 3) := by decide +kernel
theorem dX3_counted_77 : decode cX3_counted 77 = .ok (.ireturn, 1) := by decide +kernel
theorem dX3_counted_78 : decode cX3_counted 78 = .ok (.aload_n 1, 1) := by decide +kernel
theorem dX3_counted_79 : decode cX3_counted 79 = .ok (.invokevirtual 169, 3) := by decide +kernel
theorem dX3_counted_82 : decode cX3_counted 82 = .ok (.ireturn, 1) := by decide +kernel
theorem dX3_counted_83 : decode cX3_counted 83 = .ok (.aload_n 1, 1) := by decide +kernel
theorem dX3_counted_84 : decode cX3_counted 84 = .ok (.getfield 172, 3) := by decide +kernel
theorem dX3_counted_87 : decode cX3_counted 87 = .ok (.ireturn, 1) := by decide +kernel
theorem dX3_counted_88 : decode cX3_counted 88 = .ok (.aload_n 0, 1) := by decide +kernel
theorem dX3_counted_89 : decode cX3_counted 89 = .ok (.getfield 20, 3) := by decide +kernel
theorem dX3_counted_92 : decode cX3_counted 92 = .ok (.ireturn, 1) := by decide +kernel
theorem dX3_counted_93 : decode cX3_counted 93 = .ok (.aload_n 1, 1) := by decide +kernel
theorem dX3_counted_94 : decode cX3_counted 94 = .ok (.getfield 103, 3) := by decide +kernel
theorem dX3_counted_97 : decode cX3_counted 97 = .ok (.ireturn, 1) := by decide +kernel
theorem dX3_counted_98 : decode cX3_counted 98 = .ok (.aload_n 0, 1) := by decide +kernel
theorem dX3_counted_99 : decode cX3_counted 99 = .ok (.getfield 16, 3) := by decide +kernel
theorem dX3_counted_102 : decode cX3_counted 102 = .ok (.ireturn, 1) := by decide +kernel
set_option maxRecDepth 20000 in
theorem ggX3_count_X3_isIn : GoodIn wsX3_count wsX3_isIn := goodIn_r _ [6] (by decide +kernel) (by decide +kernel)
set_option maxRecDepth 20000 in
theorem gX3_count_X3_isIn : GoodIn wsX3_count (va_wsS RX3 39 yX3_isIn wsX3_isIn) := goodIn_app (goodIn_of _ (by decide +kernel)) ggX3_count_X3_isIn
set_option maxRecDepth 20000 in
theorem ggX3_count_X3_counted : GoodIn wsX3_count wsX3_counted := goodIn_r _ [10, 11, 12, 13, 14, 15, 16, 5, 17, 18, 19, 20, 21, 22, 23, 24, 25, 26, 27, 28, 29, 43, 44, 45, 46, 47, 48, 49, 50, 51, 52, 53, 54, 55, 56, 34, 35, 36, 37, 38, 39, 40, 41, 42] (by decide +kernel) (by decide +kernel)
set_option maxRecDepth 20000 in
theorem gX3_count_X3_counted : GoodIn wsX3_count (wsV RX3 175 RX3 yX3_counted wsX3_counted) := goodIn_app (goodIn_of _ (by decide +kernel)) ggX3_count_X3_counted
set_option maxRecDepth 20000 in
theorem ggX3_count_X3_no : GoodIn wsX3_count wsX3_no := goodIn_r _ [33, 1, 34, 35, 36, 37, 38, 39, 40, 41, 42] (by decide +kernel) (by decide +kernel)
set_option maxRecDepth 20000 in
theorem gX3_count_X3_no : GoodIn wsX3_count (wsV RX3 134 RX3 yX3_no wsX3_no) := goodIn_app (goodIn_of _ (by decide +kernel)) ggX3_count_X3_no
theorem dX3_count_0 : decode cX3_count 0 = .ok (.aload_n 0, 1) := by decide +kernel
theorem dX3_count_1 : decode cX3_count 1 = .ok (.iconst 0, 1) := by decide +kernel
theorem dX3_count_2 : decode cX3_count 2 = .ok (.putfield 33, 3) := by decide +kernel
theorem dX3_count_5 : decode cX3_count 5 = .ok (.iload_n 1, 1) := by decide +kernel
theorem dX3_count_6 : decode cX3_count 6 = .ok (.iconst 0, 1) := by decide +kernel
theorem dX3_count_7 : decode cX3_count 7 = .ok (.bipush 9, 2) := by decide +kernel
theorem dX3_count_9 : decode cX3_count 9 = .ok (.invokestatic 39, 3) := by decide +kernel
theorem dX3_count_12 : decode cX3_count 12 = .ok (.ifCond .eq 15, 3) := by decide +kernel
theorem dX3_count_15 : decode cX3_count 15 = .ok (.aload_n 0, 1) := by decide +kernel
theorem dX3_count_16 : decode cX3_count 16 = .ok (.aload_n 0, 1) := by decide +kernel
theorem dX3_count_17 : decode cX3_count 17 = .ok (.getfield 26, 3) := by decide +kernel
theorem dX3_count_20 : decode cX3_count 20 = .ok (.iload_n 1, 1) := by decide +kernel
theorem dX3_count_21 : decode cX3_count 21 = .ok (.invokevirtual 175, 3) := by decide +kernel
theorem dX3_count_24 : decode cX3_count 24 = .ok (.goto 8, 3) := by decide +kernel
theorem dX3_count_27 : decode cX3_count 27 = .ok (.aload_n 0, 1) := by decide +kernel
theorem dX3_count_28 : decode cX3_count 28 = .ok (.iconst 1, 1) := by decide +kernel
theorem dX3_count_29 : decode cX3_count 29 = .ok (.invokevirtual 134, 3) := by decide +kernel
theorem dX3_count_32 : decode cX3_count 32 = .ok (.ireturn, 1) := by decide +kernel
set_option maxRecDepth 20000 in
theorem ggX3_pass__X3_isIn : GoodIn wsX3_pass_ wsX3_isIn := goodIn_r _ [6] (by decide +kernel) (by decide +kernel)
set_option maxRecDepth 20000 in
theorem gX3_pass__X3_isIn : GoodIn wsX3_pass_ (va_wsS RX3 39 yX3_isIn wsX3_isIn) := goodIn_app (goodIn_of _ (by decide +kernel)) ggX3_pass__X3_isIn
set_option maxRecDepth 20000 in
theorem ggX3_pass__X3_passAll : GoodIn wsX3_pass_ wsX3_passAll := goodIn_r _ [10, 11, 12, 13, 5, 14, 15, 16, 17, 18, 19, 20, 21, 22, 23, 24, 25, 26, 27, 28, 29, 30, 31, 32, 33, 34, 35, 36, 37, 38, 39, 40, 41, 42, 43, 44, 45, 46, 47, 48, 49, 50, 51, 52, 53, 54, 55, 56, 57, 58, 59, 60, 61, 62, 63, 64, 65, 66, 67, 68, 69, 70, 71, 72, 73, 74, 75, 76, 77, 78, 79, 80, 81, 82, 87, 88, 89, 90, 91, 92, 93, 94, 95, 96, 97, 98, 99, 100, 101, 102, 103, 104, 105, 106, 107, 108, 109] (by decide +kernel) (by decide +kernel)
set_option maxRecDepth 20000 in
theorem gX3_pass__X3_passAll : GoodIn wsX3_pass_ (wsV RX3 178 RX3 yX3_passAll wsX3_passAll) := goodIn_app (goodIn_of _ (by decide +kernel)) ggX3_pass__X3_passAll
set_option maxRecDepth 20000 in
theorem ggX3_pass__X3_no : GoodIn wsX3_pass_ wsX3_no := goodIn_r _ [86, 1, 87, 88, 89, 90, 91, 92, 93, 94, 95] (by decide +kernel) (by decide +kernel)
set_option maxRecDepth 20000 in
theorem gX3_pass__X3_no : GoodIn wsX3_pass_ (wsV RX3 134 RX3 yX3_no wsX3_no) := goodIn_app (goodIn_of _ (by decide +kernel)) ggX3_pass__X3_no
theorem dX3_pass__0 : decode cX3_pass_ 0 = .ok (.aload_n 0, 1) := by decide +kernel
theorem dX3_pass__1 : decode cX3_pass_ 1 = .ok (.iconst 0, 1) := by decide +kernel
theorem dX3_pass__2 : decode cX3_pass_ 2 = .ok (.putfield 33, 3) := by decide +kernel
theorem dX3_pass__5 : decode cX3_pass_ 5 = .ok (.iload_n 1, 1) := by decide +kernel
theorem dX3_pass__6 : decode cX3_pass_ 6 = .ok (.iconst 1, 1) := by decide +kernel
theorem dX3_pass__7 : decode cX3_pass_ 7 = .ok (.bipush 60, 2) := by decide +kernel
theorem dX3_pass__9 : decode cX3_pass_ 9 = .ok (.invokestatic 39, 3) := by decide +kernel
theorem dX3_pass__12 : decode cX3_pass_ 12 = .ok (.ifCond .eq 15, 3) := by decide +kernel
theorem dX3_pass__15 : decode cX3_pass_ 15 = .ok (.aload_n 0, 1) := by decide +kernel
theorem dX3_pass__16 : decode cX3_pass_ 16 = .ok (.aload_n 0, 1) := by decide +kernel
theorem dX3_pass__17 : decode cX3_pass_ 17 = .ok (.getfield 26, 3) := by decide +kernel
theorem dX3_pass__20 : decode cX3_pass_ 20 = .ok (.iload_n 1, 1) := by decide +kernel
theorem dX3_pass__21 : decode cX3_pass_ 21 = .ok (.invokevirtual 178, 3) := by decide +kernel
theorem dX3_pass__24 : decode cX3_pass_ 24 = .ok (.goto 8, 3) := by decide +kernel
theorem dX3_pass__27 : decode cX3_pass_ 27 = .ok (.aload_n 0, 1) := by decide +kernel
theorem dX3_pass__28 : decode cX3_pass_ 28 = .ok (.iconst 1, 1) := by decide +kernel
theorem dX3_pass__29 : decode cX3_pass_ 29 = .ok (.invokevirtual 134, 3) := by decide +kernel
theorem dX3_pass__32 : decode cX3_pass_ 32 = .ok (.ireturn, 1) := by decide +kernel
set_option maxRecDepth 20000 in
theorem ggX3_arrives_X3_isBarge : GoodIn wsX3_arrives wsX3_isBarge := goodIn_r _ [9, 10, 11, 12, 8, 13, 108, 109, 110, 111, 112, 113, 114, 115, 116] (by decide +kernel) (by decide +kernel)
set_option maxRecDepth 20000 in
theorem gX3_arrives_X3_isBarge : GoodIn wsX3_arrives (wsV RX3 138 RX3 yX3_isBarge wsX3_isBarge) := goodIn_app (goodIn_of _ (by decide +kernel)) ggX3_arrives_X3_isBarge
set_option maxRecDepth 20000 in
theorem ggX3_arrives_X3_no : GoodIn wsX3_arrives wsX3_no := goodIn_r _ [17, 1, 108, 109, 110, 111, 112, 113, 114, 115, 116] (by decide +kernel) (by decide +kernel)
set_option maxRecDepth 20000 in
theorem gX3_arrives_X3_no : GoodIn wsX3_arrives (wsV RX3 134 RX3 yX3_no wsX3_no) := goodIn_app (goodIn_of _ (by decide +kernel)) ggX3_arrives_X3_no
set_option maxRecDepth 20000 in
theorem ggX3_arrives_X2_become : GoodIn wsX3_arrives wsX2_become := goodIn_r _ [22, 23, 24, 25, 26, 27, 28, 29, 30, 31, 32, 33, 34, 35, 36, 37, 38, 21, 39, 40, 41, 42, 43, 117, 118, 119, 120, 121, 122, 123, 124, 125, 126, 127, 128, 129, 130] (by decide +kernel) (by decide +kernel)
set_option maxRecDepth 20000 in
theorem gX3_arrives_X2_become : GoodIn wsX3_arrives (wsV RX3 181 RX2 yX2_become wsX2_become) := goodIn_app (goodIn_of _ (by decide +kernel)) ggX3_arrives_X2_become
set_option maxRecDepth 20000 in
theorem ggX3_arrives_X3_pass : GoodIn wsX3_arrives wsX3_pass := goodIn_r _ [47, 48, 49, 50, 51, 21, 52, 27, 53, 54, 55, 56, 28, 26, 57, 58, 59, 8, 60, 61, 62, 63, 64, 65, 66, 67, 68, 10, 69, 70, 71, 72, 73, 74, 75, 76, 4, 77, 78, 79, 80, 81, 82, 83, 84, 85, 86, 87, 88, 89, 90, 91, 92, 93, 94, 95, 96, 97, 98, 99, 100, 101, 102, 32, 30, 103, 104, 105, 106, 107, 108, 109, 110, 111, 112, 113, 114, 115, 116, 117, 118, 119, 120, 121, 122, 123, 124, 125, 126, 127, 128, 129, 130] (by decide +kernel) (by decide +kernel)
set_option maxRecDepth 20000 in
theorem gX3_arrives_X3_pass : GoodIn wsX3_arrives (wsV RX3 130 RX3 yX3_pass wsX3_pass) := goodIn_app (goodIn_of _ (by decide +kernel)) ggX3_arrives_X3_pass
theorem dX3_arrives_0 : decode cX3_arrives 0 = .ok (.aload_n 0, 1) := by decide +kernel
theorem dX3_arrives_1 : decode cX3_arrives 1 = .ok (.iconst 0, 1) := by decide +kernel
theorem dX3_arrives_2 : decode cX3_arrives 2 = .ok (.putfield 33, 3) := by decide +kernel
theorem dX3_arrives_5 : decode cX3_arrives 5 = .ok (.aload_n 0, 1) := by decide +kernel
theorem dX3_arrives_6 : decode cX3_arrives 6 = .ok (.iload_n 1, 1) := by decide +kernel
theorem dX3_arrives_7 : decode cX3_arrives 7 = .ok (.invokevirtual 138, 3) := by decide +kernel
theorem dX3_arrives_10 : decode cX3_arrives 10 = .ok (.ifCond .ne 9, 3) := by decide +kernel
theorem dX3_arrives_13 : decode cX3_arrives 13 = .ok (.aload_n 0, 1) := by decide +kernel
theorem dX3_arrives_14 : decode cX3_arrives 14 = .ok (.iconst 1, 1) := by decide +kernel
theorem dX3_arrives_15 : decode cX3_arrives 15 = .ok (.invokevirtual 134, 3) := by decide +kernel
theorem dX3_arrives_18 : decode cX3_arrives 18 = .ok (.ireturn, 1) := by decide +kernel
theorem dX3_arrives_19 : decode cX3_arrives 19 = .ok (.aload_n 0, 1) := by decide +kernel
theorem dX3_arrives_20 : decode cX3_arrives 20 = .ok (.getfield 30, 3) := by decide +kernel
theorem dX3_arrives_23 : decode cX3_arrives 23 = .ok (.aload_n 0, 1) := by decide +kernel
theorem dX3_arrives_24 : decode cX3_arrives 24 = .ok (.getfield 26, 3) := by decide +kernel
theorem dX3_arrives_27 : decode cX3_arrives 27 = .ok (.invokevirtual 181, 3) := by decide +kernel
theorem dX3_arrives_30 : decode cX3_arrives 30 = .ok (.pop, 1) := by decide +kernel
theorem dX3_arrives_31 : decode cX3_arrives 31 = .ok (.iconst 0, 1) := by decide +kernel
theorem dX3_arrives_32 : decode cX3_arrives 32 = .ok (.istore_n 2, 1) := by decide +kernel
theorem dX3_arrives_33 : decode cX3_arrives 33 = .ok (.iload_n 2, 1) := by decide +kernel
theorem dX3_arrives_34 : decode cX3_arrives 34 = .ok (.bipush 120, 2) := by decide +kernel
theorem dX3_arrives_36 : decode cX3_arrives 36 = .ok (.if_icmp .gt 38, 3) := by decide +kernel
theorem dX3_arrives_39 : decode cX3_arrives 39 = .ok (.aload_n 0, 1) := by decide +kernel
theorem dX3_arrives_40 : decode cX3_arrives 40 = .ok (.getfield 30, 3) := by decide +kernel
theorem dX3_arrives_43 : decode cX3_arrives 43 = .ok (.getfield 43, 3) := by decide +kernel
theorem dX3_arrives_46 : decode cX3_arrives 46 = .ok (.iload_n 1, 1) := by decide +kernel
theorem dX3_arrives_47 : decode cX3_arrives 47 = .ok (.iaload, 1) := by decide +kernel
theorem dX3_arrives_48 : decode cX3_arrives 48 = .ok (.aload_n 0, 1) := by decide +kernel
theorem dX3_arrives_49 : decode cX3_arrives 49 = .ok (.getfield 9, 3) := by decide +kernel
theorem dX3_arrives_52 : decode cX3_arrives 52 = .ok (.iload_n 1, 1) := by decide +kernel
theorem dX3_arrives_53 : decode cX3_arrives 53 = .ok (.iaload, 1) := by decide +kernel
theorem dX3_arrives_54 : decode cX3_arrives 54 = .ok (.if_icmp .ne 5, 3) := by decide +kernel
theorem dX3_arrives_57 : decode cX3_arrives 57 = .ok (.iload_n 2, 1) := by decide +kernel
theorem dX3_arrives_58 : decode cX3_arrives 58 = .ok (.ireturn, 1) := by decide +kernel
theorem dX3_arrives_59 : decode cX3_arrives 59 = .ok (.aload_n 0, 1) := by decide +kernel
theorem dX3_arrives_60 : decode cX3_arrives 60 = .ok (.aload_n 0, 1) := by decide +kernel
theorem dX3_arrives_61 : decode cX3_arrives 61 = .ok (.getfield 30, 3) := by decide +kernel
theorem dX3_arrives_64 : decode cX3_arrives 64 = .ok (.invokevirtual 130, 3) := by decide +kernel
theorem dX3_arrives_67 : decode cX3_arrives 67 = .ok (.pop, 1) := by decide +kernel
theorem dX3_arrives_68 : decode cX3_arrives 68 = .ok (.iinc 2 1, 3) := by decide +kernel
theorem dX3_arrives_71 : decode cX3_arrives 71 = .ok (.goto (-38), 3) := by decide +kernel
theorem dX3_arrives_74 : decode cX3_arrives 74 = .ok (.iconst (-1), 1) := by decide +kernel
theorem dX3_arrives_75 : decode cX3_arrives 75 = .ok (.ireturn, 1) := by decide +kernel
set_option maxRecDepth 20000 in
theorem ggX3_foresee_X3_isIn : GoodIn wsX3_foresee wsX3_isIn := goodIn_r _ [7] (by decide +kernel) (by decide +kernel)
set_option maxRecDepth 20000 in
theorem gX3_foresee_X3_isIn : GoodIn wsX3_foresee (va_wsS RX3 39 yX3_isIn wsX3_isIn) := goodIn_app (goodIn_of _ (by decide +kernel)) ggX3_foresee_X3_isIn
set_option maxRecDepth 20000 in
theorem ggX3_foresee_X3_no : GoodIn wsX3_foresee wsX3_no := goodIn_r _ [11, 1, 124, 125, 126, 127, 128, 129, 130, 131, 132] (by decide +kernel) (by decide +kernel)
set_option maxRecDepth 20000 in
theorem gX3_foresee_X3_no : GoodIn wsX3_foresee (wsV RX3 134 RX3 yX3_no wsX3_no) := goodIn_app (goodIn_of _ (by decide +kernel)) ggX3_foresee_X3_no
set_option maxRecDepth 20000 in
theorem ggX3_foresee_X2_become : GoodIn wsX3_foresee wsX2_become := goodIn_r _ [16, 17, 18, 19, 20, 21, 22, 23, 24, 25, 26, 27, 28, 29, 30, 31, 32, 15, 33, 34, 35, 36, 37, 133, 134, 135, 136, 137, 138, 139, 140, 141, 142, 143, 144, 145, 146] (by decide +kernel) (by decide +kernel)
set_option maxRecDepth 20000 in
theorem gX3_foresee_X2_become : GoodIn wsX3_foresee (wsV RX3 181 RX2 yX2_become wsX2_become) := goodIn_app (goodIn_of _ (by decide +kernel)) ggX3_foresee_X2_become
set_option maxRecDepth 20000 in
theorem ggX3_foresee_X3_passAll : GoodIn wsX3_foresee wsX3_passAll := goodIn_r _ [41, 42, 43, 44, 6, 45, 46, 47, 48, 49, 15, 50, 21, 51, 52, 53, 54, 22, 20, 55, 56, 57, 58, 59, 60, 61, 62, 63, 64, 65, 66, 67, 68, 69, 70, 71, 72, 73, 74, 75, 76, 77, 78, 79, 80, 81, 82, 83, 84, 85, 86, 87, 88, 89, 90, 91, 92, 93, 94, 95, 96, 97, 98, 99, 100, 101, 102, 26, 24, 103, 104, 105, 106, 107, 124, 125, 126, 127, 128, 129, 130, 131, 132, 133, 134, 135, 136, 137, 138, 139, 140, 141, 142, 143, 144, 145, 146] (by decide +kernel) (by decide +kernel)
set_option maxRecDepth 20000 in
theorem gX3_foresee_X3_passAll : GoodIn wsX3_foresee (wsV RX3 178 RX3 yX3_passAll wsX3_passAll) := goodIn_app (goodIn_of _ (by decide +kernel)) ggX3_foresee_X3_passAll
set_option maxRecDepth 20000 in
theorem ggX3_foresee_X3_counted : GoodIn wsX3_foresee wsX3_counted := goodIn_r _ [111, 67, 81, 59, 112, 113, 114, 6, 115, 76, 116, 117, 118, 15, 119, 21, 120, 121, 122, 123, 24, 133, 134, 135, 136, 137, 138, 139, 140, 141, 142, 143, 144, 145, 146, 124, 125, 126, 127, 128, 129, 130, 131, 132] (by decide +kernel) (by decide +kernel)
set_option maxRecDepth 20000 in
theorem gX3_foresee_X3_counted : GoodIn wsX3_foresee (wsV RX3 175 RX3 yX3_counted wsX3_counted) := goodIn_app (goodIn_of _ (by decide +kernel)) ggX3_foresee_X3_counted
theorem dX3_foresee_0 : decode cX3_foresee 0 = .ok (.aload_n 0, 1) := by decide +kernel
theorem dX3_foresee_1 : decode cX3_foresee 1 = .ok (.iconst 0, 1) := by decide +kernel
theorem dX3_foresee_2 : decode cX3_foresee 2 = .ok (.putfield 33, 3) := by decide +kernel
theorem dX3_foresee_5 : decode cX3_foresee 5 = .ok (.iload_n 1, 1) := by decide +kernel
theorem dX3_foresee_6 : decode cX3_foresee 6 = .ok (.iconst 1, 1) := by decide +kernel
theorem dX3_foresee_7 : decode cX3_foresee 7 = .ok (.bipush 60, 2) := by decide +kernel
theorem dX3_foresee_9 : decode cX3_foresee 9 = .ok (.invokestatic 39, 3) := by decide +kernel
theorem dX3_foresee_12 : decode cX3_foresee 12 = .ok (.ifCond .ne 9, 3) := by decide +kernel
theorem dX3_foresee_15 : decode cX3_foresee 15 = .ok (.aload_n 0, 1) := by decide +kernel
theorem dX3_foresee_16 : decode cX3_foresee 16 = .ok (.iconst 1, 1) := by decide +kernel
theorem dX3_foresee_17 : decode cX3_foresee 17 = .ok (.invokevirtual 134, 3) := by decide +kernel
theorem dX3_foresee_20 : decode cX3_foresee 20 = .ok (.ireturn, 1) := by decide +kernel
theorem dX3_foresee_21 : decode cX3_foresee 21 = .ok (.iload_n 2, 1) := by decide +kernel
theorem dX3_foresee_22 : decode cX3_foresee 22 = .ok (.iconst 2, 1) := by decide +kernel
theorem dX3_foresee_23 : decode cX3_foresee 23 = .ok (.bipush 6, 2) := by decide +kernel
theorem dX3_foresee_25 : decode cX3_foresee 25 = .ok (.invokestatic 39, 3) := by decide +kernel
theorem dX3_foresee_28 : decode cX3_foresee 28 = .ok (.ifCond .ne 9, 3) := by decide +kernel
theorem dX3_foresee_31 : decode cX3_foresee 31 = .ok (.aload_n 0, 1) := by decide +kernel
theorem dX3_foresee_32 : decode cX3_foresee 32 = .ok (.iconst 2, 1) := by decide +kernel
theorem dX3_foresee_33 : decode cX3_foresee 33 = .ok (.invokevirtual 134, 3) := by decide +kernel
theorem dX3_foresee_36 : decode cX3_foresee 36 = .ok (.ireturn, 1) := by decide +kernel
theorem dX3_foresee_37 : decode cX3_foresee 37 = .ok (.aload_n 0, 1) := by decide +kernel
theorem dX3_foresee_38 : decode cX3_foresee 38 = .ok (.aload_n 0, 1) := by decide +kernel
theorem dX3_foresee_39 : decode cX3_foresee 39 = .ok (.getfield 30, 3) := by decide +kernel
theorem dX3_foresee_42 : decode cX3_foresee 42 = .ok (.aload_n 0, 1) := by decide +kernel
theorem dX3_foresee_43 : decode cX3_foresee 43 = .ok (.getfield 26, 3) := by decide +kernel
theorem dX3_foresee_46 : decode cX3_foresee 46 = .ok (.invokevirtual 181, 3) := by decide +kernel
theorem dX3_foresee_49 : decode cX3_foresee 49 = .ok (.iload_n 1, 1) := by decide +kernel
theorem dX3_foresee_50 : decode cX3_foresee 50 = .ok (.invokevirtual 178, 3) := by decide +kernel
theorem dX3_foresee_53 : decode cX3_foresee 53 = .ok (.pop, 1) := by decide +kernel
theorem dX3_foresee_54 : decode cX3_foresee 54 = .ok (.aload_n 0, 1) := by decide +kernel
theorem dX3_foresee_55 : decode cX3_foresee 55 = .ok (.aload_n 0, 1) := by decide +kernel
theorem dX3_foresee_56 : decode cX3_foresee 56 = .ok (.getfield 30, 3) := by decide +kernel
theorem dX3_foresee_59 : decode cX3_foresee 59 = .ok (.iload_n 2, 1) := by decide +kernel
theorem dX3_foresee_60 : decode cX3_foresee 60 = .ok (.invokevirtual 175, 3) := by decide +kernel
theorem dX3_foresee_63 : decode cX3_foresee 63 = .ok (.ireturn, 1) := by decide +kernel
set_option maxRecDepth 20000 in
theorem ggX3_advise_X3_isIn : GoodIn wsX3_advise wsX3_isIn := goodIn_r _ [7] (by decide +kernel) (by decide +kernel)
set_option maxRecDepth 20000 in
theorem gX3_advise_X3_isIn : GoodIn wsX3_advise (va_wsS RX3 39 yX3_isIn wsX3_isIn) := goodIn_app (goodIn_of _ (by decide +kernel)) ggX3_advise_X3_isIn
set_option maxRecDepth 20000 in
theorem ggX3_advise_X3_no : GoodIn wsX3_advise wsX3_no := goodIn_r _ [11, 1, 108, 109, 110, 111, 112, 113, 114, 115, 116] (by decide +kernel) (by decide +kernel)
set_option maxRecDepth 20000 in
theorem gX3_advise_X3_no : GoodIn wsX3_advise (wsV RX3 134 RX3 yX3_no wsX3_no) := goodIn_app (goodIn_of _ (by decide +kernel)) ggX3_advise_X3_no
set_option maxRecDepth 20000 in
theorem ggX3_advise_X2_become : GoodIn wsX3_advise wsX2_become := goodIn_r _ [16, 17, 18, 19, 20, 21, 22, 23, 24, 25, 26, 27, 28, 29, 30, 31, 32, 15, 33, 34, 35, 36, 37, 117, 118, 119, 120, 121, 122, 123, 124, 125, 126, 127, 128, 129, 130] (by decide +kernel) (by decide +kernel)
set_option maxRecDepth 20000 in
theorem gX3_advise_X2_become : GoodIn wsX3_advise (wsV RX3 181 RX2 yX2_become wsX2_become) := goodIn_app (goodIn_of _ (by decide +kernel)) ggX3_advise_X2_become
set_option maxRecDepth 20000 in
theorem ggX3_advise_X3_passAll : GoodIn wsX3_advise wsX3_passAll := goodIn_r _ [41, 42, 43, 44, 6, 45, 46, 47, 48, 49, 15, 50, 21, 51, 52, 53, 54, 22, 20, 55, 56, 57, 58, 59, 60, 61, 62, 63, 64, 65, 66, 67, 68, 69, 70, 71, 72, 73, 74, 75, 76, 77, 78, 79, 80, 81, 82, 83, 84, 85, 86, 87, 88, 89, 90, 91, 92, 93, 94, 95, 96, 97, 98, 99, 100, 101, 102, 26, 24, 103, 104, 105, 106, 107, 108, 109, 110, 111, 112, 113, 114, 115, 116, 117, 118, 119, 120, 121, 122, 123, 124, 125, 126, 127, 128, 129, 130] (by decide +kernel) (by decide +kernel)
set_option maxRecDepth 20000 in
theorem gX3_advise_X3_passAll : GoodIn wsX3_advise (wsV RX3 178 RX3 yX3_passAll wsX3_passAll) := goodIn_app (goodIn_of _ (by decide +kernel)) ggX3_advise_X3_passAll
theorem dX3_advise_0 : decode cX3_advise 0 = .ok (.aload_n 0, 1) := by decide +kernel
theorem dX3_advise_1 : decode cX3_advise 1 = .ok (.iconst 0, 1) := by decide +kernel
theorem dX3_advise_2 : decode cX3_advise 2 = .ok (.putfield 33, 3) := by decide +kernel
theorem dX3_advise_5 : decode cX3_advise 5 = .ok (.iload_n 1, 1) := by decide +kernel
theorem dX3_advise_6 : decode cX3_advise 6 = .ok (.iconst 1, 1) := by decide +kernel
theorem dX3_advise_7 : decode cX3_advise 7 = .ok (.bipush 40, 2) := by decide +kernel
theorem dX3_advise_9 : decode cX3_advise 9 = .ok (.invokestatic 39, 3) := by decide +kernel
theorem dX3_advise_12 : decode cX3_advise 12 = .ok (.ifCond .ne 9, 3) := by decide +kernel
theorem dX3_advise_15 : decode cX3_advise 15 = .ok (.aload_n 0, 1) := by decide +kernel
theorem dX3_advise_16 : decode cX3_advise 16 = .ok (.iconst 1, 1) := by decide +kernel
theorem dX3_advise_17 : decode cX3_advise 17 = .ok (.invokevirtual 134, 3) := by decide +kernel
theorem dX3_advise_20 : decode cX3_advise 20 = .ok (.ireturn, 1) := by decide +kernel
theorem dX3_advise_21 : decode cX3_advise 21 = .ok (.iconst 0, 1) := by decide +kernel
theorem dX3_advise_22 : decode cX3_advise 22 = .ok (.istore_n 2, 1) := by decide +kernel
theorem dX3_advise_23 : decode cX3_advise 23 = .ok (.iconst (-1), 1) := by decide +kernel
theorem dX3_advise_24 : decode cX3_advise 24 = .ok (.istore_n 3, 1) := by decide +kernel
theorem dX3_advise_25 : decode cX3_advise 25 = .ok (.iconst 0, 1) := by decide +kernel
theorem dX3_advise_26 : decode cX3_advise 26 = .ok (.istore 4, 2) := by decide +kernel
theorem dX3_advise_28 : decode cX3_advise 28 = .ok (.iload 4, 2) := by decide +kernel
theorem dX3_advise_30 : decode cX3_advise 30 = .ok (.bipush 100, 2) := by decide +kernel
theorem dX3_advise_32 : decode cX3_advise 32 = .ok (.if_icmp .gt 60, 3) := by decide +kernel
theorem dX3_advise_35 : decode cX3_advise 35 = .ok (.aload_n 0, 1) := by decide +kernel
theorem dX3_advise_36 : decode cX3_advise 36 = .ok (.getfield 30, 3) := by decide +kernel
theorem dX3_advise_39 : decode cX3_advise 39 = .ok (.aload_n 0, 1) := by decide +kernel
theorem dX3_advise_40 : decode cX3_advise 40 = .ok (.getfield 26, 3) := by decide +kernel
theorem dX3_advise_43 : decode cX3_advise 43 = .ok (.invokevirtual 181, 3) := by decide +kernel
theorem dX3_advise_46 : decode cX3_advise 46 = .ok (.iload 4, 2) := by decide +kernel
theorem dX3_advise_48 : decode cX3_advise 48 = .ok (.putfield 103, 3) := by decide +kernel
theorem dX3_advise_51 : decode cX3_advise 51 = .ok (.aload_n 0, 1) := by decide +kernel
theorem dX3_advise_52 : decode cX3_advise 52 = .ok (.aload_n 0, 1) := by decide +kernel
theorem dX3_advise_53 : decode cX3_advise 53 = .ok (.getfield 30, 3) := by decide +kernel
theorem dX3_advise_56 : decode cX3_advise 56 = .ok (.iload_n 1, 1) := by decide +kernel
theorem dX3_advise_57 : decode cX3_advise 57 = .ok (.invokevirtual 178, 3) := by decide +kernel
theorem dX3_advise_60 : decode cX3_advise 60 = .ok (.pop, 1) := by decide +kernel
theorem dX3_advise_61 : decode cX3_advise 61 = .ok (.aload_n 0, 1) := by decide +kernel
theorem dX3_advise_62 : decode cX3_advise 62 = .ok (.getfield 30, 3) := by decide +kernel
theorem dX3_advise_65 : decode cX3_advise 65 = .ok (.getfield 91, 3) := by decide +kernel
theorem dX3_advise_68 : decode cX3_advise 68 = .ok (.iload_n 3, 1) := by decide +kernel
theorem dX3_advise_69 : decode cX3_advise 69 = .ok (.if_icmp .ge 6, 3) := by decide +kernel
theorem dX3_advise_72 : decode cX3_advise 72 = .ok (.goto 14, 3) := by decide +kernel
theorem dX3_advise_75 : decode cX3_advise 75 = .ok (.aload_n 0, 1) := by decide +kernel
theorem dX3_advise_76 : decode cX3_advise 76 = .ok (.getfield 30, 3) := by decide +kernel
theorem dX3_advise_79 : decode cX3_advise 79 = .ok (.getfield 91, 3) := by decide +kernel
theorem dX3_advise_82 : decode cX3_advise 82 = .ok (.istore_n 3, 1) := by decide +kernel
theorem dX3_advise_83 : decode cX3_advise 83 = .ok (.iload 4, 2) := by decide +kernel
theorem dX3_advise_85 : decode cX3_advise 85 = .ok (.istore_n 2, 1) := by decide +kernel
theorem dX3_advise_86 : decode cX3_advise 86 = .ok (.iinc 4 10, 3) := by decide +kernel
theorem dX3_advise_89 : decode cX3_advise 89 = .ok (.goto (-61), 3) := by decide +kernel
theorem dX3_advise_92 : decode cX3_advise 92 = .ok (.iload_n 2, 1) := by decide +kernel
theorem dX3_advise_93 : decode cX3_advise 93 = .ok (.ireturn, 1) := by decide +kernel
set_option maxRecDepth 20000 in
theorem ggX3_stops_X2_become : GoodIn wsX3_stops wsX2_become := goodIn_r _ [8, 9, 10, 11, 12, 13, 14, 15, 16, 17, 18, 19, 20, 21, 22, 23, 24, 7, 25, 26, 27, 28, 29, 106, 107, 108, 109, 110, 111, 112, 113, 114, 115, 116, 117, 118, 119] (by decide +kernel) (by decide +kernel)
set_option maxRecDepth 20000 in
theorem gX3_stops_X2_become : GoodIn wsX3_stops (wsV RX3 181 RX2 yX2_become wsX2_become) := goodIn_app (goodIn_of _ (by decide +kernel)) ggX3_stops_X2_become
set_option maxRecDepth 20000 in
theorem ggX3_stops_X3_pass : GoodIn wsX3_stops wsX3_pass := goodIn_r _ [34, 35, 36, 37, 38, 7, 39, 13, 40, 41, 42, 43, 14, 12, 44, 45, 46, 33, 47, 48, 49, 50, 51, 52, 53, 54, 55, 56, 57, 58, 59, 60, 61, 62, 63, 64, 65, 66, 67, 68, 69, 70, 71, 72, 73, 74, 75, 76, 77, 78, 79, 80, 81, 82, 83, 84, 85, 86, 87, 88, 89, 90, 91, 18, 16, 92, 93, 94, 95, 96, 97, 98, 99, 100, 101, 102, 103, 104, 105, 106, 107, 108, 109, 110, 111, 112, 113, 114, 115, 116, 117, 118, 119] (by decide +kernel) (by decide +kernel)
set_option maxRecDepth 20000 in
theorem gX3_stops_X3_pass : GoodIn wsX3_stops (wsV RX3 130 RX3 yX3_pass wsX3_pass) := goodIn_app (goodIn_of _ (by decide +kernel)) ggX3_stops_X3_pass
theorem dX3_stops_0 : decode cX3_stops 0 = .ok (.aload_n 0, 1) := by decide +kernel
theorem dX3_stops_1 : decode cX3_stops 1 = .ok (.iconst 0, 1) := by decide +kernel
theorem dX3_stops_2 : decode cX3_stops 2 = .ok (.putfield 33, 3) := by decide +kernel
theorem dX3_stops_5 : decode cX3_stops 5 = .ok (.aload_n 0, 1) := by decide +kernel
theorem dX3_stops_6 : decode cX3_stops 6 = .ok (.getfield 30, 3) := by decide +kernel
theorem dX3_stops_9 : decode cX3_stops 9 = .ok (.aload_n 0, 1) := by decide +kernel
theorem dX3_stops_10 : decode cX3_stops 10 = .ok (.getfield 26, 3) := by decide +kernel
theorem dX3_stops_13 : decode cX3_stops 13 = .ok (.invokevirtual 181, 3) := by decide +kernel
theorem dX3_stops_16 : decode cX3_stops 16 = .ok (.pop, 1) := by decide +kernel
theorem dX3_stops_17 : decode cX3_stops 17 = .ok (.iconst 0, 1) := by decide +kernel
theorem dX3_stops_18 : decode cX3_stops 18 = .ok (.istore_n 1, 1) := by decide +kernel
theorem dX3_stops_19 : decode cX3_stops 19 = .ok (.iload_n 1, 1) := by decide +kernel
theorem dX3_stops_20 : decode cX3_stops 20 = .ok (.bipush 60, 2) := by decide +kernel
theorem dX3_stops_22 : decode cX3_stops 22 = .ok (.if_icmp .ge 22, 3) := by decide +kernel
theorem dX3_stops_25 : decode cX3_stops 25 = .ok (.aload_n 0, 1) := by decide +kernel
theorem dX3_stops_26 : decode cX3_stops 26 = .ok (.aload_n 0, 1) := by decide +kernel
theorem dX3_stops_27 : decode cX3_stops 27 = .ok (.getfield 30, 3) := by decide +kernel
theorem dX3_stops_30 : decode cX3_stops 30 = .ok (.invokevirtual 130, 3) := by decide +kernel
theorem dX3_stops_33 : decode cX3_stops 33 = .ok (.ifCond .ne 5, 3) := by decide +kernel
theorem dX3_stops_36 : decode cX3_stops 36 = .ok (.iload_n 1, 1) := by decide +kernel
theorem dX3_stops_37 : decode cX3_stops 37 = .ok (.ireturn, 1) := by decide +kernel
theorem dX3_stops_38 : decode cX3_stops 38 = .ok (.iinc 1 1, 3) := by decide +kernel
theorem dX3_stops_41 : decode cX3_stops 41 = .ok (.goto (-22), 3) := by decide +kernel
theorem dX3_stops_44 : decode cX3_stops 44 = .ok (.iconst (-1), 1) := by decide +kernel
theorem dX3_stops_45 : decode cX3_stops 45 = .ok (.ireturn, 1) := by decide +kernel
set_option maxRecDepth 20000 in
theorem ggX3_mean_X2_allWater : GoodIn wsX3_mean wsX2_allWater := goodIn_r _ [8, 9, 19, 20, 21, 22, 23, 24, 25, 26, 27, 28, 29, 30, 31, 32] (by decide +kernel) (by decide +kernel)
set_option maxRecDepth 20000 in
theorem gX3_mean_X2_allWater : GoodIn wsX3_mean (wsV RX3 165 RX2 yX2_allWater wsX2_allWater) := goodIn_app (goodIn_of _ (by decide +kernel)) ggX3_mean_X2_allWater
theorem dX3_mean_0 : decode cX3_mean 0 = .ok (.aload_n 0, 1) := by decide +kernel
theorem dX3_mean_1 : decode cX3_mean 1 = .ok (.iconst 0, 1) := by decide +kernel
theorem dX3_mean_2 : decode cX3_mean 2 = .ok (.putfield 33, 3) := by decide +kernel
theorem dX3_mean_5 : decode cX3_mean 5 = .ok (.aload_n 0, 1) := by decide +kernel
theorem dX3_mean_6 : decode cX3_mean 6 = .ok (.getfield 26, 3) := by decide +kernel
theorem dX3_mean_9 : decode cX3_mean 9 = .ok (.invokevirtual 165, 3) := by decide +kernel
theorem dX3_mean_12 : decode cX3_mean 12 = .ok (.i2d, 1) := by decide +kernel
theorem dX3_mean_13 : decode cX3_mean 13 = .ok (.ldc2_w 185, 3) := by decide +kernel
theorem dX3_mean_16 : decode cX3_mean 16 = .ok (.ddiv, 1) := by decide +kernel
theorem dX3_mean_17 : decode cX3_mean 17 = .ok (.dreturn, 1) := by decide +kernel
set_option maxRecDepth 20000 in
theorem ggX3_digest_X3_counted : GoodIn wsX3_digest wsX3_counted := goodIn_r _ [12, 7, 13, 14, 15, 16, 17, 11, 18, 19, 20, 21, 22, 23, 24, 25, 26, 27, 28, 29, 30, 88, 89, 90, 91, 92, 93, 94, 95, 96, 97, 98, 99, 100, 101, 79, 80, 81, 82, 83, 84, 85, 86, 87] (by decide +kernel) (by decide +kernel)
set_option maxRecDepth 20000 in
theorem gX3_digest_X3_counted : GoodIn wsX3_digest (wsV RX3 175 RX3 yX3_counted wsX3_counted) := goodIn_app (goodIn_of _ (by decide +kernel)) ggX3_digest_X3_counted
set_option maxRecDepth 20000 in
theorem ggX3_digest_X3_poundTold : GoodIn wsX3_digest wsX3_poundTold := goodIn_r _ [34, 4, 35, 36, 37, 11, 38, 7, 79, 80, 81, 82, 83, 84, 85, 86, 87, 88, 89, 90, 91, 92, 93, 94, 95, 96, 97, 98, 99, 100, 101] (by decide +kernel) (by decide +kernel)
set_option maxRecDepth 20000 in
theorem gX3_digest_X3_poundTold : GoodIn wsX3_digest (wsV RX3 150 RX3 yX3_poundTold wsX3_poundTold) := goodIn_app (goodIn_of _ (by decide +kernel)) ggX3_digest_X3_poundTold
set_option maxRecDepth 20000 in
theorem ggX3_digest_X3_lockTold : GoodIn wsX3_digest wsX3_lockTold := goodIn_r _ [42, 4, 43, 44, 45, 11, 46, 7, 47, 48, 49, 50, 19, 51, 52, 53, 54, 55, 56, 57, 58, 59, 60, 61, 62, 13, 5, 63, 64, 65, 66, 67, 68, 69, 70, 71, 72, 73, 23, 74, 25, 79, 80, 81, 82, 83, 84, 85, 86, 87, 88, 89, 90, 91, 92, 93, 94, 95, 96, 97, 98, 99, 100, 101] (by decide +kernel) (by decide +kernel)
set_option maxRecDepth 20000 in
theorem gX3_digest_X3_lockTold : GoodIn wsX3_digest (wsV RX3 159 RX3 yX3_lockTold wsX3_lockTold) := goodIn_app (goodIn_of _ (by decide +kernel)) ggX3_digest_X3_lockTold
set_option maxRecDepth 20000 in
theorem ggX3_digest_X3_bargeTold : GoodIn wsX3_digest wsX3_bargeTold := goodIn_r _ [78, 4, 19, 47, 48, 49, 11, 50, 79, 80, 81, 82, 83, 84, 85, 86, 87, 88, 89, 90, 91, 92, 93, 94, 95, 96, 97, 98, 99, 100, 101] (by decide +kernel) (by decide +kernel)
set_option maxRecDepth 20000 in
theorem gX3_digest_X3_bargeTold : GoodIn wsX3_digest (wsV RX3 141 RX3 yX3_bargeTold wsX3_bargeTold) := goodIn_app (goodIn_of _ (by decide +kernel)) ggX3_digest_X3_bargeTold
theorem dX3_digest_0 : decode cX3_digest 0 = .ok (.aload_n 0, 1) := by decide +kernel
theorem dX3_digest_1 : decode cX3_digest 1 = .ok (.iconst 0, 1) := by decide +kernel
theorem dX3_digest_2 : decode cX3_digest 2 = .ok (.putfield 33, 3) := by decide +kernel
theorem dX3_digest_5 : decode cX3_digest 5 = .ok (.ldc2_w 187, 3) := by decide +kernel
theorem dX3_digest_8 : decode cX3_digest 8 = .ok (.lstore_n 1, 1) := by decide +kernel
theorem dX3_digest_9 : decode cX3_digest 9 = .ok (.iconst 0, 1) := by decide +kernel
theorem dX3_digest_10 : decode cX3_digest 10 = .ok (.istore_n 3, 1) := by decide +kernel
theorem dX3_digest_11 : decode cX3_digest 11 = .ok (.iload_n 3, 1) := by decide +kernel
theorem dX3_digest_12 : decode cX3_digest 12 = .ok (.bipush 9, 2) := by decide +kernel
theorem dX3_digest_14 : decode cX3_digest 14 = .ok (.if_icmp .gt 26, 3) := by decide +kernel
theorem dX3_digest_17 : decode cX3_digest 17 = .ok (.lload_n 1, 1) := by decide +kernel
theorem dX3_digest_18 : decode cX3_digest 18 = .ok (.ldc2_w 189, 3) := by decide +kernel
theorem dX3_digest_21 : decode cX3_digest 21 = .ok (.lmul, 1) := by decide +kernel
theorem dX3_digest_22 : decode cX3_digest 22 = .ok (.aload_n 0, 1) := by decide +kernel
theorem dX3_digest_23 : decode cX3_digest 23 = .ok (.aload_n 0, 1) := by decide +kernel
theorem dX3_digest_24 : decode cX3_digest 24 = .ok (.getfield 26, 3) := by decide +kernel
theorem dX3_digest_27 : decode cX3_digest 27 = .ok (.iload_n 3, 1) := by decide +kernel
theorem dX3_digest_28 : decode cX3_digest 28 = .ok (.invokevirtual 175, 3) := by decide +kernel
theorem dX3_digest_31 : decode cX3_digest 31 = .ok (.i2l, 1) := by decide +kernel
theorem dX3_digest_32 : decode cX3_digest 32 = .ok (.ladd, 1) := by decide +kernel
theorem dX3_digest_33 : decode cX3_digest 33 = .ok (.lstore_n 1, 1) := by decide +kernel
theorem dX3_digest_34 : decode cX3_digest 34 = .ok (.iinc 3 1, 3) := by decide +kernel
theorem dX3_digest_37 : decode cX3_digest 37 = .ok (.goto (-26), 3) := by decide +kernel
theorem dX3_digest_40 : decode cX3_digest 40 = .ok (.lload_n 1, 1) := by decide +kernel
theorem dX3_digest_41 : decode cX3_digest 41 = .ok (.ldc2_w 189, 3) := by decide +kernel
theorem dX3_digest_44 : decode cX3_digest 44 = .ok (.lmul, 1) := by decide +kernel
theorem dX3_digest_45 : decode cX3_digest 45 = .ok (.aload_n 0, 1) := by decide +kernel
theorem dX3_digest_46 : decode cX3_digest 46 = .ok (.getfield 66, 3) := by decide +kernel
theorem dX3_digest_49 : decode cX3_digest 49 = .ok (.ifCond .eq 7, 3) := by decide +kernel
theorem dX3_digest_52 : decode cX3_digest 52 = .ok (.iconst 1, 1) := by decide +kernel
theorem dX3_digest_53 : decode cX3_digest 53 = .ok (.goto 4, 3) := by decide +kernel
theorem dX3_digest_56 : decode cX3_digest 56 = .ok (.iconst 0, 1) := by decide +kernel
theorem dX3_digest_57 : decode cX3_digest 57 = .ok (.i2l, 1) := by decide +kernel
theorem dX3_digest_58 : decode cX3_digest 58 = .ok (.ladd, 1) := by decide +kernel
theorem dX3_digest_59 : decode cX3_digest 59 = .ok (.lstore_n 1, 1) := by decide +kernel
theorem dX3_digest_60 : decode cX3_digest 60 = .ok (.aload_n 0, 1) := by decide +kernel
theorem dX3_digest_61 : decode cX3_digest 61 = .ok (.getfield 13, 3) := by decide +kernel
theorem dX3_digest_64 : decode cX3_digest 64 = .ok (.astore_n 3, 1) := by decide +kernel
theorem dX3_digest_65 : decode cX3_digest 65 = .ok (.aload_n 3, 1) := by decide +kernel
theorem dX3_digest_66 : decode cX3_digest 66 = .ok (.arraylength, 1) := by decide +kernel
theorem dX3_digest_67 : decode cX3_digest 67 = .ok (.istore 4, 2) := by decide +kernel
theorem dX3_digest_69 : decode cX3_digest 69 = .ok (.iconst 0, 1) := by decide +kernel
theorem dX3_digest_70 : decode cX3_digest 70 = .ok (.istore 5, 2) := by decide +kernel
theorem dX3_digest_72 : decode cX3_digest 72 = .ok (.iload 5, 2) := by decide +kernel
theorem dX3_digest_74 : decode cX3_digest 74 = .ok (.iload 4, 2) := by decide +kernel
theorem dX3_digest_76 : decode cX3_digest 76 = .ok (.if_icmp .ge 25, 3) := by decide +kernel
theorem dX3_digest_79 : decode cX3_digest 79 = .ok (.aload_n 3, 1) := by decide +kernel
theorem dX3_digest_80 : decode cX3_digest 80 = .ok (.iload 5, 2) := by decide +kernel
theorem dX3_digest_82 : decode cX3_digest 82 = .ok (.iaload, 1) := by decide +kernel
theorem dX3_digest_83 : decode cX3_digest 83 = .ok (.istore 6, 2) := by decide +kernel
theorem dX3_digest_85 : decode cX3_digest 85 = .ok (.lload_n 1, 1) := by decide +kernel
theorem dX3_digest_86 : decode cX3_digest 86 = .ok (.ldc2_w 189, 3) := by decide +kernel
theorem dX3_digest_89 : decode cX3_digest 89 = .ok (.lmul, 1) := by decide +kernel
theorem dX3_digest_90 : decode cX3_digest 90 = .ok (.iload 6, 2) := by decide +kernel
theorem dX3_digest_92 : decode cX3_digest 92 = .ok (.i2l, 1) := by decide +kernel
theorem dX3_digest_93 : decode cX3_digest 93 = .ok (.ladd, 1) := by decide +kernel
theorem dX3_digest_94 : decode cX3_digest 94 = .ok (.lstore_n 1, 1) := by decide +kernel
theorem dX3_digest_95 : decode cX3_digest 95 = .ok (.iinc 5 1, 3) := by decide +kernel
theorem dX3_digest_98 : decode cX3_digest 98 = .ok (.goto (-26), 3) := by decide +kernel
theorem dX3_digest_101 : decode cX3_digest 101 = .ok (.iconst 0, 1) := by decide +kernel
theorem dX3_digest_102 : decode cX3_digest 102 = .ok (.istore_n 3, 1) := by decide +kernel
theorem dX3_digest_103 : decode cX3_digest 103 = .ok (.iload_n 3, 1) := by decide +kernel
theorem dX3_digest_104 : decode cX3_digest 104 = .ok (.bipush 6, 2) := by decide +kernel
theorem dX3_digest_106 : decode cX3_digest 106 = .ok (.if_icmp .ge 39, 3) := by decide +kernel
theorem dX3_digest_109 : decode cX3_digest 109 = .ok (.iconst 0, 1) := by decide +kernel
theorem dX3_digest_110 : decode cX3_digest 110 = .ok (.istore 4, 2) := by decide +kernel
theorem dX3_digest_112 : decode cX3_digest 112 = .ok (.iload 4, 2) := by decide +kernel
theorem dX3_digest_114 : decode cX3_digest 114 = .ok (.iconst 3, 1) := by decide +kernel
theorem dX3_digest_115 : decode cX3_digest 115 = .ok (.if_icmp .gt 24, 3) := by decide +kernel
theorem dX3_digest_118 : decode cX3_digest 118 = .ok (.lload_n 1, 1) := by decide +kernel
theorem dX3_digest_119 : decode cX3_digest 119 = .ok (.ldc2_w 189, 3) := by decide +kernel
theorem dX3_digest_122 : decode cX3_digest 122 = .ok (.lmul, 1) := by decide +kernel
theorem dX3_digest_123 : decode cX3_digest 123 = .ok (.aload_n 0, 1) := by decide +kernel
theorem dX3_digest_124 : decode cX3_digest 124 = .ok (.iload_n 3, 1) := by decide +kernel
theorem dX3_digest_125 : decode cX3_digest 125 = .ok (.iload 4, 2) := by decide +kernel
theorem dX3_digest_127 : decode cX3_digest 127 = .ok (.invokevirtual 150, 3) := by decide +kernel
theorem dX3_digest_130 : decode cX3_digest 130 = .ok (.i2l, 1) := by decide +kernel
theorem dX3_digest_131 : decode cX3_digest 131 = .ok (.ladd, 1) := by decide +kernel
theorem dX3_digest_132 : decode cX3_digest 132 = .ok (.lstore_n 1, 1) := by decide +kernel
theorem dX3_digest_133 : decode cX3_digest 133 = .ok (.iinc 4 1, 3) := by decide +kernel
theorem dX3_digest_136 : decode cX3_digest 136 = .ok (.goto (-24), 3) := by decide +kernel
theorem dX3_digest_139 : decode cX3_digest 139 = .ok (.iinc 3 1, 3) := by decide +kernel
theorem dX3_digest_142 : decode cX3_digest 142 = .ok (.goto (-39), 3) := by decide +kernel
theorem dX3_digest_145 : decode cX3_digest 145 = .ok (.iconst 0, 1) := by decide +kernel
theorem dX3_digest_146 : decode cX3_digest 146 = .ok (.istore_n 3, 1) := by decide +kernel
theorem dX3_digest_147 : decode cX3_digest 147 = .ok (.iload_n 3, 1) := by decide +kernel
theorem dX3_digest_148 : decode cX3_digest 148 = .ok (.iconst 5, 1) := by decide +kernel
theorem dX3_digest_149 : decode cX3_digest 149 = .ok (.if_icmp .ge 39, 3) := by decide +kernel
theorem dX3_digest_152 : decode cX3_digest 152 = .ok (.iconst 0, 1) := by decide +kernel
theorem dX3_digest_153 : decode cX3_digest 153 = .ok (.istore 4, 2) := by decide +kernel
theorem dX3_digest_155 : decode cX3_digest 155 = .ok (.iload 4, 2) := by decide +kernel
theorem dX3_digest_157 : decode cX3_digest 157 = .ok (.iconst 4, 1) := by decide +kernel
theorem dX3_digest_158 : decode cX3_digest 158 = .ok (.if_icmp .gt 24, 3) := by decide +kernel
theorem dX3_digest_161 : decode cX3_digest 161 = .ok (.lload_n 1, 1) := by decide +kernel
theorem dX3_digest_162 : decode cX3_digest 162 = .ok (.ldc2_w 189, 3) := by decide +kernel
theorem dX3_digest_165 : decode cX3_digest 165 = .ok (.lmul, 1) := by decide +kernel
theorem dX3_digest_166 : decode cX3_digest 166 = .ok (.aload_n 0, 1) := by decide +kernel
theorem dX3_digest_167 : decode cX3_digest 167 = .ok (.iload_n 3, 1) := by decide +kernel
theorem dX3_digest_168 : decode cX3_digest 168 = .ok (.iload 4, 2) := by decide +kernel
theorem dX3_digest_170 : decode cX3_digest 170 = .ok (.invokevirtual 159, 3) := by decide +kernel
theorem dX3_digest_173 : decode cX3_digest 173 = .ok (.i2l, 1) := by decide +kernel
theorem dX3_digest_174 : decode cX3_digest 174 = .ok (.ladd, 1) := by decide +kernel
theorem dX3_digest_175 : decode cX3_digest 175 = .ok (.lstore_n 1, 1) := by decide +kernel
theorem dX3_digest_176 : decode cX3_digest 176 = .ok (.iinc 4 1, 3) := by decide +kernel
theorem dX3_digest_179 : decode cX3_digest 179 = .ok (.goto (-24), 3) := by decide +kernel
theorem dX3_digest_182 : decode cX3_digest 182 = .ok (.iinc 3 1, 3) := by decide +kernel
theorem dX3_digest_185 : decode cX3_digest 185 = .ok (.goto (-38), 3) := by decide +kernel
theorem dX3_digest_188 : decode cX3_digest 188 = .ok (.iconst 0, 1) := by decide +kernel
theorem dX3_digest_189 : decode cX3_digest 189 = .ok (.istore_n 3, 1) := by decide +kernel
theorem dX3_digest_190 : decode cX3_digest 190 = .ok (.iload_n 3, 1) := by decide +kernel
theorem dX3_digest_191 : decode cX3_digest 191 = .ok (.aload_n 0, 1) := by decide +kernel
theorem dX3_digest_192 : decode cX3_digest 192 = .ok (.getfield 36, 3) := by decide +kernel
theorem dX3_digest_195 : decode cX3_digest 195 = .ok (.if_icmp .ge 39, 3) := by decide +kernel
theorem dX3_digest_198 : decode cX3_digest 198 = .ok (.iconst 0, 1) := by decide +kernel
theorem dX3_digest_199 : decode cX3_digest 199 = .ok (.istore 4, 2) := by decide +kernel
theorem dX3_digest_201 : decode cX3_digest 201 = .ok (.iload 4, 2) := by decide +kernel
theorem dX3_digest_203 : decode cX3_digest 203 = .ok (.iconst 4, 1) := by decide +kernel
theorem dX3_digest_204 : decode cX3_digest 204 = .ok (.if_icmp .gt 24, 3) := by decide +kernel
theorem dX3_digest_207 : decode cX3_digest 207 = .ok (.lload_n 1, 1) := by decide +kernel
theorem dX3_digest_208 : decode cX3_digest 208 = .ok (.ldc2_w 189, 3) := by decide +kernel
theorem dX3_digest_211 : decode cX3_digest 211 = .ok (.lmul, 1) := by decide +kernel
theorem dX3_digest_212 : decode cX3_digest 212 = .ok (.aload_n 0, 1) := by decide +kernel
theorem dX3_digest_213 : decode cX3_digest 213 = .ok (.iload_n 3, 1) := by decide +kernel
theorem dX3_digest_214 : decode cX3_digest 214 = .ok (.iload 4, 2) := by decide +kernel
theorem dX3_digest_216 : decode cX3_digest 216 = .ok (.invokevirtual 141, 3) := by decide +kernel
theorem dX3_digest_219 : decode cX3_digest 219 = .ok (.i2l, 1) := by decide +kernel
theorem dX3_digest_220 : decode cX3_digest 220 = .ok (.ladd, 1) := by decide +kernel
theorem dX3_digest_221 : decode cX3_digest 221 = .ok (.lstore_n 1, 1) := by decide +kernel
theorem dX3_digest_222 : decode cX3_digest 222 = .ok (.iinc 4 1, 3) := by decide +kernel
theorem dX3_digest_225 : decode cX3_digest 225 = .ok (.goto (-24), 3) := by decide +kernel
theorem dX3_digest_228 : decode cX3_digest 228 = .ok (.iinc 3 1, 3) := by decide +kernel
theorem dX3_digest_231 : decode cX3_digest 231 = .ok (.goto (-41), 3) := by decide +kernel
theorem dX3_digest_234 : decode cX3_digest 234 = .ok (.lload_n 1, 1) := by decide +kernel
theorem dX3_digest_235 : decode cX3_digest 235 = .ok (.lreturn, 1) := by decide +kernel
