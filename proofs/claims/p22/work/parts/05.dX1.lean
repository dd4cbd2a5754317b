set_option maxRecDepth 20000 in
theorem ggX1_init_X0_init : GoodIn wsX1_init wsX0_init := goodIn_r _ [11, 12, 2, 3, 13, 14, 15, 16, 17, 18, 19, 20, 21, 22, 23, 24, 25, 26, 27, 28, 29, 30, 31, 32, 33, 34, 35, 36, 37, 38, 39, 40, 41, 42, 43, 44, 45, 46] (by decide +kernel) (by decide +kernel)
set_option maxRecDepth 20000 in
theorem gX1_init_X0_init : GoodIn wsX1_init (wsX0_init) := ggX1_init_X0_init
theorem dX1_init_0 : decode cX1_init 0 = .ok (.aload_n 0, 1) := by decide +kernel
theorem dX1_init_1 : decode cX1_init 1 = .ok (.invokespecial 3, 3) := by decide +kernel
theorem dX1_init_4 : decode cX1_init 4 = .ok (.aload_n 0, 1) := by decide +kernel
theorem dX1_init_5 : decode cX1_init 5 = .ok (.new 9, 3) := by decide +kernel
theorem dX1_init_8 : decode cX1_init 8 = .ok (.dup, 1) := by decide +kernel
theorem dX1_init_9 : decode cX1_init 9 = .ok (.invokespecial 11, 3) := by decide +kernel
theorem dX1_init_12 : decode cX1_init 12 = .ok (.putfield 12, 3) := by decide +kernel
theorem dX1_init_15 : decode cX1_init 15 = .ok (.aload_n 0, 1) := by decide +kernel
theorem dX1_init_16 : decode cX1_init 16 = .ok (.new 9, 3) := by decide +kernel
theorem dX1_init_19 : decode cX1_init 19 = .ok (.dup, 1) := by decide +kernel
theorem dX1_init_20 : decode cX1_init 20 = .ok (.invokespecial 11, 3) := by decide +kernel
theorem dX1_init_23 : decode cX1_init 23 = .ok (.putfield 16, 3) := by decide +kernel
theorem dX1_init_26 : decode cX1_init 26 = .ok (.return_, 1) := by decide +kernel
set_option maxRecDepth 20000 in
theorem ggX1_setSpring_X1_requireIndex : GoodIn wsX1_setSpring wsX1_requireIndex := goodIn_ca (goodIn_r _ [6, 7, 8] (by decide +kernel) (by decide +kernel)) (goodIn_sub (fun _ h => List.mem_cons_of_mem _ (List.mem_append_left _ (List.mem_append_right _ h))) (by decide +kernel))
set_option maxRecDepth 20000 in
theorem gX1_setSpring_X1_requireIndex : GoodIn wsX1_setSpring (va_wsS RX1 19 yX1_requireIndex wsX1_requireIndex) := goodIn_app (goodIn_of _ (by decide +kernel)) ggX1_setSpring_X1_requireIndex
set_option maxRecDepth 20000 in
theorem ggX1_setSpring_X1_requireArgument : GoodIn wsX1_setSpring wsX1_requireArgument := goodIn_ca (goodIn_r _ [11, 12, 13] (by decide +kernel) (by decide +kernel)) (goodIn_sub (fun _ h => List.mem_cons_of_mem _ (List.mem_append_right _ h)) (by decide +kernel))
set_option maxRecDepth 20000 in
theorem gX1_setSpring_X1_requireArgument : GoodIn wsX1_setSpring (va_wsS RX1 23 yX1_requireArgument wsX1_requireArgument) := goodIn_app (goodIn_of _ (by decide +kernel)) ggX1_setSpring_X1_requireArgument
theorem dX1_setSpring_0 : decode cX1_setSpring 0 = .ok (.iload_n 1, 1) := by decide +kernel
theorem dX1_setSpring_1 : decode cX1_setSpring 1 = .ok (.iconst 0, 1) := by decide +kernel
theorem dX1_setSpring_2 : decode cX1_setSpring 2 = .ok (.bipush 7, 2) := by decide +kernel
theorem dX1_setSpring_4 : decode cX1_setSpring 4 = .ok (.invokestatic 19, 3) := by decide +kernel
theorem dX1_setSpring_7 : decode cX1_setSpring 7 = .ok (.iload_n 2, 1) := by decide +kernel
theorem dX1_setSpring_8 : decode cX1_setSpring 8 = .ok (.iconst 0, 1) := by decide +kernel
theorem dX1_setSpring_9 : decode cX1_setSpring 9 = .ok (.bipush 30, 2) := by decide +kernel
theorem dX1_setSpring_11 : decode cX1_setSpring 11 = .ok (.invokestatic 23, 3) := by decide +kernel
theorem dX1_setSpring_14 : decode cX1_setSpring 14 = .ok (.aload_n 0, 1) := by decide +kernel
theorem dX1_setSpring_15 : decode cX1_setSpring 15 = .ok (.getfield 12, 3) := by decide +kernel
theorem dX1_setSpring_18 : decode cX1_setSpring 18 = .ok (.getfield 26, 3) := by decide +kernel
theorem dX1_setSpring_21 : decode cX1_setSpring 21 = .ok (.iload_n 1, 1) := by decide +kernel
theorem dX1_setSpring_22 : decode cX1_setSpring 22 = .ok (.iaload, 1) := by decide +kernel
theorem dX1_setSpring_23 : decode cX1_setSpring 23 = .ok (.istore_n 3, 1) := by decide +kernel
theorem dX1_setSpring_24 : decode cX1_setSpring 24 = .ok (.aload_n 0, 1) := by decide +kernel
theorem dX1_setSpring_25 : decode cX1_setSpring 25 = .ok (.getfield 12, 3) := by decide +kernel
theorem dX1_setSpring_28 : decode cX1_setSpring 28 = .ok (.getfield 26, 3) := by decide +kernel
theorem dX1_setSpring_31 : decode cX1_setSpring 31 = .ok (.iload_n 1, 1) := by decide +kernel
theorem dX1_setSpring_32 : decode cX1_setSpring 32 = .ok (.iload_n 2, 1) := by decide +kernel
theorem dX1_setSpring_33 : decode cX1_setSpring 33 = .ok (.iastore, 1) := by decide +kernel
theorem dX1_setSpring_34 : decode cX1_setSpring 34 = .ok (.iload_n 3, 1) := by decide +kernel
theorem dX1_setSpring_35 : decode cX1_setSpring 35 = .ok (.ireturn, 1) := by decide +kernel
set_option maxRecDepth 20000 in
theorem ggX1_setMill_X1_requireIndex : GoodIn wsX1_setMill wsX1_requireIndex := goodIn_ca (goodIn_r _ [7, 8, 9] (by decide +kernel) (by decide +kernel)) (goodIn_sub (fun _ h => List.mem_cons_of_mem _ (List.mem_append_left _ (List.mem_append_right _ h))) (by decide +kernel))
set_option maxRecDepth 20000 in
theorem gX1_setMill_X1_requireIndex : GoodIn wsX1_setMill (va_wsS RX1 19 yX1_requireIndex wsX1_requireIndex) := goodIn_app (goodIn_of _ (by decide +kernel)) ggX1_setMill_X1_requireIndex
set_option maxRecDepth 20000 in
theorem ggX1_setMill_X1_requireArgument : GoodIn wsX1_setMill wsX1_requireArgument := goodIn_ca (goodIn_r _ [12, 13, 14] (by decide +kernel) (by decide +kernel)) (goodIn_sub (fun _ h => List.mem_cons_of_mem _ (List.mem_append_right _ h)) (by decide +kernel))
set_option maxRecDepth 20000 in
theorem gX1_setMill_X1_requireArgument : GoodIn wsX1_setMill (va_wsS RX1 23 yX1_requireArgument wsX1_requireArgument) := goodIn_app (goodIn_of _ (by decide +kernel)) ggX1_setMill_X1_requireArgument
theorem dX1_setMill_0 : decode cX1_setMill 0 = .ok (.iload_n 1, 1) := by decide +kernel
theorem dX1_setMill_1 : decode cX1_setMill 1 = .ok (.iconst (-1), 1) := by decide +kernel
theorem dX1_setMill_2 : decode cX1_setMill 2 = .ok (.iconst 5, 1) := by decide +kernel
theorem dX1_setMill_3 : decode cX1_setMill 3 = .ok (.invokestatic 19, 3) := by decide +kernel
theorem dX1_setMill_6 : decode cX1_setMill 6 = .ok (.iload_n 2, 1) := by decide +kernel
theorem dX1_setMill_7 : decode cX1_setMill 7 = .ok (.iconst 0, 1) := by decide +kernel
theorem dX1_setMill_8 : decode cX1_setMill 8 = .ok (.bipush 100, 2) := by decide +kernel
theorem dX1_setMill_10 : decode cX1_setMill 10 = .ok (.invokestatic 23, 3) := by decide +kernel
theorem dX1_setMill_13 : decode cX1_setMill 13 = .ok (.aload_n 0, 1) := by decide +kernel
theorem dX1_setMill_14 : decode cX1_setMill 14 = .ok (.getfield 12, 3) := by decide +kernel
theorem dX1_setMill_17 : decode cX1_setMill 17 = .ok (.getfield 30, 3) := by decide +kernel
theorem dX1_setMill_20 : decode cX1_setMill 20 = .ok (.istore_n 3, 1) := by decide +kernel
theorem dX1_setMill_21 : decode cX1_setMill 21 = .ok (.aload_n 0, 1) := by decide +kernel
theorem dX1_setMill_22 : decode cX1_setMill 22 = .ok (.getfield 12, 3) := by decide +kernel
theorem dX1_setMill_25 : decode cX1_setMill 25 = .ok (.iload_n 1, 1) := by decide +kernel
theorem dX1_setMill_26 : decode cX1_setMill 26 = .ok (.putfield 34, 3) := by decide +kernel
theorem dX1_setMill_29 : decode cX1_setMill 29 = .ok (.aload_n 0, 1) := by decide +kernel
theorem dX1_setMill_30 : decode cX1_setMill 30 = .ok (.getfield 12, 3) := by decide +kernel
theorem dX1_setMill_33 : decode cX1_setMill 33 = .ok (.iload_n 2, 1) := by decide +kernel
theorem dX1_setMill_34 : decode cX1_setMill 34 = .ok (.putfield 30, 3) := by decide +kernel
theorem dX1_setMill_37 : decode cX1_setMill 37 = .ok (.iload_n 3, 1) := by decide +kernel
theorem dX1_setMill_38 : decode cX1_setMill 38 = .ok (.ireturn, 1) := by decide +kernel
theorem dX1_setDrought_0 : decode cX1_setDrought 0 = .ok (.aload_n 0, 1) := by decide +kernel
theorem dX1_setDrought_1 : decode cX1_setDrought 1 = .ok (.getfield 12, 3) := by decide +kernel
theorem dX1_setDrought_4 : decode cX1_setDrought 4 = .ok (.getfield 37, 3) := by decide +kernel
theorem dX1_setDrought_7 : decode cX1_setDrought 7 = .ok (.istore_n 2, 1) := by decide +kernel
theorem dX1_setDrought_8 : decode cX1_setDrought 8 = .ok (.aload_n 0, 1) := by decide +kernel
theorem dX1_setDrought_9 : decode cX1_setDrought 9 = .ok (.getfield 12, 3) := by decide +kernel
theorem dX1_setDrought_12 : decode cX1_setDrought 12 = .ok (.iload_n 1, 1) := by decide +kernel
theorem dX1_setDrought_13 : decode cX1_setDrought 13 = .ok (.putfield 37, 3) := by decide +kernel
theorem dX1_setDrought_16 : decode cX1_setDrought 16 = .ok (.iload_n 2, 1) := by decide +kernel
theorem dX1_setDrought_17 : decode cX1_setDrought 17 = .ok (.ireturn, 1) := by decide +kernel
set_option maxRecDepth 20000 in
theorem ggX1_setFee_X1_requireArgument : GoodIn wsX1_setFee wsX1_requireArgument := goodIn_ca (goodIn_r _ [6, 7, 8] (by decide +kernel) (by decide +kernel)) (goodIn_sub (fun _ h => List.mem_cons_of_mem _ (List.mem_append_right _ h)) (by decide +kernel))
set_option maxRecDepth 20000 in
theorem gX1_setFee_X1_requireArgument : GoodIn wsX1_setFee (va_wsS RX1 23 yX1_requireArgument wsX1_requireArgument) := goodIn_app (goodIn_of _ (by decide +kernel)) ggX1_setFee_X1_requireArgument
theorem dX1_setFee_0 : decode cX1_setFee 0 = .ok (.iload_n 1, 1) := by decide +kernel
theorem dX1_setFee_1 : decode cX1_setFee 1 = .ok (.iconst 0, 1) := by decide +kernel
theorem dX1_setFee_2 : decode cX1_setFee 2 = .ok (.bipush 20, 2) := by decide +kernel
theorem dX1_setFee_4 : decode cX1_setFee 4 = .ok (.invokestatic 23, 3) := by decide +kernel
theorem dX1_setFee_7 : decode cX1_setFee 7 = .ok (.aload_n 0, 1) := by decide +kernel
theorem dX1_setFee_8 : decode cX1_setFee 8 = .ok (.getfield 12, 3) := by decide +kernel
theorem dX1_setFee_11 : decode cX1_setFee 11 = .ok (.getfield 41, 3) := by decide +kernel
theorem dX1_setFee_14 : decode cX1_setFee 14 = .ok (.istore_n 2, 1) := by decide +kernel
theorem dX1_setFee_15 : decode cX1_setFee 15 = .ok (.aload_n 0, 1) := by decide +kernel
theorem dX1_setFee_16 : decode cX1_setFee 16 = .ok (.getfield 12, 3) := by decide +kernel
theorem dX1_setFee_19 : decode cX1_setFee 19 = .ok (.iload_n 1, 1) := by decide +kernel
theorem dX1_setFee_20 : decode cX1_setFee 20 = .ok (.putfield 41, 3) := by decide +kernel
theorem dX1_setFee_23 : decode cX1_setFee 23 = .ok (.iload_n 2, 1) := by decide +kernel
theorem dX1_setFee_24 : decode cX1_setFee 24 = .ok (.ireturn, 1) := by decide +kernel
set_option maxRecDepth 20000 in
theorem ggX1_water_X1_requireIndex : GoodIn wsX1_water wsX1_requireIndex := goodIn_ca (goodIn_r _ [8, 9, 10] (by decide +kernel) (by decide +kernel)) (goodIn_sub (fun _ h => List.mem_cons_of_mem _ (List.mem_append_left _ (List.mem_append_right _ h))) (by decide +kernel))
set_option maxRecDepth 20000 in
theorem gX1_water_X1_requireIndex : GoodIn wsX1_water (va_wsS RX1 19 yX1_requireIndex wsX1_requireIndex) := goodIn_app (goodIn_of _ (by decide +kernel)) ggX1_water_X1_requireIndex
set_option maxRecDepth 20000 in
theorem ggX1_water_X1_requireArgument : GoodIn wsX1_water wsX1_requireArgument := goodIn_ca (goodIn_r _ [13, 14, 15] (by decide +kernel) (by decide +kernel)) (goodIn_sub (fun _ h => List.mem_cons_of_mem _ (List.mem_append_right _ h)) (by decide +kernel))
set_option maxRecDepth 20000 in
theorem gX1_water_X1_requireArgument : GoodIn wsX1_water (va_wsS RX1 23 yX1_requireArgument wsX1_requireArgument) := goodIn_app (goodIn_of _ (by decide +kernel)) ggX1_water_X1_requireArgument
set_option maxRecDepth 20000 in
theorem ggX1_water_X0_pour : GoodIn wsX1_water wsX0_pour := goodIn_r _ [20, 21, 22, 23, 24, 25, 26, 29, 30, 31, 32, 33, 34, 35, 36, 37, 38, 39, 40, 41, 42, 43, 44, 45, 46] (by decide +kernel) (by decide +kernel)
set_option maxRecDepth 20000 in
theorem gX1_water_X0_pour : GoodIn wsX1_water (wsV RX1 54 RX0 yX0_pour wsX0_pour) := goodIn_app (goodIn_of _ (by decide +kernel)) ggX1_water_X0_pour
theorem dX1_water_0 : decode cX1_water 0 = .ok (.iload_n 1, 1) := by decide +kernel
theorem dX1_water_1 : decode cX1_water 1 = .ok (.iconst 0, 1) := by decide +kernel
theorem dX1_water_2 : decode cX1_water 2 = .ok (.iconst 5, 1) := by decide +kernel
theorem dX1_water_3 : decode cX1_water 3 = .ok (.invokestatic 19, 3) := by decide +kernel
theorem dX1_water_6 : decode cX1_water 6 = .ok (.iload_n 2, 1) := by decide +kernel
theorem dX1_water_7 : decode cX1_water 7 = .ok (.iconst 1, 1) := by decide +kernel
theorem dX1_water_8 : decode cX1_water 8 = .ok (.bipush 60, 2) := by decide +kernel
theorem dX1_water_10 : decode cX1_water 10 = .ok (.invokestatic 23, 3) := by decide +kernel
theorem dX1_water_13 : decode cX1_water 13 = .ok (.iload_n 2, 1) := by decide +kernel
theorem dX1_water_14 : decode cX1_water 14 = .ok (.iconst 1, 1) := by decide +kernel
theorem dX1_water_15 : decode cX1_water 15 = .ok (.iadd, 1) := by decide +kernel
theorem dX1_water_16 : decode cX1_water 16 = .ok (.iconst 2, 1) := by decide +kernel
theorem dX1_water_17 : decode cX1_water 17 = .ok (.idiv, 1) := by decide +kernel
theorem dX1_water_18 : decode cX1_water 18 = .ok (.istore_n 3, 1) := by decide +kernel
theorem dX1_water_19 : decode cX1_water 19 = .ok (.aload_n 0, 1) := by decide +kernel
theorem dX1_water_20 : decode cX1_water 20 = .ok (.getfield 12, 3) := by decide +kernel
theorem dX1_water_23 : decode cX1_water 23 = .ok (.getfield 44, 3) := by decide +kernel
theorem dX1_water_26 : decode cX1_water 26 = .ok (.iload_n 3, 1) := by decide +kernel
theorem dX1_water_27 : decode cX1_water 27 = .ok (.if_icmp .ge 13, 3) := by decide +kernel
theorem dX1_water_30 : decode cX1_water 30 = .ok (.new 47, 3) := by decide +kernel
theorem dX1_water_33 : decode cX1_water 33 = .ok (.dup, 1) := by decide +kernel
theorem dX1_water_34 : decode cX1_water 34 = .ok (.ldc 49, 2) := by decide +kernel
theorem dX1_water_36 : decode cX1_water 36 = .ok (.invokespecial 51, 3) := by decide +kernel
theorem dX1_water_39 : decode cX1_water 39 = .ok (.athrow, 1) := by decide +kernel
theorem dX1_water_40 : decode cX1_water 40 = .ok (.aload_n 0, 1) := by decide +kernel
theorem dX1_water_41 : decode cX1_water 41 = .ok (.getfield 12, 3) := by decide +kernel
theorem dX1_water_44 : decode cX1_water 44 = .ok (.dup, 1) := by decide +kernel
theorem dX1_water_45 : decode cX1_water 45 = .ok (.getfield 44, 3) := by decide +kernel
theorem dX1_water_48 : decode cX1_water 48 = .ok (.iload_n 3, 1) := by decide +kernel
theorem dX1_water_49 : decode cX1_water 49 = .ok (.isub, 1) := by decide +kernel
theorem dX1_water_50 : decode cX1_water 50 = .ok (.putfield 44, 3) := by decide +kernel
theorem dX1_water_53 : decode cX1_water 53 = .ok (.aload_n 0, 1) := by decide +kernel
theorem dX1_water_54 : decode cX1_water 54 = .ok (.getfield 12, 3) := by decide +kernel
theorem dX1_water_57 : decode cX1_water 57 = .ok (.iload_n 1, 1) := by decide +kernel
theorem dX1_water_58 : decode cX1_water 58 = .ok (.iload_n 2, 1) := by decide +kernel
theorem dX1_water_59 : decode cX1_water 59 = .ok (.invokevirtual 54, 3) := by decide +kernel
theorem dX1_water_62 : decode cX1_water 62 = .ok (.aload_n 0, 1) := by decide +kernel
theorem dX1_water_63 : decode cX1_water 63 = .ok (.getfield 12, 3) := by decide +kernel
theorem dX1_water_66 : decode cX1_water 66 = .ok (.getfield 44, 3) := by decide +kernel
theorem dX1_water_69 : decode cX1_water 69 = .ok (.ireturn, 1) := by decide +kernel
set_option maxRecDepth 20000 in
theorem ggX1_work_X1_requireIndex : GoodIn wsX1_work wsX1_requireIndex := goodIn_ca (goodIn_r _ [8, 9, 10] (by decide +kernel) (by decide +kernel)) (goodIn_sub (fun _ h => List.mem_cons_of_mem _ (List.mem_append_right _ h)) (by decide +kernel))
set_option maxRecDepth 20000 in
theorem gX1_work_X1_requireIndex : GoodIn wsX1_work (va_wsS RX1 19 yX1_requireIndex wsX1_requireIndex) := goodIn_app (goodIn_of _ (by decide +kernel)) ggX1_work_X1_requireIndex
set_option maxRecDepth 20000 in
theorem ggX1_work_X0_canFill : GoodIn wsX1_work wsX0_canFill := goodIn_r _ [15, 16, 34, 35, 36, 37, 38, 39, 40, 41, 42, 43, 44, 45, 46, 47, 48, 49, 50, 51] (by decide +kernel) (by decide +kernel)
set_option maxRecDepth 20000 in
theorem gX1_work_X0_canFill : GoodIn wsX1_work (wsV RX1 62 RX0 yX0_canFill wsX0_canFill) := goodIn_app (goodIn_of _ (by decide +kernel)) ggX1_work_X0_canFill
set_option maxRecDepth 20000 in
theorem ggX1_work_X0_turnChamber : GoodIn wsX1_work wsX0_turnChamber := goodIn_r _ [20, 21, 16, 22, 23, 24, 25, 14, 26, 27, 28, 29, 30, 31, 34, 35, 36, 37, 38, 39, 40, 41, 42, 43, 44, 45, 46, 47, 48, 49, 50, 51] (by decide +kernel) (by decide +kernel)
set_option maxRecDepth 20000 in
theorem gX1_work_X0_turnChamber : GoodIn wsX1_work (wsV RX1 68 RX0 yX0_turnChamber wsX0_turnChamber) := goodIn_app (goodIn_of _ (by decide +kernel)) ggX1_work_X0_turnChamber
theorem dX1_work_0 : decode cX1_work 0 = .ok (.iload_n 1, 1) := by decide +kernel
theorem dX1_work_1 : decode cX1_work 1 = .ok (.iconst 0, 1) := by decide +kernel
theorem dX1_work_2 : decode cX1_work 2 = .ok (.iconst 4, 1) := by decide +kernel
theorem dX1_work_3 : decode cX1_work 3 = .ok (.invokestatic 19, 3) := by decide +kernel
theorem dX1_work_6 : decode cX1_work 6 = .ok (.aload_n 0, 1) := by decide +kernel
theorem dX1_work_7 : decode cX1_work 7 = .ok (.getfield 12, 3) := by decide +kernel
theorem dX1_work_10 : decode cX1_work 10 = .ok (.getfield 58, 3) := by decide +kernel
theorem dX1_work_13 : decode cX1_work 13 = .ok (.iload_n 1, 1) := by decide +kernel
theorem dX1_work_14 : decode cX1_work 14 = .ok (.baload, 1) := by decide +kernel
theorem dX1_work_15 : decode cX1_work 15 = .ok (.ifCond .ne 24, 3) := by decide +kernel
theorem dX1_work_18 : decode cX1_work 18 = .ok (.aload_n 0, 1) := by decide +kernel
theorem dX1_work_19 : decode cX1_work 19 = .ok (.getfield 12, 3) := by decide +kernel
theorem dX1_work_22 : decode cX1_work 22 = .ok (.iload_n 1, 1) := by decide +kernel
theorem dX1_work_23 : decode cX1_work 23 = .ok (.invokevirtual 62, 3) := by decide +kernel
theorem dX1_work_26 : decode cX1_work 26 = .ok (.ifCond .ne 13, 3) := by decide +kernel
theorem dX1_work_29 : decode cX1_work 29 = .ok (.new 47, 3) := by decide +kernel
theorem dX1_work_32 : decode cX1_work 32 = .ok (.dup, 1) := by decide +kernel
theorem dX1_work_33 : decode cX1_work 33 = .ok (.ldc 66, 2) := by decide +kernel
theorem dX1_work_35 : decode cX1_work 35 = .ok (.invokespecial 51, 3) := by decide +kernel
theorem dX1_work_38 : decode cX1_work 38 = .ok (.athrow, 1) := by decide +kernel
theorem dX1_work_39 : decode cX1_work 39 = .ok (.aload_n 0, 1) := by decide +kernel
theorem dX1_work_40 : decode cX1_work 40 = .ok (.getfield 12, 3) := by decide +kernel
theorem dX1_work_43 : decode cX1_work 43 = .ok (.iload_n 1, 1) := by decide +kernel
theorem dX1_work_44 : decode cX1_work 44 = .ok (.invokevirtual 68, 3) := by decide +kernel
theorem dX1_work_47 : decode cX1_work 47 = .ok (.aload_n 0, 1) := by decide +kernel
theorem dX1_work_48 : decode cX1_work 48 = .ok (.getfield 12, 3) := by decide +kernel
theorem dX1_work_51 : decode cX1_work 51 = .ok (.getfield 58, 3) := by decide +kernel
theorem dX1_work_54 : decode cX1_work 54 = .ok (.iload_n 1, 1) := by decide +kernel
theorem dX1_work_55 : decode cX1_work 55 = .ok (.baload, 1) := by decide +kernel
theorem dX1_work_56 : decode cX1_work 56 = .ok (.ireturn, 1) := by decide +kernel
set_option maxRecDepth 20000 in
theorem ggX1_barge_X1_requireIndex : GoodIn wsX1_barge wsX1_requireIndex := goodIn_ca (goodIn_r _ [11, 12, 13] (by decide +kernel) (by decide +kernel)) (goodIn_sub (fun _ h => List.mem_cons_of_mem _ (List.mem_append_left _ (List.mem_append_right _ h))) (by decide +kernel))
set_option maxRecDepth 20000 in
theorem gX1_barge_X1_requireIndex : GoodIn wsX1_barge (va_wsS RX1 19 yX1_requireIndex wsX1_requireIndex) := goodIn_app (goodIn_of _ (by decide +kernel)) ggX1_barge_X1_requireIndex
set_option maxRecDepth 20000 in
theorem ggX1_barge_X1_requireArgument : GoodIn wsX1_barge wsX1_requireArgument := goodIn_ca (goodIn_r _ [16, 17, 18] (by decide +kernel) (by decide +kernel)) (goodIn_sub (fun _ h => List.mem_cons_of_mem _ (List.mem_append_right _ h)) (by decide +kernel))
set_option maxRecDepth 20000 in
theorem gX1_barge_X1_requireArgument : GoodIn wsX1_barge (va_wsS RX1 23 yX1_requireArgument wsX1_requireArgument) := goodIn_app (goodIn_of _ (by decide +kernel)) ggX1_barge_X1_requireArgument
theorem dX1_barge_0 : decode cX1_barge 0 = .ok (.iload_n 1, 1) := by decide +kernel
theorem dX1_barge_1 : decode cX1_barge 1 = .ok (.iconst 0, 1) := by decide +kernel
theorem dX1_barge_2 : decode cX1_barge 2 = .ok (.iconst 5, 1) := by decide +kernel
theorem dX1_barge_3 : decode cX1_barge 3 = .ok (.invokestatic 19, 3) := by decide +kernel
theorem dX1_barge_6 : decode cX1_barge 6 = .ok (.iload_n 2, 1) := by decide +kernel
theorem dX1_barge_7 : decode cX1_barge 7 = .ok (.iconst 0, 1) := by decide +kernel
theorem dX1_barge_8 : decode cX1_barge 8 = .ok (.iconst 5, 1) := by decide +kernel
theorem dX1_barge_9 : decode cX1_barge 9 = .ok (.invokestatic 19, 3) := by decide +kernel
theorem dX1_barge_12 : decode cX1_barge 12 = .ok (.iload_n 3, 1) := by decide +kernel
theorem dX1_barge_13 : decode cX1_barge 13 = .ok (.iconst 0, 1) := by decide +kernel
theorem dX1_barge_14 : decode cX1_barge 14 = .ok (.bipush 99, 2) := by decide +kernel
theorem dX1_barge_16 : decode cX1_barge 16 = .ok (.invokestatic 23, 3) := by decide +kernel
theorem dX1_barge_19 : decode cX1_barge 19 = .ok (.aload_n 0, 1) := by decide +kernel
theorem dX1_barge_20 : decode cX1_barge 20 = .ok (.getfield 12, 3) := by decide +kernel
theorem dX1_barge_23 : decode cX1_barge 23 = .ok (.getfield 72, 3) := by decide +kernel
theorem dX1_barge_26 : decode cX1_barge 26 = .ok (.istore 4, 2) := by decide +kernel
theorem dX1_barge_28 : decode cX1_barge 28 = .ok (.iload 4, 2) := by decide +kernel
theorem dX1_barge_30 : decode cX1_barge 30 = .ok (.bipush 10, 2) := by decide +kernel
theorem dX1_barge_32 : decode cX1_barge 32 = .ok (.if_icmp .lt 13, 3) := by decide +kernel
theorem dX1_barge_35 : decode cX1_barge 35 = .ok (.new 47, 3) := by decide +kernel
theorem dX1_barge_38 : decode cX1_barge 38 = .ok (.dup, 1) := by decide +kernel
theorem dX1_barge_39 : decode cX1_barge 39 = .ok (.ldc 75, 2) := by decide +kernel
theorem dX1_barge_41 : decode cX1_barge 41 = .ok (.invokespecial 51, 3) := by decide +kernel
theorem dX1_barge_44 : decode cX1_barge 44 = .ok (.athrow, 1) := by decide +kernel
theorem dX1_barge_45 : decode cX1_barge 45 = .ok (.aload_n 0, 1) := by decide +kernel
theorem dX1_barge_46 : decode cX1_barge 46 = .ok (.getfield 12, 3) := by decide +kernel
theorem dX1_barge_49 : decode cX1_barge 49 = .ok (.getfield 77, 3) := by decide +kernel
theorem dX1_barge_52 : decode cX1_barge 52 = .ok (.iload 4, 2) := by decide +kernel
theorem dX1_barge_54 : decode cX1_barge 54 = .ok (.iload_n 1, 1) := by decide +kernel
theorem dX1_barge_55 : decode cX1_barge 55 = .ok (.iastore, 1) := by decide +kernel
theorem dX1_barge_56 : decode cX1_barge 56 = .ok (.aload_n 0, 1) := by decide +kernel
theorem dX1_barge_57 : decode cX1_barge 57 = .ok (.getfield 12, 3) := by decide +kernel
theorem dX1_barge_60 : decode cX1_barge 60 = .ok (.getfield 80, 3) := by decide +kernel
theorem dX1_barge_63 : decode cX1_barge 63 = .ok (.iload 4, 2) := by decide +kernel
theorem dX1_barge_65 : decode cX1_barge 65 = .ok (.iload_n 2, 1) := by decide +kernel
theorem dX1_barge_66 : decode cX1_barge 66 = .ok (.iastore, 1) := by decide +kernel
theorem dX1_barge_67 : decode cX1_barge 67 = .ok (.aload_n 0, 1) := by decide +kernel
theorem dX1_barge_68 : decode cX1_barge 68 = .ok (.getfield 12, 3) := by decide +kernel
theorem dX1_barge_71 : decode cX1_barge 71 = .ok (.getfield 83, 3) := by decide +kernel
theorem dX1_barge_74 : decode cX1_barge 74 = .ok (.iload 4, 2) := by decide +kernel
theorem dX1_barge_76 : decode cX1_barge 76 = .ok (.iload_n 3, 1) := by decide +kernel
theorem dX1_barge_77 : decode cX1_barge 77 = .ok (.iastore, 1) := by decide +kernel
theorem dX1_barge_78 : decode cX1_barge 78 = .ok (.aload_n 0, 1) := by decide +kernel
theorem dX1_barge_79 : decode cX1_barge 79 = .ok (.getfield 12, 3) := by decide +kernel
theorem dX1_barge_82 : decode cX1_barge 82 = .ok (.iload 4, 2) := by decide +kernel
theorem dX1_barge_84 : decode cX1_barge 84 = .ok (.iconst 1, 1) := by decide +kernel
theorem dX1_barge_85 : decode cX1_barge 85 = .ok (.iadd, 1) := by decide +kernel
theorem dX1_barge_86 : decode cX1_barge 86 = .ok (.putfield 72, 3) := by decide +kernel
theorem dX1_barge_89 : decode cX1_barge 89 = .ok (.iload 4, 2) := by decide +kernel
theorem dX1_barge_91 : decode cX1_barge 91 = .ok (.ireturn, 1) := by decide +kernel
set_option maxRecDepth 20000 in
theorem ggX1_send_X1_requireIndex : GoodIn wsX1_send wsX1_requireIndex := goodIn_ca (goodIn_r _ [7, 8, 9] (by decide +kernel) (by decide +kernel)) (goodIn_sub (fun _ h => List.mem_cons_of_mem _ (List.mem_append_right _ h)) (by decide +kernel))
set_option maxRecDepth 20000 in
theorem gX1_send_X1_requireIndex : GoodIn wsX1_send (va_wsS RX1 19 yX1_requireIndex wsX1_requireIndex) := goodIn_app (goodIn_of _ (by decide +kernel)) ggX1_send_X1_requireIndex
theorem dX1_send_0 : decode cX1_send 0 = .ok (.iload_n 1, 1) := by decide +kernel
theorem dX1_send_1 : decode cX1_send 1 = .ok (.iconst 0, 1) := by decide +kernel
theorem dX1_send_2 : decode cX1_send 2 = .ok (.aload_n 0, 1) := by decide +kernel
theorem dX1_send_3 : decode cX1_send 3 = .ok (.getfield 12, 3) := by decide +kernel
theorem dX1_send_6 : decode cX1_send 6 = .ok (.getfield 72, 3) := by decide +kernel
theorem dX1_send_9 : decode cX1_send 9 = .ok (.iconst 1, 1) := by decide +kernel
theorem dX1_send_10 : decode cX1_send 10 = .ok (.isub, 1) := by decide +kernel
theorem dX1_send_11 : decode cX1_send 11 = .ok (.invokestatic 19, 3) := by decide +kernel
theorem dX1_send_14 : decode cX1_send 14 = .ok (.iload_n 2, 1) := by decide +kernel
theorem dX1_send_15 : decode cX1_send 15 = .ok (.iconst 0, 1) := by decide +kernel
theorem dX1_send_16 : decode cX1_send 16 = .ok (.iconst 5, 1) := by decide +kernel
theorem dX1_send_17 : decode cX1_send 17 = .ok (.invokestatic 19, 3) := by decide +kernel
theorem dX1_send_20 : decode cX1_send 20 = .ok (.aload_n 0, 1) := by decide +kernel
theorem dX1_send_21 : decode cX1_send 21 = .ok (.getfield 12, 3) := by decide +kernel
theorem dX1_send_24 : decode cX1_send 24 = .ok (.getfield 80, 3) := by decide +kernel
theorem dX1_send_27 : decode cX1_send 27 = .ok (.iload_n 1, 1) := by decide +kernel
theorem dX1_send_28 : decode cX1_send 28 = .ok (.iaload, 1) := by decide +kernel
theorem dX1_send_29 : decode cX1_send 29 = .ok (.istore_n 3, 1) := by decide +kernel
theorem dX1_send_30 : decode cX1_send 30 = .ok (.aload_n 0, 1) := by decide +kernel
theorem dX1_send_31 : decode cX1_send 31 = .ok (.getfield 12, 3) := by decide +kernel
theorem dX1_send_34 : decode cX1_send 34 = .ok (.getfield 80, 3) := by decide +kernel
theorem dX1_send_37 : decode cX1_send 37 = .ok (.iload_n 1, 1) := by decide +kernel
theorem dX1_send_38 : decode cX1_send 38 = .ok (.iload_n 2, 1) := by decide +kernel
theorem dX1_send_39 : decode cX1_send 39 = .ok (.iastore, 1) := by decide +kernel
theorem dX1_send_40 : decode cX1_send 40 = .ok (.iload_n 3, 1) := by decide +kernel
theorem dX1_send_41 : decode cX1_send 41 = .ok (.ireturn, 1) := by decide +kernel
set_option maxRecDepth 20000 in
theorem ggX1_told_X1_requireIndex : GoodIn wsX1_told wsX1_requireIndex := goodIn_ca (goodIn_r _ [6, 7, 8] (by decide +kernel) (by decide +kernel)) (goodIn_sub (fun _ h => List.mem_cons_of_mem _ (List.mem_append_right _ h)) (by decide +kernel))
set_option maxRecDepth 20000 in
theorem gX1_told_X1_requireIndex : GoodIn wsX1_told (va_wsS RX1 19 yX1_requireIndex wsX1_requireIndex) := goodIn_app (goodIn_of _ (by decide +kernel)) ggX1_told_X1_requireIndex
set_option maxRecDepth 20000 in
theorem ggX1_told_X0_tellBarge : GoodIn wsX1_told wsX0_tellBarge := goodIn_r _ [13, 14, 15, 16, 17, 18, 19, 20, 12, 21, 22, 23, 24, 25, 26, 27, 28, 29, 32, 33, 34, 35, 36, 37, 38, 39, 40, 41, 42, 43, 44, 45, 46, 47, 48, 49] (by decide +kernel) (by decide +kernel)
set_option maxRecDepth 20000 in
theorem gX1_told_X0_tellBarge : GoodIn wsX1_told (wsV RX1 86 RX0 yX0_tellBarge wsX0_tellBarge) := goodIn_app (goodIn_of _ (by decide +kernel)) ggX1_told_X0_tellBarge
theorem dX1_told_0 : decode cX1_told 0 = .ok (.iload_n 1, 1) := by decide +kernel
theorem dX1_told_1 : decode cX1_told 1 = .ok (.iconst 0, 1) := by decide +kernel
theorem dX1_told_2 : decode cX1_told 2 = .ok (.aload_n 0, 1) := by decide +kernel
theorem dX1_told_3 : decode cX1_told 3 = .ok (.getfield 12, 3) := by decide +kernel
theorem dX1_told_6 : decode cX1_told 6 = .ok (.getfield 72, 3) := by decide +kernel
theorem dX1_told_9 : decode cX1_told 9 = .ok (.iconst 1, 1) := by decide +kernel
theorem dX1_told_10 : decode cX1_told 10 = .ok (.isub, 1) := by decide +kernel
theorem dX1_told_11 : decode cX1_told 11 = .ok (.invokestatic 19, 3) := by decide +kernel
theorem dX1_told_14 : decode cX1_told 14 = .ok (.iload_n 2, 1) := by decide +kernel
theorem dX1_told_15 : decode cX1_told 15 = .ok (.iconst 0, 1) := by decide +kernel
theorem dX1_told_16 : decode cX1_told 16 = .ok (.iconst 4, 1) := by decide +kernel
theorem dX1_told_17 : decode cX1_told 17 = .ok (.invokestatic 19, 3) := by decide +kernel
theorem dX1_told_20 : decode cX1_told 20 = .ok (.aload_n 0, 1) := by decide +kernel
theorem dX1_told_21 : decode cX1_told 21 = .ok (.getfield 12, 3) := by decide +kernel
theorem dX1_told_24 : decode cX1_told 24 = .ok (.iload_n 1, 1) := by decide +kernel
theorem dX1_told_25 : decode cX1_told 25 = .ok (.iload_n 2, 1) := by decide +kernel
theorem dX1_told_26 : decode cX1_told 26 = .ok (.invokevirtual 86, 3) := by decide +kernel
theorem dX1_told_29 : decode cX1_told 29 = .ok (.ireturn, 1) := by decide +kernel
set_option maxRecDepth 20000 in
theorem ggX1_pound_X1_requireIndex : GoodIn wsX1_pound wsX1_requireIndex := goodIn_ca (goodIn_r _ [5, 6, 7] (by decide +kernel) (by decide +kernel)) (goodIn_sub (fun _ h => List.mem_cons_of_mem _ (List.mem_append_right _ h)) (by decide +kernel))
set_option maxRecDepth 20000 in
theorem gX1_pound_X1_requireIndex : GoodIn wsX1_pound (va_wsS RX1 19 yX1_requireIndex wsX1_requireIndex) := goodIn_app (goodIn_of _ (by decide +kernel)) ggX1_pound_X1_requireIndex
set_option maxRecDepth 20000 in
theorem ggX1_pound_X0_tellPound : GoodIn wsX1_pound wsX0_tellPound := goodIn_r _ [12, 13, 14, 15, 16, 17, 18, 11, 19, 20, 21, 24, 25, 26, 27, 28, 29, 30, 31, 32, 33, 34, 35, 36, 37, 38, 39, 40, 41] (by decide +kernel) (by decide +kernel)
set_option maxRecDepth 20000 in
theorem gX1_pound_X0_tellPound : GoodIn wsX1_pound (wsV RX1 90 RX0 yX0_tellPound wsX0_tellPound) := goodIn_app (goodIn_of _ (by decide +kernel)) ggX1_pound_X0_tellPound
theorem dX1_pound_0 : decode cX1_pound 0 = .ok (.iload_n 1, 1) := by decide +kernel
theorem dX1_pound_1 : decode cX1_pound 1 = .ok (.iconst 0, 1) := by decide +kernel
theorem dX1_pound_2 : decode cX1_pound 2 = .ok (.iconst 5, 1) := by decide +kernel
theorem dX1_pound_3 : decode cX1_pound 3 = .ok (.invokestatic 19, 3) := by decide +kernel
theorem dX1_pound_6 : decode cX1_pound 6 = .ok (.iload_n 2, 1) := by decide +kernel
theorem dX1_pound_7 : decode cX1_pound 7 = .ok (.iconst 0, 1) := by decide +kernel
theorem dX1_pound_8 : decode cX1_pound 8 = .ok (.iconst 3, 1) := by decide +kernel
theorem dX1_pound_9 : decode cX1_pound 9 = .ok (.invokestatic 19, 3) := by decide +kernel
theorem dX1_pound_12 : decode cX1_pound 12 = .ok (.aload_n 0, 1) := by decide +kernel
theorem dX1_pound_13 : decode cX1_pound 13 = .ok (.getfield 12, 3) := by decide +kernel
theorem dX1_pound_16 : decode cX1_pound 16 = .ok (.iload_n 1, 1) := by decide +kernel
theorem dX1_pound_17 : decode cX1_pound 17 = .ok (.iload_n 2, 1) := by decide +kernel
theorem dX1_pound_18 : decode cX1_pound 18 = .ok (.invokevirtual 90, 3) := by decide +kernel
theorem dX1_pound_21 : decode cX1_pound 21 = .ok (.ireturn, 1) := by decide +kernel
set_option maxRecDepth 20000 in
theorem ggX1_lock_X1_requireIndex : GoodIn wsX1_lock wsX1_requireIndex := goodIn_ca (goodIn_r _ [5, 6, 7] (by decide +kernel) (by decide +kernel)) (goodIn_sub (fun _ h => List.mem_cons_of_mem _ (List.mem_append_right _ h)) (by decide +kernel))
set_option maxRecDepth 20000 in
theorem gX1_lock_X1_requireIndex : GoodIn wsX1_lock (va_wsS RX1 19 yX1_requireIndex wsX1_requireIndex) := goodIn_app (goodIn_of _ (by decide +kernel)) ggX1_lock_X1_requireIndex
set_option maxRecDepth 20000 in
theorem ggX1_lock_X0_tellLock : GoodIn wsX1_lock wsX0_tellLock := goodIn_r _ [12, 13, 14, 15, 16, 17, 18, 11, 19, 20, 21, 22, 23, 24, 25, 26, 27, 28, 29, 30, 31, 32, 33, 34, 35, 36, 37, 38, 39, 40, 41, 42, 43, 44, 45, 46, 47, 48, 49, 50, 51, 52, 53, 54, 57, 58, 59, 60, 61, 62, 63, 64, 65, 66, 67, 68, 69, 70, 71, 72, 73, 74] (by decide +kernel) (by decide +kernel)
set_option maxRecDepth 20000 in
theorem gX1_lock_X0_tellLock : GoodIn wsX1_lock (wsV RX1 93 RX0 yX0_tellLock wsX0_tellLock) := goodIn_app (goodIn_of _ (by decide +kernel)) ggX1_lock_X0_tellLock
theorem dX1_lock_0 : decode cX1_lock 0 = .ok (.iload_n 1, 1) := by decide +kernel
theorem dX1_lock_1 : decode cX1_lock 1 = .ok (.iconst 0, 1) := by decide +kernel
theorem dX1_lock_2 : decode cX1_lock 2 = .ok (.iconst 4, 1) := by decide +kernel
theorem dX1_lock_3 : decode cX1_lock 3 = .ok (.invokestatic 19, 3) := by decide +kernel
theorem dX1_lock_6 : decode cX1_lock 6 = .ok (.iload_n 2, 1) := by decide +kernel
theorem dX1_lock_7 : decode cX1_lock 7 = .ok (.iconst 0, 1) := by decide +kernel
theorem dX1_lock_8 : decode cX1_lock 8 = .ok (.iconst 4, 1) := by decide +kernel
theorem dX1_lock_9 : decode cX1_lock 9 = .ok (.invokestatic 19, 3) := by decide +kernel
theorem dX1_lock_12 : decode cX1_lock 12 = .ok (.aload_n 0, 1) := by decide +kernel
theorem dX1_lock_13 : decode cX1_lock 13 = .ok (.getfield 12, 3) := by decide +kernel
theorem dX1_lock_16 : decode cX1_lock 16 = .ok (.iload_n 1, 1) := by decide +kernel
theorem dX1_lock_17 : decode cX1_lock 17 = .ok (.iload_n 2, 1) := by decide +kernel
theorem dX1_lock_18 : decode cX1_lock 18 = .ok (.invokevirtual 93, 3) := by decide +kernel
theorem dX1_lock_21 : decode cX1_lock 21 = .ok (.ireturn, 1) := by decide +kernel
set_option maxRecDepth 20000 in
theorem ggX1_count_X1_requireIndex : GoodIn wsX1_count wsX1_requireIndex := goodIn_ca (goodIn_r _ [5, 6, 7] (by decide +kernel) (by decide +kernel)) (goodIn_sub (fun _ h => List.mem_cons_of_mem _ (List.mem_append_right _ h)) (by decide +kernel))
set_option maxRecDepth 20000 in
theorem gX1_count_X1_requireIndex : GoodIn wsX1_count (va_wsS RX1 19 yX1_requireIndex wsX1_requireIndex) := goodIn_app (goodIn_of _ (by decide +kernel)) ggX1_count_X1_requireIndex
set_option maxRecDepth 20000 in
theorem ggX1_count_X0_tellWhole : GoodIn wsX1_count wsX0_tellWhole := goodIn_r _ [12, 13, 14, 15, 16, 17, 18, 19, 20, 21, 22, 23, 11, 24, 25, 26, 27, 28, 29, 30, 31, 32, 33, 34, 35, 36, 37, 38, 39, 40, 43, 44, 45, 46, 47, 48, 49, 50, 51, 52, 53, 54, 55, 56, 57, 58, 59, 60] (by decide +kernel) (by decide +kernel)
set_option maxRecDepth 20000 in
theorem gX1_count_X0_tellWhole : GoodIn wsX1_count (wsV RX1 96 RX0 yX0_tellWhole wsX0_tellWhole) := goodIn_app (goodIn_of _ (by decide +kernel)) ggX1_count_X0_tellWhole
theorem dX1_count_0 : decode cX1_count 0 = .ok (.iload_n 1, 1) := by decide +kernel
theorem dX1_count_1 : decode cX1_count 1 = .ok (.iconst 0, 1) := by decide +kernel
theorem dX1_count_2 : decode cX1_count 2 = .ok (.bipush 9, 2) := by decide +kernel
theorem dX1_count_4 : decode cX1_count 4 = .ok (.invokestatic 19, 3) := by decide +kernel
theorem dX1_count_7 : decode cX1_count 7 = .ok (.aload_n 0, 1) := by decide +kernel
theorem dX1_count_8 : decode cX1_count 8 = .ok (.getfield 12, 3) := by decide +kernel
theorem dX1_count_11 : decode cX1_count 11 = .ok (.iload_n 1, 1) := by decide +kernel
theorem dX1_count_12 : decode cX1_count 12 = .ok (.invokevirtual 96, 3) := by decide +kernel
theorem dX1_count_15 : decode cX1_count 15 = .ok (.ireturn, 1) := by decide +kernel
set_option maxRecDepth 20000 in
theorem ggX1_pass_X1_requireArgument : GoodIn wsX1_pass wsX1_requireArgument := goodIn_ca (goodIn_r _ [5, 6, 7] (by decide +kernel) (by decide +kernel)) (goodIn_sub (fun _ h => List.mem_cons_of_mem _ (List.mem_append_right _ h)) (by decide +kernel))
set_option maxRecDepth 20000 in
theorem gX1_pass_X1_requireArgument : GoodIn wsX1_pass (va_wsS RX1 23 yX1_requireArgument wsX1_requireArgument) := goodIn_app (goodIn_of _ (by decide +kernel)) ggX1_pass_X1_requireArgument
set_option maxRecDepth 20000 in
theorem ggX1_pass_X0_goHours : GoodIn wsX1_pass wsX0_goHours := goodIn_r _ [12, 13, 14, 15, 11, 16, 17, 18, 19, 20, 21, 22, 23, 24, 25, 26, 27, 28, 29, 30, 31, 32, 33, 34, 35, 36, 37, 38, 39, 40, 41, 42, 43, 44, 45, 46, 47, 48, 49, 50, 51, 52, 53, 54, 55, 56, 57, 58, 59, 60, 61, 62, 63, 64, 65, 66, 67, 68, 69, 70, 71, 72, 73, 74, 75, 76, 77, 78, 79, 80, 81, 82, 83, 84, 85, 86, 89, 90, 91, 92, 93, 94, 95, 96, 97, 98, 99, 100, 101, 102, 103, 104, 105, 106] (by decide +kernel) (by decide +kernel)
set_option maxRecDepth 20000 in
theorem gX1_pass_X0_goHours : GoodIn wsX1_pass (wsV RX1 100 RX0 yX0_goHours wsX0_goHours) := goodIn_app (goodIn_of _ (by decide +kernel)) ggX1_pass_X0_goHours
theorem dX1_pass_0 : decode cX1_pass 0 = .ok (.iload_n 1, 1) := by decide +kernel
theorem dX1_pass_1 : decode cX1_pass 1 = .ok (.iconst 1, 1) := by decide +kernel
theorem dX1_pass_2 : decode cX1_pass 2 = .ok (.bipush 60, 2) := by decide +kernel
theorem dX1_pass_4 : decode cX1_pass 4 = .ok (.invokestatic 23, 3) := by decide +kernel
theorem dX1_pass_7 : decode cX1_pass 7 = .ok (.aload_n 0, 1) := by decide +kernel
theorem dX1_pass_8 : decode cX1_pass 8 = .ok (.getfield 12, 3) := by decide +kernel
theorem dX1_pass_11 : decode cX1_pass 11 = .ok (.iload_n 1, 1) := by decide +kernel
theorem dX1_pass_12 : decode cX1_pass 12 = .ok (.invokevirtual 100, 3) := by decide +kernel
theorem dX1_pass_15 : decode cX1_pass 15 = .ok (.ireturn, 1) := by decide +kernel
set_option maxRecDepth 20000 in
theorem ggX1_arrives_X1_requireIndex : GoodIn wsX1_arrives wsX1_requireIndex := goodIn_ca (goodIn_r _ [7, 8, 9] (by decide +kernel) (by decide +kernel)) (goodIn_sub (fun _ h => List.mem_cons_of_mem _ (List.mem_append_right _ h)) (by decide +kernel))
set_option maxRecDepth 20000 in
theorem gX1_arrives_X1_requireIndex : GoodIn wsX1_arrives (va_wsS RX1 19 yX1_requireIndex wsX1_requireIndex) := goodIn_app (goodIn_of _ (by decide +kernel)) ggX1_arrives_X1_requireIndex
set_option maxRecDepth 20000 in
theorem ggX1_arrives_X0_copyFrom : GoodIn wsX1_arrives wsX0_copyFrom := goodIn_r _ [14, 15, 16, 17, 18, 19, 20, 21, 22, 23, 24, 25, 26, 27, 28, 29, 30, 31, 32, 33, 34, 35, 36, 96, 97, 98, 99, 100, 101, 102, 103, 104, 105, 106, 107, 108, 109, 110, 111, 112, 113] (by decide +kernel) (by decide +kernel)
set_option maxRecDepth 20000 in
theorem gX1_arrives_X0_copyFrom : GoodIn wsX1_arrives (wsV RX1 103 RX0 yX0_copyFrom wsX0_copyFrom) := goodIn_app (goodIn_of _ (by decide +kernel)) ggX1_arrives_X0_copyFrom
set_option maxRecDepth 20000 in
theorem ggX1_arrives_X0_hasCome : GoodIn wsX1_arrives wsX0_hasCome := goodIn_r _ [40, 33, 34, 96, 97, 98, 99, 100, 101, 102, 103, 104, 105, 106, 107, 108, 109, 110, 111, 112, 113] (by decide +kernel) (by decide +kernel)
set_option maxRecDepth 20000 in
theorem gX1_arrives_X0_hasCome : GoodIn wsX1_arrives (wsV RX1 107 RX0 yX0_hasCome wsX0_hasCome) := goodIn_app (goodIn_of _ (by decide +kernel)) ggX1_arrives_X0_hasCome
set_option maxRecDepth 20000 in
theorem ggX1_arrives_X0_goHour : GoodIn wsX1_arrives wsX0_goHour := goodIn_r _ [44, 21, 15, 45, 46, 47, 48, 49, 50, 51, 13, 52, 26, 53, 54, 55, 56, 27, 57, 58, 59, 60, 19, 20, 28, 16, 61, 62, 63, 64, 32, 65, 66, 67, 68, 33, 69, 38, 39, 40, 34, 70, 71, 72, 73, 74, 75, 76, 77, 35, 17, 18, 29, 78, 79, 80, 81, 82, 83, 84, 85, 86, 87, 88, 89, 36, 30, 90, 91, 92, 93, 31, 96, 97, 98, 99, 100, 101, 102, 103, 104, 105, 106, 107, 108, 109, 110, 111, 112, 113] (by decide +kernel) (by decide +kernel)
set_option maxRecDepth 20000 in
theorem gX1_arrives_X0_goHour : GoodIn wsX1_arrives (wsV RX1 110 RX0 yX0_goHour wsX0_goHour) := goodIn_app (goodIn_of _ (by decide +kernel)) ggX1_arrives_X0_goHour
theorem dX1_arrives_0 : decode cX1_arrives 0 = .ok (.iload_n 1, 1) := by decide +kernel
theorem dX1_arrives_1 : decode cX1_arrives 1 = .ok (.iconst 0, 1) := by decide +kernel
theorem dX1_arrives_2 : decode cX1_arrives 2 = .ok (.aload_n 0, 1) := by decide +kernel
theorem dX1_arrives_3 : decode cX1_arrives 3 = .ok (.getfield 12, 3) := by decide +kernel
theorem dX1_arrives_6 : decode cX1_arrives 6 = .ok (.getfield 72, 3) := by decide +kernel
theorem dX1_arrives_9 : decode cX1_arrives 9 = .ok (.iconst 1, 1) := by decide +kernel
theorem dX1_arrives_10 : decode cX1_arrives 10 = .ok (.isub, 1) := by decide +kernel
theorem dX1_arrives_11 : decode cX1_arrives 11 = .ok (.invokestatic 19, 3) := by decide +kernel
theorem dX1_arrives_14 : decode cX1_arrives 14 = .ok (.aload_n 0, 1) := by decide +kernel
theorem dX1_arrives_15 : decode cX1_arrives 15 = .ok (.getfield 16, 3) := by decide +kernel
theorem dX1_arrives_18 : decode cX1_arrives 18 = .ok (.aload_n 0, 1) := by decide +kernel
theorem dX1_arrives_19 : decode cX1_arrives 19 = .ok (.getfield 12, 3) := by decide +kernel
theorem dX1_arrives_22 : decode cX1_arrives 22 = .ok (.invokevirtual 103, 3) := by decide +kernel
theorem dX1_arrives_25 : decode cX1_arrives 25 = .ok (.iconst 0, 1) := by decide +kernel
theorem dX1_arrives_26 : decode cX1_arrives 26 = .ok (.istore_n 2, 1) := by decide +kernel
theorem dX1_arrives_27 : decode cX1_arrives 27 = .ok (.iload_n 2, 1) := by decide +kernel
theorem dX1_arrives_28 : decode cX1_arrives 28 = .ok (.bipush 120, 2) := by decide +kernel
theorem dX1_arrives_30 : decode cX1_arrives 30 = .ok (.if_icmp .ge 30, 3) := by decide +kernel
theorem dX1_arrives_33 : decode cX1_arrives 33 = .ok (.aload_n 0, 1) := by decide +kernel
theorem dX1_arrives_34 : decode cX1_arrives 34 = .ok (.getfield 16, 3) := by decide +kernel
theorem dX1_arrives_37 : decode cX1_arrives 37 = .ok (.iload_n 1, 1) := by decide +kernel
theorem dX1_arrives_38 : decode cX1_arrives 38 = .ok (.invokevirtual 107, 3) := by decide +kernel
theorem dX1_arrives_41 : decode cX1_arrives 41 = .ok (.ifCond .eq 5, 3) := by decide +kernel
theorem dX1_arrives_44 : decode cX1_arrives 44 = .ok (.iload_n 2, 1) := by decide +kernel
theorem dX1_arrives_45 : decode cX1_arrives 45 = .ok (.ireturn, 1) := by decide +kernel
theorem dX1_arrives_46 : decode cX1_arrives 46 = .ok (.aload_n 0, 1) := by decide +kernel
theorem dX1_arrives_47 : decode cX1_arrives 47 = .ok (.getfield 16, 3) := by decide +kernel
theorem dX1_arrives_50 : decode cX1_arrives 50 = .ok (.invokevirtual 110, 3) := by decide +kernel
theorem dX1_arrives_53 : decode cX1_arrives 53 = .ok (.pop, 1) := by decide +kernel
theorem dX1_arrives_54 : decode cX1_arrives 54 = .ok (.iinc 2 1, 3) := by decide +kernel
theorem dX1_arrives_57 : decode cX1_arrives 57 = .ok (.goto (-30), 3) := by decide +kernel
theorem dX1_arrives_60 : decode cX1_arrives 60 = .ok (.aload_n 0, 1) := by decide +kernel
theorem dX1_arrives_61 : decode cX1_arrives 61 = .ok (.getfield 16, 3) := by decide +kernel
theorem dX1_arrives_64 : decode cX1_arrives 64 = .ok (.iload_n 1, 1) := by decide +kernel
theorem dX1_arrives_65 : decode cX1_arrives 65 = .ok (.invokevirtual 107, 3) := by decide +kernel
theorem dX1_arrives_68 : decode cX1_arrives 68 = .ok (.ifCond .eq 8, 3) := by decide +kernel
theorem dX1_arrives_71 : decode cX1_arrives 71 = .ok (.bipush 120, 2) := by decide +kernel
theorem dX1_arrives_73 : decode cX1_arrives 73 = .ok (.goto 4, 3) := by decide +kernel
theorem dX1_arrives_76 : decode cX1_arrives 76 = .ok (.iconst (-1), 1) := by decide +kernel
theorem dX1_arrives_77 : decode cX1_arrives 77 = .ok (.ireturn, 1) := by decide +kernel
set_option maxRecDepth 20000 in
theorem ggX1_foresee_X1_requireArgument : GoodIn wsX1_foresee wsX1_requireArgument := goodIn_ca (goodIn_r _ [6, 7, 8] (by decide +kernel) (by decide +kernel)) (goodIn_sub (fun _ h => List.mem_cons_of_mem _ (List.mem_append_left _ (List.mem_append_right _ h))) (by decide +kernel))
set_option maxRecDepth 20000 in
theorem gX1_foresee_X1_requireArgument : GoodIn wsX1_foresee (va_wsS RX1 23 yX1_requireArgument wsX1_requireArgument) := goodIn_app (goodIn_of _ (by decide +kernel)) ggX1_foresee_X1_requireArgument
set_option maxRecDepth 20000 in
theorem ggX1_foresee_X1_requireIndex : GoodIn wsX1_foresee wsX1_requireIndex := goodIn_ca (goodIn_r _ [11, 12, 13] (by decide +kernel) (by decide +kernel)) (goodIn_sub (fun _ h => List.mem_cons_of_mem _ (List.mem_append_right _ h)) (by decide +kernel))
set_option maxRecDepth 20000 in
theorem gX1_foresee_X1_requireIndex : GoodIn wsX1_foresee (va_wsS RX1 19 yX1_requireIndex wsX1_requireIndex) := goodIn_app (goodIn_of _ (by decide +kernel)) ggX1_foresee_X1_requireIndex
set_option maxRecDepth 20000 in
theorem ggX1_foresee_X0_copyFrom : GoodIn wsX1_foresee wsX0_copyFrom := goodIn_r _ [18, 19, 20, 21, 22, 23, 24, 25, 26, 27, 28, 29, 30, 31, 32, 33, 34, 35, 36, 37, 38, 39, 40, 119, 120, 121, 122, 123, 124, 125, 126, 127, 128, 129, 130, 131, 132, 133, 134, 135, 136] (by decide +kernel) (by decide +kernel)
set_option maxRecDepth 20000 in
theorem gX1_foresee_X0_copyFrom : GoodIn wsX1_foresee (wsV RX1 103 RX0 yX0_copyFrom wsX0_copyFrom) := goodIn_app (goodIn_of _ (by decide +kernel)) ggX1_foresee_X0_copyFrom
set_option maxRecDepth 20000 in
theorem ggX1_foresee_X0_goHours : GoodIn wsX1_foresee wsX0_goHours := goodIn_r _ [44, 45, 46, 47, 17, 48, 25, 19, 49, 50, 51, 52, 53, 54, 55, 56, 30, 57, 58, 59, 60, 31, 61, 62, 63, 64, 23, 24, 32, 20, 65, 66, 67, 68, 36, 69, 70, 71, 72, 37, 73, 74, 75, 76, 38, 77, 78, 79, 80, 81, 82, 83, 84, 39, 21, 22, 33, 85, 86, 87, 88, 89, 90, 91, 92, 93, 94, 95, 96, 40, 34, 97, 98, 99, 100, 35, 119, 120, 121, 122, 123, 124, 125, 126, 127, 128, 129, 130, 131, 132, 133, 134, 135, 136] (by decide +kernel) (by decide +kernel)
set_option maxRecDepth 20000 in
theorem gX1_foresee_X0_goHours : GoodIn wsX1_foresee (wsV RX1 100 RX0 yX0_goHours wsX0_goHours) := goodIn_app (goodIn_of _ (by decide +kernel)) ggX1_foresee_X0_goHours
set_option maxRecDepth 20000 in
theorem ggX1_foresee_X0_tellWhole : GoodIn wsX1_foresee wsX0_tellWhole := goodIn_r _ [104, 19, 36, 20, 31, 32, 21, 24, 23, 105, 106, 107, 17, 108, 73, 74, 75, 76, 37, 38, 109, 110, 111, 112, 30, 113, 114, 115, 116, 33, 119, 120, 121, 122, 123, 124, 125, 126, 127, 128, 129, 130, 131, 132, 133, 134, 135, 136] (by decide +kernel) (by decide +kernel)
set_option maxRecDepth 20000 in
theorem gX1_foresee_X0_tellWhole : GoodIn wsX1_foresee (wsV RX1 96 RX0 yX0_tellWhole wsX0_tellWhole) := goodIn_app (goodIn_of _ (by decide +kernel)) ggX1_foresee_X0_tellWhole
theorem dX1_foresee_0 : decode cX1_foresee 0 = .ok (.iload_n 1, 1) := by decide +kernel
theorem dX1_foresee_1 : decode cX1_foresee 1 = .ok (.iconst 1, 1) := by decide +kernel
theorem dX1_foresee_2 : decode cX1_foresee 2 = .ok (.bipush 60, 2) := by decide +kernel
theorem dX1_foresee_4 : decode cX1_foresee 4 = .ok (.invokestatic 23, 3) := by decide +kernel
theorem dX1_foresee_7 : decode cX1_foresee 7 = .ok (.iload_n 2, 1) := by decide +kernel
theorem dX1_foresee_8 : decode cX1_foresee 8 = .ok (.iconst 2, 1) := by decide +kernel
theorem dX1_foresee_9 : decode cX1_foresee 9 = .ok (.bipush 6, 2) := by decide +kernel
theorem dX1_foresee_11 : decode cX1_foresee 11 = .ok (.invokestatic 19, 3) := by decide +kernel
theorem dX1_foresee_14 : decode cX1_foresee 14 = .ok (.aload_n 0, 1) := by decide +kernel
theorem dX1_foresee_15 : decode cX1_foresee 15 = .ok (.getfield 16, 3) := by decide +kernel
theorem dX1_foresee_18 : decode cX1_foresee 18 = .ok (.aload_n 0, 1) := by decide +kernel
theorem dX1_foresee_19 : decode cX1_foresee 19 = .ok (.getfield 12, 3) := by decide +kernel
theorem dX1_foresee_22 : decode cX1_foresee 22 = .ok (.invokevirtual 103, 3) := by decide +kernel
theorem dX1_foresee_25 : decode cX1_foresee 25 = .ok (.aload_n 0, 1) := by decide +kernel
theorem dX1_foresee_26 : decode cX1_foresee 26 = .ok (.getfield 16, 3) := by decide +kernel
theorem dX1_foresee_29 : decode cX1_foresee 29 = .ok (.iload_n 1, 1) := by decide +kernel
theorem dX1_foresee_30 : decode cX1_foresee 30 = .ok (.invokevirtual 100, 3) := by decide +kernel
theorem dX1_foresee_33 : decode cX1_foresee 33 = .ok (.pop, 1) := by decide +kernel
theorem dX1_foresee_34 : decode cX1_foresee 34 = .ok (.aload_n 0, 1) := by decide +kernel
theorem dX1_foresee_35 : decode cX1_foresee 35 = .ok (.getfield 16, 3) := by decide +kernel
theorem dX1_foresee_38 : decode cX1_foresee 38 = .ok (.iload_n 2, 1) := by decide +kernel
theorem dX1_foresee_39 : decode cX1_foresee 39 = .ok (.invokevirtual 96, 3) := by decide +kernel
theorem dX1_foresee_42 : decode cX1_foresee 42 = .ok (.ireturn, 1) := by decide +kernel
set_option maxRecDepth 20000 in
theorem ggX1_advise_X1_requireArgument : GoodIn wsX1_advise wsX1_requireArgument := goodIn_ca (goodIn_r _ [8, 9, 10] (by decide +kernel) (by decide +kernel)) (goodIn_sub (fun _ h => List.mem_cons_of_mem _ (List.mem_append_right _ h)) (by decide +kernel))
set_option maxRecDepth 20000 in
theorem gX1_advise_X1_requireArgument : GoodIn wsX1_advise (va_wsS RX1 23 yX1_requireArgument wsX1_requireArgument) := goodIn_app (goodIn_of _ (by decide +kernel)) ggX1_advise_X1_requireArgument
set_option maxRecDepth 20000 in
theorem ggX1_advise_X0_copyFrom : GoodIn wsX1_advise wsX0_copyFrom := goodIn_r _ [15, 16, 17, 18, 19, 20, 21, 22, 23, 24, 25, 26, 27, 28, 29, 30, 31, 32, 33, 34, 35, 36, 37, 100, 101, 102, 103, 104, 105, 106, 107, 108, 109, 110, 111, 112, 113, 114, 115, 116, 117] (by decide +kernel) (by decide +kernel)
set_option maxRecDepth 20000 in
theorem gX1_advise_X0_copyFrom : GoodIn wsX1_advise (wsV RX1 103 RX0 yX0_copyFrom wsX0_copyFrom) := goodIn_app (goodIn_of _ (by decide +kernel)) ggX1_advise_X0_copyFrom
set_option maxRecDepth 20000 in
theorem ggX1_advise_X0_goHours : GoodIn wsX1_advise wsX0_goHours := goodIn_r _ [41, 42, 43, 44, 14, 45, 22, 16, 46, 47, 48, 49, 50, 51, 52, 53, 27, 54, 55, 56, 57, 28, 58, 59, 60, 61, 20, 21, 29, 17, 62, 63, 64, 65, 33, 66, 67, 68, 69, 34, 70, 71, 72, 73, 35, 74, 75, 76, 77, 78, 79, 80, 81, 36, 18, 19, 30, 82, 83, 84, 85, 86, 87, 88, 89, 90, 91, 92, 93, 37, 31, 94, 95, 96, 97, 32, 100, 101, 102, 103, 104, 105, 106, 107, 108, 109, 110, 111, 112, 113, 114, 115, 116, 117] (by decide +kernel) (by decide +kernel)
set_option maxRecDepth 20000 in
theorem gX1_advise_X0_goHours : GoodIn wsX1_advise (wsV RX1 100 RX0 yX0_goHours wsX0_goHours) := goodIn_app (goodIn_of _ (by decide +kernel)) ggX1_advise_X0_goHours
theorem dX1_advise_0 : decode cX1_advise 0 = .ok (.iload_n 1, 1) := by decide +kernel
theorem dX1_advise_1 : decode cX1_advise 1 = .ok (.iconst 1, 1) := by decide +kernel
theorem dX1_advise_2 : decode cX1_advise 2 = .ok (.bipush 40, 2) := by decide +kernel
theorem dX1_advise_4 : decode cX1_advise 4 = .ok (.invokestatic 23, 3) := by decide +kernel
theorem dX1_advise_7 : decode cX1_advise 7 = .ok (.iconst 0, 1) := by decide +kernel
theorem dX1_advise_8 : decode cX1_advise 8 = .ok (.istore_n 2, 1) := by decide +kernel
theorem dX1_advise_9 : decode cX1_advise 9 = .ok (.iconst 0, 1) := by decide +kernel
theorem dX1_advise_10 : decode cX1_advise 10 = .ok (.istore_n 3, 1) := by decide +kernel
theorem dX1_advise_11 : decode cX1_advise 11 = .ok (.iconst 0, 1) := by decide +kernel
theorem dX1_advise_12 : decode cX1_advise 12 = .ok (.istore 4, 2) := by decide +kernel
theorem dX1_advise_14 : decode cX1_advise 14 = .ok (.iload 4, 2) := by decide +kernel
theorem dX1_advise_16 : decode cX1_advise 16 = .ok (.bipush 100, 2) := by decide +kernel
theorem dX1_advise_18 : decode cX1_advise 18 = .ok (.if_icmp .gt 60, 3) := by decide +kernel
theorem dX1_advise_21 : decode cX1_advise 21 = .ok (.aload_n 0, 1) := by decide +kernel
theorem dX1_advise_22 : decode cX1_advise 22 = .ok (.getfield 16, 3) := by decide +kernel
theorem dX1_advise_25 : decode cX1_advise 25 = .ok (.aload_n 0, 1) := by decide +kernel
theorem dX1_advise_26 : decode cX1_advise 26 = .ok (.getfield 12, 3) := by decide +kernel
theorem dX1_advise_29 : decode cX1_advise 29 = .ok (.invokevirtual 103, 3) := by decide +kernel
theorem dX1_advise_32 : decode cX1_advise 32 = .ok (.aload_n 0, 1) := by decide +kernel
theorem dX1_advise_33 : decode cX1_advise 33 = .ok (.getfield 16, 3) := by decide +kernel
theorem dX1_advise_36 : decode cX1_advise 36 = .ok (.iload 4, 2) := by decide +kernel
theorem dX1_advise_38 : decode cX1_advise 38 = .ok (.putfield 30, 3) := by decide +kernel
theorem dX1_advise_41 : decode cX1_advise 41 = .ok (.aload_n 0, 1) := by decide +kernel
theorem dX1_advise_42 : decode cX1_advise 42 = .ok (.getfield 16, 3) := by decide +kernel
theorem dX1_advise_45 : decode cX1_advise 45 = .ok (.iload_n 1, 1) := by decide +kernel
theorem dX1_advise_46 : decode cX1_advise 46 = .ok (.invokevirtual 100, 3) := by decide +kernel
theorem dX1_advise_49 : decode cX1_advise 49 = .ok (.pop, 1) := by decide +kernel
theorem dX1_advise_50 : decode cX1_advise 50 = .ok (.aload_n 0, 1) := by decide +kernel
theorem dX1_advise_51 : decode cX1_advise 51 = .ok (.getfield 16, 3) := by decide +kernel
theorem dX1_advise_54 : decode cX1_advise 54 = .ok (.getfield 44, 3) := by decide +kernel
theorem dX1_advise_57 : decode cX1_advise 57 = .ok (.iload_n 3, 1) := by decide +kernel
theorem dX1_advise_58 : decode cX1_advise 58 = .ok (.if_icmp .lt 14, 3) := by decide +kernel
theorem dX1_advise_61 : decode cX1_advise 61 = .ok (.aload_n 0, 1) := by decide +kernel
theorem dX1_advise_62 : decode cX1_advise 62 = .ok (.getfield 16, 3) := by decide +kernel
theorem dX1_advise_65 : decode cX1_advise 65 = .ok (.getfield 44, 3) := by decide +kernel
theorem dX1_advise_68 : decode cX1_advise 68 = .ok (.istore_n 3, 1) := by decide +kernel
theorem dX1_advise_69 : decode cX1_advise 69 = .ok (.iload 4, 2) := by decide +kernel
theorem dX1_advise_71 : decode cX1_advise 71 = .ok (.istore_n 2, 1) := by decide +kernel
theorem dX1_advise_72 : decode cX1_advise 72 = .ok (.iinc 4 10, 3) := by decide +kernel
theorem dX1_advise_75 : decode cX1_advise 75 = .ok (.goto (-61), 3) := by decide +kernel
theorem dX1_advise_78 : decode cX1_advise 78 = .ok (.iload_n 2, 1) := by decide +kernel
theorem dX1_advise_79 : decode cX1_advise 79 = .ok (.ireturn, 1) := by decide +kernel
set_option maxRecDepth 20000 in
theorem ggX1_stops_X0_copyFrom : GoodIn wsX1_stops wsX0_copyFrom := goodIn_r _ [7, 8, 9, 10, 11, 12, 13, 14, 15, 16, 17, 18, 19, 20, 21, 22, 23, 24, 25, 26, 27, 28, 29, 88, 89, 90, 91, 92, 93, 94, 95, 96, 97, 98, 99, 100, 101, 102, 103, 104, 105] (by decide +kernel) (by decide +kernel)
set_option maxRecDepth 20000 in
theorem gX1_stops_X0_copyFrom : GoodIn wsX1_stops (wsV RX1 103 RX0 yX0_copyFrom wsX0_copyFrom) := goodIn_app (goodIn_of _ (by decide +kernel)) ggX1_stops_X0_copyFrom
set_option maxRecDepth 20000 in
theorem ggX1_stops_X0_goHour : GoodIn wsX1_stops wsX0_goHour := goodIn_r _ [33, 14, 8, 34, 35, 36, 37, 38, 39, 40, 6, 41, 19, 42, 43, 44, 45, 20, 46, 47, 48, 49, 12, 13, 21, 9, 50, 51, 52, 53, 25, 54, 55, 56, 57, 26, 58, 59, 60, 61, 27, 62, 63, 64, 65, 66, 67, 68, 69, 28, 10, 11, 22, 70, 71, 72, 73, 74, 75, 76, 77, 78, 79, 80, 81, 29, 23, 82, 83, 84, 85, 24, 88, 89, 90, 91, 92, 93, 94, 95, 96, 97, 98, 99, 100, 101, 102, 103, 104, 105] (by decide +kernel) (by decide +kernel)
set_option maxRecDepth 20000 in
theorem gX1_stops_X0_goHour : GoodIn wsX1_stops (wsV RX1 110 RX0 yX0_goHour wsX0_goHour) := goodIn_app (goodIn_of _ (by decide +kernel)) ggX1_stops_X0_goHour
theorem dX1_stops_0 : decode cX1_stops 0 = .ok (.aload_n 0, 1) := by decide +kernel
theorem dX1_stops_1 : decode cX1_stops 1 = .ok (.getfield 16, 3) := by decide +kernel
theorem dX1_stops_4 : decode cX1_stops 4 = .ok (.aload_n 0, 1) := by decide +kernel
theorem dX1_stops_5 : decode cX1_stops 5 = .ok (.getfield 12, 3) := by decide +kernel
theorem dX1_stops_8 : decode cX1_stops 8 = .ok (.invokevirtual 103, 3) := by decide +kernel
theorem dX1_stops_11 : decode cX1_stops 11 = .ok (.iconst 0, 1) := by decide +kernel
theorem dX1_stops_12 : decode cX1_stops 12 = .ok (.istore_n 1, 1) := by decide +kernel
theorem dX1_stops_13 : decode cX1_stops 13 = .ok (.iload_n 1, 1) := by decide +kernel
theorem dX1_stops_14 : decode cX1_stops 14 = .ok (.bipush 60, 2) := by decide +kernel
theorem dX1_stops_16 : decode cX1_stops 16 = .ok (.if_icmp .ge 21, 3) := by decide +kernel
theorem dX1_stops_19 : decode cX1_stops 19 = .ok (.aload_n 0, 1) := by decide +kernel
theorem dX1_stops_20 : decode cX1_stops 20 = .ok (.getfield 16, 3) := by decide +kernel
theorem dX1_stops_23 : decode cX1_stops 23 = .ok (.invokevirtual 110, 3) := by decide +kernel
theorem dX1_stops_26 : decode cX1_stops 26 = .ok (.ifCond .ne 5, 3) := by decide +kernel
theorem dX1_stops_29 : decode cX1_stops 29 = .ok (.iload_n 1, 1) := by decide +kernel
theorem dX1_stops_30 : decode cX1_stops 30 = .ok (.ireturn, 1) := by decide +kernel
theorem dX1_stops_31 : decode cX1_stops 31 = .ok (.iinc 1 1, 3) := by decide +kernel
theorem dX1_stops_34 : decode cX1_stops 34 = .ok (.goto (-21), 3) := by decide +kernel
theorem dX1_stops_37 : decode cX1_stops 37 = .ok (.iconst (-1), 1) := by decide +kernel
theorem dX1_stops_38 : decode cX1_stops 38 = .ok (.ireturn, 1) := by decide +kernel
set_option maxRecDepth 20000 in
theorem ggX1_mean_X0_waterOfAll : GoodIn wsX1_mean wsX0_waterOfAll := goodIn_r _ [7, 8, 11, 12, 13, 14, 15, 16, 17, 18, 19, 20, 21, 22, 23, 24, 25, 26, 27, 28] (by decide +kernel) (by decide +kernel)
set_option maxRecDepth 20000 in
theorem gX1_mean_X0_waterOfAll : GoodIn wsX1_mean (wsV RX1 114 RX0 yX0_waterOfAll wsX0_waterOfAll) := goodIn_app (goodIn_of _ (by decide +kernel)) ggX1_mean_X0_waterOfAll
theorem dX1_mean_0 : decode cX1_mean 0 = .ok (.aload_n 0, 1) := by decide +kernel
theorem dX1_mean_1 : decode cX1_mean 1 = .ok (.getfield 12, 3) := by decide +kernel
theorem dX1_mean_4 : decode cX1_mean 4 = .ok (.invokevirtual 114, 3) := by decide +kernel
theorem dX1_mean_7 : decode cX1_mean 7 = .ok (.i2d, 1) := by decide +kernel
theorem dX1_mean_8 : decode cX1_mean 8 = .ok (.ldc2_w 117, 3) := by decide +kernel
theorem dX1_mean_11 : decode cX1_mean 11 = .ok (.ddiv, 1) := by decide +kernel
theorem dX1_mean_12 : decode cX1_mean 12 = .ok (.dreturn, 1) := by decide +kernel
set_option maxRecDepth 20000 in
theorem ggX1_digest_X0_tellWhole : GoodIn wsX1_digest wsX0_tellWhole := goodIn_r _ [10, 11, 12, 13, 14, 15, 16, 17, 18, 19, 20, 21, 9, 22, 23, 24, 25, 26, 27, 28, 29, 30, 31, 32, 33, 34, 35, 36, 37, 38, 95, 96, 97, 98, 99, 100, 101, 102, 103, 104, 105, 106, 107, 108, 109, 110, 111, 112] (by decide +kernel) (by decide +kernel)
set_option maxRecDepth 20000 in
theorem gX1_digest_X0_tellWhole : GoodIn wsX1_digest (wsV RX1 96 RX0 yX0_tellWhole wsX0_tellWhole) := goodIn_app (goodIn_of _ (by decide +kernel)) ggX1_digest_X0_tellWhole
set_option maxRecDepth 20000 in
theorem ggX1_digest_X1_mix : GoodIn wsX1_digest wsX1_mix := goodIn_r _ [42, 43] (by decide +kernel) (by decide +kernel)
set_option maxRecDepth 20000 in
theorem gX1_digest_X1_mix : GoodIn wsX1_digest (va_wsS RX1 121 yX1_mix wsX1_mix) := goodIn_app (goodIn_of _ (by decide +kernel)) ggX1_digest_X1_mix
set_option maxRecDepth 20000 in
theorem ggX1_digest_X0_tellPound : GoodIn wsX1_digest wsX0_tellPound := goodIn_r _ [47, 33, 14, 15, 48, 49, 50, 9, 51, 12, 27, 95, 96, 97, 98, 99, 100, 101, 102, 103, 104, 105, 106, 107, 108, 109, 110, 111, 112] (by decide +kernel) (by decide +kernel)
set_option maxRecDepth 20000 in
theorem gX1_digest_X0_tellPound : GoodIn wsX1_digest (wsV RX1 90 RX0 yX0_tellPound wsX0_tellPound) := goodIn_app (goodIn_of _ (by decide +kernel)) ggX1_digest_X0_tellPound
set_option maxRecDepth 20000 in
theorem ggX1_digest_X0_tellLock : GoodIn wsX1_digest wsX0_tellLock := goodIn_r _ [55, 38, 56, 57, 58, 59, 60, 9, 61, 12, 62, 63, 64, 65, 27, 23, 24, 25, 26, 28, 66, 67, 68, 69, 70, 71, 72, 73, 74, 75, 76, 77, 78, 16, 79, 80, 81, 82, 83, 84, 85, 86, 87, 33, 95, 96, 97, 98, 99, 100, 101, 102, 103, 104, 105, 106, 107, 108, 109, 110, 111, 112] (by decide +kernel) (by decide +kernel)
set_option maxRecDepth 20000 in
theorem gX1_digest_X0_tellLock : GoodIn wsX1_digest (wsV RX1 93 RX0 yX0_tellLock wsX0_tellLock) := goodIn_app (goodIn_of _ (by decide +kernel)) ggX1_digest_X0_tellLock
set_option maxRecDepth 20000 in
theorem ggX1_digest_X0_tellBarge : GoodIn wsX1_digest wsX0_tellBarge := goodIn_r _ [91, 27, 28, 78, 92, 62, 63, 64, 9, 65, 23, 24, 25, 26, 66, 67, 68, 69, 95, 96, 97, 98, 99, 100, 101, 102, 103, 104, 105, 106, 107, 108, 109, 110, 111, 112] (by decide +kernel) (by decide +kernel)
set_option maxRecDepth 20000 in
theorem gX1_digest_X0_tellBarge : GoodIn wsX1_digest (wsV RX1 86 RX0 yX0_tellBarge wsX0_tellBarge) := goodIn_app (goodIn_of _ (by decide +kernel)) ggX1_digest_X0_tellBarge
theorem dX1_digest_0 : decode cX1_digest 0 = .ok (.ldc2_w 119, 3) := by decide +kernel
theorem dX1_digest_3 : decode cX1_digest 3 = .ok (.lstore_n 1, 1) := by decide +kernel
theorem dX1_digest_4 : decode cX1_digest 4 = .ok (.iconst 0, 1) := by decide +kernel
theorem dX1_digest_5 : decode cX1_digest 5 = .ok (.istore_n 3, 1) := by decide +kernel
theorem dX1_digest_6 : decode cX1_digest 6 = .ok (.iload_n 3, 1) := by decide +kernel
theorem dX1_digest_7 : decode cX1_digest 7 = .ok (.bipush 10, 2) := by decide +kernel
theorem dX1_digest_9 : decode cX1_digest 9 = .ok (.if_icmp .ge 22, 3) := by decide +kernel
theorem dX1_digest_12 : decode cX1_digest 12 = .ok (.lload_n 1, 1) := by decide +kernel
theorem dX1_digest_13 : decode cX1_digest 13 = .ok (.aload_n 0, 1) := by decide +kernel
theorem dX1_digest_14 : decode cX1_digest 14 = .ok (.getfield 12, 3) := by decide +kernel
theorem dX1_digest_17 : decode cX1_digest 17 = .ok (.iload_n 3, 1) := by decide +kernel
theorem dX1_digest_18 : decode cX1_digest 18 = .ok (.invokevirtual 96, 3) := by decide +kernel
theorem dX1_digest_21 : decode cX1_digest 21 = .ok (.invokestatic 121, 3) := by decide +kernel
theorem dX1_digest_24 : decode cX1_digest 24 = .ok (.lstore_n 1, 1) := by decide +kernel
theorem dX1_digest_25 : decode cX1_digest 25 = .ok (.iinc 3 1, 3) := by decide +kernel
theorem dX1_digest_28 : decode cX1_digest 28 = .ok (.goto (-22), 3) := by decide +kernel
theorem dX1_digest_31 : decode cX1_digest 31 = .ok (.lload_n 1, 1) := by decide +kernel
theorem dX1_digest_32 : decode cX1_digest 32 = .ok (.aload_n 0, 1) := by decide +kernel
theorem dX1_digest_33 : decode cX1_digest 33 = .ok (.getfield 12, 3) := by decide +kernel
theorem dX1_digest_36 : decode cX1_digest 36 = .ok (.getfield 37, 3) := by decide +kernel
theorem dX1_digest_39 : decode cX1_digest 39 = .ok (.ifCond .eq 7, 3) := by decide +kernel
theorem dX1_digest_42 : decode cX1_digest 42 = .ok (.iconst 1, 1) := by decide +kernel
theorem dX1_digest_43 : decode cX1_digest 43 = .ok (.goto 4, 3) := by decide +kernel
theorem dX1_digest_46 : decode cX1_digest 46 = .ok (.iconst 0, 1) := by decide +kernel
theorem dX1_digest_47 : decode cX1_digest 47 = .ok (.invokestatic 121, 3) := by decide +kernel
theorem dX1_digest_50 : decode cX1_digest 50 = .ok (.lstore_n 1, 1) := by decide +kernel
theorem dX1_digest_51 : decode cX1_digest 51 = .ok (.iconst 0, 1) := by decide +kernel
theorem dX1_digest_52 : decode cX1_digest 52 = .ok (.istore_n 3, 1) := by decide +kernel
theorem dX1_digest_53 : decode cX1_digest 53 = .ok (.iload_n 3, 1) := by decide +kernel
theorem dX1_digest_54 : decode cX1_digest 54 = .ok (.bipush 8, 2) := by decide +kernel
theorem dX1_digest_56 : decode cX1_digest 56 = .ok (.if_icmp .ge 23, 3) := by decide +kernel
theorem dX1_digest_59 : decode cX1_digest 59 = .ok (.lload_n 1, 1) := by decide +kernel
theorem dX1_digest_60 : decode cX1_digest 60 = .ok (.aload_n 0, 1) := by decide +kernel
theorem dX1_digest_61 : decode cX1_digest 61 = .ok (.getfield 12, 3) := by decide +kernel
theorem dX1_digest_64 : decode cX1_digest 64 = .ok (.getfield 26, 3) := by decide +kernel
theorem dX1_digest_67 : decode cX1_digest 67 = .ok (.iload_n 3, 1) := by decide +kernel
theorem dX1_digest_68 : decode cX1_digest 68 = .ok (.iaload, 1) := by decide +kernel
theorem dX1_digest_69 : decode cX1_digest 69 = .ok (.invokestatic 121, 3) := by decide +kernel
theorem dX1_digest_72 : decode cX1_digest 72 = .ok (.lstore_n 1, 1) := by decide +kernel
theorem dX1_digest_73 : decode cX1_digest 73 = .ok (.iinc 3 1, 3) := by decide +kernel
theorem dX1_digest_76 : decode cX1_digest 76 = .ok (.goto (-23), 3) := by decide +kernel
theorem dX1_digest_79 : decode cX1_digest 79 = .ok (.iconst 0, 1) := by decide +kernel
theorem dX1_digest_80 : decode cX1_digest 80 = .ok (.istore_n 3, 1) := by decide +kernel
theorem dX1_digest_81 : decode cX1_digest 81 = .ok (.iload_n 3, 1) := by decide +kernel
theorem dX1_digest_82 : decode cX1_digest 82 = .ok (.bipush 6, 2) := by decide +kernel
theorem dX1_digest_84 : decode cX1_digest 84 = .ok (.if_icmp .ge 39, 3) := by decide +kernel
theorem dX1_digest_87 : decode cX1_digest 87 = .ok (.iconst 0, 1) := by decide +kernel
theorem dX1_digest_88 : decode cX1_digest 88 = .ok (.istore 4, 2) := by decide +kernel
theorem dX1_digest_90 : decode cX1_digest 90 = .ok (.iload 4, 2) := by decide +kernel
theorem dX1_digest_92 : decode cX1_digest 92 = .ok (.iconst 4, 1) := by decide +kernel
theorem dX1_digest_93 : decode cX1_digest 93 = .ok (.if_icmp .ge 24, 3) := by decide +kernel
theorem dX1_digest_96 : decode cX1_digest 96 = .ok (.lload_n 1, 1) := by decide +kernel
theorem dX1_digest_97 : decode cX1_digest 97 = .ok (.aload_n 0, 1) := by decide +kernel
theorem dX1_digest_98 : decode cX1_digest 98 = .ok (.getfield 12, 3) := by decide +kernel
theorem dX1_digest_101 : decode cX1_digest 101 = .ok (.iload_n 3, 1) := by decide +kernel
theorem dX1_digest_102 : decode cX1_digest 102 = .ok (.iload 4, 2) := by decide +kernel
theorem dX1_digest_104 : decode cX1_digest 104 = .ok (.invokevirtual 90, 3) := by decide +kernel
theorem dX1_digest_107 : decode cX1_digest 107 = .ok (.invokestatic 121, 3) := by decide +kernel
theorem dX1_digest_110 : decode cX1_digest 110 = .ok (.lstore_n 1, 1) := by decide +kernel
theorem dX1_digest_111 : decode cX1_digest 111 = .ok (.iinc 4 1, 3) := by decide +kernel
theorem dX1_digest_114 : decode cX1_digest 114 = .ok (.goto (-24), 3) := by decide +kernel
theorem dX1_digest_117 : decode cX1_digest 117 = .ok (.iinc 3 1, 3) := by decide +kernel
theorem dX1_digest_120 : decode cX1_digest 120 = .ok (.goto (-39), 3) := by decide +kernel
theorem dX1_digest_123 : decode cX1_digest 123 = .ok (.iconst 0, 1) := by decide +kernel
theorem dX1_digest_124 : decode cX1_digest 124 = .ok (.istore_n 3, 1) := by decide +kernel
theorem dX1_digest_125 : decode cX1_digest 125 = .ok (.iload_n 3, 1) := by decide +kernel
theorem dX1_digest_126 : decode cX1_digest 126 = .ok (.iconst 5, 1) := by decide +kernel
theorem dX1_digest_127 : decode cX1_digest 127 = .ok (.if_icmp .ge 39, 3) := by decide +kernel
theorem dX1_digest_130 : decode cX1_digest 130 = .ok (.iconst 0, 1) := by decide +kernel
theorem dX1_digest_131 : decode cX1_digest 131 = .ok (.istore 4, 2) := by decide +kernel
theorem dX1_digest_133 : decode cX1_digest 133 = .ok (.iload 4, 2) := by decide +kernel
theorem dX1_digest_135 : decode cX1_digest 135 = .ok (.iconst 5, 1) := by decide +kernel
theorem dX1_digest_136 : decode cX1_digest 136 = .ok (.if_icmp .ge 24, 3) := by decide +kernel
theorem dX1_digest_139 : decode cX1_digest 139 = .ok (.lload_n 1, 1) := by decide +kernel
theorem dX1_digest_140 : decode cX1_digest 140 = .ok (.aload_n 0, 1) := by decide +kernel
theorem dX1_digest_141 : decode cX1_digest 141 = .ok (.getfield 12, 3) := by decide +kernel
theorem dX1_digest_144 : decode cX1_digest 144 = .ok (.iload_n 3, 1) := by decide +kernel
theorem dX1_digest_145 : decode cX1_digest 145 = .ok (.iload 4, 2) := by decide +kernel
theorem dX1_digest_147 : decode cX1_digest 147 = .ok (.invokevirtual 93, 3) := by decide +kernel
theorem dX1_digest_150 : decode cX1_digest 150 = .ok (.invokestatic 121, 3) := by decide +kernel
theorem dX1_digest_153 : decode cX1_digest 153 = .ok (.lstore_n 1, 1) := by decide +kernel
theorem dX1_digest_154 : decode cX1_digest 154 = .ok (.iinc 4 1, 3) := by decide +kernel
theorem dX1_digest_157 : decode cX1_digest 157 = .ok (.goto (-24), 3) := by decide +kernel
theorem dX1_digest_160 : decode cX1_digest 160 = .ok (.iinc 3 1, 3) := by decide +kernel
theorem dX1_digest_163 : decode cX1_digest 163 = .ok (.goto (-38), 3) := by decide +kernel
theorem dX1_digest_166 : decode cX1_digest 166 = .ok (.iconst 0, 1) := by decide +kernel
theorem dX1_digest_167 : decode cX1_digest 167 = .ok (.istore_n 3, 1) := by decide +kernel
theorem dX1_digest_168 : decode cX1_digest 168 = .ok (.iload_n 3, 1) := by decide +kernel
theorem dX1_digest_169 : decode cX1_digest 169 = .ok (.aload_n 0, 1) := by decide +kernel
theorem dX1_digest_170 : decode cX1_digest 170 = .ok (.getfield 12, 3) := by decide +kernel
theorem dX1_digest_173 : decode cX1_digest 173 = .ok (.getfield 72, 3) := by decide +kernel
theorem dX1_digest_176 : decode cX1_digest 176 = .ok (.if_icmp .ge 39, 3) := by decide +kernel
theorem dX1_digest_179 : decode cX1_digest 179 = .ok (.iconst 0, 1) := by decide +kernel
theorem dX1_digest_180 : decode cX1_digest 180 = .ok (.istore 4, 2) := by decide +kernel
theorem dX1_digest_182 : decode cX1_digest 182 = .ok (.iload 4, 2) := by decide +kernel
theorem dX1_digest_184 : decode cX1_digest 184 = .ok (.iconst 5, 1) := by decide +kernel
theorem dX1_digest_185 : decode cX1_digest 185 = .ok (.if_icmp .ge 24, 3) := by decide +kernel
theorem dX1_digest_188 : decode cX1_digest 188 = .ok (.lload_n 1, 1) := by decide +kernel
theorem dX1_digest_189 : decode cX1_digest 189 = .ok (.aload_n 0, 1) := by decide +kernel
theorem dX1_digest_190 : decode cX1_digest 190 = .ok (.getfield 12, 3) := by decide +kernel
theorem dX1_digest_193 : decode cX1_digest 193 = .ok (.iload_n 3, 1) := by decide +kernel
theorem dX1_digest_194 : decode cX1_digest 194 = .ok (.iload 4, 2) := by decide +kernel
theorem dX1_digest_196 : decode cX1_digest 196 = .ok (.invokevirtual 86, 3) := by decide +kernel
theorem dX1_digest_199 : decode cX1_digest 199 = .ok (.invokestatic 121, 3) := by decide +kernel
theorem dX1_digest_202 : decode cX1_digest 202 = .ok (.lstore_n 1, 1) := by decide +kernel
theorem dX1_digest_203 : decode cX1_digest 203 = .ok (.iinc 4 1, 3) := by decide +kernel
theorem dX1_digest_206 : decode cX1_digest 206 = .ok (.goto (-24), 3) := by decide +kernel
theorem dX1_digest_209 : decode cX1_digest 209 = .ok (.iinc 3 1, 3) := by decide +kernel
theorem dX1_digest_212 : decode cX1_digest 212 = .ok (.goto (-44), 3) := by decide +kernel
theorem dX1_digest_215 : decode cX1_digest 215 = .ok (.lload_n 1, 1) := by decide +kernel
theorem dX1_digest_216 : decode cX1_digest 216 = .ok (.lreturn, 1) := by decide +kernel
theorem dX1_mix_0 : decode cX1_mix 0 = .ok (.lload_n 0, 1) := by decide +kernel
theorem dX1_mix_1 : decode cX1_mix 1 = .ok (.ldc2_w 125, 3) := by decide +kernel
theorem dX1_mix_4 : decode cX1_mix 4 = .ok (.lmul, 1) := by decide +kernel
theorem dX1_mix_5 : decode cX1_mix 5 = .ok (.iload_n 2, 1) := by decide +kernel
theorem dX1_mix_6 : decode cX1_mix 6 = .ok (.i2l, 1) := by decide +kernel
theorem dX1_mix_7 : decode cX1_mix 7 = .ok (.ladd, 1) := by decide +kernel
theorem dX1_mix_8 : decode cX1_mix 8 = .ok (.lreturn, 1) := by decide +kernel
theorem dX1_requireIndex_0 : decode cX1_requireIndex 0 = .ok (.iload_n 0, 1) := by decide +kernel
theorem dX1_requireIndex_1 : decode cX1_requireIndex 1 = .ok (.iload_n 1, 1) := by decide +kernel
theorem dX1_requireIndex_2 : decode cX1_requireIndex 2 = .ok (.if_icmp .lt 8, 3) := by decide +kernel
theorem dX1_requireIndex_5 : decode cX1_requireIndex 5 = .ok (.iload_n 0, 1) := by decide +kernel
theorem dX1_requireIndex_6 : decode cX1_requireIndex 6 = .ok (.iload_n 2, 1) := by decide +kernel
theorem dX1_requireIndex_7 : decode cX1_requireIndex 7 = .ok (.if_icmp .le 13, 3) := by decide +kernel
theorem dX1_requireIndex_10 : decode cX1_requireIndex 10 = .ok (.new 127, 3) := by decide +kernel
theorem dX1_requireIndex_13 : decode cX1_requireIndex 13 = .ok (.dup, 1) := by decide +kernel
theorem dX1_requireIndex_14 : decode cX1_requireIndex 14 = .ok (.ldc 129, 2) := by decide +kernel
theorem dX1_requireIndex_16 : decode cX1_requireIndex 16 = .ok (.invokespecial 131, 3) := by decide +kernel
theorem dX1_requireIndex_19 : decode cX1_requireIndex 19 = .ok (.athrow, 1) := by decide +kernel
theorem dX1_requireIndex_20 : decode cX1_requireIndex 20 = .ok (.return_, 1) := by decide +kernel
theorem dX1_requireArgument_0 : decode cX1_requireArgument 0 = .ok (.iload_n 0, 1) := by decide +kernel
theorem dX1_requireArgument_1 : decode cX1_requireArgument 1 = .ok (.iload_n 1, 1) := by decide +kernel
theorem dX1_requireArgument_2 : decode cX1_requireArgument 2 = .ok (.if_icmp .lt 8, 3) := by decide +kernel
theorem dX1_requireArgument_5 : decode cX1_requireArgument 5 = .ok (.iload_n 0, 1) := by decide +kernel
theorem dX1_requireArgument_6 : decode cX1_requireArgument 6 = .ok (.iload_n 2, 1) := by decide +kernel
theorem dX1_requireArgument_7 : decode cX1_requireArgument 7 = .ok (.if_icmp .le 13, 3) := by decide +kernel
theorem dX1_requireArgument_10 : decode cX1_requireArgument 10 = .ok (.new 132, 3) := by decide +kernel
theorem dX1_requireArgument_13 : decode cX1_requireArgument 13 = .ok (.dup, 1) := by decide +kernel
theorem dX1_requireArgument_14 : decode cX1_requireArgument 14 = .ok (.ldc 134, 2) := by decide +kernel
theorem dX1_requireArgument_16 : decode cX1_requireArgument 16 = .ok (.invokespecial 136, 3) := by decide +kernel
theorem dX1_requireArgument_19 : decode cX1_requireArgument 19 = .ok (.athrow, 1) := by decide +kernel
theorem dX1_requireArgument_20 : decode cX1_requireArgument 20 = .ok (.return_, 1) := by decide +kernel
