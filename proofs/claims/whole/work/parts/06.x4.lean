set_option maxRecDepth 20000 in
theorem ggX4_init_X2_init : GoodIn wsX4_init wsX2_init := goodIn_r _ [18, 19, 2, 3] (by decide +kernel) (by decide +kernel)
set_option maxRecDepth 20000 in
theorem gX4_init_X2_init_n21 : GoodIn wsX4_init (wsX2_init) := ggX4_init_X2_init
theorem dX4_init_0 : decode cX4_init 0 = .ok (.aload_n 0, 1) := by decide +kernel
theorem dX4_init_1 : decode cX4_init 1 = .ok (.invokespecial 1, 3) := by decide +kernel
theorem dX4_init_4 : decode cX4_init 4 = .ok (.aload_n 0, 1) := by decide +kernel
theorem dX4_init_5 : decode cX4_init 5 = .ok (.bipush 30, 2) := by decide +kernel
theorem dX4_init_7 : decode cX4_init 7 = .ok (.newarray .int, 2) := by decide +kernel
theorem dX4_init_9 : decode cX4_init 9 = .ok (.putfield 9, 3) := by decide +kernel
theorem dX4_init_12 : decode cX4_init 12 = .ok (.aload_n 0, 1) := by decide +kernel
theorem dX4_init_13 : decode cX4_init 13 = .ok (.bipush 10, 2) := by decide +kernel
theorem dX4_init_15 : decode cX4_init 15 = .ok (.anewarray 13, 3) := by decide +kernel
theorem dX4_init_18 : decode cX4_init 18 = .ok (.putfield 15, 3) := by decide +kernel
theorem dX4_init_21 : decode cX4_init 21 = .ok (.aload_n 0, 1) := by decide +kernel
theorem dX4_init_22 : decode cX4_init 22 = .ok (.new 19, 3) := by decide +kernel
theorem dX4_init_25 : decode cX4_init 25 = .ok (.dup, 1) := by decide +kernel
theorem dX4_init_26 : decode cX4_init 26 = .ok (.invokespecial 21, 3) := by decide +kernel
theorem dX4_init_29 : decode cX4_init 29 = .ok (.putfield 22, 3) := by decide +kernel
theorem dX4_init_32 : decode cX4_init 32 = .ok (.aload_n 0, 1) := by decide +kernel
theorem dX4_init_33 : decode cX4_init 33 = .ok (.ldc 26, 2) := by decide +kernel
theorem dX4_init_35 : decode cX4_init 35 = .ok (.putfield 27, 3) := by decide +kernel
theorem dX4_init_38 : decode cX4_init 38 = .ok (.aload_n 0, 1) := by decide +kernel
theorem dX4_init_39 : decode cX4_init 39 = .ok (.ldc2_w 31, 3) := by decide +kernel
theorem dX4_init_42 : decode cX4_init 42 = .ok (.putfield 33, 3) := by decide +kernel
theorem dX4_init_45 : decode cX4_init 45 = .ok (.aload_n 0, 1) := by decide +kernel
theorem dX4_init_46 : decode cX4_init 46 = .ok (.sipush 300, 3) := by decide +kernel
theorem dX4_init_49 : decode cX4_init 49 = .ok (.putfield 37, 3) := by decide +kernel
theorem dX4_init_52 : decode cX4_init 52 = .ok (.return_, 1) := by decide +kernel
set_option maxRecDepth 20000 in
theorem ggX4_later_X4_requireDate : GoodIn wsX4_later wsX4_requireDate := goodIn_ca (goodIn_r _ [7, 1, 2, 8, 9, 10, 11, 12, 13, 14, 15, 16, 17, 18, 19, 20, 21, 22, 23, 24, 25] (by decide +kernel) (by decide +kernel)) (goodIn_sub (fun _ h => List.mem_cons_of_mem _ (List.mem_append_right _ h)) (by decide +kernel))
set_option maxRecDepth 20000 in
theorem gX4_later_X4_requireDate : GoodIn wsX4_later (va_wsS RX4 40 yX4_requireDate wsX4_requireDate) := goodIn_app (goodIn_of _ (by decide +kernel)) ggX4_later_X4_requireDate
set_option maxRecDepth 20000 in
theorem ggX4_later_X1_dayNumber : GoodIn wsX4_later wsX1_dayNumber := goodIn_r _ [28, 29] (by decide +kernel) (by decide +kernel)
set_option maxRecDepth 20000 in
theorem gX4_later_X1_dayNumber : GoodIn wsX4_later (va_wsS RX4 51 yX1_dayNumber wsX1_dayNumber) := goodIn_app (goodIn_of _ (by decide +kernel)) ggX4_later_X1_dayNumber
set_option maxRecDepth 20000 in
theorem ggX4_later_X1_dateOf : GoodIn wsX4_later wsX1_dateOf := goodIn_r _ [32, 23, 24, 10, 25] (by decide +kernel) (by decide +kernel)
set_option maxRecDepth 20000 in
theorem gX4_later_X1_dateOf : GoodIn wsX4_later (va_wsS RX4 60 yX1_dateOf wsX1_dateOf) := goodIn_app (goodIn_of _ (by decide +kernel)) ggX4_later_X1_dateOf
theorem dX4_later_0 : decode cX4_later 0 = .ok (.iload_n 1, 1) := by decide +kernel
theorem dX4_later_1 : decode cX4_later 1 = .ok (.invokestatic 40, 3) := by decide +kernel
theorem dX4_later_4 : decode cX4_later 4 = .ok (.iload_n 2, 1) := by decide +kernel
theorem dX4_later_5 : decode cX4_later 5 = .ok (.sipush (-1000), 3) := by decide +kernel
theorem dX4_later_8 : decode cX4_later 8 = .ok (.if_icmp .lt 10, 3) := by decide +kernel
theorem dX4_later_11 : decode cX4_later 11 = .ok (.iload_n 2, 1) := by decide +kernel
theorem dX4_later_12 : decode cX4_later 12 = .ok (.sipush 1000, 3) := by decide +kernel
theorem dX4_later_15 : decode cX4_later 15 = .ok (.if_icmp .le 13, 3) := by decide +kernel
theorem dX4_later_18 : decode cX4_later 18 = .ok (.new 44, 3) := by decide +kernel
theorem dX4_later_21 : decode cX4_later 21 = .ok (.dup, 1) := by decide +kernel
theorem dX4_later_22 : decode cX4_later 22 = .ok (.ldc 46, 2) := by decide +kernel
theorem dX4_later_24 : decode cX4_later 24 = .ok (.invokespecial 48, 3) := by decide +kernel
theorem dX4_later_27 : decode cX4_later 27 = .ok (.athrow, 1) := by decide +kernel
theorem dX4_later_28 : decode cX4_later 28 = .ok (.iload_n 1, 1) := by decide +kernel
theorem dX4_later_29 : decode cX4_later 29 = .ok (.invokestatic 51, 3) := by decide +kernel
theorem dX4_later_32 : decode cX4_later 32 = .ok (.iload_n 2, 1) := by decide +kernel
theorem dX4_later_33 : decode cX4_later 33 = .ok (.iadd, 1) := by decide +kernel
theorem dX4_later_34 : decode cX4_later 34 = .ok (.istore_n 3, 1) := by decide +kernel
theorem dX4_later_35 : decode cX4_later 35 = .ok (.iload_n 3, 1) := by decide +kernel
theorem dX4_later_36 : decode cX4_later 36 = .ok (.ifCond .lt 12, 3) := by decide +kernel
theorem dX4_later_39 : decode cX4_later 39 = .ok (.iload_n 3, 1) := by decide +kernel
theorem dX4_later_40 : decode cX4_later 40 = .ok (.ldc 57, 2) := by decide +kernel
theorem dX4_later_42 : decode cX4_later 42 = .ok (.invokestatic 51, 3) := by decide +kernel
theorem dX4_later_45 : decode cX4_later 45 = .ok (.if_icmp .le 13, 3) := by decide +kernel
theorem dX4_later_48 : decode cX4_later 48 = .ok (.new 44, 3) := by decide +kernel
theorem dX4_later_51 : decode cX4_later 51 = .ok (.dup, 1) := by decide +kernel
theorem dX4_later_52 : decode cX4_later 52 = .ok (.ldc 58, 2) := by decide +kernel
theorem dX4_later_54 : decode cX4_later 54 = .ok (.invokespecial 48, 3) := by decide +kernel
theorem dX4_later_57 : decode cX4_later 57 = .ok (.athrow, 1) := by decide +kernel
theorem dX4_later_58 : decode cX4_later 58 = .ok (.iload_n 3, 1) := by decide +kernel
theorem dX4_later_59 : decode cX4_later 59 = .ok (.invokestatic 60, 3) := by decide +kernel
theorem dX4_later_62 : decode cX4_later 62 = .ok (.ireturn, 1) := by decide +kernel
set_option maxRecDepth 20000 in
theorem ggX4_weekday_X4_requireDate : GoodIn wsX4_weekday wsX4_requireDate := goodIn_ca (goodIn_r _ [4, 5, 6, 7, 8, 9, 10, 11, 12, 13, 14, 15, 16, 17, 18, 19, 20, 21, 22, 23, 24] (by decide +kernel) (by decide +kernel)) (goodIn_sub (fun _ h => List.mem_cons_of_mem _ (List.mem_append_right _ h)) (by decide +kernel))
set_option maxRecDepth 20000 in
theorem gX4_weekday_X4_requireDate : GoodIn wsX4_weekday (va_wsS RX4 40 yX4_requireDate wsX4_requireDate) := goodIn_app (goodIn_of _ (by decide +kernel)) ggX4_weekday_X4_requireDate
set_option maxRecDepth 20000 in
theorem ggX4_weekday_X1_dayNumber : GoodIn wsX4_weekday wsX1_dayNumber := goodIn_r _ [27, 28] (by decide +kernel) (by decide +kernel)
set_option maxRecDepth 20000 in
theorem gX4_weekday_X1_dayNumber : GoodIn wsX4_weekday (va_wsS RX4 51 yX1_dayNumber wsX1_dayNumber) := goodIn_app (goodIn_of _ (by decide +kernel)) ggX4_weekday_X1_dayNumber
set_option maxRecDepth 20000 in
theorem ggX4_weekday_X1_dayOfWeek : GoodIn wsX4_weekday wsX1_dayOfWeek := goodIn_r _ [31] (by decide +kernel) (by decide +kernel)
set_option maxRecDepth 20000 in
theorem gX4_weekday_X1_dayOfWeek : GoodIn wsX4_weekday (va_wsS RX4 63 yX1_dayOfWeek wsX1_dayOfWeek) := goodIn_app (goodIn_of _ (by decide +kernel)) ggX4_weekday_X1_dayOfWeek
theorem dX4_weekday_0 : decode cX4_weekday 0 = .ok (.iload_n 1, 1) := by decide +kernel
theorem dX4_weekday_1 : decode cX4_weekday 1 = .ok (.invokestatic 40, 3) := by decide +kernel
theorem dX4_weekday_4 : decode cX4_weekday 4 = .ok (.iload_n 1, 1) := by decide +kernel
theorem dX4_weekday_5 : decode cX4_weekday 5 = .ok (.invokestatic 51, 3) := by decide +kernel
theorem dX4_weekday_8 : decode cX4_weekday 8 = .ok (.invokestatic 63, 3) := by decide +kernel
theorem dX4_weekday_11 : decode cX4_weekday 11 = .ok (.ireturn, 1) := by decide +kernel
set_option maxRecDepth 20000 in
theorem ggX4_addHoliday_X4_requireDate : GoodIn wsX4_addHoliday wsX4_requireDate := goodIn_ca (goodIn_r _ [8, 9, 10, 11, 12, 13, 14, 15, 16, 17, 18, 19, 20, 21, 22, 23, 24, 25, 26, 27, 28] (by decide +kernel) (by decide +kernel)) (goodIn_sub (fun _ h => List.mem_cons_of_mem _ (List.mem_append_right _ h)) (by decide +kernel))
set_option maxRecDepth 20000 in
theorem gX4_addHoliday_X4_requireDate : GoodIn wsX4_addHoliday (va_wsS RX4 40 yX4_requireDate wsX4_requireDate) := goodIn_app (goodIn_of _ (by decide +kernel)) ggX4_addHoliday_X4_requireDate
set_option maxRecDepth 20000 in
theorem ggX4_addHoliday_X4_isHoliday : GoodIn wsX4_addHoliday wsX4_isHoliday := goodIn_r _ [32, 4, 33, 34, 35, 36, 37, 38, 39, 40] (by decide +kernel) (by decide +kernel)
set_option maxRecDepth 20000 in
theorem gX4_addHoliday_X4_isHoliday : GoodIn wsX4_addHoliday (wsV RX4 66 RX4 yX4_isHoliday wsX4_isHoliday) := goodIn_app (goodIn_of _ (by decide +kernel)) ggX4_addHoliday_X4_isHoliday
theorem dX4_addHoliday_0 : decode cX4_addHoliday 0 = .ok (.iload_n 1, 1) := by decide +kernel
theorem dX4_addHoliday_1 : decode cX4_addHoliday 1 = .ok (.invokestatic 40, 3) := by decide +kernel
theorem dX4_addHoliday_4 : decode cX4_addHoliday 4 = .ok (.aload_n 0, 1) := by decide +kernel
theorem dX4_addHoliday_5 : decode cX4_addHoliday 5 = .ok (.iload_n 1, 1) := by decide +kernel
theorem dX4_addHoliday_6 : decode cX4_addHoliday 6 = .ok (.invokevirtual 66, 3) := by decide +kernel
theorem dX4_addHoliday_9 : decode cX4_addHoliday 9 = .ok (.ifCond .eq 8, 3) := by decide +kernel
theorem dX4_addHoliday_12 : decode cX4_addHoliday 12 = .ok (.aload_n 0, 1) := by decide +kernel
theorem dX4_addHoliday_13 : decode cX4_addHoliday 13 = .ok (.getfield 70, 3) := by decide +kernel
theorem dX4_addHoliday_16 : decode cX4_addHoliday 16 = .ok (.ireturn, 1) := by decide +kernel
theorem dX4_addHoliday_17 : decode cX4_addHoliday 17 = .ok (.aload_n 0, 1) := by decide +kernel
theorem dX4_addHoliday_18 : decode cX4_addHoliday 18 = .ok (.getfield 70, 3) := by decide +kernel
theorem dX4_addHoliday_21 : decode cX4_addHoliday 21 = .ok (.ifCond .lt 15, 3) := by decide +kernel
theorem dX4_addHoliday_24 : decode cX4_addHoliday 24 = .ok (.aload_n 0, 1) := by decide +kernel
theorem dX4_addHoliday_25 : decode cX4_addHoliday 25 = .ok (.getfield 70, 3) := by decide +kernel
theorem dX4_addHoliday_28 : decode cX4_addHoliday 28 = .ok (.aload_n 0, 1) := by decide +kernel
theorem dX4_addHoliday_29 : decode cX4_addHoliday 29 = .ok (.getfield 9, 3) := by decide +kernel
theorem dX4_addHoliday_32 : decode cX4_addHoliday 32 = .ok (.arraylength, 1) := by decide +kernel
theorem dX4_addHoliday_33 : decode cX4_addHoliday 33 = .ok (.if_icmp .lt 13, 3) := by decide +kernel
theorem dX4_addHoliday_36 : decode cX4_addHoliday 36 = .ok (.new 73, 3) := by decide +kernel
theorem dX4_addHoliday_39 : decode cX4_addHoliday 39 = .ok (.dup, 1) := by decide +kernel
theorem dX4_addHoliday_40 : decode cX4_addHoliday 40 = .ok (.ldc 75, 2) := by decide +kernel
theorem dX4_addHoliday_42 : decode cX4_addHoliday 42 = .ok (.invokespecial 77, 3) := by decide +kernel
theorem dX4_addHoliday_45 : decode cX4_addHoliday 45 = .ok (.athrow, 1) := by decide +kernel
theorem dX4_addHoliday_46 : decode cX4_addHoliday 46 = .ok (.aload_n 0, 1) := by decide +kernel
theorem dX4_addHoliday_47 : decode cX4_addHoliday 47 = .ok (.getfield 9, 3) := by decide +kernel
theorem dX4_addHoliday_50 : decode cX4_addHoliday 50 = .ok (.aload_n 0, 1) := by decide +kernel
theorem dX4_addHoliday_51 : decode cX4_addHoliday 51 = .ok (.getfield 70, 3) := by decide +kernel
theorem dX4_addHoliday_54 : decode cX4_addHoliday 54 = .ok (.iload_n 1, 1) := by decide +kernel
theorem dX4_addHoliday_55 : decode cX4_addHoliday 55 = .ok (.iastore, 1) := by decide +kernel
theorem dX4_addHoliday_56 : decode cX4_addHoliday 56 = .ok (.aload_n 0, 1) := by decide +kernel
theorem dX4_addHoliday_57 : decode cX4_addHoliday 57 = .ok (.dup, 1) := by decide +kernel
theorem dX4_addHoliday_58 : decode cX4_addHoliday 58 = .ok (.getfield 70, 3) := by decide +kernel
theorem dX4_addHoliday_61 : decode cX4_addHoliday 61 = .ok (.iconst 1, 1) := by decide +kernel
theorem dX4_addHoliday_62 : decode cX4_addHoliday 62 = .ok (.iadd, 1) := by decide +kernel
theorem dX4_addHoliday_63 : decode cX4_addHoliday 63 = .ok (.putfield 70, 3) := by decide +kernel
theorem dX4_addHoliday_66 : decode cX4_addHoliday 66 = .ok (.aload_n 0, 1) := by decide +kernel
theorem dX4_addHoliday_67 : decode cX4_addHoliday 67 = .ok (.getfield 70, 3) := by decide +kernel
theorem dX4_addHoliday_70 : decode cX4_addHoliday 70 = .ok (.ireturn, 1) := by decide +kernel
set_option maxRecDepth 20000 in
theorem ggX4_working_X4_requireDate : GoodIn wsX4_working wsX4_requireDate := goodIn_ca (goodIn_r _ [7, 1, 2, 8, 9, 10, 11, 12, 13, 14, 15, 16, 17, 18, 19, 20, 21, 22, 23, 24, 25] (by decide +kernel) (by decide +kernel)) (goodIn_sub (fun _ h => List.mem_cons_of_mem _ (List.mem_append_right _ h)) (by decide +kernel))
set_option maxRecDepth 20000 in
theorem gX4_working_X4_requireDate : GoodIn wsX4_working (va_wsS RX4 40 yX4_requireDate wsX4_requireDate) := goodIn_app (goodIn_of _ (by decide +kernel)) ggX4_working_X4_requireDate
set_option maxRecDepth 20000 in
theorem ggX4_working_X4_nextWorkingDate : GoodIn wsX4_working wsX4_nextWorkingDate := goodIn_r _ [29, 30, 31, 10, 32, 33, 34, 35, 36, 6, 37, 38, 39, 40, 41, 42, 43, 23, 24, 25, 44, 45, 46, 47, 48, 49, 50, 51, 52, 53, 54, 55, 56] (by decide +kernel) (by decide +kernel)
set_option maxRecDepth 20000 in
theorem gX4_working_X4_nextWorkingDate : GoodIn wsX4_working (wsV RX4 81 RX4 yX4_nextWorkingDate wsX4_nextWorkingDate) := goodIn_app (goodIn_of _ (by decide +kernel)) ggX4_working_X4_nextWorkingDate
theorem dX4_working_0 : decode cX4_working 0 = .ok (.iload_n 1, 1) := by decide +kernel
theorem dX4_working_1 : decode cX4_working 1 = .ok (.invokestatic 40, 3) := by decide +kernel
theorem dX4_working_4 : decode cX4_working 4 = .ok (.iload_n 1, 1) := by decide +kernel
theorem dX4_working_5 : decode cX4_working 5 = .ok (.ldc 78, 2) := by decide +kernel
theorem dX4_working_7 : decode cX4_working 7 = .ok (.if_icmp .le 13, 3) := by decide +kernel
theorem dX4_working_10 : decode cX4_working 10 = .ok (.new 44, 3) := by decide +kernel
theorem dX4_working_13 : decode cX4_working 13 = .ok (.dup, 1) := by decide +kernel
theorem dX4_working_14 : decode cX4_working 14 = .ok (.ldc 79, 2) := by decide +kernel
theorem dX4_working_16 : decode cX4_working 16 = .ok (.invokespecial 48, 3) := by decide +kernel
theorem dX4_working_19 : decode cX4_working 19 = .ok (.athrow, 1) := by decide +kernel
theorem dX4_working_20 : decode cX4_working 20 = .ok (.aload_n 0, 1) := by decide +kernel
theorem dX4_working_21 : decode cX4_working 21 = .ok (.iload_n 1, 1) := by decide +kernel
theorem dX4_working_22 : decode cX4_working 22 = .ok (.invokevirtual 81, 3) := by decide +kernel
theorem dX4_working_25 : decode cX4_working 25 = .ok (.ireturn, 1) := by decide +kernel
set_option maxRecDepth 20000 in
theorem ggX4_requireDate_X1_isDate : GoodIn wsX4_requireDate wsX1_isDate := goodIn_r _ [6, 7, 8, 9, 10, 5, 11, 12, 13, 14, 15, 16, 17, 18, 19, 20] (by decide +kernel) (by decide +kernel)
set_option maxRecDepth 20000 in
theorem gX4_requireDate_X1_isDate : GoodIn wsX4_requireDate (va_wsS RX4 84 yX1_isDate wsX1_isDate) := goodIn_app (goodIn_of _ (by decide +kernel)) ggX4_requireDate_X1_isDate
theorem dX4_requireDate_0 : decode cX4_requireDate 0 = .ok (.iload_n 0, 1) := by decide +kernel
theorem dX4_requireDate_1 : decode cX4_requireDate 1 = .ok (.invokestatic 84, 3) := by decide +kernel
theorem dX4_requireDate_4 : decode cX4_requireDate 4 = .ok (.ifCond .ne 13, 3) := by decide +kernel
theorem dX4_requireDate_7 : decode cX4_requireDate 7 = .ok (.new 44, 3) := by decide +kernel
theorem dX4_requireDate_10 : decode cX4_requireDate 10 = .ok (.dup, 1) := by decide +kernel
theorem dX4_requireDate_11 : decode cX4_requireDate 11 = .ok (.ldc 87, 2) := by decide +kernel
theorem dX4_requireDate_13 : decode cX4_requireDate 13 = .ok (.invokespecial 48, 3) := by decide +kernel
theorem dX4_requireDate_16 : decode cX4_requireDate 16 = .ok (.athrow, 1) := by decide +kernel
theorem dX4_requireDate_17 : decode cX4_requireDate 17 = .ok (.return_, 1) := by decide +kernel
theorem dX4_isHoliday_0 : decode cX4_isHoliday 0 = .ok (.aload_n 0, 1) := by decide +kernel
theorem dX4_isHoliday_1 : decode cX4_isHoliday 1 = .ok (.getfield 9, 3) := by decide +kernel
theorem dX4_isHoliday_4 : decode cX4_isHoliday 4 = .ok (.astore_n 2, 1) := by decide +kernel
theorem dX4_isHoliday_5 : decode cX4_isHoliday 5 = .ok (.aload_n 2, 1) := by decide +kernel
theorem dX4_isHoliday_6 : decode cX4_isHoliday 6 = .ok (.arraylength, 1) := by decide +kernel
theorem dX4_isHoliday_7 : decode cX4_isHoliday 7 = .ok (.istore_n 3, 1) := by decide +kernel
theorem dX4_isHoliday_8 : decode cX4_isHoliday 8 = .ok (.iconst 0, 1) := by decide +kernel
theorem dX4_isHoliday_9 : decode cX4_isHoliday 9 = .ok (.istore 4, 2) := by decide +kernel
theorem dX4_isHoliday_11 : decode cX4_isHoliday 11 = .ok (.iload 4, 2) := by decide +kernel
theorem dX4_isHoliday_13 : decode cX4_isHoliday 13 = .ok (.iload_n 3, 1) := by decide +kernel
theorem dX4_isHoliday_14 : decode cX4_isHoliday 14 = .ok (.if_icmp .ge 23, 3) := by decide +kernel
theorem dX4_isHoliday_17 : decode cX4_isHoliday 17 = .ok (.aload_n 2, 1) := by decide +kernel
theorem dX4_isHoliday_18 : decode cX4_isHoliday 18 = .ok (.iload 4, 2) := by decide +kernel
theorem dX4_isHoliday_20 : decode cX4_isHoliday 20 = .ok (.iaload, 1) := by decide +kernel
theorem dX4_isHoliday_21 : decode cX4_isHoliday 21 = .ok (.istore 5, 2) := by decide +kernel
theorem dX4_isHoliday_23 : decode cX4_isHoliday 23 = .ok (.iload 5, 2) := by decide +kernel
theorem dX4_isHoliday_25 : decode cX4_isHoliday 25 = .ok (.iload_n 1, 1) := by decide +kernel
theorem dX4_isHoliday_26 : decode cX4_isHoliday 26 = .ok (.if_icmp .ne 5, 3) := by decide +kernel
theorem dX4_isHoliday_29 : decode cX4_isHoliday 29 = .ok (.iconst 1, 1) := by decide +kernel
theorem dX4_isHoliday_30 : decode cX4_isHoliday 30 = .ok (.ireturn, 1) := by decide +kernel
theorem dX4_isHoliday_31 : decode cX4_isHoliday 31 = .ok (.iinc 4 1, 3) := by decide +kernel
theorem dX4_isHoliday_34 : decode cX4_isHoliday 34 = .ok (.goto (-23), 3) := by decide +kernel
theorem dX4_isHoliday_37 : decode cX4_isHoliday 37 = .ok (.iconst 0, 1) := by decide +kernel
theorem dX4_isHoliday_38 : decode cX4_isHoliday 38 = .ok (.ireturn, 1) := by decide +kernel
set_option maxRecDepth 20000 in
theorem ggX4_isWorkingDay_X1_dayOfWeek : GoodIn wsX4_isWorkingDay wsX1_dayOfWeek := goodIn_r _ [4] (by decide +kernel) (by decide +kernel)
set_option maxRecDepth 20000 in
theorem gX4_isWorkingDay_X1_dayOfWeek : GoodIn wsX4_isWorkingDay (va_wsS RX4 63 yX1_dayOfWeek wsX1_dayOfWeek) := goodIn_app (goodIn_of _ (by decide +kernel)) ggX4_isWorkingDay_X1_dayOfWeek
set_option maxRecDepth 20000 in
theorem ggX4_isWorkingDay_X1_dateOf : GoodIn wsX4_isWorkingDay wsX1_dateOf := goodIn_r _ [7, 8, 9, 3, 10] (by decide +kernel) (by decide +kernel)
set_option maxRecDepth 20000 in
theorem gX4_isWorkingDay_X1_dateOf : GoodIn wsX4_isWorkingDay (va_wsS RX4 60 yX1_dateOf wsX1_dateOf) := goodIn_app (goodIn_of _ (by decide +kernel)) ggX4_isWorkingDay_X1_dateOf
set_option maxRecDepth 20000 in
theorem ggX4_isWorkingDay_X4_isHoliday : GoodIn wsX4_isWorkingDay wsX4_isHoliday := goodIn_r _ [15, 16, 17, 18, 19, 20, 21, 22, 23, 24] (by decide +kernel) (by decide +kernel)
set_option maxRecDepth 20000 in
theorem gX4_isWorkingDay_X4_isHoliday : GoodIn wsX4_isWorkingDay (wsV RX4 66 RX4 yX4_isHoliday wsX4_isHoliday) := goodIn_app (goodIn_of _ (by decide +kernel)) ggX4_isWorkingDay_X4_isHoliday
theorem dX4_isWorkingDay_0 : decode cX4_isWorkingDay 0 = .ok (.iload_n 1, 1) := by decide +kernel
theorem dX4_isWorkingDay_1 : decode cX4_isWorkingDay 1 = .ok (.invokestatic 63, 3) := by decide +kernel
theorem dX4_isWorkingDay_4 : decode cX4_isWorkingDay 4 = .ok (.iconst 5, 1) := by decide +kernel
theorem dX4_isWorkingDay_5 : decode cX4_isWorkingDay 5 = .ok (.if_icmp .ge 18, 3) := by decide +kernel
theorem dX4_isWorkingDay_8 : decode cX4_isWorkingDay 8 = .ok (.aload_n 0, 1) := by decide +kernel
theorem dX4_isWorkingDay_9 : decode cX4_isWorkingDay 9 = .ok (.iload_n 1, 1) := by decide +kernel
theorem dX4_isWorkingDay_10 : decode cX4_isWorkingDay 10 = .ok (.invokestatic 60, 3) := by decide +kernel
theorem dX4_isWorkingDay_13 : decode cX4_isWorkingDay 13 = .ok (.invokevirtual 66, 3) := by decide +kernel
theorem dX4_isWorkingDay_16 : decode cX4_isWorkingDay 16 = .ok (.ifCond .ne 7, 3) := by decide +kernel
theorem dX4_isWorkingDay_19 : decode cX4_isWorkingDay 19 = .ok (.iconst 1, 1) := by decide +kernel
theorem dX4_isWorkingDay_20 : decode cX4_isWorkingDay 20 = .ok (.goto 4, 3) := by decide +kernel
theorem dX4_isWorkingDay_23 : decode cX4_isWorkingDay 23 = .ok (.iconst 0, 1) := by decide +kernel
theorem dX4_isWorkingDay_24 : decode cX4_isWorkingDay 24 = .ok (.ireturn, 1) := by decide +kernel
set_option maxRecDepth 20000 in
theorem ggX4_nextWorkingDate_X1_dayNumber : GoodIn wsX4_nextWorkingDate wsX1_dayNumber := goodIn_r _ [4, 5] (by decide +kernel) (by decide +kernel)
set_option maxRecDepth 20000 in
theorem gX4_nextWorkingDate_X1_dayNumber : GoodIn wsX4_nextWorkingDate (va_wsS RX4 51 yX1_dayNumber wsX1_dayNumber) := goodIn_app (goodIn_of _ (by decide +kernel)) ggX4_nextWorkingDate_X1_dayNumber
set_option maxRecDepth 20000 in
theorem ggX4_nextWorkingDate_X4_isWorkingDay : GoodIn wsX4_nextWorkingDate wsX4_isWorkingDay := goodIn_r _ [10, 11, 12, 3, 13, 14, 15, 16, 17, 18, 19, 20, 21, 22, 9, 23, 24, 25, 26, 27, 28, 29, 30, 31, 32] (by decide +kernel) (by decide +kernel)
set_option maxRecDepth 20000 in
theorem gX4_nextWorkingDate_X4_isWorkingDay : GoodIn wsX4_nextWorkingDate (wsV RX4 89 RX4 yX4_isWorkingDay wsX4_isWorkingDay) := goodIn_app (goodIn_of _ (by decide +kernel)) ggX4_nextWorkingDate_X4_isWorkingDay
set_option maxRecDepth 20000 in
theorem ggX4_nextWorkingDate_X1_dateOf : GoodIn wsX4_nextWorkingDate wsX1_dateOf := goodIn_r _ [16, 17, 18, 3, 19] (by decide +kernel) (by decide +kernel)
set_option maxRecDepth 20000 in
theorem gX4_nextWorkingDate_X1_dateOf : GoodIn wsX4_nextWorkingDate (va_wsS RX4 60 yX1_dateOf wsX1_dateOf) := goodIn_app (goodIn_of _ (by decide +kernel)) ggX4_nextWorkingDate_X1_dateOf
theorem dX4_nextWorkingDate_0 : decode cX4_nextWorkingDate 0 = .ok (.iload_n 1, 1) := by decide +kernel
theorem dX4_nextWorkingDate_1 : decode cX4_nextWorkingDate 1 = .ok (.invokestatic 51, 3) := by decide +kernel
theorem dX4_nextWorkingDate_4 : decode cX4_nextWorkingDate 4 = .ok (.istore_n 2, 1) := by decide +kernel
theorem dX4_nextWorkingDate_5 : decode cX4_nextWorkingDate 5 = .ok (.iconst 0, 1) := by decide +kernel
theorem dX4_nextWorkingDate_6 : decode cX4_nextWorkingDate 6 = .ok (.istore_n 3, 1) := by decide +kernel
theorem dX4_nextWorkingDate_7 : decode cX4_nextWorkingDate 7 = .ok (.iload_n 3, 1) := by decide +kernel
theorem dX4_nextWorkingDate_8 : decode cX4_nextWorkingDate 8 = .ok (.bipush 100, 2) := by decide +kernel
theorem dX4_nextWorkingDate_10 : decode cX4_nextWorkingDate 10 = .ok (.if_icmp .ge 26, 3) := by decide +kernel
theorem dX4_nextWorkingDate_13 : decode cX4_nextWorkingDate 13 = .ok (.aload_n 0, 1) := by decide +kernel
theorem dX4_nextWorkingDate_14 : decode cX4_nextWorkingDate 14 = .ok (.iload_n 2, 1) := by decide +kernel
theorem dX4_nextWorkingDate_15 : decode cX4_nextWorkingDate 15 = .ok (.iload_n 3, 1) := by decide +kernel
theorem dX4_nextWorkingDate_16 : decode cX4_nextWorkingDate 16 = .ok (.iadd, 1) := by decide +kernel
theorem dX4_nextWorkingDate_17 : decode cX4_nextWorkingDate 17 = .ok (.invokevirtual 89, 3) := by decide +kernel
theorem dX4_nextWorkingDate_20 : decode cX4_nextWorkingDate 20 = .ok (.ifCond .eq 10, 3) := by decide +kernel
theorem dX4_nextWorkingDate_23 : decode cX4_nextWorkingDate 23 = .ok (.iload_n 2, 1) := by decide +kernel
theorem dX4_nextWorkingDate_24 : decode cX4_nextWorkingDate 24 = .ok (.iload_n 3, 1) := by decide +kernel
theorem dX4_nextWorkingDate_25 : decode cX4_nextWorkingDate 25 = .ok (.iadd, 1) := by decide +kernel
theorem dX4_nextWorkingDate_26 : decode cX4_nextWorkingDate 26 = .ok (.invokestatic 60, 3) := by decide +kernel
theorem dX4_nextWorkingDate_29 : decode cX4_nextWorkingDate 29 = .ok (.ireturn, 1) := by decide +kernel
theorem dX4_nextWorkingDate_30 : decode cX4_nextWorkingDate 30 = .ok (.iinc 3 1, 3) := by decide +kernel
theorem dX4_nextWorkingDate_33 : decode cX4_nextWorkingDate 33 = .ok (.goto (-26), 3) := by decide +kernel
theorem dX4_nextWorkingDate_36 : decode cX4_nextWorkingDate 36 = .ok (.iload_n 1, 1) := by decide +kernel
theorem dX4_nextWorkingDate_37 : decode cX4_nextWorkingDate 37 = .ok (.ireturn, 1) := by decide +kernel
set_option maxRecDepth 20000 in
theorem ggX4_addBond_X4_requireLife : GoodIn wsX4_addBond wsX4_requireLife := goodIn_ca (goodIn_r _ [19, 1, 2, 20, 14, 21, 22, 18, 23, 24, 25, 26, 27, 28, 29, 30, 31, 32, 33, 34, 35, 36, 37, 38, 39, 40, 41, 114, 115, 116, 117, 118, 119, 120, 121] (by decide +kernel) (by decide +kernel)) (goodIn_sub (fun _ h => List.mem_cons_of_mem _ (List.mem_append_left _ (List.mem_append_right _ h))) (by decide +kernel))
set_option maxRecDepth 20000 in
theorem gX4_addBond_X4_requireLife : GoodIn wsX4_addBond (wsV RX4 92 RX4 yX4_requireLife wsX4_requireLife) := goodIn_app (goodIn_of _ (by decide +kernel)) ggX4_addBond_X4_requireLife
set_option maxRecDepth 20000 in
theorem ggX4_addBond_X4_requireTerms : GoodIn wsX4_addBond wsX4_requireTerms := goodIn_ca (goodIn_r _ [44, 1, 2, 45, 46, 18, 47] (by decide +kernel) (by decide +kernel)) (goodIn_sub (fun _ h => List.mem_cons_of_mem _ (List.mem_append_left _ (List.mem_append_right _ h))) (by decide +kernel))
set_option maxRecDepth 20000 in
theorem gX4_addBond_X4_requireTerms : GoodIn wsX4_addBond (va_wsS RX4 96 yX4_requireTerms wsX4_requireTerms) := goodIn_app (goodIn_of _ (by decide +kernel)) ggX4_addBond_X4_requireTerms
set_option maxRecDepth 20000 in
theorem ggX4_addBond_X3_countCoupons : GoodIn wsX4_addBond wsX3_countCoupons := goodIn_r _ [50, 51, 52, 13, 53, 54, 55, 26, 56, 57, 58, 59, 60, 36, 37, 38, 30, 31, 32, 39, 40, 41, 33, 34, 35] (by decide +kernel) (by decide +kernel)
set_option maxRecDepth 20000 in
theorem gX4_addBond_X3_countCoupons : GoodIn wsX4_addBond (va_wsS RX4 100 yX3_countCoupons wsX3_countCoupons) := goodIn_app (goodIn_of _ (by decide +kernel)) ggX4_addBond_X3_countCoupons
set_option maxRecDepth 20000 in
theorem ggX4_addBond_X3_dateBack : GoodIn wsX4_addBond wsX3_dateBack := goodIn_r _ [53, 54, 55, 26, 56, 57, 58, 59, 60, 36, 37, 38, 30, 31, 32, 39, 40, 41, 33, 34, 35] (by decide +kernel) (by decide +kernel)
set_option maxRecDepth 20000 in
theorem gX4_addBond_X3_dateBack : GoodIn wsX4_addBond (va_wsS RX4 108 yX3_dateBack wsX3_dateBack) := goodIn_app (goodIn_of _ (by decide +kernel)) ggX4_addBond_X3_dateBack
set_option maxRecDepth 20000 in
theorem ggX4_addBond_X3_init : GoodIn wsX4_addBond wsX3_init := goodIn_r _ [64, 65, 66, 67, 68, 69, 70, 71, 72, 73, 74, 58, 59, 60, 75, 76, 77, 78, 79, 80, 81, 51, 52, 13, 53, 54, 55, 26, 56, 57, 36, 37, 38, 30, 31, 32, 39, 40, 41, 33, 34, 35, 82, 83, 84, 85, 86, 87, 88, 89, 90, 91, 92, 93, 94, 95, 96, 97, 98, 99, 100, 101, 102, 131, 132, 133, 134, 135, 136, 137, 138, 139] (by decide +kernel) (by decide +kernel)
set_option maxRecDepth 20000 in
theorem gX4_addBond_X3_init : GoodIn wsX4_addBond (wsX3_init) := ggX4_addBond_X3_init
set_option maxRecDepth 20000 in
theorem ggX4_addBond_X0_init : GoodIn wsX4_addBond wsX0_init := goodIn_r _ [105, 106, 66, 67, 107, 108, 109, 110, 111, 112, 13, 113, 79, 122, 123, 124, 125, 126, 127, 128, 129, 130, 131, 132, 133, 134, 135, 136, 137, 138, 139] (by decide +kernel) (by decide +kernel)
set_option maxRecDepth 20000 in
theorem gX4_addBond_X0_init : GoodIn wsX4_addBond (wsX0_init) := ggX4_addBond_X0_init
theorem dX4_addBond_0 : decode cX4_addBond 0 = .ok (.aload_n 0, 1) := by decide +kernel
theorem dX4_addBond_1 : decode cX4_addBond 1 = .ok (.iload_n 1, 1) := by decide +kernel
theorem dX4_addBond_2 : decode cX4_addBond 2 = .ok (.iload_n 2, 1) := by decide +kernel
theorem dX4_addBond_3 : decode cX4_addBond 3 = .ok (.invokevirtual 92, 3) := by decide +kernel
theorem dX4_addBond_6 : decode cX4_addBond 6 = .ok (.iload_n 3, 1) := by decide +kernel
theorem dX4_addBond_7 : decode cX4_addBond 7 = .ok (.iload 4, 2) := by decide +kernel
theorem dX4_addBond_9 : decode cX4_addBond 9 = .ok (.iload 5, 2) := by decide +kernel
theorem dX4_addBond_11 : decode cX4_addBond 11 = .ok (.invokestatic 96, 3) := by decide +kernel
theorem dX4_addBond_14 : decode cX4_addBond 14 = .ok (.iload_n 1, 1) := by decide +kernel
theorem dX4_addBond_15 : decode cX4_addBond 15 = .ok (.iload_n 2, 1) := by decide +kernel
theorem dX4_addBond_16 : decode cX4_addBond 16 = .ok (.iload 4, 2) := by decide +kernel
theorem dX4_addBond_18 : decode cX4_addBond 18 = .ok (.invokestatic 100, 3) := by decide +kernel
theorem dX4_addBond_21 : decode cX4_addBond 21 = .ok (.istore 6, 2) := by decide +kernel
theorem dX4_addBond_23 : decode cX4_addBond 23 = .ok (.iload 6, 2) := by decide +kernel
theorem dX4_addBond_25 : decode cX4_addBond 25 = .ok (.iconst 1, 1) := by decide +kernel
theorem dX4_addBond_26 : decode cX4_addBond 26 = .ok (.if_icmp .lt 10, 3) := by decide +kernel
theorem dX4_addBond_29 : decode cX4_addBond 29 = .ok (.iload 6, 2) := by decide +kernel
theorem dX4_addBond_31 : decode cX4_addBond 31 = .ok (.bipush 120, 2) := by decide +kernel
theorem dX4_addBond_33 : decode cX4_addBond 33 = .ok (.if_icmp .le 13, 3) := by decide +kernel
theorem dX4_addBond_36 : decode cX4_addBond 36 = .ok (.new 44, 3) := by decide +kernel
theorem dX4_addBond_39 : decode cX4_addBond 39 = .ok (.dup, 1) := by decide +kernel
theorem dX4_addBond_40 : decode cX4_addBond 40 = .ok (.ldc 106, 2) := by decide +kernel
theorem dX4_addBond_42 : decode cX4_addBond 42 = .ok (.invokespecial 48, 3) := by decide +kernel
theorem dX4_addBond_45 : decode cX4_addBond 45 = .ok (.athrow, 1) := by decide +kernel
theorem dX4_addBond_46 : decode cX4_addBond 46 = .ok (.iload_n 2, 1) := by decide +kernel
theorem dX4_addBond_47 : decode cX4_addBond 47 = .ok (.iload 6, 2) := by decide +kernel
theorem dX4_addBond_49 : decode cX4_addBond 49 = .ok (.iload 4, 2) := by decide +kernel
theorem dX4_addBond_51 : decode cX4_addBond 51 = .ok (.invokestatic 108, 3) := by decide +kernel
theorem dX4_addBond_54 : decode cX4_addBond 54 = .ok (.ldc 111, 2) := by decide +kernel
theorem dX4_addBond_56 : decode cX4_addBond 56 = .ok (.if_icmp .ge 13, 3) := by decide +kernel
theorem dX4_addBond_59 : decode cX4_addBond 59 = .ok (.new 44, 3) := by decide +kernel
theorem dX4_addBond_62 : decode cX4_addBond 62 = .ok (.dup, 1) := by decide +kernel
theorem dX4_addBond_63 : decode cX4_addBond 63 = .ok (.ldc 112, 2) := by decide +kernel
theorem dX4_addBond_65 : decode cX4_addBond 65 = .ok (.invokespecial 48, 3) := by decide +kernel
theorem dX4_addBond_68 : decode cX4_addBond 68 = .ok (.athrow, 1) := by decide +kernel
theorem dX4_addBond_69 : decode cX4_addBond 69 = .ok (.aload_n 0, 1) := by decide +kernel
theorem dX4_addBond_70 : decode cX4_addBond 70 = .ok (.getfield 114, 3) := by decide +kernel
theorem dX4_addBond_73 : decode cX4_addBond 73 = .ok (.ifCond .lt 15, 3) := by decide +kernel
theorem dX4_addBond_76 : decode cX4_addBond 76 = .ok (.aload_n 0, 1) := by decide +kernel
theorem dX4_addBond_77 : decode cX4_addBond 77 = .ok (.getfield 114, 3) := by decide +kernel
theorem dX4_addBond_80 : decode cX4_addBond 80 = .ok (.aload_n 0, 1) := by decide +kernel
theorem dX4_addBond_81 : decode cX4_addBond 81 = .ok (.getfield 15, 3) := by decide +kernel
theorem dX4_addBond_84 : decode cX4_addBond 84 = .ok (.arraylength, 1) := by decide +kernel
theorem dX4_addBond_85 : decode cX4_addBond 85 = .ok (.if_icmp .lt 13, 3) := by decide +kernel
theorem dX4_addBond_88 : decode cX4_addBond 88 = .ok (.new 73, 3) := by decide +kernel
theorem dX4_addBond_91 : decode cX4_addBond 91 = .ok (.dup, 1) := by decide +kernel
theorem dX4_addBond_92 : decode cX4_addBond 92 = .ok (.ldc 117, 2) := by decide +kernel
theorem dX4_addBond_94 : decode cX4_addBond 94 = .ok (.invokespecial 77, 3) := by decide +kernel
theorem dX4_addBond_97 : decode cX4_addBond 97 = .ok (.athrow, 1) := by decide +kernel
theorem dX4_addBond_98 : decode cX4_addBond 98 = .ok (.aload_n 0, 1) := by decide +kernel
theorem dX4_addBond_99 : decode cX4_addBond 99 = .ok (.getfield 15, 3) := by decide +kernel
theorem dX4_addBond_102 : decode cX4_addBond 102 = .ok (.aload_n 0, 1) := by decide +kernel
theorem dX4_addBond_103 : decode cX4_addBond 103 = .ok (.getfield 114, 3) := by decide +kernel
theorem dX4_addBond_106 : decode cX4_addBond 106 = .ok (.new 13, 3) := by decide +kernel
theorem dX4_addBond_109 : decode cX4_addBond 109 = .ok (.dup, 1) := by decide +kernel
theorem dX4_addBond_110 : decode cX4_addBond 110 = .ok (.new 101, 3) := by decide +kernel
theorem dX4_addBond_113 : decode cX4_addBond 113 = .ok (.dup, 1) := by decide +kernel
theorem dX4_addBond_114 : decode cX4_addBond 114 = .ok (.iload_n 1, 1) := by decide +kernel
theorem dX4_addBond_115 : decode cX4_addBond 115 = .ok (.iload_n 2, 1) := by decide +kernel
theorem dX4_addBond_116 : decode cX4_addBond 116 = .ok (.iload_n 3, 1) := by decide +kernel
theorem dX4_addBond_117 : decode cX4_addBond 117 = .ok (.iload 4, 2) := by decide +kernel
theorem dX4_addBond_119 : decode cX4_addBond 119 = .ok (.iload 5, 2) := by decide +kernel
theorem dX4_addBond_121 : decode cX4_addBond 121 = .ok (.iload 6, 2) := by decide +kernel
theorem dX4_addBond_123 : decode cX4_addBond 123 = .ok (.invokespecial 119, 3) := by decide +kernel
theorem dX4_addBond_126 : decode cX4_addBond 126 = .ok (.aload_n 0, 1) := by decide +kernel
theorem dX4_addBond_127 : decode cX4_addBond 127 = .ok (.getfield 27, 3) := by decide +kernel
theorem dX4_addBond_130 : decode cX4_addBond 130 = .ok (.invokespecial 122, 3) := by decide +kernel
theorem dX4_addBond_133 : decode cX4_addBond 133 = .ok (.aastore, 1) := by decide +kernel
theorem dX4_addBond_134 : decode cX4_addBond 134 = .ok (.aload_n 0, 1) := by decide +kernel
theorem dX4_addBond_135 : decode cX4_addBond 135 = .ok (.dup, 1) := by decide +kernel
theorem dX4_addBond_136 : decode cX4_addBond 136 = .ok (.getfield 114, 3) := by decide +kernel
theorem dX4_addBond_139 : decode cX4_addBond 139 = .ok (.iconst 1, 1) := by decide +kernel
theorem dX4_addBond_140 : decode cX4_addBond 140 = .ok (.iadd, 1) := by decide +kernel
theorem dX4_addBond_141 : decode cX4_addBond 141 = .ok (.putfield 114, 3) := by decide +kernel
theorem dX4_addBond_144 : decode cX4_addBond 144 = .ok (.aload_n 0, 1) := by decide +kernel
theorem dX4_addBond_145 : decode cX4_addBond 145 = .ok (.getfield 114, 3) := by decide +kernel
theorem dX4_addBond_148 : decode cX4_addBond 148 = .ok (.iconst 1, 1) := by decide +kernel
theorem dX4_addBond_149 : decode cX4_addBond 149 = .ok (.isub, 1) := by decide +kernel
theorem dX4_addBond_150 : decode cX4_addBond 150 = .ok (.ireturn, 1) := by decide +kernel
set_option maxRecDepth 20000 in
theorem ggX4_setSink_X4_bondNumbered : GoodIn wsX4_setSink wsX4_bondNumbered := goodIn_ca (goodIn_r _ [11, 12, 13, 14, 83, 84, 85, 86, 87, 88, 89, 90] (by decide +kernel) (by decide +kernel)) (goodIn_sub (fun _ h => List.mem_cons_of_mem _ (List.mem_append_left _ (List.mem_append_right _ h))) (by decide +kernel))
set_option maxRecDepth 20000 in
theorem gX4_setSink_X4_bondNumbered : GoodIn wsX4_setSink (wsV RX4 125 RX4 yX4_bondNumbered wsX4_bondNumbered) := goodIn_app (goodIn_of _ (by decide +kernel)) ggX4_setSink_X4_bondNumbered
set_option maxRecDepth 20000 in
theorem ggX4_setSink_X4_requireDate : GoodIn wsX4_setSink wsX4_requireDate := goodIn_ca (goodIn_r _ [17, 1, 2, 18, 19, 20, 21, 22, 23, 24, 25, 26, 27, 28, 29, 30, 31, 32, 33, 34, 35] (by decide +kernel) (by decide +kernel)) (goodIn_sub (fun _ h => List.mem_cons_of_mem _ (List.mem_append_left _ (List.mem_append_left _ (List.mem_append_right _ h)))) (by decide +kernel))
set_option maxRecDepth 20000 in
theorem gX4_setSink_X4_requireDate : GoodIn wsX4_setSink (va_wsS RX4 40 yX4_requireDate wsX4_requireDate) := goodIn_app (goodIn_of _ (by decide +kernel)) ggX4_setSink_X4_requireDate
set_option maxRecDepth 20000 in
theorem ggX4_setSink_X4_requireThere : GoodIn wsX4_setSink wsX4_requireThere := goodIn_ca (goodIn_r _ [38, 39, 40, 41, 42, 43, 44, 45, 46, 65, 66, 67, 68, 69, 70, 71, 72, 73] (by decide +kernel) (by decide +kernel)) (goodIn_sub (fun _ h => List.mem_cons_of_mem _ (List.mem_append_right _ h)) (by decide +kernel))
set_option maxRecDepth 20000 in
theorem gX4_setSink_X4_requireThere : GoodIn wsX4_setSink (va_wsS RX4 131 yX4_requireThere wsX4_requireThere) := goodIn_app (goodIn_of _ (by decide +kernel)) ggX4_setSink_X4_requireThere
set_option maxRecDepth 20000 in
theorem ggX4_setSink_X0_factorBehind : GoodIn wsX4_setSink wsX0_factorBehind := goodIn_r _ [50, 51, 52, 53, 54, 55, 44, 56, 57, 58, 59, 60, 61, 62, 63, 64, 65, 66, 67, 68, 69, 70, 71, 72, 73, 74, 75, 76, 77, 78, 79, 80, 81, 82] (by decide +kernel) (by decide +kernel)
set_option maxRecDepth 20000 in
theorem gX4_setSink_X0_factorBehind : GoodIn wsX4_setSink (wsV RX4 148 RX0 yX0_factorBehind wsX0_factorBehind) := goodIn_app (goodIn_of _ (by decide +kernel)) ggX4_setSink_X0_factorBehind
theorem dX4_setSink_0 : decode cX4_setSink 0 = .ok (.aload_n 0, 1) := by decide +kernel
theorem dX4_setSink_1 : decode cX4_setSink 1 = .ok (.iload_n 1, 1) := by decide +kernel
theorem dX4_setSink_2 : decode cX4_setSink 2 = .ok (.invokevirtual 125, 3) := by decide +kernel
theorem dX4_setSink_5 : decode cX4_setSink 5 = .ok (.astore 4, 2) := by decide +kernel
theorem dX4_setSink_7 : decode cX4_setSink 7 = .ok (.iload_n 2, 1) := by decide +kernel
theorem dX4_setSink_8 : decode cX4_setSink 8 = .ok (.invokestatic 40, 3) := by decide +kernel
theorem dX4_setSink_11 : decode cX4_setSink 11 = .ok (.iload_n 3, 1) := by decide +kernel
theorem dX4_setSink_12 : decode cX4_setSink 12 = .ok (.ifCond .lt 10, 3) := by decide +kernel
theorem dX4_setSink_15 : decode cX4_setSink 15 = .ok (.iload_n 3, 1) := by decide +kernel
theorem dX4_setSink_16 : decode cX4_setSink 16 = .ok (.sipush 5000, 3) := by decide +kernel
theorem dX4_setSink_19 : decode cX4_setSink 19 = .ok (.if_icmp .le 13, 3) := by decide +kernel
theorem dX4_setSink_22 : decode cX4_setSink 22 = .ok (.new 44, 3) := by decide +kernel
theorem dX4_setSink_25 : decode cX4_setSink 25 = .ok (.dup, 1) := by decide +kernel
theorem dX4_setSink_26 : decode cX4_setSink 26 = .ok (.ldc 129, 2) := by decide +kernel
theorem dX4_setSink_28 : decode cX4_setSink 28 = .ok (.invokespecial 48, 3) := by decide +kernel
theorem dX4_setSink_31 : decode cX4_setSink 31 = .ok (.athrow, 1) := by decide +kernel
theorem dX4_setSink_32 : decode cX4_setSink 32 = .ok (.aload 4, 2) := by decide +kernel
theorem dX4_setSink_34 : decode cX4_setSink 34 = .ok (.invokestatic 131, 3) := by decide +kernel
theorem dX4_setSink_37 : decode cX4_setSink 37 = .ok (.aload 4, 2) := by decide +kernel
theorem dX4_setSink_39 : decode cX4_setSink 39 = .ok (.iload_n 2, 1) := by decide +kernel
theorem dX4_setSink_40 : decode cX4_setSink 40 = .ok (.putfield 135, 3) := by decide +kernel
theorem dX4_setSink_43 : decode cX4_setSink 43 = .ok (.aload 4, 2) := by decide +kernel
theorem dX4_setSink_45 : decode cX4_setSink 45 = .ok (.iload_n 3, 1) := by decide +kernel
theorem dX4_setSink_46 : decode cX4_setSink 46 = .ok (.putfield 138, 3) := by decide +kernel
theorem dX4_setSink_49 : decode cX4_setSink 49 = .ok (.aload 4, 2) := by decide +kernel
theorem dX4_setSink_51 : decode cX4_setSink 51 = .ok (.aload 4, 2) := by decide +kernel
theorem dX4_setSink_53 : decode cX4_setSink 53 = .ok (.getfield 141, 3) := by decide +kernel
theorem dX4_setSink_56 : decode cX4_setSink 56 = .ok (.getfield 145, 3) := by decide +kernel
theorem dX4_setSink_59 : decode cX4_setSink 59 = .ok (.arraylength, 1) := by decide +kernel
theorem dX4_setSink_60 : decode cX4_setSink 60 = .ok (.iconst 1, 1) := by decide +kernel
theorem dX4_setSink_61 : decode cX4_setSink 61 = .ok (.isub, 1) := by decide +kernel
theorem dX4_setSink_62 : decode cX4_setSink 62 = .ok (.invokevirtual 148, 3) := by decide +kernel
theorem dX4_setSink_65 : decode cX4_setSink 65 = .ok (.ireturn, 1) := by decide +kernel
set_option maxRecDepth 20000 in
theorem ggX4_setCall_X4_bondNumbered : GoodIn wsX4_setCall wsX4_bondNumbered := goodIn_ca (goodIn_r _ [9, 10, 11, 12, 67, 68, 69, 70, 71, 72, 73, 74] (by decide +kernel) (by decide +kernel)) (goodIn_sub (fun _ h => List.mem_cons_of_mem _ (List.mem_append_left _ (List.mem_append_right _ h))) (by decide +kernel))
set_option maxRecDepth 20000 in
theorem gX4_setCall_X4_bondNumbered : GoodIn wsX4_setCall (wsV RX4 125 RX4 yX4_bondNumbered wsX4_bondNumbered) := goodIn_app (goodIn_of _ (by decide +kernel)) ggX4_setCall_X4_bondNumbered
set_option maxRecDepth 20000 in
theorem ggX4_setCall_X4_requireDate : GoodIn wsX4_setCall wsX4_requireDate := goodIn_ca (goodIn_r _ [15, 1, 2, 16, 17, 18, 19, 20, 21, 22, 23, 24, 25, 26, 27, 28, 29, 30, 31, 32, 33] (by decide +kernel) (by decide +kernel)) (goodIn_sub (fun _ h => List.mem_cons_of_mem _ (List.mem_append_left _ (List.mem_append_left _ (List.mem_append_right _ h)))) (by decide +kernel))
set_option maxRecDepth 20000 in
theorem gX4_setCall_X4_requireDate : GoodIn wsX4_setCall (va_wsS RX4 40 yX4_requireDate wsX4_requireDate) := goodIn_app (goodIn_of _ (by decide +kernel)) ggX4_setCall_X4_requireDate
set_option maxRecDepth 20000 in
theorem ggX4_setCall_X4_requireThere : GoodIn wsX4_setCall wsX4_requireThere := goodIn_ca (goodIn_r _ [36, 37, 38, 39, 40, 41, 42, 43, 44, 58, 59, 60, 61, 62, 63, 64, 65, 66] (by decide +kernel) (by decide +kernel)) (goodIn_sub (fun _ h => List.mem_cons_of_mem _ (List.mem_append_right _ h)) (by decide +kernel))
set_option maxRecDepth 20000 in
theorem gX4_setCall_X4_requireThere : GoodIn wsX4_setCall (va_wsS RX4 131 yX4_requireThere wsX4_requireThere) := goodIn_app (goodIn_of _ (by decide +kernel)) ggX4_setCall_X4_requireThere
set_option maxRecDepth 20000 in
theorem ggX4_setCall_X0_firstCall : GoodIn wsX4_setCall wsX0_firstCall := goodIn_r _ [48, 49, 50, 51, 52, 53, 54, 42, 55, 56, 57, 58, 59, 60, 61, 62, 63, 64, 65, 66, 75, 76, 77, 78, 79, 80, 81, 82, 83] (by decide +kernel) (by decide +kernel)
set_option maxRecDepth 20000 in
theorem gX4_setCall_X0_firstCall : GoodIn wsX4_setCall (wsV RX4 159 RX0 yX0_firstCall wsX0_firstCall) := goodIn_app (goodIn_of _ (by decide +kernel)) ggX4_setCall_X0_firstCall
theorem dX4_setCall_0 : decode cX4_setCall 0 = .ok (.aload_n 0, 1) := by decide +kernel
theorem dX4_setCall_1 : decode cX4_setCall 1 = .ok (.iload_n 1, 1) := by decide +kernel
theorem dX4_setCall_2 : decode cX4_setCall 2 = .ok (.invokevirtual 125, 3) := by decide +kernel
theorem dX4_setCall_5 : decode cX4_setCall 5 = .ok (.astore 4, 2) := by decide +kernel
theorem dX4_setCall_7 : decode cX4_setCall 7 = .ok (.iload_n 2, 1) := by decide +kernel
theorem dX4_setCall_8 : decode cX4_setCall 8 = .ok (.invokestatic 40, 3) := by decide +kernel
theorem dX4_setCall_11 : decode cX4_setCall 11 = .ok (.iload_n 3, 1) := by decide +kernel
theorem dX4_setCall_12 : decode cX4_setCall 12 = .ok (.ifCond .eq 27, 3) := by decide +kernel
theorem dX4_setCall_15 : decode cX4_setCall 15 = .ok (.iload_n 3, 1) := by decide +kernel
theorem dX4_setCall_16 : decode cX4_setCall 16 = .ok (.sipush 8000, 3) := by decide +kernel
theorem dX4_setCall_19 : decode cX4_setCall 19 = .ok (.if_icmp .lt 10, 3) := by decide +kernel
theorem dX4_setCall_22 : decode cX4_setCall 22 = .ok (.iload_n 3, 1) := by decide +kernel
theorem dX4_setCall_23 : decode cX4_setCall 23 = .ok (.sipush 15000, 3) := by decide +kernel
theorem dX4_setCall_26 : decode cX4_setCall 26 = .ok (.if_icmp .le 13, 3) := by decide +kernel
theorem dX4_setCall_29 : decode cX4_setCall 29 = .ok (.new 44, 3) := by decide +kernel
theorem dX4_setCall_32 : decode cX4_setCall 32 = .ok (.dup, 1) := by decide +kernel
theorem dX4_setCall_33 : decode cX4_setCall 33 = .ok (.ldc 151, 2) := by decide +kernel
theorem dX4_setCall_35 : decode cX4_setCall 35 = .ok (.invokespecial 48, 3) := by decide +kernel
theorem dX4_setCall_38 : decode cX4_setCall 38 = .ok (.athrow, 1) := by decide +kernel
theorem dX4_setCall_39 : decode cX4_setCall 39 = .ok (.aload 4, 2) := by decide +kernel
theorem dX4_setCall_41 : decode cX4_setCall 41 = .ok (.invokestatic 131, 3) := by decide +kernel
theorem dX4_setCall_44 : decode cX4_setCall 44 = .ok (.aload 4, 2) := by decide +kernel
theorem dX4_setCall_46 : decode cX4_setCall 46 = .ok (.iload_n 2, 1) := by decide +kernel
theorem dX4_setCall_47 : decode cX4_setCall 47 = .ok (.putfield 153, 3) := by decide +kernel
theorem dX4_setCall_50 : decode cX4_setCall 50 = .ok (.aload 4, 2) := by decide +kernel
theorem dX4_setCall_52 : decode cX4_setCall 52 = .ok (.iload_n 3, 1) := by decide +kernel
theorem dX4_setCall_53 : decode cX4_setCall 53 = .ok (.putfield 156, 3) := by decide +kernel
theorem dX4_setCall_56 : decode cX4_setCall 56 = .ok (.aload 4, 2) := by decide +kernel
theorem dX4_setCall_58 : decode cX4_setCall 58 = .ok (.invokevirtual 159, 3) := by decide +kernel
theorem dX4_setCall_61 : decode cX4_setCall 61 = .ok (.ireturn, 1) := by decide +kernel
set_option maxRecDepth 20000 in
theorem ggX4_setRate_X4_requireRate : GoodIn wsX4_setRate wsX4_requireRate := goodIn_ca (goodIn_r _ [5, 6, 7] (by decide +kernel) (by decide +kernel)) (goodIn_sub (fun _ h => List.mem_cons_of_mem _ (List.mem_append_right _ h)) (by decide +kernel))
set_option maxRecDepth 20000 in
theorem gX4_setRate_X4_requireRate : GoodIn wsX4_setRate (va_wsS RX4 163 yX4_requireRate wsX4_requireRate) := goodIn_app (goodIn_of _ (by decide +kernel)) ggX4_setRate_X4_requireRate
theorem dX4_setRate_0 : decode cX4_setRate 0 = .ok (.iload_n 1, 1) := by decide +kernel
theorem dX4_setRate_1 : decode cX4_setRate 1 = .ok (.invokestatic 163, 3) := by decide +kernel
theorem dX4_setRate_4 : decode cX4_setRate 4 = .ok (.aload_n 0, 1) := by decide +kernel
theorem dX4_setRate_5 : decode cX4_setRate 5 = .ok (.getfield 37, 3) := by decide +kernel
theorem dX4_setRate_8 : decode cX4_setRate 8 = .ok (.istore_n 2, 1) := by decide +kernel
theorem dX4_setRate_9 : decode cX4_setRate 9 = .ok (.aload_n 0, 1) := by decide +kernel
theorem dX4_setRate_10 : decode cX4_setRate 10 = .ok (.iload_n 1, 1) := by decide +kernel
theorem dX4_setRate_11 : decode cX4_setRate 11 = .ok (.putfield 37, 3) := by decide +kernel
theorem dX4_setRate_14 : decode cX4_setRate 14 = .ok (.iload_n 2, 1) := by decide +kernel
theorem dX4_setRate_15 : decode cX4_setRate 15 = .ok (.ireturn, 1) := by decide +kernel
set_option maxRecDepth 20000 in
theorem ggX4_bond_X4_bondNumbered : GoodIn wsX4_bond wsX4_bondNumbered := goodIn_ca (goodIn_r _ [7, 1, 2, 8, 38, 39, 40, 41, 42, 43, 44, 45] (by decide +kernel) (by decide +kernel)) (goodIn_sub (fun _ h => List.mem_cons_of_mem _ (List.mem_append_right _ h)) (by decide +kernel))
set_option maxRecDepth 20000 in
theorem gX4_bond_X4_bondNumbered : GoodIn wsX4_bond (wsV RX4 125 RX4 yX4_bondNumbered wsX4_bondNumbered) := goodIn_app (goodIn_of _ (by decide +kernel)) ggX4_bond_X4_bondNumbered
set_option maxRecDepth 20000 in
theorem ggX4_bond_X0_tell : GoodIn wsX4_bond wsX0_tell := goodIn_r _ [13, 14, 15, 16, 17, 18, 19, 20, 21, 22, 23, 24, 25, 26, 27, 12, 28, 29, 30, 31, 32, 33, 34, 35, 36, 37, 46, 47, 48, 49, 50, 51, 52, 53, 54, 55, 56, 57, 58, 59, 60, 61, 62, 63] (by decide +kernel) (by decide +kernel)
set_option maxRecDepth 20000 in
theorem gX4_bond_X0_tell : GoodIn wsX4_bond (wsV RX4 171 RX0 yX0_tell wsX0_tell) := goodIn_app (goodIn_of _ (by decide +kernel)) ggX4_bond_X0_tell
theorem dX4_bond_0 : decode cX4_bond 0 = .ok (.aload_n 0, 1) := by decide +kernel
theorem dX4_bond_1 : decode cX4_bond 1 = .ok (.iload_n 1, 1) := by decide +kernel
theorem dX4_bond_2 : decode cX4_bond 2 = .ok (.invokevirtual 125, 3) := by decide +kernel
theorem dX4_bond_5 : decode cX4_bond 5 = .ok (.astore_n 3, 1) := by decide +kernel
theorem dX4_bond_6 : decode cX4_bond 6 = .ok (.iload_n 2, 1) := by decide +kernel
theorem dX4_bond_7 : decode cX4_bond 7 = .ok (.ifCond .lt 9, 3) := by decide +kernel
theorem dX4_bond_10 : decode cX4_bond 10 = .ok (.iload_n 2, 1) := by decide +kernel
theorem dX4_bond_11 : decode cX4_bond 11 = .ok (.bipush 10, 2) := by decide +kernel
theorem dX4_bond_13 : decode cX4_bond 13 = .ok (.if_icmp .le 13, 3) := by decide +kernel
theorem dX4_bond_16 : decode cX4_bond 16 = .ok (.new 166, 3) := by decide +kernel
theorem dX4_bond_19 : decode cX4_bond 19 = .ok (.dup, 1) := by decide +kernel
theorem dX4_bond_20 : decode cX4_bond 20 = .ok (.ldc 168, 2) := by decide +kernel
theorem dX4_bond_22 : decode cX4_bond 22 = .ok (.invokespecial 170, 3) := by decide +kernel
theorem dX4_bond_25 : decode cX4_bond 25 = .ok (.athrow, 1) := by decide +kernel
theorem dX4_bond_26 : decode cX4_bond 26 = .ok (.aload_n 3, 1) := by decide +kernel
theorem dX4_bond_27 : decode cX4_bond 27 = .ok (.iload_n 2, 1) := by decide +kernel
theorem dX4_bond_28 : decode cX4_bond 28 = .ok (.invokevirtual 171, 3) := by decide +kernel
theorem dX4_bond_31 : decode cX4_bond 31 = .ok (.ireturn, 1) := by decide +kernel
set_option maxRecDepth 20000 in
theorem ggX4_coupon_X4_bondNumbered : GoodIn wsX4_coupon wsX4_bondNumbered := goodIn_ca (goodIn_r _ [10, 1, 2, 11, 74, 75, 76, 77, 78, 79, 80, 81] (by decide +kernel) (by decide +kernel)) (goodIn_sub (fun _ h => List.mem_cons_of_mem _ (List.mem_append_right _ h)) (by decide +kernel))
set_option maxRecDepth 20000 in
theorem gX4_coupon_X4_bondNumbered : GoodIn wsX4_coupon (wsV RX4 125 RX4 yX4_bondNumbered wsX4_bondNumbered) := goodIn_app (goodIn_of _ (by decide +kernel)) ggX4_coupon_X4_bondNumbered
set_option maxRecDepth 20000 in
theorem ggX4_coupon_X4_nextWorkingDate : GoodIn wsX4_coupon wsX4_nextWorkingDate := goodIn_r _ [15, 16, 17, 18, 19, 20, 21, 22, 23, 9, 24, 25, 26, 27, 28, 29, 30, 31, 32, 33, 34, 35, 36, 37, 38, 74, 75, 76, 77, 78, 79, 80, 81] (by decide +kernel) (by decide +kernel)
set_option maxRecDepth 20000 in
theorem gX4_coupon_X4_nextWorkingDate : GoodIn wsX4_coupon (wsV RX4 81 RX4 yX4_nextWorkingDate wsX4_nextWorkingDate) := goodIn_app (goodIn_of _ (by decide +kernel)) ggX4_coupon_X4_nextWorkingDate
set_option maxRecDepth 20000 in
theorem ggX4_coupon_X3_beginOf : GoodIn wsX4_coupon wsX3_beginOf := goodIn_r _ [43, 44, 45, 65, 66, 67, 68, 69, 70, 71, 72, 73] (by decide +kernel) (by decide +kernel)
set_option maxRecDepth 20000 in
theorem gX4_coupon_X3_beginOf : GoodIn wsX4_coupon (wsV RX4 176 RX3 yX3_beginOf wsX3_beginOf) := goodIn_app (goodIn_of _ (by decide +kernel)) ggX4_coupon_X3_beginOf
set_option maxRecDepth 20000 in
theorem ggX4_coupon_X3_couponFor : GoodIn wsX4_coupon wsX3_couponFor := goodIn_r _ [49, 50, 45, 51, 52, 53, 54, 55, 65, 66, 67, 68, 69, 70, 71, 72, 73] (by decide +kernel) (by decide +kernel)
set_option maxRecDepth 20000 in
theorem gX4_coupon_X3_couponFor : GoodIn wsX4_coupon (wsV RX4 181 RX3 yX3_couponFor wsX3_couponFor) := goodIn_app (goodIn_of _ (by decide +kernel)) ggX4_coupon_X3_couponFor
theorem dX4_coupon_0 : decode cX4_coupon 0 = .ok (.aload_n 0, 1) := by decide +kernel
theorem dX4_coupon_1 : decode cX4_coupon 1 = .ok (.iload_n 1, 1) := by decide +kernel
theorem dX4_coupon_2 : decode cX4_coupon 2 = .ok (.invokevirtual 125, 3) := by decide +kernel
theorem dX4_coupon_5 : decode cX4_coupon 5 = .ok (.getfield 141, 3) := by decide +kernel
theorem dX4_coupon_8 : decode cX4_coupon 8 = .ok (.astore 4, 2) := by decide +kernel
theorem dX4_coupon_10 : decode cX4_coupon 10 = .ok (.iload_n 2, 1) := by decide +kernel
theorem dX4_coupon_11 : decode cX4_coupon 11 = .ok (.ifCond .lt 13, 3) := by decide +kernel
theorem dX4_coupon_14 : decode cX4_coupon 14 = .ok (.iload_n 2, 1) := by decide +kernel
theorem dX4_coupon_15 : decode cX4_coupon 15 = .ok (.aload 4, 2) := by decide +kernel
theorem dX4_coupon_17 : decode cX4_coupon 17 = .ok (.getfield 145, 3) := by decide +kernel
theorem dX4_coupon_20 : decode cX4_coupon 20 = .ok (.arraylength, 1) := by decide +kernel
theorem dX4_coupon_21 : decode cX4_coupon 21 = .ok (.if_icmp .lt 13, 3) := by decide +kernel
theorem dX4_coupon_24 : decode cX4_coupon 24 = .ok (.new 166, 3) := by decide +kernel
theorem dX4_coupon_27 : decode cX4_coupon 27 = .ok (.dup, 1) := by decide +kernel
theorem dX4_coupon_28 : decode cX4_coupon 28 = .ok (.ldc 174, 2) := by decide +kernel
theorem dX4_coupon_30 : decode cX4_coupon 30 = .ok (.invokespecial 170, 3) := by decide +kernel
theorem dX4_coupon_33 : decode cX4_coupon 33 = .ok (.athrow, 1) := by decide +kernel
theorem dX4_coupon_34 : decode cX4_coupon 34 = .ok (.iload_n 3, 1) := by decide +kernel
theorem dX4_coupon_35 : decode cX4_coupon 35 = .ok (.tableswitch 67 0 3 #[29, 37, 49, 56], 29) := by decide +kernel
theorem dX4_coupon_64 : decode cX4_coupon 64 = .ok (.aload 4, 2) := by decide +kernel
theorem dX4_coupon_66 : decode cX4_coupon 66 = .ok (.getfield 145, 3) := by decide +kernel
theorem dX4_coupon_69 : decode cX4_coupon 69 = .ok (.iload_n 2, 1) := by decide +kernel
theorem dX4_coupon_70 : decode cX4_coupon 70 = .ok (.iaload, 1) := by decide +kernel
theorem dX4_coupon_71 : decode cX4_coupon 71 = .ok (.ireturn, 1) := by decide +kernel
theorem dX4_coupon_72 : decode cX4_coupon 72 = .ok (.aload_n 0, 1) := by decide +kernel
theorem dX4_coupon_73 : decode cX4_coupon 73 = .ok (.aload 4, 2) := by decide +kernel
theorem dX4_coupon_75 : decode cX4_coupon 75 = .ok (.getfield 145, 3) := by decide +kernel
theorem dX4_coupon_78 : decode cX4_coupon 78 = .ok (.iload_n 2, 1) := by decide +kernel
theorem dX4_coupon_79 : decode cX4_coupon 79 = .ok (.iaload, 1) := by decide +kernel
theorem dX4_coupon_80 : decode cX4_coupon 80 = .ok (.invokevirtual 81, 3) := by decide +kernel
theorem dX4_coupon_83 : decode cX4_coupon 83 = .ok (.ireturn, 1) := by decide +kernel
theorem dX4_coupon_84 : decode cX4_coupon 84 = .ok (.aload 4, 2) := by decide +kernel
theorem dX4_coupon_86 : decode cX4_coupon 86 = .ok (.iload_n 2, 1) := by decide +kernel
theorem dX4_coupon_87 : decode cX4_coupon 87 = .ok (.invokevirtual 176, 3) := by decide +kernel
theorem dX4_coupon_90 : decode cX4_coupon 90 = .ok (.ireturn, 1) := by decide +kernel
theorem dX4_coupon_91 : decode cX4_coupon 91 = .ok (.aload 4, 2) := by decide +kernel
theorem dX4_coupon_93 : decode cX4_coupon 93 = .ok (.iload_n 2, 1) := by decide +kernel
theorem dX4_coupon_94 : decode cX4_coupon 94 = .ok (.ldc2_w 179, 3) := by decide +kernel
theorem dX4_coupon_97 : decode cX4_coupon 97 = .ok (.invokevirtual 181, 3) := by decide +kernel
theorem dX4_coupon_100 : decode cX4_coupon 100 = .ok (.l2i, 1) := by decide +kernel
theorem dX4_coupon_101 : decode cX4_coupon 101 = .ok (.ireturn, 1) := by decide +kernel
theorem dX4_coupon_102 : decode cX4_coupon 102 = .ok (.new 166, 3) := by decide +kernel
theorem dX4_coupon_105 : decode cX4_coupon 105 = .ok (.dup, 1) := by decide +kernel
theorem dX4_coupon_106 : decode cX4_coupon 106 = .ok (.ldc 185, 2) := by decide +kernel
theorem dX4_coupon_108 : decode cX4_coupon 108 = .ok (.invokespecial 170, 3) := by decide +kernel
theorem dX4_coupon_111 : decode cX4_coupon 111 = .ok (.athrow, 1) := by decide +kernel
set_option maxRecDepth 20000 in
theorem ggX4_accrued_X4_bondNumbered : GoodIn wsX4_accrued wsX4_bondNumbered := goodIn_ca (goodIn_r _ [5, 6, 7, 8, 97, 98, 99, 100, 101, 102, 103, 104] (by decide +kernel) (by decide +kernel)) (goodIn_sub (fun _ h => List.mem_cons_of_mem _ (List.mem_append_left _ (List.mem_append_right _ h))) (by decide +kernel))
set_option maxRecDepth 20000 in
theorem gX4_accrued_X4_bondNumbered : GoodIn wsX4_accrued (wsV RX4 125 RX4 yX4_bondNumbered wsX4_bondNumbered) := goodIn_app (goodIn_of _ (by decide +kernel)) ggX4_accrued_X4_bondNumbered
set_option maxRecDepth 20000 in
theorem ggX4_accrued_X4_requireDate : GoodIn wsX4_accrued wsX4_requireDate := goodIn_ca (goodIn_r _ [11, 12, 13, 14, 15, 16, 17, 18, 19, 20, 21, 22, 23, 24, 25, 26, 27, 28, 29, 30, 31] (by decide +kernel) (by decide +kernel)) (goodIn_sub (fun _ h => List.mem_cons_of_mem _ (List.mem_append_right _ h)) (by decide +kernel))
set_option maxRecDepth 20000 in
theorem gX4_accrued_X4_requireDate : GoodIn wsX4_accrued (va_wsS RX4 40 yX4_requireDate wsX4_requireDate) := goodIn_app (goodIn_of _ (by decide +kernel)) ggX4_accrued_X4_requireDate
set_option maxRecDepth 20000 in
theorem ggX4_accrued_X0_accruedOn : GoodIn wsX4_accrued wsX0_accruedOn := goodIn_r _ [36, 37, 38, 39, 40, 35, 41, 42, 43, 44, 45, 46, 47, 48, 49, 50, 51, 52, 53, 54, 55, 56, 57, 58, 59, 60, 61, 62, 63, 64, 65, 66, 67, 68, 69, 70, 71, 72, 73, 74, 75, 76, 16, 77, 78, 79, 80, 81, 82, 83, 84, 85, 86, 87, 88, 89, 90, 91, 92, 93, 94, 95, 96, 23, 24, 25, 26, 27, 28, 20, 21, 22, 105, 106, 107, 108, 109, 110, 111, 112, 113, 114, 115, 116, 117, 118, 119, 120, 121, 122] (by decide +kernel) (by decide +kernel)
set_option maxRecDepth 20000 in
theorem gX4_accrued_X0_accruedOn : GoodIn wsX4_accrued (wsV RX4 187 RX0 yX0_accruedOn wsX0_accruedOn) := goodIn_app (goodIn_of _ (by decide +kernel)) ggX4_accrued_X0_accruedOn
theorem dX4_accrued_0 : decode cX4_accrued 0 = .ok (.aload_n 0, 1) := by decide +kernel
theorem dX4_accrued_1 : decode cX4_accrued 1 = .ok (.iload_n 1, 1) := by decide +kernel
theorem dX4_accrued_2 : decode cX4_accrued 2 = .ok (.invokevirtual 125, 3) := by decide +kernel
theorem dX4_accrued_5 : decode cX4_accrued 5 = .ok (.astore_n 3, 1) := by decide +kernel
theorem dX4_accrued_6 : decode cX4_accrued 6 = .ok (.iload_n 2, 1) := by decide +kernel
theorem dX4_accrued_7 : decode cX4_accrued 7 = .ok (.invokestatic 40, 3) := by decide +kernel
theorem dX4_accrued_10 : decode cX4_accrued 10 = .ok (.aload_n 3, 1) := by decide +kernel
theorem dX4_accrued_11 : decode cX4_accrued 11 = .ok (.iload_n 2, 1) := by decide +kernel
theorem dX4_accrued_12 : decode cX4_accrued 12 = .ok (.invokevirtual 187, 3) := by decide +kernel
theorem dX4_accrued_15 : decode cX4_accrued 15 = .ok (.l2i, 1) := by decide +kernel
theorem dX4_accrued_16 : decode cX4_accrued 16 = .ok (.ireturn, 1) := by decide +kernel
set_option maxRecDepth 20000 in
theorem ggX4_requireLife_X4_requireDate : GoodIn wsX4_requireLife wsX4_requireDate := goodIn_ca (goodIn_r _ [8, 1, 2, 9, 10, 11, 12, 13, 14, 15, 16, 17, 18, 19, 20, 21, 22, 23, 24, 25, 26] (by decide +kernel) (by decide +kernel)) (goodIn_sub (fun _ h => List.mem_cons_of_mem _ (List.mem_append_right _ h)) (by decide +kernel))
set_option maxRecDepth 20000 in
theorem gX4_requireLife_X4_requireDate : GoodIn wsX4_requireLife (va_wsS RX4 40 yX4_requireDate wsX4_requireDate) := goodIn_app (goodIn_of _ (by decide +kernel)) ggX4_requireLife_X4_requireDate
theorem dX4_requireLife_0 : decode cX4_requireLife 0 = .ok (.iload_n 1, 1) := by decide +kernel
theorem dX4_requireLife_1 : decode cX4_requireLife 1 = .ok (.invokestatic 40, 3) := by decide +kernel
theorem dX4_requireLife_4 : decode cX4_requireLife 4 = .ok (.iload_n 2, 1) := by decide +kernel
theorem dX4_requireLife_5 : decode cX4_requireLife 5 = .ok (.invokestatic 40, 3) := by decide +kernel
theorem dX4_requireLife_8 : decode cX4_requireLife 8 = .ok (.iload_n 2, 1) := by decide +kernel
theorem dX4_requireLife_9 : decode cX4_requireLife 9 = .ok (.ldc 78, 2) := by decide +kernel
theorem dX4_requireLife_11 : decode cX4_requireLife 11 = .ok (.if_icmp .le 13, 3) := by decide +kernel
theorem dX4_requireLife_14 : decode cX4_requireLife 14 = .ok (.new 44, 3) := by decide +kernel
theorem dX4_requireLife_17 : decode cX4_requireLife 17 = .ok (.dup, 1) := by decide +kernel
theorem dX4_requireLife_18 : decode cX4_requireLife 18 = .ok (.ldc 191, 2) := by decide +kernel
theorem dX4_requireLife_20 : decode cX4_requireLife 20 = .ok (.invokespecial 48, 3) := by decide +kernel
theorem dX4_requireLife_23 : decode cX4_requireLife 23 = .ok (.athrow, 1) := by decide +kernel
theorem dX4_requireLife_24 : decode cX4_requireLife 24 = .ok (.iload_n 2, 1) := by decide +kernel
theorem dX4_requireLife_25 : decode cX4_requireLife 25 = .ok (.iload_n 1, 1) := by decide +kernel
theorem dX4_requireLife_26 : decode cX4_requireLife 26 = .ok (.if_icmp .le 11, 3) := by decide +kernel
theorem dX4_requireLife_29 : decode cX4_requireLife 29 = .ok (.iload_n 2, 1) := by decide +kernel
theorem dX4_requireLife_30 : decode cX4_requireLife 30 = .ok (.aload_n 0, 1) := by decide +kernel
theorem dX4_requireLife_31 : decode cX4_requireLife 31 = .ok (.getfield 27, 3) := by decide +kernel
theorem dX4_requireLife_34 : decode cX4_requireLife 34 = .ok (.if_icmp .gt 13, 3) := by decide +kernel
theorem dX4_requireLife_37 : decode cX4_requireLife 37 = .ok (.new 44, 3) := by decide +kernel
theorem dX4_requireLife_40 : decode cX4_requireLife 40 = .ok (.dup, 1) := by decide +kernel
theorem dX4_requireLife_41 : decode cX4_requireLife 41 = .ok (.ldc 193, 2) := by decide +kernel
theorem dX4_requireLife_43 : decode cX4_requireLife 43 = .ok (.invokespecial 48, 3) := by decide +kernel
theorem dX4_requireLife_46 : decode cX4_requireLife 46 = .ok (.athrow, 1) := by decide +kernel
theorem dX4_requireLife_47 : decode cX4_requireLife 47 = .ok (.return_, 1) := by decide +kernel
set_option maxRecDepth 20000 in
theorem ggX4_requireTerms_X4_requireRate : GoodIn wsX4_requireTerms wsX4_requireRate := goodIn_ca (goodIn_r _ [6, 1, 2] (by decide +kernel) (by decide +kernel)) (goodIn_sub (fun _ h => List.mem_cons_of_mem _ (List.mem_append_right _ h)) (by decide +kernel))
set_option maxRecDepth 20000 in
theorem gX4_requireTerms_X4_requireRate : GoodIn wsX4_requireTerms (va_wsS RX4 163 yX4_requireRate wsX4_requireRate) := goodIn_app (goodIn_of _ (by decide +kernel)) ggX4_requireTerms_X4_requireRate
theorem dX4_requireTerms_0 : decode cX4_requireTerms 0 = .ok (.iload_n 0, 1) := by decide +kernel
theorem dX4_requireTerms_1 : decode cX4_requireTerms 1 = .ok (.invokestatic 163, 3) := by decide +kernel
theorem dX4_requireTerms_4 : decode cX4_requireTerms 4 = .ok (.iload_n 1, 1) := by decide +kernel
theorem dX4_requireTerms_5 : decode cX4_requireTerms 5 = .ok (.iconst 1, 1) := by decide +kernel
theorem dX4_requireTerms_6 : decode cX4_requireTerms 6 = .ok (.if_icmp .eq 29, 3) := by decide +kernel
theorem dX4_requireTerms_9 : decode cX4_requireTerms 9 = .ok (.iload_n 1, 1) := by decide +kernel
theorem dX4_requireTerms_10 : decode cX4_requireTerms 10 = .ok (.iconst 2, 1) := by decide +kernel
theorem dX4_requireTerms_11 : decode cX4_requireTerms 11 = .ok (.if_icmp .eq 24, 3) := by decide +kernel
theorem dX4_requireTerms_14 : decode cX4_requireTerms 14 = .ok (.iload_n 1, 1) := by decide +kernel
theorem dX4_requireTerms_15 : decode cX4_requireTerms 15 = .ok (.iconst 4, 1) := by decide +kernel
theorem dX4_requireTerms_16 : decode cX4_requireTerms 16 = .ok (.if_icmp .eq 19, 3) := by decide +kernel
theorem dX4_requireTerms_19 : decode cX4_requireTerms 19 = .ok (.iload_n 1, 1) := by decide +kernel
theorem dX4_requireTerms_20 : decode cX4_requireTerms 20 = .ok (.bipush 12, 2) := by decide +kernel
theorem dX4_requireTerms_22 : decode cX4_requireTerms 22 = .ok (.if_icmp .eq 13, 3) := by decide +kernel
theorem dX4_requireTerms_25 : decode cX4_requireTerms 25 = .ok (.new 44, 3) := by decide +kernel
theorem dX4_requireTerms_28 : decode cX4_requireTerms 28 = .ok (.dup, 1) := by decide +kernel
theorem dX4_requireTerms_29 : decode cX4_requireTerms 29 = .ok (.ldc 195, 2) := by decide +kernel
theorem dX4_requireTerms_31 : decode cX4_requireTerms 31 = .ok (.invokespecial 48, 3) := by decide +kernel
theorem dX4_requireTerms_34 : decode cX4_requireTerms 34 = .ok (.athrow, 1) := by decide +kernel
theorem dX4_requireTerms_35 : decode cX4_requireTerms 35 = .ok (.iload_n 2, 1) := by decide +kernel
theorem dX4_requireTerms_36 : decode cX4_requireTerms 36 = .ok (.ifCond .lt 8, 3) := by decide +kernel
theorem dX4_requireTerms_39 : decode cX4_requireTerms 39 = .ok (.iload_n 2, 1) := by decide +kernel
theorem dX4_requireTerms_40 : decode cX4_requireTerms 40 = .ok (.iconst 3, 1) := by decide +kernel
theorem dX4_requireTerms_41 : decode cX4_requireTerms 41 = .ok (.if_icmp .le 13, 3) := by decide +kernel
theorem dX4_requireTerms_44 : decode cX4_requireTerms 44 = .ok (.new 44, 3) := by decide +kernel
theorem dX4_requireTerms_47 : decode cX4_requireTerms 47 = .ok (.dup, 1) := by decide +kernel
theorem dX4_requireTerms_48 : decode cX4_requireTerms 48 = .ok (.ldc 197, 2) := by decide +kernel
theorem dX4_requireTerms_50 : decode cX4_requireTerms 50 = .ok (.invokespecial 48, 3) := by decide +kernel
theorem dX4_requireTerms_53 : decode cX4_requireTerms 53 = .ok (.athrow, 1) := by decide +kernel
theorem dX4_requireTerms_54 : decode cX4_requireTerms 54 = .ok (.return_, 1) := by decide +kernel
theorem dX4_requireRate_0 : decode cX4_requireRate 0 = .ok (.iload_n 0, 1) := by decide +kernel
theorem dX4_requireRate_1 : decode cX4_requireRate 1 = .ok (.ifCond .lt 10, 3) := by decide +kernel
theorem dX4_requireRate_4 : decode cX4_requireRate 4 = .ok (.iload_n 0, 1) := by decide +kernel
theorem dX4_requireRate_5 : decode cX4_requireRate 5 = .ok (.sipush 2000, 3) := by decide +kernel
theorem dX4_requireRate_8 : decode cX4_requireRate 8 = .ok (.if_icmp .le 13, 3) := by decide +kernel
theorem dX4_requireRate_11 : decode cX4_requireRate 11 = .ok (.new 44, 3) := by decide +kernel
theorem dX4_requireRate_14 : decode cX4_requireRate 14 = .ok (.dup, 1) := by decide +kernel
theorem dX4_requireRate_15 : decode cX4_requireRate 15 = .ok (.ldc 199, 2) := by decide +kernel
theorem dX4_requireRate_17 : decode cX4_requireRate 17 = .ok (.invokespecial 48, 3) := by decide +kernel
theorem dX4_requireRate_20 : decode cX4_requireRate 20 = .ok (.athrow, 1) := by decide +kernel
theorem dX4_requireRate_21 : decode cX4_requireRate 21 = .ok (.return_, 1) := by decide +kernel
set_option maxRecDepth 20000 in
theorem ggX4_requireThere_X0_isGone : GoodIn wsX4_requireThere wsX0_isGone := goodIn_r _ [7, 8, 9, 10, 11, 12, 13, 14, 15, 16, 17] (by decide +kernel) (by decide +kernel)
set_option maxRecDepth 20000 in
theorem gX4_requireThere_X0_isGone : GoodIn wsX4_requireThere (wsV RX4 201 RX0 yX0_isGone wsX0_isGone) := goodIn_app (goodIn_of _ (by decide +kernel)) ggX4_requireThere_X0_isGone
theorem dX4_requireThere_0 : decode cX4_requireThere 0 = .ok (.aload_n 0, 1) := by decide +kernel
theorem dX4_requireThere_1 : decode cX4_requireThere 1 = .ok (.invokevirtual 201, 3) := by decide +kernel
theorem dX4_requireThere_4 : decode cX4_requireThere 4 = .ok (.ifCond .eq 13, 3) := by decide +kernel
theorem dX4_requireThere_7 : decode cX4_requireThere 7 = .ok (.new 73, 3) := by decide +kernel
theorem dX4_requireThere_10 : decode cX4_requireThere 10 = .ok (.dup, 1) := by decide +kernel
theorem dX4_requireThere_11 : decode cX4_requireThere 11 = .ok (.ldc 205, 2) := by decide +kernel
theorem dX4_requireThere_13 : decode cX4_requireThere 13 = .ok (.invokespecial 77, 3) := by decide +kernel
theorem dX4_requireThere_16 : decode cX4_requireThere 16 = .ok (.athrow, 1) := by decide +kernel
theorem dX4_requireThere_17 : decode cX4_requireThere 17 = .ok (.return_, 1) := by decide +kernel
theorem dX4_bondNumbered_0 : decode cX4_bondNumbered 0 = .ok (.iload_n 1, 1) := by decide +kernel
theorem dX4_bondNumbered_1 : decode cX4_bondNumbered 1 = .ok (.ifCond .lt 21, 3) := by decide +kernel
theorem dX4_bondNumbered_4 : decode cX4_bondNumbered 4 = .ok (.iload_n 1, 1) := by decide +kernel
theorem dX4_bondNumbered_5 : decode cX4_bondNumbered 5 = .ok (.aload_n 0, 1) := by decide +kernel
theorem dX4_bondNumbered_6 : decode cX4_bondNumbered 6 = .ok (.getfield 15, 3) := by decide +kernel
theorem dX4_bondNumbered_9 : decode cX4_bondNumbered 9 = .ok (.arraylength, 1) := by decide +kernel
theorem dX4_bondNumbered_10 : decode cX4_bondNumbered 10 = .ok (.if_icmp .ge 12, 3) := by decide +kernel
theorem dX4_bondNumbered_13 : decode cX4_bondNumbered 13 = .ok (.aload_n 0, 1) := by decide +kernel
theorem dX4_bondNumbered_14 : decode cX4_bondNumbered 14 = .ok (.getfield 15, 3) := by decide +kernel
theorem dX4_bondNumbered_17 : decode cX4_bondNumbered 17 = .ok (.iload_n 1, 1) := by decide +kernel
theorem dX4_bondNumbered_18 : decode cX4_bondNumbered 18 = .ok (.aaload, 1) := by decide +kernel
theorem dX4_bondNumbered_19 : decode cX4_bondNumbered 19 = .ok (.goto 4, 3) := by decide +kernel
theorem dX4_bondNumbered_22 : decode cX4_bondNumbered 22 = .ok (.aconst_null, 1) := by decide +kernel
theorem dX4_bondNumbered_23 : decode cX4_bondNumbered 23 = .ok (.astore_n 2, 1) := by decide +kernel
theorem dX4_bondNumbered_24 : decode cX4_bondNumbered 24 = .ok (.aload_n 2, 1) := by decide +kernel
theorem dX4_bondNumbered_25 : decode cX4_bondNumbered 25 = .ok (.ifnonnull 13, 3) := by decide +kernel
theorem dX4_bondNumbered_28 : decode cX4_bondNumbered 28 = .ok (.new 166, 3) := by decide +kernel
theorem dX4_bondNumbered_31 : decode cX4_bondNumbered 31 = .ok (.dup, 1) := by decide +kernel
theorem dX4_bondNumbered_32 : decode cX4_bondNumbered 32 = .ok (.ldc 207, 2) := by decide +kernel
theorem dX4_bondNumbered_34 : decode cX4_bondNumbered 34 = .ok (.invokespecial 170, 3) := by decide +kernel
theorem dX4_bondNumbered_37 : decode cX4_bondNumbered 37 = .ok (.athrow, 1) := by decide +kernel
theorem dX4_bondNumbered_38 : decode cX4_bondNumbered 38 = .ok (.aload_n 2, 1) := by decide +kernel
theorem dX4_bondNumbered_39 : decode cX4_bondNumbered 39 = .ok (.areturn, 1) := by decide +kernel
set_option maxRecDepth 20000 in
theorem ggX4_worth_X4_bondNumbered : GoodIn wsX4_worth wsX4_bondNumbered := goodIn_ca (goodIn_r _ [7, 8, 9, 10, 80, 81, 82, 83, 84, 85, 86, 87] (by decide +kernel) (by decide +kernel)) (goodIn_sub (fun _ h => List.mem_cons_of_mem _ (List.mem_append_left _ (List.mem_append_right _ h))) (by decide +kernel))
set_option maxRecDepth 20000 in
theorem gX4_worth_X4_bondNumbered : GoodIn wsX4_worth (wsV RX4 125 RX4 yX4_bondNumbered wsX4_bondNumbered) := goodIn_app (goodIn_of _ (by decide +kernel)) ggX4_worth_X4_bondNumbered
set_option maxRecDepth 20000 in
theorem ggX4_worth_X4_requireYield : GoodIn wsX4_worth wsX4_requireYield := goodIn_ca (goodIn_r _ [13, 14, 15] (by decide +kernel) (by decide +kernel)) (goodIn_sub (fun _ h => List.mem_cons_of_mem _ (List.mem_append_right _ h)) (by decide +kernel))
set_option maxRecDepth 20000 in
theorem gX4_worth_X4_requireYield : GoodIn wsX4_worth (va_wsS RX4 209 yX4_requireYield wsX4_requireYield) := goodIn_app (goodIn_of _ (by decide +kernel)) ggX4_worth_X4_requireYield
set_option maxRecDepth 20000 in
theorem ggX4_worth_X0_worthAt : GoodIn wsX4_worth wsX0_worthAt := goodIn_r _ [20, 21, 22, 23, 24, 25, 26, 27, 28, 29, 30, 31, 32, 33, 34, 35, 36, 19, 37, 38, 39, 40, 41, 42, 43, 44, 45, 46, 47, 48, 49, 50, 51, 52, 53, 54, 55, 56, 57, 58, 59, 60, 61, 62, 63, 64, 65, 66, 67, 68, 69, 70, 71, 72, 73, 74, 75, 76, 77, 78, 79, 88, 89, 90, 91, 92, 93, 94, 95, 96, 97, 98, 99, 100, 101, 102, 103, 104, 105] (by decide +kernel) (by decide +kernel)
set_option maxRecDepth 20000 in
theorem gX4_worth_X0_worthAt : GoodIn wsX4_worth (wsV RX4 215 RX0 yX0_worthAt wsX0_worthAt) := goodIn_app (goodIn_of _ (by decide +kernel)) ggX4_worth_X0_worthAt
theorem dX4_worth_0 : decode cX4_worth 0 = .ok (.aload_n 0, 1) := by decide +kernel
theorem dX4_worth_1 : decode cX4_worth 1 = .ok (.iload_n 1, 1) := by decide +kernel
theorem dX4_worth_2 : decode cX4_worth 2 = .ok (.invokevirtual 125, 3) := by decide +kernel
theorem dX4_worth_5 : decode cX4_worth 5 = .ok (.astore_n 3, 1) := by decide +kernel
theorem dX4_worth_6 : decode cX4_worth 6 = .ok (.iload_n 2, 1) := by decide +kernel
theorem dX4_worth_7 : decode cX4_worth 7 = .ok (.invokestatic 209, 3) := by decide +kernel
theorem dX4_worth_10 : decode cX4_worth 10 = .ok (.aload_n 3, 1) := by decide +kernel
theorem dX4_worth_11 : decode cX4_worth 11 = .ok (.aload_n 0, 1) := by decide +kernel
theorem dX4_worth_12 : decode cX4_worth 12 = .ok (.getfield 27, 3) := by decide +kernel
theorem dX4_worth_15 : decode cX4_worth 15 = .ok (.aload_n 3, 1) := by decide +kernel
theorem dX4_worth_16 : decode cX4_worth 16 = .ok (.getfield 212, 3) := by decide +kernel
theorem dX4_worth_19 : decode cX4_worth 19 = .ok (.iload_n 2, 1) := by decide +kernel
theorem dX4_worth_20 : decode cX4_worth 20 = .ok (.invokevirtual 215, 3) := by decide +kernel
theorem dX4_worth_23 : decode cX4_worth 23 = .ok (.l2i, 1) := by decide +kernel
theorem dX4_worth_24 : decode cX4_worth 24 = .ok (.ireturn, 1) := by decide +kernel
set_option maxRecDepth 20000 in
theorem ggX4_yields_X4_bondNumbered : GoodIn wsX4_yields wsX4_bondNumbered := goodIn_ca (goodIn_r _ [6, 7, 8, 9, 130, 131, 132, 133, 134, 135, 136, 137] (by decide +kernel) (by decide +kernel)) (goodIn_sub (fun _ h => List.mem_cons_of_mem _ (List.mem_append_left _ (List.mem_append_right _ h))) (by decide +kernel))
set_option maxRecDepth 20000 in
theorem gX4_yields_X4_bondNumbered : GoodIn wsX4_yields (wsV RX4 125 RX4 yX4_bondNumbered wsX4_bondNumbered) := goodIn_app (goodIn_of _ (by decide +kernel)) ggX4_yields_X4_bondNumbered
set_option maxRecDepth 20000 in
theorem ggX4_yields_X4_requirePrice : GoodIn wsX4_yields wsX4_requirePrice := goodIn_ca (goodIn_r _ [12, 13, 14] (by decide +kernel) (by decide +kernel)) (goodIn_sub (fun _ h => List.mem_cons_of_mem _ (List.mem_append_right _ h)) (by decide +kernel))
set_option maxRecDepth 20000 in
theorem gX4_yields_X4_requirePrice : GoodIn wsX4_yields (va_wsS RX4 219 yX4_requirePrice wsX4_requirePrice) := goodIn_app (goodIn_of _ (by decide +kernel)) ggX4_yields_X4_requirePrice
set_option maxRecDepth 20000 in
theorem ggX4_yields_X0_yieldAt : GoodIn wsX4_yields wsX0_yieldAt := goodIn_r _ [19, 20, 21, 22, 23, 18, 24, 25, 26, 27, 28, 29, 30, 31, 32, 33, 34, 35, 36, 37, 38, 39, 40, 41, 42, 43, 44, 45, 46, 47, 48, 49, 50, 51, 52, 53, 54, 55, 56, 57, 58, 59, 60, 61, 62, 63, 64, 65, 66, 67, 68, 69, 70, 71, 72, 73, 74, 75, 76, 77, 78, 79, 80, 81, 82, 83, 84, 85, 86, 87, 88, 89, 90, 91, 92, 93, 94, 95, 96, 97, 98, 99, 100, 101, 102, 103, 104, 105, 106, 107, 108, 109, 110, 111, 112, 113, 114, 115, 116, 117, 118, 119, 120, 121, 122, 123, 124, 125, 126, 127, 128, 129, 138, 139, 140, 141, 142, 143, 144, 145, 146, 147, 148, 149, 150, 151, 152, 153, 154, 155] (by decide +kernel) (by decide +kernel)
set_option maxRecDepth 20000 in
theorem gX4_yields_X0_yieldAt : GoodIn wsX4_yields (wsV RX4 222 RX0 yX0_yieldAt wsX0_yieldAt) := goodIn_app (goodIn_of _ (by decide +kernel)) ggX4_yields_X0_yieldAt
theorem dX4_yields_0 : decode cX4_yields 0 = .ok (.aload_n 0, 1) := by decide +kernel
theorem dX4_yields_1 : decode cX4_yields 1 = .ok (.iload_n 1, 1) := by decide +kernel
theorem dX4_yields_2 : decode cX4_yields 2 = .ok (.invokevirtual 125, 3) := by decide +kernel
theorem dX4_yields_5 : decode cX4_yields 5 = .ok (.astore_n 3, 1) := by decide +kernel
theorem dX4_yields_6 : decode cX4_yields 6 = .ok (.iload_n 2, 1) := by decide +kernel
theorem dX4_yields_7 : decode cX4_yields 7 = .ok (.invokestatic 219, 3) := by decide +kernel
theorem dX4_yields_10 : decode cX4_yields 10 = .ok (.aload_n 3, 1) := by decide +kernel
theorem dX4_yields_11 : decode cX4_yields 11 = .ok (.aload_n 0, 1) := by decide +kernel
theorem dX4_yields_12 : decode cX4_yields 12 = .ok (.getfield 27, 3) := by decide +kernel
theorem dX4_yields_15 : decode cX4_yields 15 = .ok (.iload_n 2, 1) := by decide +kernel
theorem dX4_yields_16 : decode cX4_yields 16 = .ok (.invokevirtual 222, 3) := by decide +kernel
theorem dX4_yields_19 : decode cX4_yields 19 = .ok (.ireturn, 1) := by decide +kernel
set_option maxRecDepth 20000 in
theorem ggX4_moves_X4_bondNumbered : GoodIn wsX4_moves wsX4_bondNumbered := goodIn_ca (goodIn_r _ [7, 8, 9, 10, 80, 81, 82, 83, 84, 85, 86, 87] (by decide +kernel) (by decide +kernel)) (goodIn_sub (fun _ h => List.mem_cons_of_mem _ (List.mem_append_left _ (List.mem_append_right _ h))) (by decide +kernel))
set_option maxRecDepth 20000 in
theorem gX4_moves_X4_bondNumbered : GoodIn wsX4_moves (wsV RX4 125 RX4 yX4_bondNumbered wsX4_bondNumbered) := goodIn_app (goodIn_of _ (by decide +kernel)) ggX4_moves_X4_bondNumbered
set_option maxRecDepth 20000 in
theorem ggX4_moves_X4_requireYield : GoodIn wsX4_moves wsX4_requireYield := goodIn_ca (goodIn_r _ [13, 14, 15] (by decide +kernel) (by decide +kernel)) (goodIn_sub (fun _ h => List.mem_cons_of_mem _ (List.mem_append_right _ h)) (by decide +kernel))
set_option maxRecDepth 20000 in
theorem gX4_moves_X4_requireYield : GoodIn wsX4_moves (va_wsS RX4 209 yX4_requireYield wsX4_requireYield) := goodIn_app (goodIn_of _ (by decide +kernel)) ggX4_moves_X4_requireYield
set_option maxRecDepth 20000 in
theorem ggX4_moves_X0_worthAt : GoodIn wsX4_moves wsX0_worthAt := goodIn_r _ [20, 21, 22, 23, 24, 25, 26, 27, 28, 29, 30, 31, 32, 33, 34, 35, 36, 19, 37, 38, 39, 40, 41, 42, 43, 44, 45, 46, 47, 48, 49, 50, 51, 52, 53, 54, 55, 56, 57, 58, 59, 60, 61, 62, 63, 64, 65, 66, 67, 68, 69, 70, 71, 72, 73, 74, 75, 76, 77, 78, 79, 88, 89, 90, 91, 92, 93, 94, 95, 96, 97, 98, 99, 100, 101, 102, 103, 104, 105] (by decide +kernel) (by decide +kernel)
set_option maxRecDepth 20000 in
theorem gX4_moves_X0_worthAt : GoodIn wsX4_moves (wsV RX4 215 RX0 yX0_worthAt wsX0_worthAt) := goodIn_app (goodIn_of _ (by decide +kernel)) ggX4_moves_X0_worthAt
theorem dX4_moves_0 : decode cX4_moves 0 = .ok (.aload_n 0, 1) := by decide +kernel
theorem dX4_moves_1 : decode cX4_moves 1 = .ok (.iload_n 1, 1) := by decide +kernel
theorem dX4_moves_2 : decode cX4_moves 2 = .ok (.invokevirtual 125, 3) := by decide +kernel
theorem dX4_moves_5 : decode cX4_moves 5 = .ok (.astore_n 3, 1) := by decide +kernel
theorem dX4_moves_6 : decode cX4_moves 6 = .ok (.iload_n 2, 1) := by decide +kernel
theorem dX4_moves_7 : decode cX4_moves 7 = .ok (.invokestatic 209, 3) := by decide +kernel
theorem dX4_moves_10 : decode cX4_moves 10 = .ok (.aload_n 3, 1) := by decide +kernel
theorem dX4_moves_11 : decode cX4_moves 11 = .ok (.aload_n 0, 1) := by decide +kernel
theorem dX4_moves_12 : decode cX4_moves 12 = .ok (.getfield 27, 3) := by decide +kernel
theorem dX4_moves_15 : decode cX4_moves 15 = .ok (.aload_n 3, 1) := by decide +kernel
theorem dX4_moves_16 : decode cX4_moves 16 = .ok (.getfield 212, 3) := by decide +kernel
theorem dX4_moves_19 : decode cX4_moves 19 = .ok (.iload_n 2, 1) := by decide +kernel
theorem dX4_moves_20 : decode cX4_moves 20 = .ok (.invokevirtual 215, 3) := by decide +kernel
theorem dX4_moves_23 : decode cX4_moves 23 = .ok (.aload_n 3, 1) := by decide +kernel
theorem dX4_moves_24 : decode cX4_moves 24 = .ok (.aload_n 0, 1) := by decide +kernel
theorem dX4_moves_25 : decode cX4_moves 25 = .ok (.getfield 27, 3) := by decide +kernel
theorem dX4_moves_28 : decode cX4_moves 28 = .ok (.aload_n 3, 1) := by decide +kernel
theorem dX4_moves_29 : decode cX4_moves 29 = .ok (.getfield 212, 3) := by decide +kernel
theorem dX4_moves_32 : decode cX4_moves 32 = .ok (.iload_n 2, 1) := by decide +kernel
theorem dX4_moves_33 : decode cX4_moves 33 = .ok (.iconst 1, 1) := by decide +kernel
theorem dX4_moves_34 : decode cX4_moves 34 = .ok (.iadd, 1) := by decide +kernel
theorem dX4_moves_35 : decode cX4_moves 35 = .ok (.invokevirtual 215, 3) := by decide +kernel
theorem dX4_moves_38 : decode cX4_moves 38 = .ok (.lsub, 1) := by decide +kernel
theorem dX4_moves_39 : decode cX4_moves 39 = .ok (.l2i, 1) := by decide +kernel
theorem dX4_moves_40 : decode cX4_moves 40 = .ok (.ireturn, 1) := by decide +kernel
set_option maxRecDepth 20000 in
theorem ggX4_callsAt_X4_bondNumbered : GoodIn wsX4_callsAt wsX4_bondNumbered := goodIn_ca (goodIn_r _ [5, 6, 7, 8, 101, 102, 103, 104, 105, 106, 107, 108] (by decide +kernel) (by decide +kernel)) (goodIn_sub (fun _ h => List.mem_cons_of_mem _ (List.mem_append_right _ h)) (by decide +kernel))
set_option maxRecDepth 20000 in
theorem gX4_callsAt_X4_bondNumbered : GoodIn wsX4_callsAt (wsV RX4 125 RX4 yX4_bondNumbered wsX4_bondNumbered) := goodIn_app (goodIn_of _ (by decide +kernel)) ggX4_callsAt_X4_bondNumbered
set_option maxRecDepth 20000 in
theorem ggX4_callsAt_X0_rateOfCall : GoodIn wsX4_callsAt wsX0_rateOfCall := goodIn_r _ [13, 14, 15, 16, 17, 18, 12, 19, 20, 21, 22, 23, 24, 25, 26, 27, 28, 29, 30, 31, 32, 33, 34, 35, 36, 37, 38, 39, 40, 41, 42, 43, 44, 45, 46, 47, 48, 49, 50, 51, 52, 53, 54, 55, 56, 57, 58, 59, 60, 61, 62, 63, 64, 65, 66, 67, 68, 69, 70, 71, 72, 73, 74, 75, 76, 77, 78, 79, 80, 81, 82, 83, 84, 85, 86, 87, 88, 89, 90, 91, 92, 93, 94, 95, 96, 97, 98, 99, 100, 109, 110, 111, 112, 113, 114, 115, 116, 117, 118, 119, 120, 121, 122, 123, 124, 125, 126] (by decide +kernel) (by decide +kernel)
set_option maxRecDepth 20000 in
theorem gX4_callsAt_X0_rateOfCall : GoodIn wsX4_callsAt (wsV RX4 226 RX0 yX0_rateOfCall wsX0_rateOfCall) := goodIn_app (goodIn_of _ (by decide +kernel)) ggX4_callsAt_X0_rateOfCall
theorem dX4_callsAt_0 : decode cX4_callsAt 0 = .ok (.aload_n 0, 1) := by decide +kernel
theorem dX4_callsAt_1 : decode cX4_callsAt 1 = .ok (.iload_n 1, 1) := by decide +kernel
theorem dX4_callsAt_2 : decode cX4_callsAt 2 = .ok (.invokevirtual 125, 3) := by decide +kernel
theorem dX4_callsAt_5 : decode cX4_callsAt 5 = .ok (.invokevirtual 226, 3) := by decide +kernel
theorem dX4_callsAt_8 : decode cX4_callsAt 8 = .ok (.ireturn, 1) := by decide +kernel
theorem dX4_requireYield_0 : decode cX4_requireYield 0 = .ok (.iload_n 0, 1) := by decide +kernel
theorem dX4_requireYield_1 : decode cX4_requireYield 1 = .ok (.ifCond .lt 10, 3) := by decide +kernel
theorem dX4_requireYield_4 : decode cX4_requireYield 4 = .ok (.iload_n 0, 1) := by decide +kernel
theorem dX4_requireYield_5 : decode cX4_requireYield 5 = .ok (.sipush 5000, 3) := by decide +kernel
theorem dX4_requireYield_8 : decode cX4_requireYield 8 = .ok (.if_icmp .le 13, 3) := by decide +kernel
theorem dX4_requireYield_11 : decode cX4_requireYield 11 = .ok (.new 44, 3) := by decide +kernel
theorem dX4_requireYield_14 : decode cX4_requireYield 14 = .ok (.dup, 1) := by decide +kernel
theorem dX4_requireYield_15 : decode cX4_requireYield 15 = .ok (.ldc 229, 2) := by decide +kernel
theorem dX4_requireYield_17 : decode cX4_requireYield 17 = .ok (.invokespecial 48, 3) := by decide +kernel
theorem dX4_requireYield_20 : decode cX4_requireYield 20 = .ok (.athrow, 1) := by decide +kernel
theorem dX4_requireYield_21 : decode cX4_requireYield 21 = .ok (.return_, 1) := by decide +kernel
theorem dX4_requirePrice_0 : decode cX4_requirePrice 0 = .ok (.iload_n 0, 1) := by decide +kernel
theorem dX4_requirePrice_1 : decode cX4_requirePrice 1 = .ok (.iconst 1, 1) := by decide +kernel
theorem dX4_requirePrice_2 : decode cX4_requirePrice 2 = .ok (.if_icmp .lt 10, 3) := by decide +kernel
theorem dX4_requirePrice_5 : decode cX4_requirePrice 5 = .ok (.iload_n 0, 1) := by decide +kernel
theorem dX4_requirePrice_6 : decode cX4_requirePrice 6 = .ok (.sipush 30000, 3) := by decide +kernel
theorem dX4_requirePrice_9 : decode cX4_requirePrice 9 = .ok (.if_icmp .le 13, 3) := by decide +kernel
theorem dX4_requirePrice_12 : decode cX4_requirePrice 12 = .ok (.new 44, 3) := by decide +kernel
theorem dX4_requirePrice_15 : decode cX4_requirePrice 15 = .ok (.dup, 1) := by decide +kernel
theorem dX4_requirePrice_16 : decode cX4_requirePrice 16 = .ok (.ldc 231, 2) := by decide +kernel
theorem dX4_requirePrice_18 : decode cX4_requirePrice 18 = .ok (.invokespecial 48, 3) := by decide +kernel
theorem dX4_requirePrice_21 : decode cX4_requirePrice 21 = .ok (.athrow, 1) := by decide +kernel
theorem dX4_requirePrice_22 : decode cX4_requirePrice 22 = .ok (.return_, 1) := by decide +kernel
set_option maxRecDepth 20000 in
theorem ggX4_buy_X4_bondNumbered : GoodIn wsX4_buy wsX4_bondNumbered := goodIn_ca (goodIn_r _ [10, 11, 12, 13, 128, 129, 130, 131, 132, 133, 134, 135] (by decide +kernel) (by decide +kernel)) (goodIn_sub (fun _ h => List.mem_cons_of_mem _ (List.mem_append_left _ (List.mem_append_right _ h))) (by decide +kernel))
set_option maxRecDepth 20000 in
theorem gX4_buy_X4_bondNumbered : GoodIn wsX4_buy (wsV RX4 125 RX4 yX4_bondNumbered wsX4_bondNumbered) := goodIn_app (goodIn_of _ (by decide +kernel)) ggX4_buy_X4_bondNumbered
set_option maxRecDepth 20000 in
theorem ggX4_buy_X4_requirePieces : GoodIn wsX4_buy wsX4_requirePieces := goodIn_ca (goodIn_r _ [16, 17, 18] (by decide +kernel) (by decide +kernel)) (goodIn_sub (fun _ h => List.mem_cons_of_mem _ (List.mem_append_right _ h)) (by decide +kernel))
set_option maxRecDepth 20000 in
theorem gX4_buy_X4_requirePieces : GoodIn wsX4_buy (va_wsS RX4 233 yX4_requirePieces wsX4_requirePieces) := goodIn_app (goodIn_of _ (by decide +kernel)) ggX4_buy_X4_requirePieces
set_option maxRecDepth 20000 in
theorem ggX4_buy_X4_requirePrice : GoodIn wsX4_buy wsX4_requirePrice := goodIn_ca (goodIn_r _ [21, 17, 18] (by decide +kernel) (by decide +kernel)) (goodIn_sub (fun _ h => List.mem_cons_of_mem _ (List.mem_append_right _ h)) (by decide +kernel))
set_option maxRecDepth 20000 in
theorem gX4_buy_X4_requirePrice : GoodIn wsX4_buy (va_wsS RX4 219 yX4_requirePrice wsX4_requirePrice) := goodIn_app (goodIn_of _ (by decide +kernel)) ggX4_buy_X4_requirePrice
set_option maxRecDepth 20000 in
theorem ggX4_buy_X4_requireWorkingDay : GoodIn wsX4_buy wsX4_requireWorkingDay := goodIn_ca (goodIn_r _ [25, 1, 2, 3, 26, 27, 28, 29, 30, 31, 32, 33, 9, 34, 35, 36, 37, 38, 39, 40, 41, 42, 43, 44, 45, 46, 47, 48, 128, 129, 130, 131, 132, 133, 134, 135] (by decide +kernel) (by decide +kernel)) (goodIn_sub (fun _ h => List.mem_cons_of_mem _ (List.mem_append_left _ (List.mem_append_left _ (List.mem_append_right _ h)))) (by decide +kernel))
set_option maxRecDepth 20000 in
theorem gX4_buy_X4_requireWorkingDay : GoodIn wsX4_buy (wsV RX4 236 RX4 yX4_requireWorkingDay wsX4_requireWorkingDay) := goodIn_app (goodIn_of _ (by decide +kernel)) ggX4_buy_X4_requireWorkingDay
set_option maxRecDepth 20000 in
theorem ggX4_buy_X4_requireThere : GoodIn wsX4_buy wsX4_requireThere := goodIn_ca (goodIn_r _ [51, 1, 2, 52, 53, 54, 55, 56, 57, 136, 137, 138, 139, 140, 141, 142, 143, 144] (by decide +kernel) (by decide +kernel)) (goodIn_sub (fun _ h => List.mem_cons_of_mem _ (List.mem_append_left _ (List.mem_append_left _ (List.mem_append_right _ h)))) (by decide +kernel))
set_option maxRecDepth 20000 in
theorem gX4_buy_X4_requireThere : GoodIn wsX4_buy (va_wsS RX4 131 yX4_requireThere wsX4_requireThere) := goodIn_app (goodIn_of _ (by decide +kernel)) ggX4_buy_X4_requireThere
set_option maxRecDepth 20000 in
theorem ggX4_buy_X0_isIssued : GoodIn wsX4_buy wsX0_isIssued := goodIn_r _ [61, 62, 63, 136, 137, 138, 139, 140, 141, 142, 143, 144, 145, 146, 147, 148, 149, 150, 151, 152, 153] (by decide +kernel) (by decide +kernel)
set_option maxRecDepth 20000 in
theorem gX4_buy_X0_isIssued : GoodIn wsX4_buy (wsV RX4 239 RX0 yX0_isIssued wsX0_isIssued) := goodIn_app (goodIn_of _ (by decide +kernel)) ggX4_buy_X0_isIssued
set_option maxRecDepth 20000 in
theorem ggX4_buy_X0_fullPrice : GoodIn wsX4_buy wsX0_fullPrice := goodIn_r _ [67, 68, 62, 69, 70, 71, 55, 72, 73, 74, 75, 76, 77, 78, 79, 80, 81, 82, 83, 84, 85, 86, 87, 88, 89, 90, 91, 92, 93, 94, 95, 96, 97, 98, 99, 100, 101, 28, 102, 103, 27, 29, 30, 104, 105, 106, 107, 108, 109, 110, 111, 112, 113, 114, 115, 116, 117, 118, 119, 120, 121, 122, 123, 124, 125, 126, 127, 136, 137, 138, 139, 140, 141, 142, 143, 144, 145, 146, 147, 148, 149, 150, 151, 152, 153] (by decide +kernel) (by decide +kernel)
set_option maxRecDepth 20000 in
theorem gX4_buy_X0_fullPrice : GoodIn wsX4_buy (wsV RX4 249 RX0 yX0_fullPrice wsX0_fullPrice) := goodIn_app (goodIn_of _ (by decide +kernel)) ggX4_buy_X0_fullPrice
theorem dX4_buy_0 : decode cX4_buy 0 = .ok (.aload_n 0, 1) := by decide +kernel
theorem dX4_buy_1 : decode cX4_buy 1 = .ok (.iload_n 1, 1) := by decide +kernel
theorem dX4_buy_2 : decode cX4_buy 2 = .ok (.invokevirtual 125, 3) := by decide +kernel
theorem dX4_buy_5 : decode cX4_buy 5 = .ok (.astore 4, 2) := by decide +kernel
theorem dX4_buy_7 : decode cX4_buy 7 = .ok (.iload_n 2, 1) := by decide +kernel
theorem dX4_buy_8 : decode cX4_buy 8 = .ok (.invokestatic 233, 3) := by decide +kernel
theorem dX4_buy_11 : decode cX4_buy 11 = .ok (.iload_n 3, 1) := by decide +kernel
theorem dX4_buy_12 : decode cX4_buy 12 = .ok (.invokestatic 219, 3) := by decide +kernel
theorem dX4_buy_15 : decode cX4_buy 15 = .ok (.aload_n 0, 1) := by decide +kernel
theorem dX4_buy_16 : decode cX4_buy 16 = .ok (.invokevirtual 236, 3) := by decide +kernel
theorem dX4_buy_19 : decode cX4_buy 19 = .ok (.aload 4, 2) := by decide +kernel
theorem dX4_buy_21 : decode cX4_buy 21 = .ok (.invokestatic 131, 3) := by decide +kernel
theorem dX4_buy_24 : decode cX4_buy 24 = .ok (.aload 4, 2) := by decide +kernel
theorem dX4_buy_26 : decode cX4_buy 26 = .ok (.aload_n 0, 1) := by decide +kernel
theorem dX4_buy_27 : decode cX4_buy 27 = .ok (.getfield 27, 3) := by decide +kernel
theorem dX4_buy_30 : decode cX4_buy 30 = .ok (.invokevirtual 239, 3) := by decide +kernel
theorem dX4_buy_33 : decode cX4_buy 33 = .ok (.ifCond .ne 13, 3) := by decide +kernel
theorem dX4_buy_36 : decode cX4_buy 36 = .ok (.new 73, 3) := by decide +kernel
theorem dX4_buy_39 : decode cX4_buy 39 = .ok (.dup, 1) := by decide +kernel
theorem dX4_buy_40 : decode cX4_buy 40 = .ok (.ldc 242, 2) := by decide +kernel
theorem dX4_buy_42 : decode cX4_buy 42 = .ok (.invokespecial 77, 3) := by decide +kernel
theorem dX4_buy_45 : decode cX4_buy 45 = .ok (.athrow, 1) := by decide +kernel
theorem dX4_buy_46 : decode cX4_buy 46 = .ok (.aload 4, 2) := by decide +kernel
theorem dX4_buy_48 : decode cX4_buy 48 = .ok (.getfield 244, 3) := by decide +kernel
theorem dX4_buy_51 : decode cX4_buy 51 = .ok (.iload_n 2, 1) := by decide +kernel
theorem dX4_buy_52 : decode cX4_buy 52 = .ok (.iadd, 1) := by decide +kernel
theorem dX4_buy_53 : decode cX4_buy 53 = .ok (.sipush 1000, 3) := by decide +kernel
theorem dX4_buy_56 : decode cX4_buy 56 = .ok (.if_icmp .le 13, 3) := by decide +kernel
theorem dX4_buy_59 : decode cX4_buy 59 = .ok (.new 73, 3) := by decide +kernel
theorem dX4_buy_62 : decode cX4_buy 62 = .ok (.dup, 1) := by decide +kernel
theorem dX4_buy_63 : decode cX4_buy 63 = .ok (.ldc 247, 2) := by decide +kernel
theorem dX4_buy_65 : decode cX4_buy 65 = .ok (.invokespecial 77, 3) := by decide +kernel
theorem dX4_buy_68 : decode cX4_buy 68 = .ok (.athrow, 1) := by decide +kernel
theorem dX4_buy_69 : decode cX4_buy 69 = .ok (.iload_n 2, 1) := by decide +kernel
theorem dX4_buy_70 : decode cX4_buy 70 = .ok (.i2l, 1) := by decide +kernel
theorem dX4_buy_71 : decode cX4_buy 71 = .ok (.aload 4, 2) := by decide +kernel
theorem dX4_buy_73 : decode cX4_buy 73 = .ok (.aload_n 0, 1) := by decide +kernel
theorem dX4_buy_74 : decode cX4_buy 74 = .ok (.getfield 27, 3) := by decide +kernel
theorem dX4_buy_77 : decode cX4_buy 77 = .ok (.iload_n 3, 1) := by decide +kernel
theorem dX4_buy_78 : decode cX4_buy 78 = .ok (.invokevirtual 249, 3) := by decide +kernel
theorem dX4_buy_81 : decode cX4_buy 81 = .ok (.lmul, 1) := by decide +kernel
theorem dX4_buy_82 : decode cX4_buy 82 = .ok (.lstore 5, 2) := by decide +kernel
theorem dX4_buy_84 : decode cX4_buy 84 = .ok (.lload 5, 2) := by decide +kernel
theorem dX4_buy_86 : decode cX4_buy 86 = .ok (.aload_n 0, 1) := by decide +kernel
theorem dX4_buy_87 : decode cX4_buy 87 = .ok (.getfield 33, 3) := by decide +kernel
theorem dX4_buy_90 : decode cX4_buy 90 = .ok (.lcmp, 1) := by decide +kernel
theorem dX4_buy_91 : decode cX4_buy 91 = .ok (.ifCond .le 13, 3) := by decide +kernel
theorem dX4_buy_94 : decode cX4_buy 94 = .ok (.new 73, 3) := by decide +kernel
theorem dX4_buy_97 : decode cX4_buy 97 = .ok (.dup, 1) := by decide +kernel
theorem dX4_buy_98 : decode cX4_buy 98 = .ok (.ldc 253, 2) := by decide +kernel
theorem dX4_buy_100 : decode cX4_buy 100 = .ok (.invokespecial 77, 3) := by decide +kernel
theorem dX4_buy_103 : decode cX4_buy 103 = .ok (.athrow, 1) := by decide +kernel
theorem dX4_buy_104 : decode cX4_buy 104 = .ok (.aload 4, 2) := by decide +kernel
theorem dX4_buy_106 : decode cX4_buy 106 = .ok (.dup, 1) := by decide +kernel
theorem dX4_buy_107 : decode cX4_buy 107 = .ok (.getfield 244, 3) := by decide +kernel
theorem dX4_buy_110 : decode cX4_buy 110 = .ok (.iload_n 2, 1) := by decide +kernel
theorem dX4_buy_111 : decode cX4_buy 111 = .ok (.iadd, 1) := by decide +kernel
theorem dX4_buy_112 : decode cX4_buy 112 = .ok (.putfield 244, 3) := by decide +kernel
theorem dX4_buy_115 : decode cX4_buy 115 = .ok (.aload_n 0, 1) := by decide +kernel
theorem dX4_buy_116 : decode cX4_buy 116 = .ok (.dup, 1) := by decide +kernel
theorem dX4_buy_117 : decode cX4_buy 117 = .ok (.getfield 33, 3) := by decide +kernel
theorem dX4_buy_120 : decode cX4_buy 120 = .ok (.lload 5, 2) := by decide +kernel
theorem dX4_buy_122 : decode cX4_buy 122 = .ok (.lsub, 1) := by decide +kernel
theorem dX4_buy_123 : decode cX4_buy 123 = .ok (.putfield 33, 3) := by decide +kernel
theorem dX4_buy_126 : decode cX4_buy 126 = .ok (.lload 5, 2) := by decide +kernel
theorem dX4_buy_128 : decode cX4_buy 128 = .ok (.lreturn, 1) := by decide +kernel
set_option maxRecDepth 20000 in
theorem ggX4_sell_X4_bondNumbered : GoodIn wsX4_sell wsX4_bondNumbered := goodIn_ca (goodIn_r _ [10, 11, 12, 13, 124, 125, 126, 127, 128, 129, 130, 131] (by decide +kernel) (by decide +kernel)) (goodIn_sub (fun _ h => List.mem_cons_of_mem _ (List.mem_append_left _ (List.mem_append_right _ h))) (by decide +kernel))
set_option maxRecDepth 20000 in
theorem gX4_sell_X4_bondNumbered : GoodIn wsX4_sell (wsV RX4 125 RX4 yX4_bondNumbered wsX4_bondNumbered) := goodIn_app (goodIn_of _ (by decide +kernel)) ggX4_sell_X4_bondNumbered
set_option maxRecDepth 20000 in
theorem ggX4_sell_X4_requirePieces : GoodIn wsX4_sell wsX4_requirePieces := goodIn_ca (goodIn_r _ [16, 17, 18] (by decide +kernel) (by decide +kernel)) (goodIn_sub (fun _ h => List.mem_cons_of_mem _ (List.mem_append_right _ h)) (by decide +kernel))
set_option maxRecDepth 20000 in
theorem gX4_sell_X4_requirePieces : GoodIn wsX4_sell (va_wsS RX4 233 yX4_requirePieces wsX4_requirePieces) := goodIn_app (goodIn_of _ (by decide +kernel)) ggX4_sell_X4_requirePieces
set_option maxRecDepth 20000 in
theorem ggX4_sell_X4_requirePrice : GoodIn wsX4_sell wsX4_requirePrice := goodIn_ca (goodIn_r _ [21, 17, 18] (by decide +kernel) (by decide +kernel)) (goodIn_sub (fun _ h => List.mem_cons_of_mem _ (List.mem_append_right _ h)) (by decide +kernel))
set_option maxRecDepth 20000 in
theorem gX4_sell_X4_requirePrice : GoodIn wsX4_sell (va_wsS RX4 219 yX4_requirePrice wsX4_requirePrice) := goodIn_app (goodIn_of _ (by decide +kernel)) ggX4_sell_X4_requirePrice
set_option maxRecDepth 20000 in
theorem ggX4_sell_X4_requireWorkingDay : GoodIn wsX4_sell wsX4_requireWorkingDay := goodIn_ca (goodIn_r _ [25, 1, 2, 4, 26, 27, 28, 29, 30, 31, 32, 33, 9, 34, 35, 36, 37, 38, 39, 40, 41, 42, 43, 44, 45, 46, 47, 48, 124, 125, 126, 127, 128, 129, 130, 131] (by decide +kernel) (by decide +kernel)) (goodIn_sub (fun _ h => List.mem_cons_of_mem _ (List.mem_append_left _ (List.mem_append_left _ (List.mem_append_right _ h)))) (by decide +kernel))
set_option maxRecDepth 20000 in
theorem gX4_sell_X4_requireWorkingDay : GoodIn wsX4_sell (wsV RX4 236 RX4 yX4_requireWorkingDay wsX4_requireWorkingDay) := goodIn_app (goodIn_of _ (by decide +kernel)) ggX4_sell_X4_requireWorkingDay
set_option maxRecDepth 20000 in
theorem ggX4_sell_X0_fullPrice : GoodIn wsX4_sell wsX0_fullPrice := goodIn_r _ [53, 54, 55, 56, 57, 58, 52, 59, 60, 61, 62, 63, 64, 65, 66, 67, 68, 69, 70, 71, 72, 73, 74, 75, 76, 77, 78, 79, 80, 81, 82, 83, 84, 85, 86, 87, 88, 28, 89, 90, 27, 29, 30, 91, 92, 93, 94, 95, 96, 97, 98, 99, 100, 101, 102, 103, 104, 105, 106, 107, 108, 109, 110, 111, 112, 113, 114, 115, 116, 117, 118, 119, 120, 121, 122, 123, 132, 133, 134, 135, 136, 137, 138, 139, 140] (by decide +kernel) (by decide +kernel)
set_option maxRecDepth 20000 in
theorem gX4_sell_X0_fullPrice : GoodIn wsX4_sell (wsV RX4 249 RX0 yX0_fullPrice wsX0_fullPrice) := goodIn_app (goodIn_of _ (by decide +kernel)) ggX4_sell_X0_fullPrice
theorem dX4_sell_0 : decode cX4_sell 0 = .ok (.aload_n 0, 1) := by decide +kernel
theorem dX4_sell_1 : decode cX4_sell 1 = .ok (.iload_n 1, 1) := by decide +kernel
theorem dX4_sell_2 : decode cX4_sell 2 = .ok (.invokevirtual 125, 3) := by decide +kernel
theorem dX4_sell_5 : decode cX4_sell 5 = .ok (.astore 4, 2) := by decide +kernel
theorem dX4_sell_7 : decode cX4_sell 7 = .ok (.iload_n 2, 1) := by decide +kernel
theorem dX4_sell_8 : decode cX4_sell 8 = .ok (.invokestatic 233, 3) := by decide +kernel
theorem dX4_sell_11 : decode cX4_sell 11 = .ok (.iload_n 3, 1) := by decide +kernel
theorem dX4_sell_12 : decode cX4_sell 12 = .ok (.invokestatic 219, 3) := by decide +kernel
theorem dX4_sell_15 : decode cX4_sell 15 = .ok (.aload_n 0, 1) := by decide +kernel
theorem dX4_sell_16 : decode cX4_sell 16 = .ok (.invokevirtual 236, 3) := by decide +kernel
theorem dX4_sell_19 : decode cX4_sell 19 = .ok (.iload_n 2, 1) := by decide +kernel
theorem dX4_sell_20 : decode cX4_sell 20 = .ok (.aload 4, 2) := by decide +kernel
theorem dX4_sell_22 : decode cX4_sell 22 = .ok (.getfield 244, 3) := by decide +kernel
theorem dX4_sell_25 : decode cX4_sell 25 = .ok (.if_icmp .le 13, 3) := by decide +kernel
theorem dX4_sell_28 : decode cX4_sell 28 = .ok (.new 73, 3) := by decide +kernel
theorem dX4_sell_31 : decode cX4_sell 31 = .ok (.dup, 1) := by decide +kernel
theorem dX4_sell_32 : decode cX4_sell 32 = .ok (.ldc 255, 2) := by decide +kernel
theorem dX4_sell_34 : decode cX4_sell 34 = .ok (.invokespecial 77, 3) := by decide +kernel
theorem dX4_sell_37 : decode cX4_sell 37 = .ok (.athrow, 1) := by decide +kernel
theorem dX4_sell_38 : decode cX4_sell 38 = .ok (.iload_n 2, 1) := by decide +kernel
theorem dX4_sell_39 : decode cX4_sell 39 = .ok (.i2l, 1) := by decide +kernel
theorem dX4_sell_40 : decode cX4_sell 40 = .ok (.aload 4, 2) := by decide +kernel
theorem dX4_sell_42 : decode cX4_sell 42 = .ok (.aload_n 0, 1) := by decide +kernel
theorem dX4_sell_43 : decode cX4_sell 43 = .ok (.getfield 27, 3) := by decide +kernel
theorem dX4_sell_46 : decode cX4_sell 46 = .ok (.iload_n 3, 1) := by decide +kernel
theorem dX4_sell_47 : decode cX4_sell 47 = .ok (.invokevirtual 249, 3) := by decide +kernel
theorem dX4_sell_50 : decode cX4_sell 50 = .ok (.lmul, 1) := by decide +kernel
theorem dX4_sell_51 : decode cX4_sell 51 = .ok (.lstore 5, 2) := by decide +kernel
theorem dX4_sell_53 : decode cX4_sell 53 = .ok (.aload 4, 2) := by decide +kernel
theorem dX4_sell_55 : decode cX4_sell 55 = .ok (.dup, 1) := by decide +kernel
theorem dX4_sell_56 : decode cX4_sell 56 = .ok (.getfield 244, 3) := by decide +kernel
theorem dX4_sell_59 : decode cX4_sell 59 = .ok (.iload_n 2, 1) := by decide +kernel
theorem dX4_sell_60 : decode cX4_sell 60 = .ok (.isub, 1) := by decide +kernel
theorem dX4_sell_61 : decode cX4_sell 61 = .ok (.putfield 244, 3) := by decide +kernel
theorem dX4_sell_64 : decode cX4_sell 64 = .ok (.aload_n 0, 1) := by decide +kernel
theorem dX4_sell_65 : decode cX4_sell 65 = .ok (.dup, 1) := by decide +kernel
theorem dX4_sell_66 : decode cX4_sell 66 = .ok (.getfield 33, 3) := by decide +kernel
theorem dX4_sell_69 : decode cX4_sell 69 = .ok (.lload 5, 2) := by decide +kernel
theorem dX4_sell_71 : decode cX4_sell 71 = .ok (.ladd, 1) := by decide +kernel
theorem dX4_sell_72 : decode cX4_sell 72 = .ok (.putfield 33, 3) := by decide +kernel
theorem dX4_sell_75 : decode cX4_sell 75 = .ok (.lload 5, 2) := by decide +kernel
theorem dX4_sell_77 : decode cX4_sell 77 = .ok (.lreturn, 1) := by decide +kernel
set_option maxRecDepth 20000 in
theorem ggX4_pass_X1_dayNumber : GoodIn wsX4_pass wsX1_dayNumber := goodIn_r _ [12, 13] (by decide +kernel) (by decide +kernel)
set_option maxRecDepth 20000 in
theorem gX4_pass_X1_dayNumber : GoodIn wsX4_pass (va_wsS RX4 51 yX1_dayNumber wsX1_dayNumber) := goodIn_app (goodIn_of _ (by decide +kernel)) ggX4_pass_X1_dayNumber
set_option maxRecDepth 20000 in
theorem ggX4_pass_X2_all : GoodIn wsX4_pass wsX2_all := goodIn_r _ [18, 19, 20, 21, 22, 149, 150, 151, 152] (by decide +kernel) (by decide +kernel)
set_option maxRecDepth 20000 in
theorem gX4_pass_X2_all : GoodIn wsX4_pass (wsV RX4 261 RX2 yX2_all wsX2_all) := goodIn_app (goodIn_of _ (by decide +kernel)) ggX4_pass_X2_all
set_option maxRecDepth 20000 in
theorem ggX4_pass_X1_dateOf : GoodIn wsX4_pass wsX1_dateOf := goodIn_r _ [25, 26, 27, 11, 28] (by decide +kernel) (by decide +kernel)
set_option maxRecDepth 20000 in
theorem gX4_pass_X1_dateOf : GoodIn wsX4_pass (va_wsS RX4 60 yX1_dateOf wsX1_dateOf) := goodIn_app (goodIn_of _ (by decide +kernel)) ggX4_pass_X1_dateOf
set_option maxRecDepth 20000 in
theorem ggX4_pass_X4_isWorkingDay : GoodIn wsX4_pass wsX4_isWorkingDay := goodIn_r _ [33, 34, 35, 11, 36, 23, 24, 25, 26, 27, 28, 37, 38, 39, 32, 40, 41, 141, 142, 143, 144, 145, 146, 147, 148] (by decide +kernel) (by decide +kernel)
set_option maxRecDepth 20000 in
theorem gX4_pass_X4_isWorkingDay : GoodIn wsX4_pass (wsV RX4 89 RX4 yX4_isWorkingDay wsX4_isWorkingDay) := goodIn_app (goodIn_of _ (by decide +kernel)) ggX4_pass_X4_isWorkingDay
set_option maxRecDepth 20000 in
theorem ggX4_pass_X4_lookAtBonds : GoodIn wsX4_pass wsX4_lookAtBonds := goodIn_r _ [45, 46, 5, 47, 7, 48, 49, 50, 51, 52, 53, 54, 55, 56, 57, 58, 59, 60, 61, 62, 63, 64, 65, 66, 67, 68, 69, 70, 71, 72, 73, 74, 75, 76, 77, 78, 79, 80, 81, 82, 83, 84, 85, 86, 87, 88, 89, 90, 91, 92, 93, 94, 95, 96, 97, 98, 99, 100, 101, 102, 103, 104, 105, 106, 107, 108, 109, 110, 111, 112, 113, 114, 115, 116, 117, 118, 119, 120, 121, 122, 123, 124, 125, 126, 127, 128, 129, 130, 11, 131, 132, 10, 12, 13, 133, 134, 135, 136, 137, 138, 139, 140, 141, 142, 143, 144, 145, 146, 147, 148, 153, 154, 155, 156, 157, 158, 159, 160, 161, 162, 163, 164, 165, 166, 167, 168, 169, 170, 149, 150, 151, 152] (by decide +kernel) (by decide +kernel)
set_option maxRecDepth 20000 in
theorem gX4_pass_X4_lookAtBonds : GoodIn wsX4_pass (wsV RX4 265 RX4 yX4_lookAtBonds wsX4_lookAtBonds) := goodIn_app (goodIn_of _ (by decide +kernel)) ggX4_pass_X4_lookAtBonds
theorem dX4_pass_0 : decode cX4_pass 0 = .ok (.iload_n 1, 1) := by decide +kernel
theorem dX4_pass_1 : decode cX4_pass 1 = .ok (.iconst 1, 1) := by decide +kernel
theorem dX4_pass_2 : decode cX4_pass 2 = .ok (.if_icmp .lt 10, 3) := by decide +kernel
theorem dX4_pass_5 : decode cX4_pass 5 = .ok (.iload_n 1, 1) := by decide +kernel
theorem dX4_pass_6 : decode cX4_pass 6 = .ok (.sipush 400, 3) := by decide +kernel
theorem dX4_pass_9 : decode cX4_pass 9 = .ok (.if_icmp .le 14, 3) := by decide +kernel
theorem dX4_pass_12 : decode cX4_pass 12 = .ok (.new 44, 3) := by decide +kernel
theorem dX4_pass_15 : decode cX4_pass 15 = .ok (.dup, 1) := by decide +kernel
theorem dX4_pass_16 : decode cX4_pass 16 = .ok (.ldc_w 257, 3) := by decide +kernel
theorem dX4_pass_19 : decode cX4_pass 19 = .ok (.invokespecial 48, 3) := by decide +kernel
theorem dX4_pass_22 : decode cX4_pass 22 = .ok (.athrow, 1) := by decide +kernel
theorem dX4_pass_23 : decode cX4_pass 23 = .ok (.aload_n 0, 1) := by decide +kernel
theorem dX4_pass_24 : decode cX4_pass 24 = .ok (.getfield 27, 3) := by decide +kernel
theorem dX4_pass_27 : decode cX4_pass 27 = .ok (.invokestatic 51, 3) := by decide +kernel
theorem dX4_pass_30 : decode cX4_pass 30 = .ok (.istore_n 2, 1) := by decide +kernel
theorem dX4_pass_31 : decode cX4_pass 31 = .ok (.iload_n 2, 1) := by decide +kernel
theorem dX4_pass_32 : decode cX4_pass 32 = .ok (.iload_n 1, 1) := by decide +kernel
theorem dX4_pass_33 : decode cX4_pass 33 = .ok (.iadd, 1) := by decide +kernel
theorem dX4_pass_34 : decode cX4_pass 34 = .ok (.ldc 78, 2) := by decide +kernel
theorem dX4_pass_36 : decode cX4_pass 36 = .ok (.invokestatic 51, 3) := by decide +kernel
theorem dX4_pass_39 : decode cX4_pass 39 = .ok (.if_icmp .le 14, 3) := by decide +kernel
theorem dX4_pass_42 : decode cX4_pass 42 = .ok (.new 73, 3) := by decide +kernel
theorem dX4_pass_45 : decode cX4_pass 45 = .ok (.dup, 1) := by decide +kernel
theorem dX4_pass_46 : decode cX4_pass 46 = .ok (.ldc_w 259, 3) := by decide +kernel
theorem dX4_pass_49 : decode cX4_pass 49 = .ok (.invokespecial 77, 3) := by decide +kernel
theorem dX4_pass_52 : decode cX4_pass 52 = .ok (.athrow, 1) := by decide +kernel
theorem dX4_pass_53 : decode cX4_pass 53 = .ok (.aload_n 0, 1) := by decide +kernel
theorem dX4_pass_54 : decode cX4_pass 54 = .ok (.getfield 22, 3) := by decide +kernel
theorem dX4_pass_57 : decode cX4_pass 57 = .ok (.invokevirtual 261, 3) := by decide +kernel
theorem dX4_pass_60 : decode cX4_pass 60 = .ok (.lstore_n 3, 1) := by decide +kernel
theorem dX4_pass_61 : decode cX4_pass 61 = .ok (.iconst 1, 1) := by decide +kernel
theorem dX4_pass_62 : decode cX4_pass 62 = .ok (.istore 5, 2) := by decide +kernel
theorem dX4_pass_64 : decode cX4_pass 64 = .ok (.iload 5, 2) := by decide +kernel
theorem dX4_pass_66 : decode cX4_pass 66 = .ok (.iload_n 1, 1) := by decide +kernel
theorem dX4_pass_67 : decode cX4_pass 67 = .ok (.if_icmp .gt 35, 3) := by decide +kernel
theorem dX4_pass_70 : decode cX4_pass 70 = .ok (.aload_n 0, 1) := by decide +kernel
theorem dX4_pass_71 : decode cX4_pass 71 = .ok (.iload_n 2, 1) := by decide +kernel
theorem dX4_pass_72 : decode cX4_pass 72 = .ok (.iload 5, 2) := by decide +kernel
theorem dX4_pass_74 : decode cX4_pass 74 = .ok (.iadd, 1) := by decide +kernel
theorem dX4_pass_75 : decode cX4_pass 75 = .ok (.invokestatic 60, 3) := by decide +kernel
theorem dX4_pass_78 : decode cX4_pass 78 = .ok (.putfield 27, 3) := by decide +kernel
theorem dX4_pass_81 : decode cX4_pass 81 = .ok (.aload_n 0, 1) := by decide +kernel
theorem dX4_pass_82 : decode cX4_pass 82 = .ok (.iload_n 2, 1) := by decide +kernel
theorem dX4_pass_83 : decode cX4_pass 83 = .ok (.iload 5, 2) := by decide +kernel
theorem dX4_pass_85 : decode cX4_pass 85 = .ok (.iadd, 1) := by decide +kernel
theorem dX4_pass_86 : decode cX4_pass 86 = .ok (.invokevirtual 89, 3) := by decide +kernel
theorem dX4_pass_89 : decode cX4_pass 89 = .ok (.ifCond .eq 7, 3) := by decide +kernel
theorem dX4_pass_92 : decode cX4_pass 92 = .ok (.aload_n 0, 1) := by decide +kernel
theorem dX4_pass_93 : decode cX4_pass 93 = .ok (.invokevirtual 265, 3) := by decide +kernel
theorem dX4_pass_96 : decode cX4_pass 96 = .ok (.iinc 5 1, 3) := by decide +kernel
theorem dX4_pass_99 : decode cX4_pass 99 = .ok (.goto (-35), 3) := by decide +kernel
theorem dX4_pass_102 : decode cX4_pass 102 = .ok (.aload_n 0, 1) := by decide +kernel
theorem dX4_pass_103 : decode cX4_pass 103 = .ok (.getfield 22, 3) := by decide +kernel
theorem dX4_pass_106 : decode cX4_pass 106 = .ok (.invokevirtual 261, 3) := by decide +kernel
theorem dX4_pass_109 : decode cX4_pass 109 = .ok (.lload_n 3, 1) := by decide +kernel
theorem dX4_pass_110 : decode cX4_pass 110 = .ok (.lsub, 1) := by decide +kernel
theorem dX4_pass_111 : decode cX4_pass 111 = .ok (.lstore 5, 2) := by decide +kernel
theorem dX4_pass_113 : decode cX4_pass 113 = .ok (.aload_n 0, 1) := by decide +kernel
theorem dX4_pass_114 : decode cX4_pass 114 = .ok (.dup, 1) := by decide +kernel
theorem dX4_pass_115 : decode cX4_pass 115 = .ok (.getfield 33, 3) := by decide +kernel
theorem dX4_pass_118 : decode cX4_pass 118 = .ok (.lload 5, 2) := by decide +kernel
theorem dX4_pass_120 : decode cX4_pass 120 = .ok (.ladd, 1) := by decide +kernel
theorem dX4_pass_121 : decode cX4_pass 121 = .ok (.putfield 33, 3) := by decide +kernel
theorem dX4_pass_124 : decode cX4_pass 124 = .ok (.lload 5, 2) := by decide +kernel
theorem dX4_pass_126 : decode cX4_pass 126 = .ok (.lreturn, 1) := by decide +kernel
set_option maxRecDepth 20000 in
theorem ggX4_count_X4_tell : GoodIn wsX4_count wsX4_tell := goodIn_r _ [7, 8, 9, 10, 11, 12, 13, 14, 15, 16, 17, 18, 19, 20, 6, 21, 22, 23, 24, 25, 26, 27, 28, 29, 30, 31, 32, 33, 34, 35, 36, 37, 38, 39, 40, 41, 42, 43, 44, 45, 46, 47, 48, 49, 50, 51, 52, 53, 54, 55, 56, 57, 58, 59, 60, 61, 62, 63, 64, 65, 66, 67, 68, 69, 70, 71, 72, 73, 74, 75, 76, 77, 78, 79, 80, 81, 82, 83, 84, 85, 86, 87, 88, 89, 90, 91, 92, 93, 94, 95, 96, 97, 98, 99, 100, 101, 102, 103, 104, 105, 106, 107, 108, 109, 110, 111, 112, 113, 114, 115, 116, 117, 118, 119, 120, 121, 122, 123, 124, 125, 126, 127] (by decide +kernel) (by decide +kernel)
set_option maxRecDepth 20000 in
theorem gX4_count_X4_tell : GoodIn wsX4_count (wsV RX4 270 RX4 yX4_tell wsX4_tell) := goodIn_app (goodIn_of _ (by decide +kernel)) ggX4_count_X4_tell
theorem dX4_count_0 : decode cX4_count 0 = .ok (.iload_n 1, 1) := by decide +kernel
theorem dX4_count_1 : decode cX4_count 1 = .ok (.ifCond .lt 9, 3) := by decide +kernel
theorem dX4_count_4 : decode cX4_count 4 = .ok (.iload_n 1, 1) := by decide +kernel
theorem dX4_count_5 : decode cX4_count 5 = .ok (.bipush 11, 2) := by decide +kernel
theorem dX4_count_7 : decode cX4_count 7 = .ok (.if_icmp .le 14, 3) := by decide +kernel
theorem dX4_count_10 : decode cX4_count 10 = .ok (.new 166, 3) := by decide +kernel
theorem dX4_count_13 : decode cX4_count 13 = .ok (.dup, 1) := by decide +kernel
theorem dX4_count_14 : decode cX4_count 14 = .ok (.ldc_w 268, 3) := by decide +kernel
theorem dX4_count_17 : decode cX4_count 17 = .ok (.invokespecial 170, 3) := by decide +kernel
theorem dX4_count_20 : decode cX4_count 20 = .ok (.athrow, 1) := by decide +kernel
theorem dX4_count_21 : decode cX4_count 21 = .ok (.aload_n 0, 1) := by decide +kernel
theorem dX4_count_22 : decode cX4_count 22 = .ok (.iload_n 1, 1) := by decide +kernel
theorem dX4_count_23 : decode cX4_count 23 = .ok (.invokevirtual 270, 3) := by decide +kernel
theorem dX4_count_26 : decode cX4_count 26 = .ok (.lreturn, 1) := by decide +kernel
set_option maxRecDepth 20000 in
theorem ggX4_paysIn_X4_requireYear : GoodIn wsX4_paysIn wsX4_requireYear := goodIn_ca (goodIn_r _ [7, 8, 9] (by decide +kernel) (by decide +kernel)) (goodIn_sub (fun _ h => List.mem_cons_of_mem _ (List.mem_append_right _ h)) (by decide +kernel))
set_option maxRecDepth 20000 in
theorem gX4_paysIn_X4_requireYear : GoodIn wsX4_paysIn (va_wsS RX4 272 yX4_requireYear wsX4_requireYear) := goodIn_app (goodIn_of _ (by decide +kernel)) ggX4_paysIn_X4_requireYear
set_option maxRecDepth 20000 in
theorem ggX4_paysIn_X0_paymentsIn : GoodIn wsX4_paysIn wsX0_paymentsIn := goodIn_r _ [14, 15, 16, 17, 18, 19, 20, 21, 22, 23, 24, 25, 26, 27, 28, 29, 30, 13, 31, 32, 33, 34, 35, 36, 37, 38, 39, 40, 41, 42, 43, 44, 45, 46, 47, 48, 49, 50, 51, 52, 53, 54, 55, 56, 57, 58, 59, 60, 61, 70, 71, 72, 73, 74, 75, 76, 77, 78, 79, 80, 81, 82, 83, 84, 85, 86, 87] (by decide +kernel) (by decide +kernel)
set_option maxRecDepth 20000 in
theorem gX4_paysIn_X0_paymentsIn : GoodIn wsX4_paysIn (wsV RX4 275 RX0 yX0_paymentsIn wsX0_paymentsIn) := goodIn_app (goodIn_of _ (by decide +kernel)) ggX4_paysIn_X0_paymentsIn
theorem dX4_paysIn_0 : decode cX4_paysIn 0 = .ok (.iload_n 1, 1) := by decide +kernel
theorem dX4_paysIn_1 : decode cX4_paysIn 1 = .ok (.invokestatic 272, 3) := by decide +kernel
theorem dX4_paysIn_4 : decode cX4_paysIn 4 = .ok (.lconst 0, 1) := by decide +kernel
theorem dX4_paysIn_5 : decode cX4_paysIn 5 = .ok (.lstore_n 2, 1) := by decide +kernel
theorem dX4_paysIn_6 : decode cX4_paysIn 6 = .ok (.aload_n 0, 1) := by decide +kernel
theorem dX4_paysIn_7 : decode cX4_paysIn 7 = .ok (.getfield 15, 3) := by decide +kernel
theorem dX4_paysIn_10 : decode cX4_paysIn 10 = .ok (.astore 4, 2) := by decide +kernel
theorem dX4_paysIn_12 : decode cX4_paysIn 12 = .ok (.aload 4, 2) := by decide +kernel
theorem dX4_paysIn_14 : decode cX4_paysIn 14 = .ok (.arraylength, 1) := by decide +kernel
theorem dX4_paysIn_15 : decode cX4_paysIn 15 = .ok (.istore 5, 2) := by decide +kernel
theorem dX4_paysIn_17 : decode cX4_paysIn 17 = .ok (.iconst 0, 1) := by decide +kernel
theorem dX4_paysIn_18 : decode cX4_paysIn 18 = .ok (.istore 6, 2) := by decide +kernel
theorem dX4_paysIn_20 : decode cX4_paysIn 20 = .ok (.iload 6, 2) := by decide +kernel
theorem dX4_paysIn_22 : decode cX4_paysIn 22 = .ok (.iload 5, 2) := by decide +kernel
theorem dX4_paysIn_24 : decode cX4_paysIn 24 = .ok (.if_icmp .ge 41, 3) := by decide +kernel
theorem dX4_paysIn_27 : decode cX4_paysIn 27 = .ok (.aload 4, 2) := by decide +kernel
theorem dX4_paysIn_29 : decode cX4_paysIn 29 = .ok (.iload 6, 2) := by decide +kernel
theorem dX4_paysIn_31 : decode cX4_paysIn 31 = .ok (.aaload, 1) := by decide +kernel
theorem dX4_paysIn_32 : decode cX4_paysIn 32 = .ok (.astore 7, 2) := by decide +kernel
theorem dX4_paysIn_34 : decode cX4_paysIn 34 = .ok (.aload 7, 2) := by decide +kernel
theorem dX4_paysIn_36 : decode cX4_paysIn 36 = .ok (.ifnull 23, 3) := by decide +kernel
theorem dX4_paysIn_39 : decode cX4_paysIn 39 = .ok (.lload_n 2, 1) := by decide +kernel
theorem dX4_paysIn_40 : decode cX4_paysIn 40 = .ok (.aload 7, 2) := by decide +kernel
theorem dX4_paysIn_42 : decode cX4_paysIn 42 = .ok (.getfield 244, 3) := by decide +kernel
theorem dX4_paysIn_45 : decode cX4_paysIn 45 = .ok (.i2l, 1) := by decide +kernel
theorem dX4_paysIn_46 : decode cX4_paysIn 46 = .ok (.aload 7, 2) := by decide +kernel
theorem dX4_paysIn_48 : decode cX4_paysIn 48 = .ok (.iload_n 1, 1) := by decide +kernel
theorem dX4_paysIn_49 : decode cX4_paysIn 49 = .ok (.aload_n 0, 1) := by decide +kernel
theorem dX4_paysIn_50 : decode cX4_paysIn 50 = .ok (.getfield 27, 3) := by decide +kernel
theorem dX4_paysIn_53 : decode cX4_paysIn 53 = .ok (.invokevirtual 275, 3) := by decide +kernel
theorem dX4_paysIn_56 : decode cX4_paysIn 56 = .ok (.lmul, 1) := by decide +kernel
theorem dX4_paysIn_57 : decode cX4_paysIn 57 = .ok (.ladd, 1) := by decide +kernel
theorem dX4_paysIn_58 : decode cX4_paysIn 58 = .ok (.lstore_n 2, 1) := by decide +kernel
theorem dX4_paysIn_59 : decode cX4_paysIn 59 = .ok (.iinc 6 1, 3) := by decide +kernel
theorem dX4_paysIn_62 : decode cX4_paysIn 62 = .ok (.goto (-42), 3) := by decide +kernel
theorem dX4_paysIn_65 : decode cX4_paysIn 65 = .ok (.lload_n 2, 1) := by decide +kernel
theorem dX4_paysIn_66 : decode cX4_paysIn 66 = .ok (.lreturn, 1) := by decide +kernel
set_option maxRecDepth 20000 in
theorem ggX4_ladder_X4_requireYear : GoodIn wsX4_ladder wsX4_requireYear := goodIn_ca (goodIn_r _ [12, 1, 2] (by decide +kernel) (by decide +kernel)) (goodIn_sub (fun _ h => List.mem_cons_of_mem _ (List.mem_append_right _ h)) (by decide +kernel))
set_option maxRecDepth 20000 in
theorem gX4_ladder_X4_requireYear : GoodIn wsX4_ladder (va_wsS RX4 272 yX4_requireYear wsX4_requireYear) := goodIn_app (goodIn_of _ (by decide +kernel)) ggX4_ladder_X4_requireYear
set_option maxRecDepth 20000 in
theorem ggX4_ladder_X4_leastWorth : GoodIn wsX4_ladder wsX4_leastWorth := goodIn_r _ [16, 17, 18, 19, 20, 21, 22, 23, 24, 25, 26, 27, 28, 29, 30, 31, 32, 33, 34, 35, 36, 37, 38, 39, 40, 41, 42, 43, 44, 45, 46, 47, 48, 49, 50, 51, 52, 53, 54, 55, 56, 57, 58, 59, 60, 61, 62, 63, 64, 65, 66, 67, 68, 69, 70, 71, 72, 73, 74, 75, 76, 77, 78, 79, 80, 81, 82, 83, 84, 85, 86, 87, 88, 89, 90, 91, 92, 93, 94, 95, 96, 7, 97, 98, 99, 100, 101, 102, 103, 104, 105, 106, 107, 108, 109, 110, 111, 112, 113, 114, 115, 116, 117, 118, 119, 120, 121, 122, 123] (by decide +kernel) (by decide +kernel)
set_option maxRecDepth 20000 in
theorem gX4_ladder_X4_leastWorth : GoodIn wsX4_ladder (wsV RX4 280 RX4 yX4_leastWorth wsX4_leastWorth) := goodIn_app (goodIn_of _ (by decide +kernel)) ggX4_ladder_X4_leastWorth
theorem dX4_ladder_0 : decode cX4_ladder 0 = .ok (.iload_n 1, 1) := by decide +kernel
theorem dX4_ladder_1 : decode cX4_ladder 1 = .ok (.invokestatic 272, 3) := by decide +kernel
theorem dX4_ladder_4 : decode cX4_ladder 4 = .ok (.iload_n 2, 1) := by decide +kernel
theorem dX4_ladder_5 : decode cX4_ladder 5 = .ok (.invokestatic 272, 3) := by decide +kernel
theorem dX4_ladder_8 : decode cX4_ladder 8 = .ok (.iload_n 2, 1) := by decide +kernel
theorem dX4_ladder_9 : decode cX4_ladder 9 = .ok (.iload_n 1, 1) := by decide +kernel
theorem dX4_ladder_10 : decode cX4_ladder 10 = .ok (.if_icmp .ge 14, 3) := by decide +kernel
theorem dX4_ladder_13 : decode cX4_ladder 13 = .ok (.new 44, 3) := by decide +kernel
theorem dX4_ladder_16 : decode cX4_ladder 16 = .ok (.dup, 1) := by decide +kernel
theorem dX4_ladder_17 : decode cX4_ladder 17 = .ok (.ldc_w 278, 3) := by decide +kernel
theorem dX4_ladder_20 : decode cX4_ladder 20 = .ok (.invokespecial 48, 3) := by decide +kernel
theorem dX4_ladder_23 : decode cX4_ladder 23 = .ok (.athrow, 1) := by decide +kernel
theorem dX4_ladder_24 : decode cX4_ladder 24 = .ok (.lconst 0, 1) := by decide +kernel
theorem dX4_ladder_25 : decode cX4_ladder 25 = .ok (.lstore_n 3, 1) := by decide +kernel
theorem dX4_ladder_26 : decode cX4_ladder 26 = .ok (.iload_n 1, 1) := by decide +kernel
theorem dX4_ladder_27 : decode cX4_ladder 27 = .ok (.istore 5, 2) := by decide +kernel
theorem dX4_ladder_29 : decode cX4_ladder 29 = .ok (.iload 5, 2) := by decide +kernel
theorem dX4_ladder_31 : decode cX4_ladder 31 = .ok (.iload_n 2, 1) := by decide +kernel
theorem dX4_ladder_32 : decode cX4_ladder 32 = .ok (.if_icmp .gt 31, 3) := by decide +kernel
theorem dX4_ladder_35 : decode cX4_ladder 35 = .ok (.aload_n 0, 1) := by decide +kernel
theorem dX4_ladder_36 : decode cX4_ladder 36 = .ok (.iload 5, 2) := by decide +kernel
theorem dX4_ladder_38 : decode cX4_ladder 38 = .ok (.invokevirtual 280, 3) := by decide +kernel
theorem dX4_ladder_41 : decode cX4_ladder 41 = .ok (.lstore 6, 2) := by decide +kernel
theorem dX4_ladder_43 : decode cX4_ladder 43 = .ok (.lload 6, 2) := by decide +kernel
theorem dX4_ladder_45 : decode cX4_ladder 45 = .ok (.lconst 0, 1) := by decide +kernel
theorem dX4_ladder_46 : decode cX4_ladder 46 = .ok (.lcmp, 1) := by decide +kernel
theorem dX4_ladder_47 : decode cX4_ladder 47 = .ok (.ifCond .ge 5, 3) := by decide +kernel
theorem dX4_ladder_50 : decode cX4_ladder 50 = .ok (.iconst (-1), 1) := by decide +kernel
theorem dX4_ladder_51 : decode cX4_ladder 51 = .ok (.ireturn, 1) := by decide +kernel
theorem dX4_ladder_52 : decode cX4_ladder 52 = .ok (.lload_n 3, 1) := by decide +kernel
theorem dX4_ladder_53 : decode cX4_ladder 53 = .ok (.lload 6, 2) := by decide +kernel
theorem dX4_ladder_55 : decode cX4_ladder 55 = .ok (.ladd, 1) := by decide +kernel
theorem dX4_ladder_56 : decode cX4_ladder 56 = .ok (.lstore_n 3, 1) := by decide +kernel
theorem dX4_ladder_57 : decode cX4_ladder 57 = .ok (.iinc 5 1, 3) := by decide +kernel
theorem dX4_ladder_60 : decode cX4_ladder 60 = .ok (.goto (-31), 3) := by decide +kernel
theorem dX4_ladder_63 : decode cX4_ladder 63 = .ok (.lload_n 3, 1) := by decide +kernel
theorem dX4_ladder_64 : decode cX4_ladder 64 = .ok (.lconst 0, 1) := by decide +kernel
theorem dX4_ladder_65 : decode cX4_ladder 65 = .ok (.lcmp, 1) := by decide +kernel
theorem dX4_ladder_66 : decode cX4_ladder 66 = .ok (.ifCond .gt 7, 3) := by decide +kernel
theorem dX4_ladder_69 : decode cX4_ladder 69 = .ok (.iconst 0, 1) := by decide +kernel
theorem dX4_ladder_70 : decode cX4_ladder 70 = .ok (.goto 16, 3) := by decide +kernel
theorem dX4_ladder_73 : decode cX4_ladder 73 = .ok (.aload_n 0, 1) := by decide +kernel
theorem dX4_ladder_74 : decode cX4_ladder 74 = .ok (.getfield 33, 3) := by decide +kernel
theorem dX4_ladder_77 : decode cX4_ladder 77 = .ok (.lload_n 3, 1) := by decide +kernel
theorem dX4_ladder_78 : decode cX4_ladder 78 = .ok (.ldiv, 1) := by decide +kernel
theorem dX4_ladder_79 : decode cX4_ladder 79 = .ok (.ldc2_w 283, 3) := by decide +kernel
theorem dX4_ladder_82 : decode cX4_ladder 82 = .ok (.invokestatic 285, 3) := by decide +kernel
theorem dX4_ladder_85 : decode cX4_ladder 85 = .ok (.l2i, 1) := by decide +kernel
theorem dX4_ladder_86 : decode cX4_ladder 86 = .ok (.ireturn, 1) := by decide +kernel
set_option maxRecDepth 20000 in
theorem ggX4_best_X4_requirePrice : GoodIn wsX4_best wsX4_requirePrice := goodIn_ca (goodIn_r _ [6, 7, 8] (by decide +kernel) (by decide +kernel)) (goodIn_sub (fun _ h => List.mem_cons_of_mem _ (List.mem_append_right _ h)) (by decide +kernel))
set_option maxRecDepth 20000 in
theorem gX4_best_X4_requirePrice : GoodIn wsX4_best (va_wsS RX4 219 yX4_requirePrice wsX4_requirePrice) := goodIn_app (goodIn_of _ (by decide +kernel)) ggX4_best_X4_requirePrice
set_option maxRecDepth 20000 in
theorem ggX4_best_X0_isGone : GoodIn wsX4_best wsX0_isGone := goodIn_r _ [13, 14, 138, 139, 140, 141, 142, 143, 144, 145, 146] (by decide +kernel) (by decide +kernel)
set_option maxRecDepth 20000 in
theorem gX4_best_X0_isGone : GoodIn wsX4_best (wsV RX4 201 RX0 yX0_isGone wsX0_isGone) := goodIn_app (goodIn_of _ (by decide +kernel)) ggX4_best_X0_isGone
set_option maxRecDepth 20000 in
theorem ggX4_best_X0_isIssued : GoodIn wsX4_best wsX0_isIssued := goodIn_r _ [18, 19, 20, 138, 139, 140, 141, 142, 143, 144, 145, 146, 147, 148, 149, 150, 151, 152, 153, 154, 155] (by decide +kernel) (by decide +kernel)
set_option maxRecDepth 20000 in
theorem gX4_best_X0_isIssued : GoodIn wsX4_best (wsV RX4 239 RX0 yX0_isIssued wsX0_isIssued) := goodIn_app (goodIn_of _ (by decide +kernel)) ggX4_best_X0_isIssued
set_option maxRecDepth 20000 in
theorem ggX4_best_X0_yieldAt : GoodIn wsX4_best wsX0_yieldAt := goodIn_r _ [24, 25, 26, 10, 11, 12, 13, 14, 27, 28, 29, 30, 31, 19, 32, 33, 34, 35, 36, 37, 38, 39, 40, 41, 42, 43, 44, 45, 46, 47, 48, 49, 50, 51, 52, 53, 54, 55, 56, 57, 58, 59, 60, 61, 62, 63, 64, 65, 66, 67, 68, 69, 70, 71, 72, 73, 74, 75, 76, 77, 78, 79, 80, 81, 82, 83, 84, 85, 86, 87, 88, 89, 90, 91, 92, 93, 94, 95, 96, 97, 98, 99, 100, 101, 102, 103, 104, 105, 106, 107, 108, 109, 110, 111, 112, 113, 114, 115, 116, 117, 118, 119, 120, 121, 122, 123, 124, 125, 126, 127, 128, 129, 138, 139, 140, 141, 142, 143, 144, 145, 146, 147, 148, 149, 150, 151, 152, 153, 154, 155] (by decide +kernel) (by decide +kernel)
set_option maxRecDepth 20000 in
theorem gX4_best_X0_yieldAt : GoodIn wsX4_best (wsV RX4 222 RX0 yX0_yieldAt wsX0_yieldAt) := goodIn_app (goodIn_of _ (by decide +kernel)) ggX4_best_X0_yieldAt
theorem dX4_best_0 : decode cX4_best 0 = .ok (.iload_n 1, 1) := by decide +kernel
theorem dX4_best_1 : decode cX4_best 1 = .ok (.invokestatic 219, 3) := by decide +kernel
theorem dX4_best_4 : decode cX4_best 4 = .ok (.iconst (-1), 1) := by decide +kernel
theorem dX4_best_5 : decode cX4_best 5 = .ok (.istore_n 2, 1) := by decide +kernel
theorem dX4_best_6 : decode cX4_best 6 = .ok (.iconst (-1), 1) := by decide +kernel
theorem dX4_best_7 : decode cX4_best 7 = .ok (.istore_n 3, 1) := by decide +kernel
theorem dX4_best_8 : decode cX4_best 8 = .ok (.iconst 0, 1) := by decide +kernel
theorem dX4_best_9 : decode cX4_best 9 = .ok (.istore 4, 2) := by decide +kernel
theorem dX4_best_11 : decode cX4_best 11 = .ok (.iload 4, 2) := by decide +kernel
theorem dX4_best_13 : decode cX4_best 13 = .ok (.aload_n 0, 1) := by decide +kernel
theorem dX4_best_14 : decode cX4_best 14 = .ok (.getfield 15, 3) := by decide +kernel
theorem dX4_best_17 : decode cX4_best 17 = .ok (.arraylength, 1) := by decide +kernel
theorem dX4_best_18 : decode cX4_best 18 = .ok (.if_icmp .ge 67, 3) := by decide +kernel
theorem dX4_best_21 : decode cX4_best 21 = .ok (.aload_n 0, 1) := by decide +kernel
theorem dX4_best_22 : decode cX4_best 22 = .ok (.getfield 15, 3) := by decide +kernel
theorem dX4_best_25 : decode cX4_best 25 = .ok (.iload 4, 2) := by decide +kernel
theorem dX4_best_27 : decode cX4_best 27 = .ok (.aaload, 1) := by decide +kernel
theorem dX4_best_28 : decode cX4_best 28 = .ok (.astore 5, 2) := by decide +kernel
theorem dX4_best_30 : decode cX4_best 30 = .ok (.aload 5, 2) := by decide +kernel
theorem dX4_best_32 : decode cX4_best 32 = .ok (.ifnull 47, 3) := by decide +kernel
theorem dX4_best_35 : decode cX4_best 35 = .ok (.aload 5, 2) := by decide +kernel
theorem dX4_best_37 : decode cX4_best 37 = .ok (.invokevirtual 201, 3) := by decide +kernel
theorem dX4_best_40 : decode cX4_best 40 = .ok (.ifCond .ne 39, 3) := by decide +kernel
theorem dX4_best_43 : decode cX4_best 43 = .ok (.aload 5, 2) := by decide +kernel
theorem dX4_best_45 : decode cX4_best 45 = .ok (.aload_n 0, 1) := by decide +kernel
theorem dX4_best_46 : decode cX4_best 46 = .ok (.getfield 27, 3) := by decide +kernel
theorem dX4_best_49 : decode cX4_best 49 = .ok (.invokevirtual 239, 3) := by decide +kernel
theorem dX4_best_52 : decode cX4_best 52 = .ok (.ifCond .eq 27, 3) := by decide +kernel
theorem dX4_best_55 : decode cX4_best 55 = .ok (.aload 5, 2) := by decide +kernel
theorem dX4_best_57 : decode cX4_best 57 = .ok (.aload_n 0, 1) := by decide +kernel
theorem dX4_best_58 : decode cX4_best 58 = .ok (.getfield 27, 3) := by decide +kernel
theorem dX4_best_61 : decode cX4_best 61 = .ok (.iload_n 1, 1) := by decide +kernel
theorem dX4_best_62 : decode cX4_best 62 = .ok (.invokevirtual 222, 3) := by decide +kernel
theorem dX4_best_65 : decode cX4_best 65 = .ok (.istore 6, 2) := by decide +kernel
theorem dX4_best_67 : decode cX4_best 67 = .ok (.iload 6, 2) := by decide +kernel
theorem dX4_best_69 : decode cX4_best 69 = .ok (.iload_n 3, 1) := by decide +kernel
theorem dX4_best_70 : decode cX4_best 70 = .ok (.if_icmp .le 9, 3) := by decide +kernel
theorem dX4_best_73 : decode cX4_best 73 = .ok (.iload 4, 2) := by decide +kernel
theorem dX4_best_75 : decode cX4_best 75 = .ok (.istore_n 2, 1) := by decide +kernel
theorem dX4_best_76 : decode cX4_best 76 = .ok (.iload 6, 2) := by decide +kernel
theorem dX4_best_78 : decode cX4_best 78 = .ok (.istore_n 3, 1) := by decide +kernel
theorem dX4_best_79 : decode cX4_best 79 = .ok (.iinc 4 1, 3) := by decide +kernel
theorem dX4_best_82 : decode cX4_best 82 = .ok (.goto (-71), 3) := by decide +kernel
theorem dX4_best_85 : decode cX4_best 85 = .ok (.iload_n 2, 1) := by decide +kernel
theorem dX4_best_86 : decode cX4_best 86 = .ok (.ireturn, 1) := by decide +kernel
set_option maxRecDepth 20000 in
theorem ggX4_years_X0_face : GoodIn wsX4_years wsX0_face := goodIn_r _ [11, 12, 13, 14, 10, 15, 16, 17, 34, 35, 36, 37, 38, 39, 40, 41, 42] (by decide +kernel) (by decide +kernel)
set_option maxRecDepth 20000 in
theorem gX4_years_X0_face : GoodIn wsX4_years (wsV RX4 291 RX0 yX0_face wsX0_face) := goodIn_app (goodIn_of _ (by decide +kernel)) ggX4_years_X0_face
set_option maxRecDepth 20000 in
theorem ggX4_years_X1_daysBetween : GoodIn wsX4_years wsX1_daysBetween := goodIn_r _ [21, 22, 23, 20, 24, 25] (by decide +kernel) (by decide +kernel)
set_option maxRecDepth 20000 in
theorem gX4_years_X1_daysBetween : GoodIn wsX4_years (va_wsS RX4 297 yX1_daysBetween wsX1_daysBetween) := goodIn_app (goodIn_of _ (by decide +kernel)) ggX4_years_X1_daysBetween
theorem dX4_years_0 : decode cX4_years 0 = .ok (.lconst 0, 1) := by decide +kernel
theorem dX4_years_1 : decode cX4_years 1 = .ok (.lstore_n 1, 1) := by decide +kernel
theorem dX4_years_2 : decode cX4_years 2 = .ok (.lconst 0, 1) := by decide +kernel
theorem dX4_years_3 : decode cX4_years 3 = .ok (.lstore_n 3, 1) := by decide +kernel
theorem dX4_years_4 : decode cX4_years 4 = .ok (.aload_n 0, 1) := by decide +kernel
theorem dX4_years_5 : decode cX4_years 5 = .ok (.getfield 15, 3) := by decide +kernel
theorem dX4_years_8 : decode cX4_years 8 = .ok (.astore 5, 2) := by decide +kernel
theorem dX4_years_10 : decode cX4_years 10 = .ok (.aload 5, 2) := by decide +kernel
theorem dX4_years_12 : decode cX4_years 12 = .ok (.arraylength, 1) := by decide +kernel
theorem dX4_years_13 : decode cX4_years 13 = .ok (.istore 6, 2) := by decide +kernel
theorem dX4_years_15 : decode cX4_years 15 = .ok (.iconst 0, 1) := by decide +kernel
theorem dX4_years_16 : decode cX4_years 16 = .ok (.istore 7, 2) := by decide +kernel
theorem dX4_years_18 : decode cX4_years 18 = .ok (.iload 7, 2) := by decide +kernel
theorem dX4_years_20 : decode cX4_years 20 = .ok (.iload 6, 2) := by decide +kernel
theorem dX4_years_22 : decode cX4_years 22 = .ok (.if_icmp .ge 62, 3) := by decide +kernel
theorem dX4_years_25 : decode cX4_years 25 = .ok (.aload 5, 2) := by decide +kernel
theorem dX4_years_27 : decode cX4_years 27 = .ok (.iload 7, 2) := by decide +kernel
theorem dX4_years_29 : decode cX4_years 29 = .ok (.aaload, 1) := by decide +kernel
theorem dX4_years_30 : decode cX4_years 30 = .ok (.astore 8, 2) := by decide +kernel
theorem dX4_years_32 : decode cX4_years 32 = .ok (.aload 8, 2) := by decide +kernel
theorem dX4_years_34 : decode cX4_years 34 = .ok (.ifnull 44, 3) := by decide +kernel
theorem dX4_years_37 : decode cX4_years 37 = .ok (.aload 8, 2) := by decide +kernel
theorem dX4_years_39 : decode cX4_years 39 = .ok (.getfield 244, 3) := by decide +kernel
theorem dX4_years_42 : decode cX4_years 42 = .ok (.i2l, 1) := by decide +kernel
theorem dX4_years_43 : decode cX4_years 43 = .ok (.aload 8, 2) := by decide +kernel
theorem dX4_years_45 : decode cX4_years 45 = .ok (.invokevirtual 291, 3) := by decide +kernel
theorem dX4_years_48 : decode cX4_years 48 = .ok (.lmul, 1) := by decide +kernel
theorem dX4_years_49 : decode cX4_years 49 = .ok (.lstore 9, 2) := by decide +kernel
theorem dX4_years_51 : decode cX4_years 51 = .ok (.lload_n 1, 1) := by decide +kernel
theorem dX4_years_52 : decode cX4_years 52 = .ok (.lload 9, 2) := by decide +kernel
theorem dX4_years_54 : decode cX4_years 54 = .ok (.ladd, 1) := by decide +kernel
theorem dX4_years_55 : decode cX4_years 55 = .ok (.lstore_n 1, 1) := by decide +kernel
theorem dX4_years_56 : decode cX4_years 56 = .ok (.lload_n 3, 1) := by decide +kernel
theorem dX4_years_57 : decode cX4_years 57 = .ok (.lload 9, 2) := by decide +kernel
theorem dX4_years_59 : decode cX4_years 59 = .ok (.aload_n 0, 1) := by decide +kernel
theorem dX4_years_60 : decode cX4_years 60 = .ok (.getfield 27, 3) := by decide +kernel
theorem dX4_years_63 : decode cX4_years 63 = .ok (.aload 8, 2) := by decide +kernel
theorem dX4_years_65 : decode cX4_years 65 = .ok (.getfield 141, 3) := by decide +kernel
theorem dX4_years_68 : decode cX4_years 68 = .ok (.getfield 294, 3) := by decide +kernel
theorem dX4_years_71 : decode cX4_years 71 = .ok (.invokestatic 297, 3) := by decide +kernel
theorem dX4_years_74 : decode cX4_years 74 = .ok (.i2l, 1) := by decide +kernel
theorem dX4_years_75 : decode cX4_years 75 = .ok (.lmul, 1) := by decide +kernel
theorem dX4_years_76 : decode cX4_years 76 = .ok (.ladd, 1) := by decide +kernel
theorem dX4_years_77 : decode cX4_years 77 = .ok (.lstore_n 3, 1) := by decide +kernel
theorem dX4_years_78 : decode cX4_years 78 = .ok (.iinc 7 1, 3) := by decide +kernel
theorem dX4_years_81 : decode cX4_years 81 = .ok (.goto (-63), 3) := by decide +kernel
theorem dX4_years_84 : decode cX4_years 84 = .ok (.lload_n 1, 1) := by decide +kernel
theorem dX4_years_85 : decode cX4_years 85 = .ok (.lconst 0, 1) := by decide +kernel
theorem dX4_years_86 : decode cX4_years 86 = .ok (.lcmp, 1) := by decide +kernel
theorem dX4_years_87 : decode cX4_years 87 = .ok (.ifCond .gt 7, 3) := by decide +kernel
theorem dX4_years_90 : decode cX4_years 90 = .ok (.dconst 0, 1) := by decide +kernel
theorem dX4_years_91 : decode cX4_years 91 = .ok (.goto 12, 3) := by decide +kernel
theorem dX4_years_94 : decode cX4_years 94 = .ok (.lload_n 3, 1) := by decide +kernel
theorem dX4_years_95 : decode cX4_years 95 = .ok (.l2d, 1) := by decide +kernel
theorem dX4_years_96 : decode cX4_years 96 = .ok (.lload_n 1, 1) := by decide +kernel
theorem dX4_years_97 : decode cX4_years 97 = .ok (.l2d, 1) := by decide +kernel
theorem dX4_years_98 : decode cX4_years 98 = .ok (.ddiv, 1) := by decide +kernel
theorem dX4_years_99 : decode cX4_years 99 = .ok (.ldc2_w 300, 3) := by decide +kernel
theorem dX4_years_102 : decode cX4_years 102 = .ok (.ddiv, 1) := by decide +kernel
theorem dX4_years_103 : decode cX4_years 103 = .ok (.dreturn, 1) := by decide +kernel
set_option maxRecDepth 20000 in
theorem ggX4_digest_X4_tell : GoodIn wsX4_digest wsX4_tell := goodIn_r _ [11, 6, 12, 13, 14, 3, 15, 16, 17, 18, 19, 20, 21, 22, 10, 23, 5, 24, 25, 26, 27, 28, 29, 30, 31, 32, 33, 34, 35, 36, 37, 38, 39, 40, 41, 42, 43, 44, 45, 46, 47, 48, 49, 50, 51, 52, 53, 54, 55, 56, 57, 58, 59, 60, 61, 62, 63, 64, 65, 66, 67, 68, 69, 70, 71, 72, 73, 74, 75, 76, 77, 78, 79, 80, 81, 82, 83, 84, 85, 86, 87, 88, 89, 90, 91, 92, 93, 94, 95, 96, 97, 98, 157, 158, 159, 160, 161, 162, 163, 164, 165, 166, 167, 168, 169, 170, 171, 172, 173, 174, 175, 176, 177, 178, 179, 180, 181, 182, 183, 184, 185, 186] (by decide +kernel) (by decide +kernel)
set_option maxRecDepth 20000 in
theorem gX4_digest_X4_tell : GoodIn wsX4_digest (wsV RX4 270 RX4 yX4_tell wsX4_tell) := goodIn_app (goodIn_of _ (by decide +kernel)) ggX4_digest_X4_tell
set_option maxRecDepth 20000 in
theorem ggX4_digest_X0_addTo : GoodIn wsX4_digest wsX0_addTo := goodIn_r _ [102, 103, 44, 47, 73, 104, 105, 106, 27, 107, 108, 109, 110, 46, 111, 112, 113, 29, 114, 115, 116, 117, 118, 70, 71, 72, 45, 57, 25, 26, 28, 119, 120, 121, 122, 123, 124, 125, 54, 126, 79, 56, 81, 127, 52, 53, 55, 128, 129, 130, 131, 132, 133, 134, 78, 83, 84, 135, 59, 60, 61, 62, 63, 64, 65, 136, 137, 138, 139, 140, 141, 142, 143, 144, 145, 146, 147, 96, 97, 98, 148, 149, 150, 151, 152, 153, 154, 155, 156, 74, 75, 76, 77, 80, 82, 169, 170, 171, 172, 173, 174, 175, 176, 177, 178, 179, 180, 181, 182, 183, 184, 185, 186] (by decide +kernel) (by decide +kernel)
set_option maxRecDepth 20000 in
theorem gX4_digest_X0_addTo : GoodIn wsX4_digest (wsV RX4 306 RX0 yX0_addTo wsX0_addTo) := goodIn_app (goodIn_of _ (by decide +kernel)) ggX4_digest_X0_addTo
theorem dX4_digest_0 : decode cX4_digest 0 = .ok (.ldc2_w 302, 3) := by decide +kernel
theorem dX4_digest_3 : decode cX4_digest 3 = .ok (.lstore_n 1, 1) := by decide +kernel
theorem dX4_digest_4 : decode cX4_digest 4 = .ok (.iconst 0, 1) := by decide +kernel
theorem dX4_digest_5 : decode cX4_digest 5 = .ok (.istore_n 3, 1) := by decide +kernel
theorem dX4_digest_6 : decode cX4_digest 6 = .ok (.iload_n 3, 1) := by decide +kernel
theorem dX4_digest_7 : decode cX4_digest 7 = .ok (.bipush 11, 2) := by decide +kernel
theorem dX4_digest_9 : decode cX4_digest 9 = .ok (.if_icmp .gt 21, 3) := by decide +kernel
theorem dX4_digest_12 : decode cX4_digest 12 = .ok (.lload_n 1, 1) := by decide +kernel
theorem dX4_digest_13 : decode cX4_digest 13 = .ok (.ldc2_w 304, 3) := by decide +kernel
theorem dX4_digest_16 : decode cX4_digest 16 = .ok (.lmul, 1) := by decide +kernel
theorem dX4_digest_17 : decode cX4_digest 17 = .ok (.aload_n 0, 1) := by decide +kernel
theorem dX4_digest_18 : decode cX4_digest 18 = .ok (.iload_n 3, 1) := by decide +kernel
theorem dX4_digest_19 : decode cX4_digest 19 = .ok (.invokevirtual 270, 3) := by decide +kernel
theorem dX4_digest_22 : decode cX4_digest 22 = .ok (.ladd, 1) := by decide +kernel
theorem dX4_digest_23 : decode cX4_digest 23 = .ok (.lstore_n 1, 1) := by decide +kernel
theorem dX4_digest_24 : decode cX4_digest 24 = .ok (.iinc 3 1, 3) := by decide +kernel
theorem dX4_digest_27 : decode cX4_digest 27 = .ok (.goto (-21), 3) := by decide +kernel
theorem dX4_digest_30 : decode cX4_digest 30 = .ok (.iconst 0, 1) := by decide +kernel
theorem dX4_digest_31 : decode cX4_digest 31 = .ok (.istore_n 3, 1) := by decide +kernel
theorem dX4_digest_32 : decode cX4_digest 32 = .ok (.iload_n 3, 1) := by decide +kernel
theorem dX4_digest_33 : decode cX4_digest 33 = .ok (.aload_n 0, 1) := by decide +kernel
theorem dX4_digest_34 : decode cX4_digest 34 = .ok (.getfield 70, 3) := by decide +kernel
theorem dX4_digest_37 : decode cX4_digest 37 = .ok (.if_icmp .ge 32, 3) := by decide +kernel
theorem dX4_digest_40 : decode cX4_digest 40 = .ok (.iload_n 3, 1) := by decide +kernel
theorem dX4_digest_41 : decode cX4_digest 41 = .ok (.aload_n 0, 1) := by decide +kernel
theorem dX4_digest_42 : decode cX4_digest 42 = .ok (.getfield 9, 3) := by decide +kernel
theorem dX4_digest_45 : decode cX4_digest 45 = .ok (.arraylength, 1) := by decide +kernel
theorem dX4_digest_46 : decode cX4_digest 46 = .ok (.if_icmp .ge 23, 3) := by decide +kernel
theorem dX4_digest_49 : decode cX4_digest 49 = .ok (.lload_n 1, 1) := by decide +kernel
theorem dX4_digest_50 : decode cX4_digest 50 = .ok (.ldc2_w 304, 3) := by decide +kernel
theorem dX4_digest_53 : decode cX4_digest 53 = .ok (.lmul, 1) := by decide +kernel
theorem dX4_digest_54 : decode cX4_digest 54 = .ok (.aload_n 0, 1) := by decide +kernel
theorem dX4_digest_55 : decode cX4_digest 55 = .ok (.getfield 9, 3) := by decide +kernel
theorem dX4_digest_58 : decode cX4_digest 58 = .ok (.iload_n 3, 1) := by decide +kernel
theorem dX4_digest_59 : decode cX4_digest 59 = .ok (.iaload, 1) := by decide +kernel
theorem dX4_digest_60 : decode cX4_digest 60 = .ok (.i2l, 1) := by decide +kernel
theorem dX4_digest_61 : decode cX4_digest 61 = .ok (.ladd, 1) := by decide +kernel
theorem dX4_digest_62 : decode cX4_digest 62 = .ok (.lstore_n 1, 1) := by decide +kernel
theorem dX4_digest_63 : decode cX4_digest 63 = .ok (.iinc 3 1, 3) := by decide +kernel
theorem dX4_digest_66 : decode cX4_digest 66 = .ok (.goto (-34), 3) := by decide +kernel
theorem dX4_digest_69 : decode cX4_digest 69 = .ok (.aload_n 0, 1) := by decide +kernel
theorem dX4_digest_70 : decode cX4_digest 70 = .ok (.getfield 15, 3) := by decide +kernel
theorem dX4_digest_73 : decode cX4_digest 73 = .ok (.astore_n 3, 1) := by decide +kernel
theorem dX4_digest_74 : decode cX4_digest 74 = .ok (.aload_n 3, 1) := by decide +kernel
theorem dX4_digest_75 : decode cX4_digest 75 = .ok (.arraylength, 1) := by decide +kernel
theorem dX4_digest_76 : decode cX4_digest 76 = .ok (.istore 4, 2) := by decide +kernel
theorem dX4_digest_78 : decode cX4_digest 78 = .ok (.iconst 0, 1) := by decide +kernel
theorem dX4_digest_79 : decode cX4_digest 79 = .ok (.istore 5, 2) := by decide +kernel
theorem dX4_digest_81 : decode cX4_digest 81 = .ok (.iload 5, 2) := by decide +kernel
theorem dX4_digest_83 : decode cX4_digest 83 = .ok (.iload 4, 2) := by decide +kernel
theorem dX4_digest_85 : decode cX4_digest 85 = .ok (.if_icmp .ge 31, 3) := by decide +kernel
theorem dX4_digest_88 : decode cX4_digest 88 = .ok (.aload_n 3, 1) := by decide +kernel
theorem dX4_digest_89 : decode cX4_digest 89 = .ok (.iload 5, 2) := by decide +kernel
theorem dX4_digest_91 : decode cX4_digest 91 = .ok (.aaload, 1) := by decide +kernel
theorem dX4_digest_92 : decode cX4_digest 92 = .ok (.astore 6, 2) := by decide +kernel
theorem dX4_digest_94 : decode cX4_digest 94 = .ok (.aload 6, 2) := by decide +kernel
theorem dX4_digest_96 : decode cX4_digest 96 = .ok (.ifnull 14, 3) := by decide +kernel
theorem dX4_digest_99 : decode cX4_digest 99 = .ok (.aload 6, 2) := by decide +kernel
theorem dX4_digest_101 : decode cX4_digest 101 = .ok (.lload_n 1, 1) := by decide +kernel
theorem dX4_digest_102 : decode cX4_digest 102 = .ok (.aload_n 0, 1) := by decide +kernel
theorem dX4_digest_103 : decode cX4_digest 103 = .ok (.getfield 27, 3) := by decide +kernel
theorem dX4_digest_106 : decode cX4_digest 106 = .ok (.invokevirtual 306, 3) := by decide +kernel
theorem dX4_digest_109 : decode cX4_digest 109 = .ok (.lstore_n 1, 1) := by decide +kernel
theorem dX4_digest_110 : decode cX4_digest 110 = .ok (.iinc 5 1, 3) := by decide +kernel
theorem dX4_digest_113 : decode cX4_digest 113 = .ok (.goto (-32), 3) := by decide +kernel
theorem dX4_digest_116 : decode cX4_digest 116 = .ok (.lload_n 1, 1) := by decide +kernel
theorem dX4_digest_117 : decode cX4_digest 117 = .ok (.lreturn, 1) := by decide +kernel
theorem dX4_requirePieces_0 : decode cX4_requirePieces 0 = .ok (.iload_n 0, 1) := by decide +kernel
theorem dX4_requirePieces_1 : decode cX4_requirePieces 1 = .ok (.iconst 1, 1) := by decide +kernel
theorem dX4_requirePieces_2 : decode cX4_requirePieces 2 = .ok (.if_icmp .lt 10, 3) := by decide +kernel
theorem dX4_requirePieces_5 : decode cX4_requirePieces 5 = .ok (.iload_n 0, 1) := by decide +kernel
theorem dX4_requirePieces_6 : decode cX4_requirePieces 6 = .ok (.sipush 1000, 3) := by decide +kernel
theorem dX4_requirePieces_9 : decode cX4_requirePieces 9 = .ok (.if_icmp .le 14, 3) := by decide +kernel
theorem dX4_requirePieces_12 : decode cX4_requirePieces 12 = .ok (.new 44, 3) := by decide +kernel
theorem dX4_requirePieces_15 : decode cX4_requirePieces 15 = .ok (.dup, 1) := by decide +kernel
theorem dX4_requirePieces_16 : decode cX4_requirePieces 16 = .ok (.ldc_w 310, 3) := by decide +kernel
theorem dX4_requirePieces_19 : decode cX4_requirePieces 19 = .ok (.invokespecial 48, 3) := by decide +kernel
theorem dX4_requirePieces_22 : decode cX4_requirePieces 22 = .ok (.athrow, 1) := by decide +kernel
theorem dX4_requirePieces_23 : decode cX4_requirePieces 23 = .ok (.return_, 1) := by decide +kernel
theorem dX4_requireYear_0 : decode cX4_requireYear 0 = .ok (.iload_n 0, 1) := by decide +kernel
theorem dX4_requireYear_1 : decode cX4_requireYear 1 = .ok (.sipush 2016, 3) := by decide +kernel
theorem dX4_requireYear_4 : decode cX4_requireYear 4 = .ok (.if_icmp .lt 10, 3) := by decide +kernel
theorem dX4_requireYear_7 : decode cX4_requireYear 7 = .ok (.iload_n 0, 1) := by decide +kernel
theorem dX4_requireYear_8 : decode cX4_requireYear 8 = .ok (.sipush 2066, 3) := by decide +kernel
theorem dX4_requireYear_11 : decode cX4_requireYear 11 = .ok (.if_icmp .le 14, 3) := by decide +kernel
theorem dX4_requireYear_14 : decode cX4_requireYear 14 = .ok (.new 44, 3) := by decide +kernel
theorem dX4_requireYear_17 : decode cX4_requireYear 17 = .ok (.dup, 1) := by decide +kernel
theorem dX4_requireYear_18 : decode cX4_requireYear 18 = .ok (.ldc_w 312, 3) := by decide +kernel
theorem dX4_requireYear_21 : decode cX4_requireYear 21 = .ok (.invokespecial 48, 3) := by decide +kernel
theorem dX4_requireYear_24 : decode cX4_requireYear 24 = .ok (.athrow, 1) := by decide +kernel
theorem dX4_requireYear_25 : decode cX4_requireYear 25 = .ok (.return_, 1) := by decide +kernel
set_option maxRecDepth 20000 in
theorem ggX4_requireWorkingDay_X1_dayNumber : GoodIn wsX4_requireWorkingDay wsX1_dayNumber := goodIn_r _ [7, 8] (by decide +kernel) (by decide +kernel)
set_option maxRecDepth 20000 in
theorem gX4_requireWorkingDay_X1_dayNumber : GoodIn wsX4_requireWorkingDay (va_wsS RX4 51 yX1_dayNumber wsX1_dayNumber) := goodIn_app (goodIn_of _ (by decide +kernel)) ggX4_requireWorkingDay_X1_dayNumber
set_option maxRecDepth 20000 in
theorem ggX4_requireWorkingDay_X4_isWorkingDay : GoodIn wsX4_requireWorkingDay wsX4_isWorkingDay := goodIn_r _ [13, 14, 15, 6, 16, 17, 18, 19, 20, 21, 22, 23, 24, 25, 12, 26, 27, 28, 29, 30, 31, 32, 33, 34, 35] (by decide +kernel) (by decide +kernel)
set_option maxRecDepth 20000 in
theorem gX4_requireWorkingDay_X4_isWorkingDay : GoodIn wsX4_requireWorkingDay (wsV RX4 89 RX4 yX4_isWorkingDay wsX4_isWorkingDay) := goodIn_app (goodIn_of _ (by decide +kernel)) ggX4_requireWorkingDay_X4_isWorkingDay
theorem dX4_requireWorkingDay_0 : decode cX4_requireWorkingDay 0 = .ok (.aload_n 0, 1) := by decide +kernel
theorem dX4_requireWorkingDay_1 : decode cX4_requireWorkingDay 1 = .ok (.aload_n 0, 1) := by decide +kernel
theorem dX4_requireWorkingDay_2 : decode cX4_requireWorkingDay 2 = .ok (.getfield 27, 3) := by decide +kernel
theorem dX4_requireWorkingDay_5 : decode cX4_requireWorkingDay 5 = .ok (.invokestatic 51, 3) := by decide +kernel
theorem dX4_requireWorkingDay_8 : decode cX4_requireWorkingDay 8 = .ok (.invokevirtual 89, 3) := by decide +kernel
theorem dX4_requireWorkingDay_11 : decode cX4_requireWorkingDay 11 = .ok (.ifCond .ne 14, 3) := by decide +kernel
theorem dX4_requireWorkingDay_14 : decode cX4_requireWorkingDay 14 = .ok (.new 73, 3) := by decide +kernel
theorem dX4_requireWorkingDay_17 : decode cX4_requireWorkingDay 17 = .ok (.dup, 1) := by decide +kernel
theorem dX4_requireWorkingDay_18 : decode cX4_requireWorkingDay 18 = .ok (.ldc_w 314, 3) := by decide +kernel
theorem dX4_requireWorkingDay_21 : decode cX4_requireWorkingDay 21 = .ok (.invokespecial 77, 3) := by decide +kernel
theorem dX4_requireWorkingDay_24 : decode cX4_requireWorkingDay 24 = .ok (.athrow, 1) := by decide +kernel
theorem dX4_requireWorkingDay_25 : decode cX4_requireWorkingDay 25 = .ok (.return_, 1) := by decide +kernel
set_option maxRecDepth 20000 in
theorem ggX4_lookAtBonds_X0_lookUpTo : GoodIn wsX4_lookAtBonds wsX0_lookUpTo := goodIn_r _ [9, 10, 11, 12, 13, 14, 15, 8, 16, 17, 18, 19, 20, 21, 22, 23, 24, 25, 26, 27, 28, 29, 30, 31, 32, 33, 34, 35, 36, 37, 38, 39, 40, 41, 42, 43, 44, 45, 46, 47, 48, 49, 50, 51, 52, 53, 54, 55, 56, 57, 58, 59, 60, 61, 62, 63, 64, 65, 66, 67, 68, 69, 70, 71, 72, 73, 74, 75, 76, 77, 78, 79, 80, 81, 82, 83, 84, 85, 86, 87, 88, 89, 90, 91, 92, 93, 94, 95, 96, 97, 98, 99, 100, 101, 110, 111, 112, 113, 114, 115, 116, 117, 118, 119, 120, 121, 122, 123, 124, 125, 126, 127, 128, 129, 130, 131] (by decide +kernel) (by decide +kernel)
set_option maxRecDepth 20000 in
theorem gX4_lookAtBonds_X0_lookUpTo : GoodIn wsX4_lookAtBonds (wsV RX4 316 RX0 yX0_lookUpTo wsX0_lookUpTo) := goodIn_app (goodIn_of _ (by decide +kernel)) ggX4_lookAtBonds_X0_lookUpTo
theorem dX4_lookAtBonds_0 : decode cX4_lookAtBonds 0 = .ok (.aload_n 0, 1) := by decide +kernel
theorem dX4_lookAtBonds_1 : decode cX4_lookAtBonds 1 = .ok (.getfield 15, 3) := by decide +kernel
theorem dX4_lookAtBonds_4 : decode cX4_lookAtBonds 4 = .ok (.astore_n 1, 1) := by decide +kernel
theorem dX4_lookAtBonds_5 : decode cX4_lookAtBonds 5 = .ok (.aload_n 1, 1) := by decide +kernel
theorem dX4_lookAtBonds_6 : decode cX4_lookAtBonds 6 = .ok (.arraylength, 1) := by decide +kernel
theorem dX4_lookAtBonds_7 : decode cX4_lookAtBonds 7 = .ok (.istore_n 2, 1) := by decide +kernel
theorem dX4_lookAtBonds_8 : decode cX4_lookAtBonds 8 = .ok (.iconst 0, 1) := by decide +kernel
theorem dX4_lookAtBonds_9 : decode cX4_lookAtBonds 9 = .ok (.istore_n 3, 1) := by decide +kernel
theorem dX4_lookAtBonds_10 : decode cX4_lookAtBonds 10 = .ok (.iload_n 3, 1) := by decide +kernel
theorem dX4_lookAtBonds_11 : decode cX4_lookAtBonds 11 = .ok (.iload_n 2, 1) := by decide +kernel
theorem dX4_lookAtBonds_12 : decode cX4_lookAtBonds 12 = .ok (.if_icmp .ge 36, 3) := by decide +kernel
theorem dX4_lookAtBonds_15 : decode cX4_lookAtBonds 15 = .ok (.aload_n 1, 1) := by decide +kernel
theorem dX4_lookAtBonds_16 : decode cX4_lookAtBonds 16 = .ok (.iload_n 3, 1) := by decide +kernel
theorem dX4_lookAtBonds_17 : decode cX4_lookAtBonds 17 = .ok (.aaload, 1) := by decide +kernel
theorem dX4_lookAtBonds_18 : decode cX4_lookAtBonds 18 = .ok (.astore 4, 2) := by decide +kernel
theorem dX4_lookAtBonds_20 : decode cX4_lookAtBonds 20 = .ok (.aload 4, 2) := by decide +kernel
theorem dX4_lookAtBonds_22 : decode cX4_lookAtBonds 22 = .ok (.ifnull 20, 3) := by decide +kernel
theorem dX4_lookAtBonds_25 : decode cX4_lookAtBonds 25 = .ok (.aload 4, 2) := by decide +kernel
theorem dX4_lookAtBonds_27 : decode cX4_lookAtBonds 27 = .ok (.aload_n 0, 1) := by decide +kernel
theorem dX4_lookAtBonds_28 : decode cX4_lookAtBonds 28 = .ok (.getfield 27, 3) := by decide +kernel
theorem dX4_lookAtBonds_31 : decode cX4_lookAtBonds 31 = .ok (.aload_n 0, 1) := by decide +kernel
theorem dX4_lookAtBonds_32 : decode cX4_lookAtBonds 32 = .ok (.getfield 37, 3) := by decide +kernel
theorem dX4_lookAtBonds_35 : decode cX4_lookAtBonds 35 = .ok (.aload_n 0, 1) := by decide +kernel
theorem dX4_lookAtBonds_36 : decode cX4_lookAtBonds 36 = .ok (.getfield 22, 3) := by decide +kernel
theorem dX4_lookAtBonds_39 : decode cX4_lookAtBonds 39 = .ok (.invokevirtual 316, 3) := by decide +kernel
theorem dX4_lookAtBonds_42 : decode cX4_lookAtBonds 42 = .ok (.iinc 3 1, 3) := by decide +kernel
theorem dX4_lookAtBonds_45 : decode cX4_lookAtBonds 45 = .ok (.goto (-35), 3) := by decide +kernel
theorem dX4_lookAtBonds_48 : decode cX4_lookAtBonds 48 = .ok (.return_, 1) := by decide +kernel
set_option maxRecDepth 20000 in
theorem ggX4_leastWorth_X0_isRung : GoodIn wsX4_leastWorth wsX0_isRung := goodIn_r _ [10, 11, 12, 13, 14, 15, 9, 16, 17, 18, 19, 20, 21, 22, 23, 24, 25, 26, 91, 92, 93, 94, 95, 96, 97, 98, 99, 100, 101, 102, 103, 104, 105, 106, 107, 108] (by decide +kernel) (by decide +kernel)
set_option maxRecDepth 20000 in
theorem gX4_leastWorth_X0_isRung : GoodIn wsX4_leastWorth (wsV RX4 322 RX0 yX0_isRung wsX0_isRung) := goodIn_app (goodIn_of _ (by decide +kernel)) ggX4_leastWorth_X0_isRung
set_option maxRecDepth 20000 in
theorem ggX4_leastWorth_X0_worthAt : GoodIn wsX4_leastWorth wsX0_worthAt := goodIn_r _ [30, 11, 31, 32, 33, 34, 35, 36, 37, 38, 39, 40, 41, 42, 13, 14, 15, 9, 16, 17, 43, 44, 25, 45, 46, 47, 48, 49, 50, 51, 52, 53, 54, 55, 56, 57, 58, 59, 60, 61, 62, 63, 64, 65, 66, 67, 68, 69, 70, 71, 72, 73, 74, 75, 76, 77, 78, 79, 80, 81, 82, 91, 92, 93, 94, 95, 96, 97, 98, 99, 100, 101, 102, 103, 104, 105, 106, 107, 108] (by decide +kernel) (by decide +kernel)
set_option maxRecDepth 20000 in
theorem gX4_leastWorth_X0_worthAt : GoodIn wsX4_leastWorth (wsV RX4 215 RX0 yX0_worthAt wsX0_worthAt) := goodIn_app (goodIn_of _ (by decide +kernel)) ggX4_leastWorth_X0_worthAt
theorem dX4_leastWorth_0 : decode cX4_leastWorth 0 = .ok (.ldc2_w 320, 3) := by decide +kernel
theorem dX4_leastWorth_3 : decode cX4_leastWorth 3 = .ok (.lstore_n 2, 1) := by decide +kernel
theorem dX4_leastWorth_4 : decode cX4_leastWorth 4 = .ok (.aload_n 0, 1) := by decide +kernel
theorem dX4_leastWorth_5 : decode cX4_leastWorth 5 = .ok (.getfield 15, 3) := by decide +kernel
theorem dX4_leastWorth_8 : decode cX4_leastWorth 8 = .ok (.astore 4, 2) := by decide +kernel
theorem dX4_leastWorth_10 : decode cX4_leastWorth 10 = .ok (.aload 4, 2) := by decide +kernel
theorem dX4_leastWorth_12 : decode cX4_leastWorth 12 = .ok (.arraylength, 1) := by decide +kernel
theorem dX4_leastWorth_13 : decode cX4_leastWorth 13 = .ok (.istore 5, 2) := by decide +kernel
theorem dX4_leastWorth_15 : decode cX4_leastWorth 15 = .ok (.iconst 0, 1) := by decide +kernel
theorem dX4_leastWorth_16 : decode cX4_leastWorth 16 = .ok (.istore 6, 2) := by decide +kernel
theorem dX4_leastWorth_18 : decode cX4_leastWorth 18 = .ok (.iload 6, 2) := by decide +kernel
theorem dX4_leastWorth_20 : decode cX4_leastWorth 20 = .ok (.iload 5, 2) := by decide +kernel
theorem dX4_leastWorth_22 : decode cX4_leastWorth 22 = .ok (.if_icmp .ge 70, 3) := by decide +kernel
theorem dX4_leastWorth_25 : decode cX4_leastWorth 25 = .ok (.aload 4, 2) := by decide +kernel
theorem dX4_leastWorth_27 : decode cX4_leastWorth 27 = .ok (.iload 6, 2) := by decide +kernel
theorem dX4_leastWorth_29 : decode cX4_leastWorth 29 = .ok (.aaload, 1) := by decide +kernel
theorem dX4_leastWorth_30 : decode cX4_leastWorth 30 = .ok (.astore 7, 2) := by decide +kernel
theorem dX4_leastWorth_32 : decode cX4_leastWorth 32 = .ok (.aload 7, 2) := by decide +kernel
theorem dX4_leastWorth_34 : decode cX4_leastWorth 34 = .ok (.ifnull 52, 3) := by decide +kernel
theorem dX4_leastWorth_37 : decode cX4_leastWorth 37 = .ok (.aload 7, 2) := by decide +kernel
theorem dX4_leastWorth_39 : decode cX4_leastWorth 39 = .ok (.iload_n 1, 1) := by decide +kernel
theorem dX4_leastWorth_40 : decode cX4_leastWorth 40 = .ok (.aload_n 0, 1) := by decide +kernel
theorem dX4_leastWorth_41 : decode cX4_leastWorth 41 = .ok (.getfield 27, 3) := by decide +kernel
theorem dX4_leastWorth_44 : decode cX4_leastWorth 44 = .ok (.invokevirtual 322, 3) := by decide +kernel
theorem dX4_leastWorth_47 : decode cX4_leastWorth 47 = .ok (.ifCond .eq 39, 3) := by decide +kernel
theorem dX4_leastWorth_50 : decode cX4_leastWorth 50 = .ok (.aload 7, 2) := by decide +kernel
theorem dX4_leastWorth_52 : decode cX4_leastWorth 52 = .ok (.aload_n 0, 1) := by decide +kernel
theorem dX4_leastWorth_53 : decode cX4_leastWorth 53 = .ok (.getfield 27, 3) := by decide +kernel
theorem dX4_leastWorth_56 : decode cX4_leastWorth 56 = .ok (.aload 7, 2) := by decide +kernel
theorem dX4_leastWorth_58 : decode cX4_leastWorth 58 = .ok (.getfield 212, 3) := by decide +kernel
theorem dX4_leastWorth_61 : decode cX4_leastWorth 61 = .ok (.aload_n 0, 1) := by decide +kernel
theorem dX4_leastWorth_62 : decode cX4_leastWorth 62 = .ok (.getfield 37, 3) := by decide +kernel
theorem dX4_leastWorth_65 : decode cX4_leastWorth 65 = .ok (.invokevirtual 215, 3) := by decide +kernel
theorem dX4_leastWorth_68 : decode cX4_leastWorth 68 = .ok (.lstore 8, 2) := by decide +kernel
theorem dX4_leastWorth_70 : decode cX4_leastWorth 70 = .ok (.lload_n 2, 1) := by decide +kernel
theorem dX4_leastWorth_71 : decode cX4_leastWorth 71 = .ok (.lconst 0, 1) := by decide +kernel
theorem dX4_leastWorth_72 : decode cX4_leastWorth 72 = .ok (.lcmp, 1) := by decide +kernel
theorem dX4_leastWorth_73 : decode cX4_leastWorth 73 = .ok (.ifCond .lt 10, 3) := by decide +kernel
theorem dX4_leastWorth_76 : decode cX4_leastWorth 76 = .ok (.lload 8, 2) := by decide +kernel
theorem dX4_leastWorth_78 : decode cX4_leastWorth 78 = .ok (.lload_n 2, 1) := by decide +kernel
theorem dX4_leastWorth_79 : decode cX4_leastWorth 79 = .ok (.lcmp, 1) := by decide +kernel
theorem dX4_leastWorth_80 : decode cX4_leastWorth 80 = .ok (.ifCond .ge 6, 3) := by decide +kernel
theorem dX4_leastWorth_83 : decode cX4_leastWorth 83 = .ok (.lload 8, 2) := by decide +kernel
theorem dX4_leastWorth_85 : decode cX4_leastWorth 85 = .ok (.lstore_n 2, 1) := by decide +kernel
theorem dX4_leastWorth_86 : decode cX4_leastWorth 86 = .ok (.iinc 6 1, 3) := by decide +kernel
theorem dX4_leastWorth_89 : decode cX4_leastWorth 89 = .ok (.goto (-71), 3) := by decide +kernel
theorem dX4_leastWorth_92 : decode cX4_leastWorth 92 = .ok (.lload_n 2, 1) := by decide +kernel
theorem dX4_leastWorth_93 : decode cX4_leastWorth 93 = .ok (.lreturn, 1) := by decide +kernel
set_option maxRecDepth 20000 in
theorem ggX4_tell_X4_bondsThere : GoodIn wsX4_tell wsX4_bondsThere := goodIn_r _ [15, 16, 17, 18, 19, 20, 21, 22, 92, 93, 94, 95, 96, 97, 98, 99, 104, 105, 106, 107, 108, 109, 110, 111, 112] (by decide +kernel) (by decide +kernel)
set_option maxRecDepth 20000 in
theorem gX4_tell_X4_bondsThere : GoodIn wsX4_tell (wsV RX4 326 RX4 yX4_bondsThere wsX4_bondsThere) := goodIn_app (goodIn_of _ (by decide +kernel)) ggX4_tell_X4_bondsThere
set_option maxRecDepth 20000 in
theorem ggX4_tell_X4_piecesHeld : GoodIn wsX4_tell wsX4_piecesHeld := goodIn_r _ [26, 16, 27, 92, 93, 94, 95, 96, 97, 98, 99, 104, 105, 106, 107, 108, 109, 110, 111, 112] (by decide +kernel) (by decide +kernel)
set_option maxRecDepth 20000 in
theorem gX4_tell_X4_piecesHeld : GoodIn wsX4_tell (wsV RX4 329 RX4 yX4_piecesHeld wsX4_piecesHeld) := goodIn_app (goodIn_of _ (by decide +kernel)) ggX4_tell_X4_piecesHeld
set_option maxRecDepth 20000 in
theorem ggX4_tell_X4_worthHeld : GoodIn wsX4_tell wsX4_worthHeld := goodIn_r _ [31, 16, 27, 1, 32, 3, 33, 34, 35, 20, 36, 37, 38, 39, 40, 41, 42, 43, 44, 45, 46, 47, 48, 49, 50, 18, 19, 21, 22, 51, 52, 53, 54, 55, 56, 57, 58, 59, 60, 61, 62, 63, 64, 65, 66, 67, 68, 69, 70, 71, 72, 73, 74, 75, 76, 77, 78, 79, 80, 81, 82, 83, 84, 85, 86, 87, 88, 89, 90, 91, 92, 93, 94, 95, 96, 97, 98, 99, 104, 105, 106, 107, 108, 109, 110, 111, 112, 113, 114, 115, 116, 117, 118, 119, 120, 121] (by decide +kernel) (by decide +kernel)
set_option maxRecDepth 20000 in
theorem gX4_tell_X4_worthHeld : GoodIn wsX4_tell (wsV RX4 344 RX4 yX4_worthHeld wsX4_worthHeld) := goodIn_app (goodIn_of _ (by decide +kernel)) ggX4_tell_X4_worthHeld
theorem dX4_tell_0 : decode cX4_tell 0 = .ok (.iload_n 1, 1) := by decide +kernel
theorem dX4_tell_1 : decode cX4_tell 1 = .ok (.tableswitch 132 0 10 #[59, 65, 70, 76, 82, 88, 94, 100, 108, 116, 124], 59) := by decide +kernel
theorem dX4_tell_60 : decode cX4_tell 60 = .ok (.aload_n 0, 1) := by decide +kernel
theorem dX4_tell_61 : decode cX4_tell 61 = .ok (.getfield 27, 3) := by decide +kernel
theorem dX4_tell_64 : decode cX4_tell 64 = .ok (.i2l, 1) := by decide +kernel
theorem dX4_tell_65 : decode cX4_tell 65 = .ok (.lreturn, 1) := by decide +kernel
theorem dX4_tell_66 : decode cX4_tell 66 = .ok (.aload_n 0, 1) := by decide +kernel
theorem dX4_tell_67 : decode cX4_tell 67 = .ok (.getfield 33, 3) := by decide +kernel
theorem dX4_tell_70 : decode cX4_tell 70 = .ok (.lreturn, 1) := by decide +kernel
theorem dX4_tell_71 : decode cX4_tell 71 = .ok (.aload_n 0, 1) := by decide +kernel
theorem dX4_tell_72 : decode cX4_tell 72 = .ok (.getfield 37, 3) := by decide +kernel
theorem dX4_tell_75 : decode cX4_tell 75 = .ok (.i2l, 1) := by decide +kernel
theorem dX4_tell_76 : decode cX4_tell 76 = .ok (.lreturn, 1) := by decide +kernel
theorem dX4_tell_77 : decode cX4_tell 77 = .ok (.aload_n 0, 1) := by decide +kernel
theorem dX4_tell_78 : decode cX4_tell 78 = .ok (.getfield 114, 3) := by decide +kernel
theorem dX4_tell_81 : decode cX4_tell 81 = .ok (.i2l, 1) := by decide +kernel
theorem dX4_tell_82 : decode cX4_tell 82 = .ok (.lreturn, 1) := by decide +kernel
theorem dX4_tell_83 : decode cX4_tell 83 = .ok (.aload_n 0, 1) := by decide +kernel
theorem dX4_tell_84 : decode cX4_tell 84 = .ok (.invokevirtual 326, 3) := by decide +kernel
theorem dX4_tell_87 : decode cX4_tell 87 = .ok (.i2l, 1) := by decide +kernel
theorem dX4_tell_88 : decode cX4_tell 88 = .ok (.lreturn, 1) := by decide +kernel
theorem dX4_tell_89 : decode cX4_tell 89 = .ok (.aload_n 0, 1) := by decide +kernel
theorem dX4_tell_90 : decode cX4_tell 90 = .ok (.getfield 70, 3) := by decide +kernel
theorem dX4_tell_93 : decode cX4_tell 93 = .ok (.i2l, 1) := by decide +kernel
theorem dX4_tell_94 : decode cX4_tell 94 = .ok (.lreturn, 1) := by decide +kernel
theorem dX4_tell_95 : decode cX4_tell 95 = .ok (.aload_n 0, 1) := by decide +kernel
theorem dX4_tell_96 : decode cX4_tell 96 = .ok (.invokevirtual 329, 3) := by decide +kernel
theorem dX4_tell_99 : decode cX4_tell 99 = .ok (.i2l, 1) := by decide +kernel
theorem dX4_tell_100 : decode cX4_tell 100 = .ok (.lreturn, 1) := by decide +kernel
theorem dX4_tell_101 : decode cX4_tell 101 = .ok (.aload_n 0, 1) := by decide +kernel
theorem dX4_tell_102 : decode cX4_tell 102 = .ok (.getfield 22, 3) := by decide +kernel
theorem dX4_tell_105 : decode cX4_tell 105 = .ok (.getfield 332, 3) := by decide +kernel
theorem dX4_tell_108 : decode cX4_tell 108 = .ok (.lreturn, 1) := by decide +kernel
theorem dX4_tell_109 : decode cX4_tell 109 = .ok (.aload_n 0, 1) := by decide +kernel
theorem dX4_tell_110 : decode cX4_tell 110 = .ok (.getfield 22, 3) := by decide +kernel
theorem dX4_tell_113 : decode cX4_tell 113 = .ok (.getfield 335, 3) := by decide +kernel
theorem dX4_tell_116 : decode cX4_tell 116 = .ok (.lreturn, 1) := by decide +kernel
theorem dX4_tell_117 : decode cX4_tell 117 = .ok (.aload_n 0, 1) := by decide +kernel
theorem dX4_tell_118 : decode cX4_tell 118 = .ok (.getfield 22, 3) := by decide +kernel
theorem dX4_tell_121 : decode cX4_tell 121 = .ok (.getfield 338, 3) := by decide +kernel
theorem dX4_tell_124 : decode cX4_tell 124 = .ok (.lreturn, 1) := by decide +kernel
theorem dX4_tell_125 : decode cX4_tell 125 = .ok (.aload_n 0, 1) := by decide +kernel
theorem dX4_tell_126 : decode cX4_tell 126 = .ok (.getfield 22, 3) := by decide +kernel
theorem dX4_tell_129 : decode cX4_tell 129 = .ok (.getfield 341, 3) := by decide +kernel
theorem dX4_tell_132 : decode cX4_tell 132 = .ok (.lreturn, 1) := by decide +kernel
theorem dX4_tell_133 : decode cX4_tell 133 = .ok (.aload_n 0, 1) := by decide +kernel
theorem dX4_tell_134 : decode cX4_tell 134 = .ok (.invokevirtual 344, 3) := by decide +kernel
theorem dX4_tell_137 : decode cX4_tell 137 = .ok (.lreturn, 1) := by decide +kernel
set_option maxRecDepth 20000 in
theorem ggX4_bondsThere_X0_isGone : GoodIn wsX4_bondsThere wsX0_isGone := goodIn_r _ [6, 7, 16, 17, 18, 19, 20, 21, 22, 23, 24] (by decide +kernel) (by decide +kernel)
set_option maxRecDepth 20000 in
theorem gX4_bondsThere_X0_isGone : GoodIn wsX4_bondsThere (wsV RX4 201 RX0 yX0_isGone wsX0_isGone) := goodIn_app (goodIn_of _ (by decide +kernel)) ggX4_bondsThere_X0_isGone
theorem dX4_bondsThere_0 : decode cX4_bondsThere 0 = .ok (.iconst 0, 1) := by decide +kernel
theorem dX4_bondsThere_1 : decode cX4_bondsThere 1 = .ok (.istore_n 1, 1) := by decide +kernel
theorem dX4_bondsThere_2 : decode cX4_bondsThere 2 = .ok (.aload_n 0, 1) := by decide +kernel
theorem dX4_bondsThere_3 : decode cX4_bondsThere 3 = .ok (.getfield 15, 3) := by decide +kernel
theorem dX4_bondsThere_6 : decode cX4_bondsThere 6 = .ok (.astore_n 2, 1) := by decide +kernel
theorem dX4_bondsThere_7 : decode cX4_bondsThere 7 = .ok (.aload_n 2, 1) := by decide +kernel
theorem dX4_bondsThere_8 : decode cX4_bondsThere 8 = .ok (.arraylength, 1) := by decide +kernel
theorem dX4_bondsThere_9 : decode cX4_bondsThere 9 = .ok (.istore_n 3, 1) := by decide +kernel
theorem dX4_bondsThere_10 : decode cX4_bondsThere 10 = .ok (.iconst 0, 1) := by decide +kernel
theorem dX4_bondsThere_11 : decode cX4_bondsThere 11 = .ok (.istore 4, 2) := by decide +kernel
theorem dX4_bondsThere_13 : decode cX4_bondsThere 13 = .ok (.iload 4, 2) := by decide +kernel
theorem dX4_bondsThere_15 : decode cX4_bondsThere 15 = .ok (.iload_n 3, 1) := by decide +kernel
theorem dX4_bondsThere_16 : decode cX4_bondsThere 16 = .ok (.if_icmp .ge 31, 3) := by decide +kernel
theorem dX4_bondsThere_19 : decode cX4_bondsThere 19 = .ok (.aload_n 2, 1) := by decide +kernel
theorem dX4_bondsThere_20 : decode cX4_bondsThere 20 = .ok (.iload 4, 2) := by decide +kernel
theorem dX4_bondsThere_22 : decode cX4_bondsThere 22 = .ok (.aaload, 1) := by decide +kernel
theorem dX4_bondsThere_23 : decode cX4_bondsThere 23 = .ok (.astore 5, 2) := by decide +kernel
theorem dX4_bondsThere_25 : decode cX4_bondsThere 25 = .ok (.aload 5, 2) := by decide +kernel
theorem dX4_bondsThere_27 : decode cX4_bondsThere 27 = .ok (.ifnull 14, 3) := by decide +kernel
theorem dX4_bondsThere_30 : decode cX4_bondsThere 30 = .ok (.aload 5, 2) := by decide +kernel
theorem dX4_bondsThere_32 : decode cX4_bondsThere 32 = .ok (.invokevirtual 201, 3) := by decide +kernel
theorem dX4_bondsThere_35 : decode cX4_bondsThere 35 = .ok (.ifCond .ne 6, 3) := by decide +kernel
theorem dX4_bondsThere_38 : decode cX4_bondsThere 38 = .ok (.iinc 1 1, 3) := by decide +kernel
theorem dX4_bondsThere_41 : decode cX4_bondsThere 41 = .ok (.iinc 4 1, 3) := by decide +kernel
theorem dX4_bondsThere_44 : decode cX4_bondsThere 44 = .ok (.goto (-31), 3) := by decide +kernel
theorem dX4_bondsThere_47 : decode cX4_bondsThere 47 = .ok (.iload_n 1, 1) := by decide +kernel
theorem dX4_bondsThere_48 : decode cX4_bondsThere 48 = .ok (.ireturn, 1) := by decide +kernel
theorem dX4_piecesHeld_0 : decode cX4_piecesHeld 0 = .ok (.iconst 0, 1) := by decide +kernel
theorem dX4_piecesHeld_1 : decode cX4_piecesHeld 1 = .ok (.istore_n 1, 1) := by decide +kernel
theorem dX4_piecesHeld_2 : decode cX4_piecesHeld 2 = .ok (.aload_n 0, 1) := by decide +kernel
theorem dX4_piecesHeld_3 : decode cX4_piecesHeld 3 = .ok (.getfield 15, 3) := by decide +kernel
theorem dX4_piecesHeld_6 : decode cX4_piecesHeld 6 = .ok (.astore_n 2, 1) := by decide +kernel
theorem dX4_piecesHeld_7 : decode cX4_piecesHeld 7 = .ok (.aload_n 2, 1) := by decide +kernel
theorem dX4_piecesHeld_8 : decode cX4_piecesHeld 8 = .ok (.arraylength, 1) := by decide +kernel
theorem dX4_piecesHeld_9 : decode cX4_piecesHeld 9 = .ok (.istore_n 3, 1) := by decide +kernel
theorem dX4_piecesHeld_10 : decode cX4_piecesHeld 10 = .ok (.iconst 0, 1) := by decide +kernel
theorem dX4_piecesHeld_11 : decode cX4_piecesHeld 11 = .ok (.istore 4, 2) := by decide +kernel
theorem dX4_piecesHeld_13 : decode cX4_piecesHeld 13 = .ok (.iload 4, 2) := by decide +kernel
theorem dX4_piecesHeld_15 : decode cX4_piecesHeld 15 = .ok (.iload_n 3, 1) := by decide +kernel
theorem dX4_piecesHeld_16 : decode cX4_piecesHeld 16 = .ok (.if_icmp .ge 28, 3) := by decide +kernel
theorem dX4_piecesHeld_19 : decode cX4_piecesHeld 19 = .ok (.aload_n 2, 1) := by decide +kernel
theorem dX4_piecesHeld_20 : decode cX4_piecesHeld 20 = .ok (.iload 4, 2) := by decide +kernel
theorem dX4_piecesHeld_22 : decode cX4_piecesHeld 22 = .ok (.aaload, 1) := by decide +kernel
theorem dX4_piecesHeld_23 : decode cX4_piecesHeld 23 = .ok (.astore 5, 2) := by decide +kernel
theorem dX4_piecesHeld_25 : decode cX4_piecesHeld 25 = .ok (.aload 5, 2) := by decide +kernel
theorem dX4_piecesHeld_27 : decode cX4_piecesHeld 27 = .ok (.ifnull 11, 3) := by decide +kernel
theorem dX4_piecesHeld_30 : decode cX4_piecesHeld 30 = .ok (.iload_n 1, 1) := by decide +kernel
theorem dX4_piecesHeld_31 : decode cX4_piecesHeld 31 = .ok (.aload 5, 2) := by decide +kernel
theorem dX4_piecesHeld_33 : decode cX4_piecesHeld 33 = .ok (.getfield 244, 3) := by decide +kernel
theorem dX4_piecesHeld_36 : decode cX4_piecesHeld 36 = .ok (.iadd, 1) := by decide +kernel
theorem dX4_piecesHeld_37 : decode cX4_piecesHeld 37 = .ok (.istore_n 1, 1) := by decide +kernel
theorem dX4_piecesHeld_38 : decode cX4_piecesHeld 38 = .ok (.iinc 4 1, 3) := by decide +kernel
theorem dX4_piecesHeld_41 : decode cX4_piecesHeld 41 = .ok (.goto (-28), 3) := by decide +kernel
theorem dX4_piecesHeld_44 : decode cX4_piecesHeld 44 = .ok (.iload_n 1, 1) := by decide +kernel
theorem dX4_piecesHeld_45 : decode cX4_piecesHeld 45 = .ok (.ireturn, 1) := by decide +kernel
set_option maxRecDepth 20000 in
theorem ggX4_worthHeld_X0_worthAt : GoodIn wsX4_worthHeld wsX0_worthAt := goodIn_r _ [10, 11, 12, 13, 14, 15, 16, 17, 18, 19, 20, 21, 22, 23, 24, 25, 26, 9, 27, 28, 29, 30, 31, 32, 33, 34, 35, 36, 37, 38, 39, 40, 41, 42, 43, 44, 45, 46, 47, 48, 49, 50, 51, 52, 53, 54, 55, 56, 57, 58, 59, 60, 61, 62, 63, 64, 65, 66, 67, 68, 69, 78, 79, 80, 81, 82, 83, 84, 85, 86, 87, 88, 89, 90, 91, 92, 93, 94, 95] (by decide +kernel) (by decide +kernel)
set_option maxRecDepth 20000 in
theorem gX4_worthHeld_X0_worthAt : GoodIn wsX4_worthHeld (wsV RX4 215 RX0 yX0_worthAt wsX0_worthAt) := goodIn_app (goodIn_of _ (by decide +kernel)) ggX4_worthHeld_X0_worthAt
theorem dX4_worthHeld_0 : decode cX4_worthHeld 0 = .ok (.lconst 0, 1) := by decide +kernel
theorem dX4_worthHeld_1 : decode cX4_worthHeld 1 = .ok (.lstore_n 1, 1) := by decide +kernel
theorem dX4_worthHeld_2 : decode cX4_worthHeld 2 = .ok (.aload_n 0, 1) := by decide +kernel
theorem dX4_worthHeld_3 : decode cX4_worthHeld 3 = .ok (.getfield 15, 3) := by decide +kernel
theorem dX4_worthHeld_6 : decode cX4_worthHeld 6 = .ok (.astore_n 3, 1) := by decide +kernel
theorem dX4_worthHeld_7 : decode cX4_worthHeld 7 = .ok (.aload_n 3, 1) := by decide +kernel
theorem dX4_worthHeld_8 : decode cX4_worthHeld 8 = .ok (.arraylength, 1) := by decide +kernel
theorem dX4_worthHeld_9 : decode cX4_worthHeld 9 = .ok (.istore 4, 2) := by decide +kernel
theorem dX4_worthHeld_11 : decode cX4_worthHeld 11 = .ok (.iconst 0, 1) := by decide +kernel
theorem dX4_worthHeld_12 : decode cX4_worthHeld 12 = .ok (.istore 5, 2) := by decide +kernel
theorem dX4_worthHeld_14 : decode cX4_worthHeld 14 = .ok (.iload 5, 2) := by decide +kernel
theorem dX4_worthHeld_16 : decode cX4_worthHeld 16 = .ok (.iload 4, 2) := by decide +kernel
theorem dX4_worthHeld_18 : decode cX4_worthHeld 18 = .ok (.if_icmp .ge 48, 3) := by decide +kernel
theorem dX4_worthHeld_21 : decode cX4_worthHeld 21 = .ok (.aload_n 3, 1) := by decide +kernel
theorem dX4_worthHeld_22 : decode cX4_worthHeld 22 = .ok (.iload 5, 2) := by decide +kernel
theorem dX4_worthHeld_24 : decode cX4_worthHeld 24 = .ok (.aaload, 1) := by decide +kernel
theorem dX4_worthHeld_25 : decode cX4_worthHeld 25 = .ok (.astore 6, 2) := by decide +kernel
theorem dX4_worthHeld_27 : decode cX4_worthHeld 27 = .ok (.aload 6, 2) := by decide +kernel
theorem dX4_worthHeld_29 : decode cX4_worthHeld 29 = .ok (.ifnull 31, 3) := by decide +kernel
theorem dX4_worthHeld_32 : decode cX4_worthHeld 32 = .ok (.lload_n 1, 1) := by decide +kernel
theorem dX4_worthHeld_33 : decode cX4_worthHeld 33 = .ok (.aload 6, 2) := by decide +kernel
theorem dX4_worthHeld_35 : decode cX4_worthHeld 35 = .ok (.getfield 244, 3) := by decide +kernel
theorem dX4_worthHeld_38 : decode cX4_worthHeld 38 = .ok (.i2l, 1) := by decide +kernel
theorem dX4_worthHeld_39 : decode cX4_worthHeld 39 = .ok (.aload 6, 2) := by decide +kernel
theorem dX4_worthHeld_41 : decode cX4_worthHeld 41 = .ok (.aload_n 0, 1) := by decide +kernel
theorem dX4_worthHeld_42 : decode cX4_worthHeld 42 = .ok (.getfield 27, 3) := by decide +kernel
theorem dX4_worthHeld_45 : decode cX4_worthHeld 45 = .ok (.aload 6, 2) := by decide +kernel
theorem dX4_worthHeld_47 : decode cX4_worthHeld 47 = .ok (.getfield 212, 3) := by decide +kernel
theorem dX4_worthHeld_50 : decode cX4_worthHeld 50 = .ok (.aload_n 0, 1) := by decide +kernel
theorem dX4_worthHeld_51 : decode cX4_worthHeld 51 = .ok (.getfield 37, 3) := by decide +kernel
theorem dX4_worthHeld_54 : decode cX4_worthHeld 54 = .ok (.invokevirtual 215, 3) := by decide +kernel
theorem dX4_worthHeld_57 : decode cX4_worthHeld 57 = .ok (.lmul, 1) := by decide +kernel
theorem dX4_worthHeld_58 : decode cX4_worthHeld 58 = .ok (.ladd, 1) := by decide +kernel
theorem dX4_worthHeld_59 : decode cX4_worthHeld 59 = .ok (.lstore_n 1, 1) := by decide +kernel
theorem dX4_worthHeld_60 : decode cX4_worthHeld 60 = .ok (.iinc 5 1, 3) := by decide +kernel
theorem dX4_worthHeld_63 : decode cX4_worthHeld 63 = .ok (.goto (-49), 3) := by decide +kernel
theorem dX4_worthHeld_66 : decode cX4_worthHeld 66 = .ok (.lload_n 1, 1) := by decide +kernel
theorem dX4_worthHeld_67 : decode cX4_worthHeld 67 = .ok (.lreturn, 1) := by decide +kernel
