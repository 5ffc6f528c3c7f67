set_option maxRecDepth 20000 in
theorem ggX5_init_X5_number : GoodIn wsX5_init wsX5_number := goodIn_r _ [18, 19, 20, 17, 21] (by decide +kernel) (by decide +kernel)
set_option maxRecDepth 20000 in
theorem gX5_init_X5_number : GoodIn wsX5_init (va_wsS RX5 8 yX5_number wsX5_number) := goodIn_app (goodIn_of _ (by decide +kernel)) ggX5_init_X5_number
theorem dX5_init_0 : decode cX5_init 0 = .ok (.aload_n 0, 1) := by decide +kernel
theorem dX5_init_1 : decode cX5_init 1 = .ok (.invokespecial 1, 3) := by decide +kernel
theorem dX5_init_4 : decode cX5_init 4 = .ok (.aload_n 0, 1) := by decide +kernel
theorem dX5_init_5 : decode cX5_init 5 = .ok (.ldc 7, 2) := by decide +kernel
theorem dX5_init_7 : decode cX5_init 7 = .ok (.invokestatic 8, 3) := by decide +kernel
theorem dX5_init_10 : decode cX5_init 10 = .ok (.putfield 14, 3) := by decide +kernel
theorem dX5_init_13 : decode cX5_init 13 = .ok (.aload_n 0, 1) := by decide +kernel
theorem dX5_init_14 : decode cX5_init 14 = .ok (.ldc2_w 18, 3) := by decide +kernel
theorem dX5_init_17 : decode cX5_init 17 = .ok (.putfield 20, 3) := by decide +kernel
theorem dX5_init_20 : decode cX5_init 20 = .ok (.aload_n 0, 1) := by decide +kernel
theorem dX5_init_21 : decode cX5_init 21 = .ok (.sipush 300, 3) := by decide +kernel
theorem dX5_init_24 : decode cX5_init 24 = .ok (.putfield 24, 3) := by decide +kernel
theorem dX5_init_27 : decode cX5_init 27 = .ok (.aload_n 0, 1) := by decide +kernel
theorem dX5_init_28 : decode cX5_init 28 = .ok (.bipush 30, 2) := by decide +kernel
theorem dX5_init_30 : decode cX5_init 30 = .ok (.newarray .int, 2) := by decide +kernel
theorem dX5_init_32 : decode cX5_init 32 = .ok (.putfield 27, 3) := by decide +kernel
theorem dX5_init_35 : decode cX5_init 35 = .ok (.aload_n 0, 1) := by decide +kernel
theorem dX5_init_36 : decode cX5_init 36 = .ok (.sipush 140, 3) := by decide +kernel
theorem dX5_init_39 : decode cX5_init 39 = .ok (.newarray .int, 2) := by decide +kernel
theorem dX5_init_41 : decode cX5_init 41 = .ok (.putfield 31, 3) := by decide +kernel
theorem dX5_init_44 : decode cX5_init 44 = .ok (.aload_n 0, 1) := by decide +kernel
theorem dX5_init_45 : decode cX5_init 45 = .ok (.sipush 1210, 3) := by decide +kernel
theorem dX5_init_48 : decode cX5_init 48 = .ok (.newarray .int, 2) := by decide +kernel
theorem dX5_init_50 : decode cX5_init 50 = .ok (.putfield 34, 3) := by decide +kernel
theorem dX5_init_53 : decode cX5_init 53 = .ok (.aload_n 0, 1) := by decide +kernel
theorem dX5_init_54 : decode cX5_init 54 = .ok (.iconst 4, 1) := by decide +kernel
theorem dX5_init_55 : decode cX5_init 55 = .ok (.newarray .long, 2) := by decide +kernel
theorem dX5_init_57 : decode cX5_init 57 = .ok (.putfield 37, 3) := by decide +kernel
theorem dX5_init_60 : decode cX5_init 60 = .ok (.return_, 1) := by decide +kernel
theorem dX5_thrown_0 : decode cX5_thrown 0 = .ok (.aload_n 0, 1) := by decide +kernel
theorem dX5_thrown_1 : decode cX5_thrown 1 = .ok (.getfield 41, 3) := by decide +kernel
theorem dX5_thrown_4 : decode cX5_thrown 4 = .ok (.ireturn, 1) := by decide +kernel
theorem dX5_no_0 : decode cX5_no 0 = .ok (.aload_n 0, 1) := by decide +kernel
theorem dX5_no_1 : decode cX5_no 1 = .ok (.iload_n 1, 1) := by decide +kernel
theorem dX5_no_2 : decode cX5_no 2 = .ok (.putfield 41, 3) := by decide +kernel
theorem dX5_no_5 : decode cX5_no 5 = .ok (.iconst 0, 1) := by decide +kernel
theorem dX5_no_6 : decode cX5_no 6 = .ok (.ireturn, 1) := by decide +kernel
theorem dX5_isIn_0 : decode cX5_isIn 0 = .ok (.iload_n 0, 1) := by decide +kernel
theorem dX5_isIn_1 : decode cX5_isIn 1 = .ok (.iload_n 1, 1) := by decide +kernel
theorem dX5_isIn_2 : decode cX5_isIn 2 = .ok (.if_icmp .lt 12, 3) := by decide +kernel
theorem dX5_isIn_5 : decode cX5_isIn 5 = .ok (.iload_n 0, 1) := by decide +kernel
theorem dX5_isIn_6 : decode cX5_isIn 6 = .ok (.iload_n 2, 1) := by decide +kernel
theorem dX5_isIn_7 : decode cX5_isIn 7 = .ok (.if_icmp .gt 7, 3) := by decide +kernel
theorem dX5_isIn_10 : decode cX5_isIn 10 = .ok (.iconst 1, 1) := by decide +kernel
theorem dX5_isIn_11 : decode cX5_isIn 11 = .ok (.goto 4, 3) := by decide +kernel
theorem dX5_isIn_14 : decode cX5_isIn 14 = .ok (.iconst 0, 1) := by decide +kernel
theorem dX5_isIn_15 : decode cX5_isIn 15 = .ok (.ireturn, 1) := by decide +kernel
theorem dX5_length_0 : decode cX5_length 0 = .ok (.iload_n 1, 1) := by decide +kernel
theorem dX5_length_1 : decode cX5_length 1 = .ok (.iconst 2, 1) := by decide +kernel
theorem dX5_length_2 : decode cX5_length 2 = .ok (.if_icmp .ne 17, 3) := by decide +kernel
theorem dX5_length_5 : decode cX5_length 5 = .ok (.iload_n 0, 1) := by decide +kernel
theorem dX5_length_6 : decode cX5_length 6 = .ok (.iconst 4, 1) := by decide +kernel
theorem dX5_length_7 : decode cX5_length 7 = .ok (.irem, 1) := by decide +kernel
theorem dX5_length_8 : decode cX5_length 8 = .ok (.ifCond .ne 8, 3) := by decide +kernel
theorem dX5_length_11 : decode cX5_length 11 = .ok (.bipush 29, 2) := by decide +kernel
theorem dX5_length_13 : decode cX5_length 13 = .ok (.goto 5, 3) := by decide +kernel
theorem dX5_length_16 : decode cX5_length 16 = .ok (.bipush 28, 2) := by decide +kernel
theorem dX5_length_18 : decode cX5_length 18 = .ok (.ireturn, 1) := by decide +kernel
theorem dX5_length_19 : decode cX5_length 19 = .ok (.iload_n 1, 1) := by decide +kernel
theorem dX5_length_20 : decode cX5_length 20 = .ok (.iconst 4, 1) := by decide +kernel
theorem dX5_length_21 : decode cX5_length 21 = .ok (.if_icmp .eq 21, 3) := by decide +kernel
theorem dX5_length_24 : decode cX5_length 24 = .ok (.iload_n 1, 1) := by decide +kernel
theorem dX5_length_25 : decode cX5_length 25 = .ok (.bipush 6, 2) := by decide +kernel
theorem dX5_length_27 : decode cX5_length 27 = .ok (.if_icmp .eq 15, 3) := by decide +kernel
theorem dX5_length_30 : decode cX5_length 30 = .ok (.iload_n 1, 1) := by decide +kernel
theorem dX5_length_31 : decode cX5_length 31 = .ok (.bipush 9, 2) := by decide +kernel
theorem dX5_length_33 : decode cX5_length 33 = .ok (.if_icmp .eq 9, 3) := by decide +kernel
theorem dX5_length_36 : decode cX5_length 36 = .ok (.iload_n 1, 1) := by decide +kernel
theorem dX5_length_37 : decode cX5_length 37 = .ok (.bipush 11, 2) := by decide +kernel
theorem dX5_length_39 : decode cX5_length 39 = .ok (.if_icmp .ne 8, 3) := by decide +kernel
theorem dX5_length_42 : decode cX5_length 42 = .ok (.bipush 30, 2) := by decide +kernel
theorem dX5_length_44 : decode cX5_length 44 = .ok (.goto 5, 3) := by decide +kernel
theorem dX5_length_47 : decode cX5_length 47 = .ok (.bipush 31, 2) := by decide +kernel
theorem dX5_length_49 : decode cX5_length 49 = .ok (.ireturn, 1) := by decide +kernel
set_option maxRecDepth 20000 in
theorem ggX5_isDate_X5_isIn : GoodIn wsX5_isDate wsX5_isIn := goodIn_r _ [6] (by decide +kernel) (by decide +kernel)
set_option maxRecDepth 20000 in
theorem gX5_isDate_X5_isIn : GoodIn wsX5_isDate (va_wsS RX5 46 yX5_isIn wsX5_isIn) := goodIn_app (goodIn_of _ (by decide +kernel)) ggX5_isDate_X5_isIn
set_option maxRecDepth 20000 in
theorem ggX5_isDate_X5_length : GoodIn wsX5_isDate wsX5_length := goodIn_r _ [9] (by decide +kernel) (by decide +kernel)
set_option maxRecDepth 20000 in
theorem gX5_isDate_X5_length : GoodIn wsX5_isDate (va_wsS RX5 50 yX5_length wsX5_length) := goodIn_app (goodIn_of _ (by decide +kernel)) ggX5_isDate_X5_length
theorem dX5_isDate_0 : decode cX5_isDate 0 = .ok (.iload_n 0, 1) := by decide +kernel
theorem dX5_isDate_1 : decode cX5_isDate 1 = .ok (.bipush 100, 2) := by decide +kernel
theorem dX5_isDate_3 : decode cX5_isDate 3 = .ok (.idiv, 1) := by decide +kernel
theorem dX5_isDate_4 : decode cX5_isDate 4 = .ok (.bipush 100, 2) := by decide +kernel
theorem dX5_isDate_6 : decode cX5_isDate 6 = .ok (.irem, 1) := by decide +kernel
theorem dX5_isDate_7 : decode cX5_isDate 7 = .ok (.istore_n 1, 1) := by decide +kernel
theorem dX5_isDate_8 : decode cX5_isDate 8 = .ok (.iload_n 0, 1) := by decide +kernel
theorem dX5_isDate_9 : decode cX5_isDate 9 = .ok (.ldc 44, 2) := by decide +kernel
theorem dX5_isDate_11 : decode cX5_isDate 11 = .ok (.ldc 45, 2) := by decide +kernel
theorem dX5_isDate_13 : decode cX5_isDate 13 = .ok (.invokestatic 46, 3) := by decide +kernel
theorem dX5_isDate_16 : decode cX5_isDate 16 = .ok (.ifCond .eq 37, 3) := by decide +kernel
theorem dX5_isDate_19 : decode cX5_isDate 19 = .ok (.iload_n 1, 1) := by decide +kernel
theorem dX5_isDate_20 : decode cX5_isDate 20 = .ok (.iconst 1, 1) := by decide +kernel
theorem dX5_isDate_21 : decode cX5_isDate 21 = .ok (.bipush 12, 2) := by decide +kernel
theorem dX5_isDate_23 : decode cX5_isDate 23 = .ok (.invokestatic 46, 3) := by decide +kernel
theorem dX5_isDate_26 : decode cX5_isDate 26 = .ok (.ifCond .eq 27, 3) := by decide +kernel
theorem dX5_isDate_29 : decode cX5_isDate 29 = .ok (.iload_n 0, 1) := by decide +kernel
theorem dX5_isDate_30 : decode cX5_isDate 30 = .ok (.bipush 100, 2) := by decide +kernel
theorem dX5_isDate_32 : decode cX5_isDate 32 = .ok (.irem, 1) := by decide +kernel
theorem dX5_isDate_33 : decode cX5_isDate 33 = .ok (.iconst 1, 1) := by decide +kernel
theorem dX5_isDate_34 : decode cX5_isDate 34 = .ok (.iload_n 0, 1) := by decide +kernel
theorem dX5_isDate_35 : decode cX5_isDate 35 = .ok (.sipush 10000, 3) := by decide +kernel
theorem dX5_isDate_38 : decode cX5_isDate 38 = .ok (.idiv, 1) := by decide +kernel
theorem dX5_isDate_39 : decode cX5_isDate 39 = .ok (.iload_n 1, 1) := by decide +kernel
theorem dX5_isDate_40 : decode cX5_isDate 40 = .ok (.invokestatic 50, 3) := by decide +kernel
theorem dX5_isDate_43 : decode cX5_isDate 43 = .ok (.invokestatic 46, 3) := by decide +kernel
theorem dX5_isDate_46 : decode cX5_isDate 46 = .ok (.ifCond .eq 7, 3) := by decide +kernel
theorem dX5_isDate_49 : decode cX5_isDate 49 = .ok (.iconst 1, 1) := by decide +kernel
theorem dX5_isDate_50 : decode cX5_isDate 50 = .ok (.goto 4, 3) := by decide +kernel
theorem dX5_isDate_53 : decode cX5_isDate 53 = .ok (.iconst 0, 1) := by decide +kernel
theorem dX5_isDate_54 : decode cX5_isDate 54 = .ok (.ireturn, 1) := by decide +kernel
set_option maxRecDepth 20000 in
theorem ggX5_number_X5_length : GoodIn wsX5_number wsX5_length := goodIn_r _ [4] (by decide +kernel) (by decide +kernel)
set_option maxRecDepth 20000 in
theorem gX5_number_X5_length : GoodIn wsX5_number (va_wsS RX5 50 yX5_length wsX5_length) := goodIn_app (goodIn_of _ (by decide +kernel)) ggX5_number_X5_length
theorem dX5_number_0 : decode cX5_number 0 = .ok (.iload_n 0, 1) := by decide +kernel
theorem dX5_number_1 : decode cX5_number 1 = .ok (.sipush 10000, 3) := by decide +kernel
theorem dX5_number_4 : decode cX5_number 4 = .ok (.idiv, 1) := by decide +kernel
theorem dX5_number_5 : decode cX5_number 5 = .ok (.sipush 2016, 3) := by decide +kernel
theorem dX5_number_8 : decode cX5_number 8 = .ok (.isub, 1) := by decide +kernel
theorem dX5_number_9 : decode cX5_number 9 = .ok (.istore_n 1, 1) := by decide +kernel
theorem dX5_number_10 : decode cX5_number 10 = .ok (.sipush 365, 3) := by decide +kernel
theorem dX5_number_13 : decode cX5_number 13 = .ok (.iload_n 1, 1) := by decide +kernel
theorem dX5_number_14 : decode cX5_number 14 = .ok (.imul, 1) := by decide +kernel
theorem dX5_number_15 : decode cX5_number 15 = .ok (.iload_n 1, 1) := by decide +kernel
theorem dX5_number_16 : decode cX5_number 16 = .ok (.iconst 3, 1) := by decide +kernel
theorem dX5_number_17 : decode cX5_number 17 = .ok (.iadd, 1) := by decide +kernel
theorem dX5_number_18 : decode cX5_number 18 = .ok (.iconst 4, 1) := by decide +kernel
theorem dX5_number_19 : decode cX5_number 19 = .ok (.idiv, 1) := by decide +kernel
theorem dX5_number_20 : decode cX5_number 20 = .ok (.iadd, 1) := by decide +kernel
theorem dX5_number_21 : decode cX5_number 21 = .ok (.iload_n 0, 1) := by decide +kernel
theorem dX5_number_22 : decode cX5_number 22 = .ok (.bipush 100, 2) := by decide +kernel
theorem dX5_number_24 : decode cX5_number 24 = .ok (.irem, 1) := by decide +kernel
theorem dX5_number_25 : decode cX5_number 25 = .ok (.iadd, 1) := by decide +kernel
theorem dX5_number_26 : decode cX5_number 26 = .ok (.iconst 1, 1) := by decide +kernel
theorem dX5_number_27 : decode cX5_number 27 = .ok (.isub, 1) := by decide +kernel
theorem dX5_number_28 : decode cX5_number 28 = .ok (.istore_n 2, 1) := by decide +kernel
theorem dX5_number_29 : decode cX5_number 29 = .ok (.iconst 1, 1) := by decide +kernel
theorem dX5_number_30 : decode cX5_number 30 = .ok (.istore_n 3, 1) := by decide +kernel
theorem dX5_number_31 : decode cX5_number 31 = .ok (.iload_n 3, 1) := by decide +kernel
theorem dX5_number_32 : decode cX5_number 32 = .ok (.iload_n 0, 1) := by decide +kernel
theorem dX5_number_33 : decode cX5_number 33 = .ok (.bipush 100, 2) := by decide +kernel
theorem dX5_number_35 : decode cX5_number 35 = .ok (.idiv, 1) := by decide +kernel
theorem dX5_number_36 : decode cX5_number 36 = .ok (.bipush 100, 2) := by decide +kernel
theorem dX5_number_38 : decode cX5_number 38 = .ok (.irem, 1) := by decide +kernel
theorem dX5_number_39 : decode cX5_number 39 = .ok (.if_icmp .ge 21, 3) := by decide +kernel
theorem dX5_number_42 : decode cX5_number 42 = .ok (.iload_n 2, 1) := by decide +kernel
theorem dX5_number_43 : decode cX5_number 43 = .ok (.iload_n 1, 1) := by decide +kernel
theorem dX5_number_44 : decode cX5_number 44 = .ok (.sipush 2016, 3) := by decide +kernel
theorem dX5_number_47 : decode cX5_number 47 = .ok (.iadd, 1) := by decide +kernel
theorem dX5_number_48 : decode cX5_number 48 = .ok (.iload_n 3, 1) := by decide +kernel
theorem dX5_number_49 : decode cX5_number 49 = .ok (.invokestatic 50, 3) := by decide +kernel
theorem dX5_number_52 : decode cX5_number 52 = .ok (.iadd, 1) := by decide +kernel
theorem dX5_number_53 : decode cX5_number 53 = .ok (.istore_n 2, 1) := by decide +kernel
theorem dX5_number_54 : decode cX5_number 54 = .ok (.iinc 3 1, 3) := by decide +kernel
theorem dX5_number_57 : decode cX5_number 57 = .ok (.goto (-26), 3) := by decide +kernel
theorem dX5_number_60 : decode cX5_number 60 = .ok (.iload_n 2, 1) := by decide +kernel
theorem dX5_number_61 : decode cX5_number 61 = .ok (.ireturn, 1) := by decide +kernel
set_option maxRecDepth 20000 in
theorem ggX5_date_X5_length : GoodIn wsX5_date wsX5_length := goodIn_r _ [4] (by decide +kernel) (by decide +kernel)
set_option maxRecDepth 20000 in
theorem gX5_date_X5_length : GoodIn wsX5_date (va_wsS RX5 50 yX5_length wsX5_length) := goodIn_app (goodIn_of _ (by decide +kernel)) ggX5_date_X5_length
theorem dX5_date_0 : decode cX5_date 0 = .ok (.iload_n 0, 1) := by decide +kernel
theorem dX5_date_1 : decode cX5_date 1 = .ok (.sipush 366, 3) := by decide +kernel
theorem dX5_date_4 : decode cX5_date 4 = .ok (.idiv, 1) := by decide +kernel
theorem dX5_date_5 : decode cX5_date 5 = .ok (.istore_n 1, 1) := by decide +kernel
theorem dX5_date_6 : decode cX5_date 6 = .ok (.sipush 365, 3) := by decide +kernel
theorem dX5_date_9 : decode cX5_date 9 = .ok (.iload_n 1, 1) := by decide +kernel
theorem dX5_date_10 : decode cX5_date 10 = .ok (.iconst 1, 1) := by decide +kernel
theorem dX5_date_11 : decode cX5_date 11 = .ok (.iadd, 1) := by decide +kernel
theorem dX5_date_12 : decode cX5_date 12 = .ok (.imul, 1) := by decide +kernel
theorem dX5_date_13 : decode cX5_date 13 = .ok (.iload_n 1, 1) := by decide +kernel
theorem dX5_date_14 : decode cX5_date 14 = .ok (.iconst 4, 1) := by decide +kernel
theorem dX5_date_15 : decode cX5_date 15 = .ok (.iadd, 1) := by decide +kernel
theorem dX5_date_16 : decode cX5_date 16 = .ok (.iconst 4, 1) := by decide +kernel
theorem dX5_date_17 : decode cX5_date 17 = .ok (.idiv, 1) := by decide +kernel
theorem dX5_date_18 : decode cX5_date 18 = .ok (.iadd, 1) := by decide +kernel
theorem dX5_date_19 : decode cX5_date 19 = .ok (.iload_n 0, 1) := by decide +kernel
theorem dX5_date_20 : decode cX5_date 20 = .ok (.if_icmp .gt 9, 3) := by decide +kernel
theorem dX5_date_23 : decode cX5_date 23 = .ok (.iinc 1 1, 3) := by decide +kernel
theorem dX5_date_26 : decode cX5_date 26 = .ok (.goto (-20), 3) := by decide +kernel
theorem dX5_date_29 : decode cX5_date 29 = .ok (.iload_n 0, 1) := by decide +kernel
theorem dX5_date_30 : decode cX5_date 30 = .ok (.sipush 365, 3) := by decide +kernel
theorem dX5_date_33 : decode cX5_date 33 = .ok (.iload_n 1, 1) := by decide +kernel
theorem dX5_date_34 : decode cX5_date 34 = .ok (.imul, 1) := by decide +kernel
theorem dX5_date_35 : decode cX5_date 35 = .ok (.isub, 1) := by decide +kernel
theorem dX5_date_36 : decode cX5_date 36 = .ok (.iload_n 1, 1) := by decide +kernel
theorem dX5_date_37 : decode cX5_date 37 = .ok (.iconst 3, 1) := by decide +kernel
theorem dX5_date_38 : decode cX5_date 38 = .ok (.iadd, 1) := by decide +kernel
theorem dX5_date_39 : decode cX5_date 39 = .ok (.iconst 4, 1) := by decide +kernel
theorem dX5_date_40 : decode cX5_date 40 = .ok (.idiv, 1) := by decide +kernel
theorem dX5_date_41 : decode cX5_date 41 = .ok (.isub, 1) := by decide +kernel
theorem dX5_date_42 : decode cX5_date 42 = .ok (.istore_n 2, 1) := by decide +kernel
theorem dX5_date_43 : decode cX5_date 43 = .ok (.iconst 1, 1) := by decide +kernel
theorem dX5_date_44 : decode cX5_date 44 = .ok (.istore_n 3, 1) := by decide +kernel
theorem dX5_date_45 : decode cX5_date 45 = .ok (.iload_n 2, 1) := by decide +kernel
theorem dX5_date_46 : decode cX5_date 46 = .ok (.iload_n 1, 1) := by decide +kernel
theorem dX5_date_47 : decode cX5_date 47 = .ok (.sipush 2016, 3) := by decide +kernel
theorem dX5_date_50 : decode cX5_date 50 = .ok (.iadd, 1) := by decide +kernel
theorem dX5_date_51 : decode cX5_date 51 = .ok (.iload_n 3, 1) := by decide +kernel
theorem dX5_date_52 : decode cX5_date 52 = .ok (.invokestatic 50, 3) := by decide +kernel
theorem dX5_date_55 : decode cX5_date 55 = .ok (.if_icmp .lt 21, 3) := by decide +kernel
theorem dX5_date_58 : decode cX5_date 58 = .ok (.iload_n 2, 1) := by decide +kernel
theorem dX5_date_59 : decode cX5_date 59 = .ok (.iload_n 1, 1) := by decide +kernel
theorem dX5_date_60 : decode cX5_date 60 = .ok (.sipush 2016, 3) := by decide +kernel
theorem dX5_date_63 : decode cX5_date 63 = .ok (.iadd, 1) := by decide +kernel
theorem dX5_date_64 : decode cX5_date 64 = .ok (.iload_n 3, 1) := by decide +kernel
theorem dX5_date_65 : decode cX5_date 65 = .ok (.invokestatic 50, 3) := by decide +kernel
theorem dX5_date_68 : decode cX5_date 68 = .ok (.isub, 1) := by decide +kernel
theorem dX5_date_69 : decode cX5_date 69 = .ok (.istore_n 2, 1) := by decide +kernel
theorem dX5_date_70 : decode cX5_date 70 = .ok (.iinc 3 1, 3) := by decide +kernel
theorem dX5_date_73 : decode cX5_date 73 = .ok (.goto (-28), 3) := by decide +kernel
theorem dX5_date_76 : decode cX5_date 76 = .ok (.sipush 10000, 3) := by decide +kernel
theorem dX5_date_79 : decode cX5_date 79 = .ok (.iload_n 1, 1) := by decide +kernel
theorem dX5_date_80 : decode cX5_date 80 = .ok (.sipush 2016, 3) := by decide +kernel
theorem dX5_date_83 : decode cX5_date 83 = .ok (.iadd, 1) := by decide +kernel
theorem dX5_date_84 : decode cX5_date 84 = .ok (.imul, 1) := by decide +kernel
theorem dX5_date_85 : decode cX5_date 85 = .ok (.bipush 100, 2) := by decide +kernel
theorem dX5_date_87 : decode cX5_date 87 = .ok (.iload_n 3, 1) := by decide +kernel
theorem dX5_date_88 : decode cX5_date 88 = .ok (.imul, 1) := by decide +kernel
theorem dX5_date_89 : decode cX5_date 89 = .ok (.iadd, 1) := by decide +kernel
theorem dX5_date_90 : decode cX5_date 90 = .ok (.iload_n 2, 1) := by decide +kernel
theorem dX5_date_91 : decode cX5_date 91 = .ok (.iadd, 1) := by decide +kernel
theorem dX5_date_92 : decode cX5_date 92 = .ok (.iconst 1, 1) := by decide +kernel
theorem dX5_date_93 : decode cX5_date 93 = .ok (.iadd, 1) := by decide +kernel
theorem dX5_date_94 : decode cX5_date 94 = .ok (.ireturn, 1) := by decide +kernel
theorem dX5_weekday_0 : decode cX5_weekday 0 = .ok (.iload_n 0, 1) := by decide +kernel
theorem dX5_weekday_1 : decode cX5_weekday 1 = .ok (.iload_n 1, 1) := by decide +kernel
theorem dX5_weekday_2 : decode cX5_weekday 2 = .ok (.iadd, 1) := by decide +kernel
theorem dX5_weekday_3 : decode cX5_weekday 3 = .ok (.bipush 7, 2) := by decide +kernel
theorem dX5_weekday_5 : decode cX5_weekday 5 = .ok (.irem, 1) := by decide +kernel
theorem dX5_weekday_6 : decode cX5_weekday 6 = .ok (.ireturn, 1) := by decide +kernel
set_option maxRecDepth 20000 in
theorem ggX5_isWorking_X5_weekday : GoodIn wsX5_isWorking wsX5_weekday := goodIn_r _ [6] (by decide +kernel) (by decide +kernel)
set_option maxRecDepth 20000 in
theorem gX5_isWorking_X5_weekday : GoodIn wsX5_isWorking (va_wsS RX5 54 yX5_weekday wsX5_weekday) := goodIn_app (goodIn_of _ (by decide +kernel)) ggX5_isWorking_X5_weekday
theorem dX5_isWorking_0 : decode cX5_isWorking 0 = .ok (.iload_n 1, 1) := by decide +kernel
theorem dX5_isWorking_1 : decode cX5_isWorking 1 = .ok (.iconst 4, 1) := by decide +kernel
theorem dX5_isWorking_2 : decode cX5_isWorking 2 = .ok (.invokestatic 54, 3) := by decide +kernel
theorem dX5_isWorking_5 : decode cX5_isWorking 5 = .ok (.iconst 5, 1) := by decide +kernel
theorem dX5_isWorking_6 : decode cX5_isWorking 6 = .ok (.if_icmp .ge 7, 3) := by decide +kernel
theorem dX5_isWorking_9 : decode cX5_isWorking 9 = .ok (.iconst 1, 1) := by decide +kernel
theorem dX5_isWorking_10 : decode cX5_isWorking 10 = .ok (.goto 4, 3) := by decide +kernel
theorem dX5_isWorking_13 : decode cX5_isWorking 13 = .ok (.iconst 0, 1) := by decide +kernel
theorem dX5_isWorking_14 : decode cX5_isWorking 14 = .ok (.istore_n 2, 1) := by decide +kernel
theorem dX5_isWorking_15 : decode cX5_isWorking 15 = .ok (.iconst 0, 1) := by decide +kernel
theorem dX5_isWorking_16 : decode cX5_isWorking 16 = .ok (.istore_n 3, 1) := by decide +kernel
theorem dX5_isWorking_17 : decode cX5_isWorking 17 = .ok (.iload_n 3, 1) := by decide +kernel
theorem dX5_isWorking_18 : decode cX5_isWorking 18 = .ok (.aload_n 0, 1) := by decide +kernel
theorem dX5_isWorking_19 : decode cX5_isWorking 19 = .ok (.getfield 57, 3) := by decide +kernel
theorem dX5_isWorking_22 : decode cX5_isWorking 22 = .ok (.if_icmp .ge 29, 3) := by decide +kernel
theorem dX5_isWorking_25 : decode cX5_isWorking 25 = .ok (.iload_n 2, 1) := by decide +kernel
theorem dX5_isWorking_26 : decode cX5_isWorking 26 = .ok (.ifCond .eq 25, 3) := by decide +kernel
theorem dX5_isWorking_29 : decode cX5_isWorking 29 = .ok (.aload_n 0, 1) := by decide +kernel
theorem dX5_isWorking_30 : decode cX5_isWorking 30 = .ok (.getfield 27, 3) := by decide +kernel
theorem dX5_isWorking_33 : decode cX5_isWorking 33 = .ok (.iload_n 3, 1) := by decide +kernel
theorem dX5_isWorking_34 : decode cX5_isWorking 34 = .ok (.iaload, 1) := by decide +kernel
theorem dX5_isWorking_35 : decode cX5_isWorking 35 = .ok (.iload_n 1, 1) := by decide +kernel
theorem dX5_isWorking_36 : decode cX5_isWorking 36 = .ok (.if_icmp .eq 7, 3) := by decide +kernel
theorem dX5_isWorking_39 : decode cX5_isWorking 39 = .ok (.iconst 1, 1) := by decide +kernel
theorem dX5_isWorking_40 : decode cX5_isWorking 40 = .ok (.goto 4, 3) := by decide +kernel
theorem dX5_isWorking_43 : decode cX5_isWorking 43 = .ok (.iconst 0, 1) := by decide +kernel
theorem dX5_isWorking_44 : decode cX5_isWorking 44 = .ok (.istore_n 2, 1) := by decide +kernel
theorem dX5_isWorking_45 : decode cX5_isWorking 45 = .ok (.iinc 3 1, 3) := by decide +kernel
theorem dX5_isWorking_48 : decode cX5_isWorking 48 = .ok (.goto (-31), 3) := by decide +kernel
theorem dX5_isWorking_51 : decode cX5_isWorking 51 = .ok (.iload_n 2, 1) := by decide +kernel
theorem dX5_isWorking_52 : decode cX5_isWorking 52 = .ok (.ireturn, 1) := by decide +kernel
set_option maxRecDepth 20000 in
theorem ggX5_firstWorking_X5_isWorking : GoodIn wsX5_firstWorking wsX5_isWorking := goodIn_r _ [5, 6, 7, 8, 9, 4, 10, 11, 12, 13, 14, 15, 16, 17, 18, 19, 20] (by decide +kernel) (by decide +kernel)
set_option maxRecDepth 20000 in
theorem gX5_firstWorking_X5_isWorking : GoodIn wsX5_firstWorking (wsV RX5 60 RX5 yX5_isWorking wsX5_isWorking) := goodIn_app (goodIn_of _ (by decide +kernel)) ggX5_firstWorking_X5_isWorking
theorem dX5_firstWorking_0 : decode cX5_firstWorking 0 = .ok (.iload_n 1, 1) := by decide +kernel
theorem dX5_firstWorking_1 : decode cX5_firstWorking 1 = .ok (.istore_n 2, 1) := by decide +kernel
theorem dX5_firstWorking_2 : decode cX5_firstWorking 2 = .ok (.aload_n 0, 1) := by decide +kernel
theorem dX5_firstWorking_3 : decode cX5_firstWorking 3 = .ok (.iload_n 2, 1) := by decide +kernel
theorem dX5_firstWorking_4 : decode cX5_firstWorking 4 = .ok (.invokevirtual 60, 3) := by decide +kernel
theorem dX5_firstWorking_7 : decode cX5_firstWorking 7 = .ok (.ifCond .ne 9, 3) := by decide +kernel
theorem dX5_firstWorking_10 : decode cX5_firstWorking 10 = .ok (.iinc 2 1, 3) := by decide +kernel
theorem dX5_firstWorking_13 : decode cX5_firstWorking 13 = .ok (.goto (-11), 3) := by decide +kernel
theorem dX5_firstWorking_16 : decode cX5_firstWorking 16 = .ok (.iload_n 2, 1) := by decide +kernel
theorem dX5_firstWorking_17 : decode cX5_firstWorking 17 = .ok (.ireturn, 1) := by decide +kernel
set_option maxRecDepth 20000 in
theorem ggX5_later_X5_isDate : GoodIn wsX5_later wsX5_isDate := goodIn_r _ [6, 7, 2, 8, 9, 5, 10, 11, 12, 13] (by decide +kernel) (by decide +kernel)
set_option maxRecDepth 20000 in
theorem gX5_later_X5_isDate : GoodIn wsX5_later (va_wsS RX5 64 yX5_isDate wsX5_isDate) := goodIn_app (goodIn_of _ (by decide +kernel)) ggX5_later_X5_isDate
set_option maxRecDepth 20000 in
theorem ggX5_later_X5_isIn : GoodIn wsX5_later wsX5_isIn := goodIn_r _ [10] (by decide +kernel) (by decide +kernel)
set_option maxRecDepth 20000 in
theorem gX5_later_X5_isIn : GoodIn wsX5_later (va_wsS RX5 46 yX5_isIn wsX5_isIn) := goodIn_app (goodIn_of _ (by decide +kernel)) ggX5_later_X5_isIn
set_option maxRecDepth 20000 in
theorem ggX5_later_X5_no : GoodIn wsX5_later wsX5_no := goodIn_r _ [17, 1, 24, 25, 26, 27, 28, 29, 30, 31, 32, 33] (by decide +kernel) (by decide +kernel)
set_option maxRecDepth 20000 in
theorem gX5_later_X5_no : GoodIn wsX5_later (wsV RX5 67 RX5 yX5_no wsX5_no) := goodIn_app (goodIn_of _ (by decide +kernel)) ggX5_later_X5_no
set_option maxRecDepth 20000 in
theorem ggX5_later_X5_number : GoodIn wsX5_later wsX5_number := goodIn_r _ [20, 11, 12, 5, 13] (by decide +kernel) (by decide +kernel)
set_option maxRecDepth 20000 in
theorem gX5_later_X5_number : GoodIn wsX5_later (va_wsS RX5 8 yX5_number wsX5_number) := goodIn_app (goodIn_of _ (by decide +kernel)) ggX5_later_X5_number
set_option maxRecDepth 20000 in
theorem ggX5_later_X5_date : GoodIn wsX5_later wsX5_date := goodIn_r _ [23, 11, 12, 5, 13] (by decide +kernel) (by decide +kernel)
set_option maxRecDepth 20000 in
theorem gX5_later_X5_date : GoodIn wsX5_later (va_wsS RX5 70 yX5_date wsX5_date) := goodIn_app (goodIn_of _ (by decide +kernel)) ggX5_later_X5_date
theorem dX5_later_0 : decode cX5_later 0 = .ok (.aload_n 0, 1) := by decide +kernel
theorem dX5_later_1 : decode cX5_later 1 = .ok (.iconst 0, 1) := by decide +kernel
theorem dX5_later_2 : decode cX5_later 2 = .ok (.putfield 41, 3) := by decide +kernel
theorem dX5_later_5 : decode cX5_later 5 = .ok (.iload_n 1, 1) := by decide +kernel
theorem dX5_later_6 : decode cX5_later 6 = .ok (.invokestatic 64, 3) := by decide +kernel
theorem dX5_later_9 : decode cX5_later 9 = .ok (.ifCond .eq 16, 3) := by decide +kernel
theorem dX5_later_12 : decode cX5_later 12 = .ok (.iload_n 2, 1) := by decide +kernel
theorem dX5_later_13 : decode cX5_later 13 = .ok (.sipush (-1000), 3) := by decide +kernel
theorem dX5_later_16 : decode cX5_later 16 = .ok (.sipush 1000, 3) := by decide +kernel
theorem dX5_later_19 : decode cX5_later 19 = .ok (.invokestatic 46, 3) := by decide +kernel
theorem dX5_later_22 : decode cX5_later 22 = .ok (.ifCond .ne 9, 3) := by decide +kernel
theorem dX5_later_25 : decode cX5_later 25 = .ok (.aload_n 0, 1) := by decide +kernel
theorem dX5_later_26 : decode cX5_later 26 = .ok (.iconst 1, 1) := by decide +kernel
theorem dX5_later_27 : decode cX5_later 27 = .ok (.invokevirtual 67, 3) := by decide +kernel
theorem dX5_later_30 : decode cX5_later 30 = .ok (.ireturn, 1) := by decide +kernel
theorem dX5_later_31 : decode cX5_later 31 = .ok (.iload_n 1, 1) := by decide +kernel
theorem dX5_later_32 : decode cX5_later 32 = .ok (.invokestatic 8, 3) := by decide +kernel
theorem dX5_later_35 : decode cX5_later 35 = .ok (.iload_n 2, 1) := by decide +kernel
theorem dX5_later_36 : decode cX5_later 36 = .ok (.iadd, 1) := by decide +kernel
theorem dX5_later_37 : decode cX5_later 37 = .ok (.istore_n 3, 1) := by decide +kernel
theorem dX5_later_38 : decode cX5_later 38 = .ok (.iload_n 3, 1) := by decide +kernel
theorem dX5_later_39 : decode cX5_later 39 = .ok (.iconst 0, 1) := by decide +kernel
theorem dX5_later_40 : decode cX5_later 40 = .ok (.ldc 45, 2) := by decide +kernel
theorem dX5_later_42 : decode cX5_later 42 = .ok (.invokestatic 8, 3) := by decide +kernel
theorem dX5_later_45 : decode cX5_later 45 = .ok (.invokestatic 46, 3) := by decide +kernel
theorem dX5_later_48 : decode cX5_later 48 = .ok (.ifCond .eq 10, 3) := by decide +kernel
theorem dX5_later_51 : decode cX5_later 51 = .ok (.iload_n 3, 1) := by decide +kernel
theorem dX5_later_52 : decode cX5_later 52 = .ok (.invokestatic 70, 3) := by decide +kernel
theorem dX5_later_55 : decode cX5_later 55 = .ok (.goto 8, 3) := by decide +kernel
theorem dX5_later_58 : decode cX5_later 58 = .ok (.aload_n 0, 1) := by decide +kernel
theorem dX5_later_59 : decode cX5_later 59 = .ok (.iconst 1, 1) := by decide +kernel
theorem dX5_later_60 : decode cX5_later 60 = .ok (.invokevirtual 67, 3) := by decide +kernel
theorem dX5_later_63 : decode cX5_later 63 = .ok (.ireturn, 1) := by decide +kernel
set_option maxRecDepth 20000 in
theorem ggX5_weekday__X5_isDate : GoodIn wsX5_weekday_ wsX5_isDate := goodIn_r _ [5, 6, 7, 8, 9, 4, 10, 11, 12, 13] (by decide +kernel) (by decide +kernel)
set_option maxRecDepth 20000 in
theorem gX5_weekday__X5_isDate : GoodIn wsX5_weekday_ (va_wsS RX5 64 yX5_isDate wsX5_isDate) := goodIn_app (goodIn_of _ (by decide +kernel)) ggX5_weekday__X5_isDate
set_option maxRecDepth 20000 in
theorem ggX5_weekday__X5_number : GoodIn wsX5_weekday_ wsX5_number := goodIn_r _ [16, 11, 12, 4, 13] (by decide +kernel) (by decide +kernel)
set_option maxRecDepth 20000 in
theorem gX5_weekday__X5_number : GoodIn wsX5_weekday_ (va_wsS RX5 8 yX5_number wsX5_number) := goodIn_app (goodIn_of _ (by decide +kernel)) ggX5_weekday__X5_number
set_option maxRecDepth 20000 in
theorem ggX5_weekday__X5_weekday : GoodIn wsX5_weekday_ wsX5_weekday := goodIn_r _ [19] (by decide +kernel) (by decide +kernel)
set_option maxRecDepth 20000 in
theorem gX5_weekday__X5_weekday : GoodIn wsX5_weekday_ (va_wsS RX5 54 yX5_weekday wsX5_weekday) := goodIn_app (goodIn_of _ (by decide +kernel)) ggX5_weekday__X5_weekday
set_option maxRecDepth 20000 in
theorem ggX5_weekday__X5_no : GoodIn wsX5_weekday_ wsX5_no := goodIn_r _ [23, 1, 24, 25, 26, 27, 28, 29, 30, 31, 32, 33] (by decide +kernel) (by decide +kernel)
set_option maxRecDepth 20000 in
theorem gX5_weekday__X5_no : GoodIn wsX5_weekday_ (wsV RX5 67 RX5 yX5_no wsX5_no) := goodIn_app (goodIn_of _ (by decide +kernel)) ggX5_weekday__X5_no
theorem dX5_weekday__0 : decode cX5_weekday_ 0 = .ok (.aload_n 0, 1) := by decide +kernel
theorem dX5_weekday__1 : decode cX5_weekday_ 1 = .ok (.iconst 0, 1) := by decide +kernel
theorem dX5_weekday__2 : decode cX5_weekday_ 2 = .ok (.putfield 41, 3) := by decide +kernel
theorem dX5_weekday__5 : decode cX5_weekday_ 5 = .ok (.iload_n 1, 1) := by decide +kernel
theorem dX5_weekday__6 : decode cX5_weekday_ 6 = .ok (.invokestatic 64, 3) := by decide +kernel
theorem dX5_weekday__9 : decode cX5_weekday_ 9 = .ok (.ifCond .eq 14, 3) := by decide +kernel
theorem dX5_weekday__12 : decode cX5_weekday_ 12 = .ok (.iload_n 1, 1) := by decide +kernel
theorem dX5_weekday__13 : decode cX5_weekday_ 13 = .ok (.invokestatic 8, 3) := by decide +kernel
theorem dX5_weekday__16 : decode cX5_weekday_ 16 = .ok (.iconst 4, 1) := by decide +kernel
theorem dX5_weekday__17 : decode cX5_weekday_ 17 = .ok (.invokestatic 54, 3) := by decide +kernel
theorem dX5_weekday__20 : decode cX5_weekday_ 20 = .ok (.goto 8, 3) := by decide +kernel
theorem dX5_weekday__23 : decode cX5_weekday_ 23 = .ok (.aload_n 0, 1) := by decide +kernel
theorem dX5_weekday__24 : decode cX5_weekday_ 24 = .ok (.iconst 1, 1) := by decide +kernel
theorem dX5_weekday__25 : decode cX5_weekday_ 25 = .ok (.invokevirtual 67, 3) := by decide +kernel
theorem dX5_weekday__28 : decode cX5_weekday_ 28 = .ok (.ireturn, 1) := by decide +kernel
set_option maxRecDepth 20000 in
theorem ggX5_addHoliday_X5_isDate : GoodIn wsX5_addHoliday wsX5_isDate := goodIn_r _ [7, 8, 9, 10, 11, 6, 12, 13, 14, 15] (by decide +kernel) (by decide +kernel)
set_option maxRecDepth 20000 in
theorem gX5_addHoliday_X5_isDate : GoodIn wsX5_addHoliday (va_wsS RX5 64 yX5_isDate wsX5_isDate) := goodIn_app (goodIn_of _ (by decide +kernel)) ggX5_addHoliday_X5_isDate
set_option maxRecDepth 20000 in
theorem ggX5_addHoliday_X5_no : GoodIn wsX5_addHoliday wsX5_no := goodIn_r _ [19, 1, 23, 24, 25, 26, 27, 28, 29, 30, 31, 32] (by decide +kernel) (by decide +kernel)
set_option maxRecDepth 20000 in
theorem gX5_addHoliday_X5_no : GoodIn wsX5_addHoliday (wsV RX5 67 RX5 yX5_no wsX5_no) := goodIn_app (goodIn_of _ (by decide +kernel)) ggX5_addHoliday_X5_no
set_option maxRecDepth 20000 in
theorem ggX5_addHoliday_X5_number : GoodIn wsX5_addHoliday wsX5_number := goodIn_r _ [22, 13, 14, 6, 15] (by decide +kernel) (by decide +kernel)
set_option maxRecDepth 20000 in
theorem gX5_addHoliday_X5_number : GoodIn wsX5_addHoliday (va_wsS RX5 8 yX5_number wsX5_number) := goodIn_app (goodIn_of _ (by decide +kernel)) ggX5_addHoliday_X5_number
theorem dX5_addHoliday_0 : decode cX5_addHoliday 0 = .ok (.aload_n 0, 1) := by decide +kernel
theorem dX5_addHoliday_1 : decode cX5_addHoliday 1 = .ok (.iconst 0, 1) := by decide +kernel
theorem dX5_addHoliday_2 : decode cX5_addHoliday 2 = .ok (.putfield 41, 3) := by decide +kernel
theorem dX5_addHoliday_5 : decode cX5_addHoliday 5 = .ok (.iload_n 1, 1) := by decide +kernel
theorem dX5_addHoliday_6 : decode cX5_addHoliday 6 = .ok (.invokestatic 64, 3) := by decide +kernel
theorem dX5_addHoliday_9 : decode cX5_addHoliday 9 = .ok (.ifCond .ne 9, 3) := by decide +kernel
theorem dX5_addHoliday_12 : decode cX5_addHoliday 12 = .ok (.aload_n 0, 1) := by decide +kernel
theorem dX5_addHoliday_13 : decode cX5_addHoliday 13 = .ok (.iconst 1, 1) := by decide +kernel
theorem dX5_addHoliday_14 : decode cX5_addHoliday 14 = .ok (.invokevirtual 67, 3) := by decide +kernel
theorem dX5_addHoliday_17 : decode cX5_addHoliday 17 = .ok (.ireturn, 1) := by decide +kernel
theorem dX5_addHoliday_18 : decode cX5_addHoliday 18 = .ok (.iload_n 1, 1) := by decide +kernel
theorem dX5_addHoliday_19 : decode cX5_addHoliday 19 = .ok (.invokestatic 8, 3) := by decide +kernel
theorem dX5_addHoliday_22 : decode cX5_addHoliday 22 = .ok (.istore_n 2, 1) := by decide +kernel
theorem dX5_addHoliday_23 : decode cX5_addHoliday 23 = .ok (.iconst 0, 1) := by decide +kernel
theorem dX5_addHoliday_24 : decode cX5_addHoliday 24 = .ok (.istore_n 3, 1) := by decide +kernel
theorem dX5_addHoliday_25 : decode cX5_addHoliday 25 = .ok (.iload_n 3, 1) := by decide +kernel
theorem dX5_addHoliday_26 : decode cX5_addHoliday 26 = .ok (.aload_n 0, 1) := by decide +kernel
theorem dX5_addHoliday_27 : decode cX5_addHoliday 27 = .ok (.getfield 57, 3) := by decide +kernel
theorem dX5_addHoliday_30 : decode cX5_addHoliday 30 = .ok (.if_icmp .ge 24, 3) := by decide +kernel
theorem dX5_addHoliday_33 : decode cX5_addHoliday 33 = .ok (.aload_n 0, 1) := by decide +kernel
theorem dX5_addHoliday_34 : decode cX5_addHoliday 34 = .ok (.getfield 27, 3) := by decide +kernel
theorem dX5_addHoliday_37 : decode cX5_addHoliday 37 = .ok (.iload_n 3, 1) := by decide +kernel
theorem dX5_addHoliday_38 : decode cX5_addHoliday 38 = .ok (.iaload, 1) := by decide +kernel
theorem dX5_addHoliday_39 : decode cX5_addHoliday 39 = .ok (.iload_n 2, 1) := by decide +kernel
theorem dX5_addHoliday_40 : decode cX5_addHoliday 40 = .ok (.if_icmp .ne 8, 3) := by decide +kernel
theorem dX5_addHoliday_43 : decode cX5_addHoliday 43 = .ok (.aload_n 0, 1) := by decide +kernel
theorem dX5_addHoliday_44 : decode cX5_addHoliday 44 = .ok (.getfield 57, 3) := by decide +kernel
theorem dX5_addHoliday_47 : decode cX5_addHoliday 47 = .ok (.ireturn, 1) := by decide +kernel
theorem dX5_addHoliday_48 : decode cX5_addHoliday 48 = .ok (.iinc 3 1, 3) := by decide +kernel
theorem dX5_addHoliday_51 : decode cX5_addHoliday 51 = .ok (.goto (-26), 3) := by decide +kernel
theorem dX5_addHoliday_54 : decode cX5_addHoliday 54 = .ok (.aload_n 0, 1) := by decide +kernel
theorem dX5_addHoliday_55 : decode cX5_addHoliday 55 = .ok (.getfield 57, 3) := by decide +kernel
theorem dX5_addHoliday_58 : decode cX5_addHoliday 58 = .ok (.bipush 30, 2) := by decide +kernel
theorem dX5_addHoliday_60 : decode cX5_addHoliday 60 = .ok (.if_icmp .ne 9, 3) := by decide +kernel
theorem dX5_addHoliday_63 : decode cX5_addHoliday 63 = .ok (.aload_n 0, 1) := by decide +kernel
theorem dX5_addHoliday_64 : decode cX5_addHoliday 64 = .ok (.iconst 2, 1) := by decide +kernel
theorem dX5_addHoliday_65 : decode cX5_addHoliday 65 = .ok (.invokevirtual 67, 3) := by decide +kernel
theorem dX5_addHoliday_68 : decode cX5_addHoliday 68 = .ok (.ireturn, 1) := by decide +kernel
theorem dX5_addHoliday_69 : decode cX5_addHoliday 69 = .ok (.aload_n 0, 1) := by decide +kernel
theorem dX5_addHoliday_70 : decode cX5_addHoliday 70 = .ok (.getfield 27, 3) := by decide +kernel
theorem dX5_addHoliday_73 : decode cX5_addHoliday 73 = .ok (.aload_n 0, 1) := by decide +kernel
theorem dX5_addHoliday_74 : decode cX5_addHoliday 74 = .ok (.getfield 57, 3) := by decide +kernel
theorem dX5_addHoliday_77 : decode cX5_addHoliday 77 = .ok (.iload_n 2, 1) := by decide +kernel
theorem dX5_addHoliday_78 : decode cX5_addHoliday 78 = .ok (.iastore, 1) := by decide +kernel
theorem dX5_addHoliday_79 : decode cX5_addHoliday 79 = .ok (.aload_n 0, 1) := by decide +kernel
theorem dX5_addHoliday_80 : decode cX5_addHoliday 80 = .ok (.dup, 1) := by decide +kernel
theorem dX5_addHoliday_81 : decode cX5_addHoliday 81 = .ok (.getfield 57, 3) := by decide +kernel
theorem dX5_addHoliday_84 : decode cX5_addHoliday 84 = .ok (.iconst 1, 1) := by decide +kernel
theorem dX5_addHoliday_85 : decode cX5_addHoliday 85 = .ok (.iadd, 1) := by decide +kernel
theorem dX5_addHoliday_86 : decode cX5_addHoliday 86 = .ok (.putfield 57, 3) := by decide +kernel
theorem dX5_addHoliday_89 : decode cX5_addHoliday 89 = .ok (.aload_n 0, 1) := by decide +kernel
theorem dX5_addHoliday_90 : decode cX5_addHoliday 90 = .ok (.getfield 57, 3) := by decide +kernel
theorem dX5_addHoliday_93 : decode cX5_addHoliday 93 = .ok (.ireturn, 1) := by decide +kernel
set_option maxRecDepth 20000 in
theorem ggX5_working_X5_isDate : GoodIn wsX5_working wsX5_isDate := goodIn_r _ [6, 7, 8, 9, 10, 5, 11, 12, 13, 14] (by decide +kernel) (by decide +kernel)
set_option maxRecDepth 20000 in
theorem gX5_working_X5_isDate : GoodIn wsX5_working (va_wsS RX5 64 yX5_isDate wsX5_isDate) := goodIn_app (goodIn_of _ (by decide +kernel)) ggX5_working_X5_isDate
set_option maxRecDepth 20000 in
theorem ggX5_working_X5_number : GoodIn wsX5_working wsX5_number := goodIn_r _ [17, 12, 13, 5, 14] (by decide +kernel) (by decide +kernel)
set_option maxRecDepth 20000 in
theorem gX5_working_X5_number : GoodIn wsX5_working (va_wsS RX5 8 yX5_number wsX5_number) := goodIn_app (goodIn_of _ (by decide +kernel)) ggX5_working_X5_number
set_option maxRecDepth 20000 in
theorem ggX5_working_X5_firstWorking : GoodIn wsX5_working wsX5_firstWorking := goodIn_r _ [21, 22, 23, 24, 5, 25, 26, 27, 28, 29, 30, 38, 39, 40, 41, 42, 43, 44, 45, 46, 47] (by decide +kernel) (by decide +kernel)
set_option maxRecDepth 20000 in
theorem gX5_working_X5_firstWorking : GoodIn wsX5_working (wsV RX5 74 RX5 yX5_firstWorking wsX5_firstWorking) := goodIn_app (goodIn_of _ (by decide +kernel)) ggX5_working_X5_firstWorking
set_option maxRecDepth 20000 in
theorem ggX5_working_X5_date : GoodIn wsX5_working wsX5_date := goodIn_r _ [33, 12, 13, 5, 14] (by decide +kernel) (by decide +kernel)
set_option maxRecDepth 20000 in
theorem gX5_working_X5_date : GoodIn wsX5_working (va_wsS RX5 70 yX5_date wsX5_date) := goodIn_app (goodIn_of _ (by decide +kernel)) ggX5_working_X5_date
set_option maxRecDepth 20000 in
theorem ggX5_working_X5_no : GoodIn wsX5_working wsX5_no := goodIn_r _ [37, 1, 38, 39, 40, 41, 42, 43, 44, 45, 46, 47] (by decide +kernel) (by decide +kernel)
set_option maxRecDepth 20000 in
theorem gX5_working_X5_no : GoodIn wsX5_working (wsV RX5 67 RX5 yX5_no wsX5_no) := goodIn_app (goodIn_of _ (by decide +kernel)) ggX5_working_X5_no
theorem dX5_working_0 : decode cX5_working 0 = .ok (.aload_n 0, 1) := by decide +kernel
theorem dX5_working_1 : decode cX5_working 1 = .ok (.iconst 0, 1) := by decide +kernel
theorem dX5_working_2 : decode cX5_working 2 = .ok (.putfield 41, 3) := by decide +kernel
theorem dX5_working_5 : decode cX5_working 5 = .ok (.iload_n 1, 1) := by decide +kernel
theorem dX5_working_6 : decode cX5_working 6 = .ok (.invokestatic 64, 3) := by decide +kernel
theorem dX5_working_9 : decode cX5_working 9 = .ok (.ifCond .eq 23, 3) := by decide +kernel
theorem dX5_working_12 : decode cX5_working 12 = .ok (.iload_n 1, 1) := by decide +kernel
theorem dX5_working_13 : decode cX5_working 13 = .ok (.ldc 73, 2) := by decide +kernel
theorem dX5_working_15 : decode cX5_working 15 = .ok (.if_icmp .gt 17, 3) := by decide +kernel
theorem dX5_working_18 : decode cX5_working 18 = .ok (.aload_n 0, 1) := by decide +kernel
theorem dX5_working_19 : decode cX5_working 19 = .ok (.iload_n 1, 1) := by decide +kernel
theorem dX5_working_20 : decode cX5_working 20 = .ok (.invokestatic 8, 3) := by decide +kernel
theorem dX5_working_23 : decode cX5_working 23 = .ok (.invokevirtual 74, 3) := by decide +kernel
theorem dX5_working_26 : decode cX5_working 26 = .ok (.invokestatic 70, 3) := by decide +kernel
theorem dX5_working_29 : decode cX5_working 29 = .ok (.goto 8, 3) := by decide +kernel
theorem dX5_working_32 : decode cX5_working 32 = .ok (.aload_n 0, 1) := by decide +kernel
theorem dX5_working_33 : decode cX5_working 33 = .ok (.iconst 1, 1) := by decide +kernel
theorem dX5_working_34 : decode cX5_working 34 = .ok (.invokevirtual 67, 3) := by decide +kernel
theorem dX5_working_37 : decode cX5_working 37 = .ok (.ireturn, 1) := by decide +kernel
set_option maxRecDepth 20000 in
theorem ggX5_isBond_X5_isIn : GoodIn wsX5_isBond wsX5_isIn := goodIn_r _ [5] (by decide +kernel) (by decide +kernel)
set_option maxRecDepth 20000 in
theorem gX5_isBond_X5_isIn : GoodIn wsX5_isBond (va_wsS RX5 46 yX5_isIn wsX5_isIn) := goodIn_app (goodIn_of _ (by decide +kernel)) ggX5_isBond_X5_isIn
theorem dX5_isBond_0 : decode cX5_isBond 0 = .ok (.iload_n 1, 1) := by decide +kernel
theorem dX5_isBond_1 : decode cX5_isBond 1 = .ok (.iconst 0, 1) := by decide +kernel
theorem dX5_isBond_2 : decode cX5_isBond 2 = .ok (.aload_n 0, 1) := by decide +kernel
theorem dX5_isBond_3 : decode cX5_isBond 3 = .ok (.getfield 77, 3) := by decide +kernel
theorem dX5_isBond_6 : decode cX5_isBond 6 = .ok (.iconst 1, 1) := by decide +kernel
theorem dX5_isBond_7 : decode cX5_isBond 7 = .ok (.isub, 1) := by decide +kernel
theorem dX5_isBond_8 : decode cX5_isBond 8 = .ok (.invokestatic 46, 3) := by decide +kernel
theorem dX5_isBond_11 : decode cX5_isBond 11 = .ok (.ireturn, 1) := by decide +kernel
theorem dX5_own_0 : decode cX5_own 0 = .ok (.aload_n 0, 1) := by decide +kernel
theorem dX5_own_1 : decode cX5_own 1 = .ok (.getfield 31, 3) := by decide +kernel
theorem dX5_own_4 : decode cX5_own 4 = .ok (.bipush 14, 2) := by decide +kernel
theorem dX5_own_6 : decode cX5_own 6 = .ok (.iload_n 1, 1) := by decide +kernel
theorem dX5_own_7 : decode cX5_own 7 = .ok (.imul, 1) := by decide +kernel
theorem dX5_own_8 : decode cX5_own 8 = .ok (.iload_n 2, 1) := by decide +kernel
theorem dX5_own_9 : decode cX5_own 9 = .ok (.iadd, 1) := by decide +kernel
theorem dX5_own_10 : decode cX5_own 10 = .ok (.iaload, 1) := by decide +kernel
theorem dX5_own_11 : decode cX5_own 11 = .ok (.ireturn, 1) := by decide +kernel
theorem dX5_couponDay_0 : decode cX5_couponDay 0 = .ok (.aload_n 0, 1) := by decide +kernel
theorem dX5_couponDay_1 : decode cX5_couponDay 1 = .ok (.getfield 34, 3) := by decide +kernel
theorem dX5_couponDay_4 : decode cX5_couponDay 4 = .ok (.bipush 121, 2) := by decide +kernel
theorem dX5_couponDay_6 : decode cX5_couponDay 6 = .ok (.iload_n 1, 1) := by decide +kernel
theorem dX5_couponDay_7 : decode cX5_couponDay 7 = .ok (.imul, 1) := by decide +kernel
theorem dX5_couponDay_8 : decode cX5_couponDay 8 = .ok (.iload_n 2, 1) := by decide +kernel
theorem dX5_couponDay_9 : decode cX5_couponDay 9 = .ok (.iadd, 1) := by decide +kernel
theorem dX5_couponDay_10 : decode cX5_couponDay 10 = .ok (.iconst 1, 1) := by decide +kernel
theorem dX5_couponDay_11 : decode cX5_couponDay 11 = .ok (.iadd, 1) := by decide +kernel
theorem dX5_couponDay_12 : decode cX5_couponDay 12 = .ok (.iaload, 1) := by decide +kernel
theorem dX5_couponDay_13 : decode cX5_couponDay 13 = .ok (.ireturn, 1) := by decide +kernel
set_option maxRecDepth 20000 in
theorem ggX5_moved_X5_length : GoodIn wsX5_moved wsX5_length := goodIn_r _ [8] (by decide +kernel) (by decide +kernel)
set_option maxRecDepth 20000 in
theorem gX5_moved_X5_length : GoodIn wsX5_moved (va_wsS RX5 50 yX5_length wsX5_length) := goodIn_app (goodIn_of _ (by decide +kernel)) ggX5_moved_X5_length
theorem dX5_moved_0 : decode cX5_moved 0 = .ok (.iload_n 0, 1) := by decide +kernel
theorem dX5_moved_1 : decode cX5_moved 1 = .ok (.sipush 10000, 3) := by decide +kernel
theorem dX5_moved_4 : decode cX5_moved 4 = .ok (.idiv, 1) := by decide +kernel
theorem dX5_moved_5 : decode cX5_moved 5 = .ok (.bipush 12, 2) := by decide +kernel
theorem dX5_moved_7 : decode cX5_moved 7 = .ok (.imul, 1) := by decide +kernel
theorem dX5_moved_8 : decode cX5_moved 8 = .ok (.iload_n 0, 1) := by decide +kernel
theorem dX5_moved_9 : decode cX5_moved 9 = .ok (.bipush 100, 2) := by decide +kernel
theorem dX5_moved_11 : decode cX5_moved 11 = .ok (.idiv, 1) := by decide +kernel
theorem dX5_moved_12 : decode cX5_moved 12 = .ok (.bipush 100, 2) := by decide +kernel
theorem dX5_moved_14 : decode cX5_moved 14 = .ok (.irem, 1) := by decide +kernel
theorem dX5_moved_15 : decode cX5_moved 15 = .ok (.iadd, 1) := by decide +kernel
theorem dX5_moved_16 : decode cX5_moved 16 = .ok (.iconst 1, 1) := by decide +kernel
theorem dX5_moved_17 : decode cX5_moved 17 = .ok (.isub, 1) := by decide +kernel
theorem dX5_moved_18 : decode cX5_moved 18 = .ok (.iload_n 1, 1) := by decide +kernel
theorem dX5_moved_19 : decode cX5_moved 19 = .ok (.isub, 1) := by decide +kernel
theorem dX5_moved_20 : decode cX5_moved 20 = .ok (.istore_n 2, 1) := by decide +kernel
theorem dX5_moved_21 : decode cX5_moved 21 = .ok (.iload_n 2, 1) := by decide +kernel
theorem dX5_moved_22 : decode cX5_moved 22 = .ok (.bipush 12, 2) := by decide +kernel
theorem dX5_moved_24 : decode cX5_moved 24 = .ok (.idiv, 1) := by decide +kernel
theorem dX5_moved_25 : decode cX5_moved 25 = .ok (.istore_n 3, 1) := by decide +kernel
theorem dX5_moved_26 : decode cX5_moved 26 = .ok (.iload_n 3, 1) := by decide +kernel
theorem dX5_moved_27 : decode cX5_moved 27 = .ok (.iload_n 2, 1) := by decide +kernel
theorem dX5_moved_28 : decode cX5_moved 28 = .ok (.bipush 12, 2) := by decide +kernel
theorem dX5_moved_30 : decode cX5_moved 30 = .ok (.irem, 1) := by decide +kernel
theorem dX5_moved_31 : decode cX5_moved 31 = .ok (.iconst 1, 1) := by decide +kernel
theorem dX5_moved_32 : decode cX5_moved 32 = .ok (.iadd, 1) := by decide +kernel
theorem dX5_moved_33 : decode cX5_moved 33 = .ok (.invokestatic 50, 3) := by decide +kernel
theorem dX5_moved_36 : decode cX5_moved 36 = .ok (.istore 4, 2) := by decide +kernel
theorem dX5_moved_38 : decode cX5_moved 38 = .ok (.iload_n 0, 1) := by decide +kernel
theorem dX5_moved_39 : decode cX5_moved 39 = .ok (.bipush 100, 2) := by decide +kernel
theorem dX5_moved_41 : decode cX5_moved 41 = .ok (.irem, 1) := by decide +kernel
theorem dX5_moved_42 : decode cX5_moved 42 = .ok (.iload_n 0, 1) := by decide +kernel
theorem dX5_moved_43 : decode cX5_moved 43 = .ok (.sipush 10000, 3) := by decide +kernel
theorem dX5_moved_46 : decode cX5_moved 46 = .ok (.idiv, 1) := by decide +kernel
theorem dX5_moved_47 : decode cX5_moved 47 = .ok (.iload_n 0, 1) := by decide +kernel
theorem dX5_moved_48 : decode cX5_moved 48 = .ok (.bipush 100, 2) := by decide +kernel
theorem dX5_moved_50 : decode cX5_moved 50 = .ok (.idiv, 1) := by decide +kernel
theorem dX5_moved_51 : decode cX5_moved 51 = .ok (.bipush 100, 2) := by decide +kernel
theorem dX5_moved_53 : decode cX5_moved 53 = .ok (.irem, 1) := by decide +kernel
theorem dX5_moved_54 : decode cX5_moved 54 = .ok (.invokestatic 50, 3) := by decide +kernel
theorem dX5_moved_57 : decode cX5_moved 57 = .ok (.if_icmp .ne 7, 3) := by decide +kernel
theorem dX5_moved_60 : decode cX5_moved 60 = .ok (.iconst 1, 1) := by decide +kernel
theorem dX5_moved_61 : decode cX5_moved 61 = .ok (.goto 4, 3) := by decide +kernel
theorem dX5_moved_64 : decode cX5_moved 64 = .ok (.iconst 0, 1) := by decide +kernel
theorem dX5_moved_65 : decode cX5_moved 65 = .ok (.istore 5, 2) := by decide +kernel
theorem dX5_moved_67 : decode cX5_moved 67 = .ok (.sipush 10000, 3) := by decide +kernel
theorem dX5_moved_70 : decode cX5_moved 70 = .ok (.iload_n 3, 1) := by decide +kernel
theorem dX5_moved_71 : decode cX5_moved 71 = .ok (.imul, 1) := by decide +kernel
theorem dX5_moved_72 : decode cX5_moved 72 = .ok (.bipush 100, 2) := by decide +kernel
theorem dX5_moved_74 : decode cX5_moved 74 = .ok (.iload_n 2, 1) := by decide +kernel
theorem dX5_moved_75 : decode cX5_moved 75 = .ok (.bipush 12, 2) := by decide +kernel
theorem dX5_moved_77 : decode cX5_moved 77 = .ok (.irem, 1) := by decide +kernel
theorem dX5_moved_78 : decode cX5_moved 78 = .ok (.iconst 1, 1) := by decide +kernel
theorem dX5_moved_79 : decode cX5_moved 79 = .ok (.iadd, 1) := by decide +kernel
theorem dX5_moved_80 : decode cX5_moved 80 = .ok (.imul, 1) := by decide +kernel
theorem dX5_moved_81 : decode cX5_moved 81 = .ok (.iadd, 1) := by decide +kernel
theorem dX5_moved_82 : decode cX5_moved 82 = .ok (.iload 5, 2) := by decide +kernel
theorem dX5_moved_84 : decode cX5_moved 84 = .ok (.ifCond .eq 8, 3) := by decide +kernel
theorem dX5_moved_87 : decode cX5_moved 87 = .ok (.iload 4, 2) := by decide +kernel
theorem dX5_moved_89 : decode cX5_moved 89 = .ok (.goto 12, 3) := by decide +kernel
theorem dX5_moved_92 : decode cX5_moved 92 = .ok (.iload 4, 2) := by decide +kernel
theorem dX5_moved_94 : decode cX5_moved 94 = .ok (.iload_n 0, 1) := by decide +kernel
theorem dX5_moved_95 : decode cX5_moved 95 = .ok (.bipush 100, 2) := by decide +kernel
theorem dX5_moved_97 : decode cX5_moved 97 = .ok (.irem, 1) := by decide +kernel
theorem dX5_moved_98 : decode cX5_moved 98 = .ok (.invokestatic 80, 3) := by decide +kernel
theorem dX5_moved_101 : decode cX5_moved 101 = .ok (.iadd, 1) := by decide +kernel
theorem dX5_moved_102 : decode cX5_moved 102 = .ok (.ireturn, 1) := by decide +kernel
set_option maxRecDepth 20000 in
theorem ggX5_addBond_X5_isDate : GoodIn wsX5_addBond wsX5_isDate := goodIn_r _ [16, 4, 17, 18, 19, 15, 20, 21, 22, 23] (by decide +kernel) (by decide +kernel)
set_option maxRecDepth 20000 in
theorem gX5_addBond_X5_isDate : GoodIn wsX5_addBond (va_wsS RX5 64 yX5_isDate wsX5_isDate) := goodIn_app (goodIn_of _ (by decide +kernel)) ggX5_addBond_X5_isDate
set_option maxRecDepth 20000 in
theorem ggX5_addBond_X5_number : GoodIn wsX5_addBond wsX5_number := goodIn_r _ [26, 21, 22, 15, 23] (by decide +kernel) (by decide +kernel)
set_option maxRecDepth 20000 in
theorem gX5_addBond_X5_number : GoodIn wsX5_addBond (va_wsS RX5 8 yX5_number wsX5_number) := goodIn_app (goodIn_of _ (by decide +kernel)) ggX5_addBond_X5_number
set_option maxRecDepth 20000 in
theorem ggX5_addBond_X5_no : GoodIn wsX5_addBond wsX5_no := goodIn_r _ [30, 1, 38, 39, 40, 41, 42, 43, 44, 45, 46, 47] (by decide +kernel) (by decide +kernel)
set_option maxRecDepth 20000 in
theorem gX5_addBond_X5_no : GoodIn wsX5_addBond (wsV RX5 67 RX5 yX5_no wsX5_no) := goodIn_app (goodIn_of _ (by decide +kernel)) ggX5_addBond_X5_no
set_option maxRecDepth 20000 in
theorem ggX5_addBond_X5_isIn : GoodIn wsX5_addBond wsX5_isIn := goodIn_r _ [20] (by decide +kernel) (by decide +kernel)
set_option maxRecDepth 20000 in
theorem gX5_addBond_X5_isIn : GoodIn wsX5_addBond (va_wsS RX5 46 yX5_isIn wsX5_isIn) := goodIn_app (goodIn_of _ (by decide +kernel)) ggX5_addBond_X5_isIn
set_option maxRecDepth 20000 in
theorem ggX5_addBond_X5_moved : GoodIn wsX5_addBond wsX5_moved := goodIn_r _ [33, 34, 35, 36, 37, 21, 22, 15, 23] (by decide +kernel) (by decide +kernel)
set_option maxRecDepth 20000 in
theorem gX5_addBond_X5_moved : GoodIn wsX5_addBond (va_wsS RX5 85 yX5_moved wsX5_moved) := goodIn_app (goodIn_of _ (by decide +kernel)) ggX5_addBond_X5_moved
theorem dX5_addBond_0 : decode cX5_addBond 0 = .ok (.aload_n 0, 1) := by decide +kernel
theorem dX5_addBond_1 : decode cX5_addBond 1 = .ok (.iconst 0, 1) := by decide +kernel
theorem dX5_addBond_2 : decode cX5_addBond 2 = .ok (.putfield 41, 3) := by decide +kernel
theorem dX5_addBond_5 : decode cX5_addBond 5 = .ok (.iload_n 1, 1) := by decide +kernel
theorem dX5_addBond_6 : decode cX5_addBond 6 = .ok (.invokestatic 64, 3) := by decide +kernel
theorem dX5_addBond_9 : decode cX5_addBond 9 = .ok (.ifCond .eq 32, 3) := by decide +kernel
theorem dX5_addBond_12 : decode cX5_addBond 12 = .ok (.iload_n 2, 1) := by decide +kernel
theorem dX5_addBond_13 : decode cX5_addBond 13 = .ok (.invokestatic 64, 3) := by decide +kernel
theorem dX5_addBond_16 : decode cX5_addBond 16 = .ok (.ifCond .eq 25, 3) := by decide +kernel
theorem dX5_addBond_19 : decode cX5_addBond 19 = .ok (.iload_n 2, 1) := by decide +kernel
theorem dX5_addBond_20 : decode cX5_addBond 20 = .ok (.ldc 73, 2) := by decide +kernel
theorem dX5_addBond_22 : decode cX5_addBond 22 = .ok (.if_icmp .gt 19, 3) := by decide +kernel
theorem dX5_addBond_25 : decode cX5_addBond 25 = .ok (.iload_n 2, 1) := by decide +kernel
theorem dX5_addBond_26 : decode cX5_addBond 26 = .ok (.iload_n 1, 1) := by decide +kernel
theorem dX5_addBond_27 : decode cX5_addBond 27 = .ok (.if_icmp .le 14, 3) := by decide +kernel
theorem dX5_addBond_30 : decode cX5_addBond 30 = .ok (.iload_n 2, 1) := by decide +kernel
theorem dX5_addBond_31 : decode cX5_addBond 31 = .ok (.invokestatic 8, 3) := by decide +kernel
theorem dX5_addBond_34 : decode cX5_addBond 34 = .ok (.aload_n 0, 1) := by decide +kernel
theorem dX5_addBond_35 : decode cX5_addBond 35 = .ok (.getfield 14, 3) := by decide +kernel
theorem dX5_addBond_38 : decode cX5_addBond 38 = .ok (.if_icmp .gt 9, 3) := by decide +kernel
theorem dX5_addBond_41 : decode cX5_addBond 41 = .ok (.aload_n 0, 1) := by decide +kernel
theorem dX5_addBond_42 : decode cX5_addBond 42 = .ok (.iconst 1, 1) := by decide +kernel
theorem dX5_addBond_43 : decode cX5_addBond 43 = .ok (.invokevirtual 67, 3) := by decide +kernel
theorem dX5_addBond_46 : decode cX5_addBond 46 = .ok (.ireturn, 1) := by decide +kernel
theorem dX5_addBond_47 : decode cX5_addBond 47 = .ok (.iload_n 3, 1) := by decide +kernel
theorem dX5_addBond_48 : decode cX5_addBond 48 = .ok (.iconst 0, 1) := by decide +kernel
theorem dX5_addBond_49 : decode cX5_addBond 49 = .ok (.sipush 2000, 3) := by decide +kernel
theorem dX5_addBond_52 : decode cX5_addBond 52 = .ok (.invokestatic 46, 3) := by decide +kernel
theorem dX5_addBond_55 : decode cX5_addBond 55 = .ok (.ifCond .eq 38, 3) := by decide +kernel
theorem dX5_addBond_58 : decode cX5_addBond 58 = .ok (.iload 4, 2) := by decide +kernel
theorem dX5_addBond_60 : decode cX5_addBond 60 = .ok (.iconst 1, 1) := by decide +kernel
theorem dX5_addBond_61 : decode cX5_addBond 61 = .ok (.if_icmp .eq 22, 3) := by decide +kernel
theorem dX5_addBond_64 : decode cX5_addBond 64 = .ok (.iload 4, 2) := by decide +kernel
theorem dX5_addBond_66 : decode cX5_addBond 66 = .ok (.iconst 2, 1) := by decide +kernel
theorem dX5_addBond_67 : decode cX5_addBond 67 = .ok (.if_icmp .eq 16, 3) := by decide +kernel
theorem dX5_addBond_70 : decode cX5_addBond 70 = .ok (.iload 4, 2) := by decide +kernel
theorem dX5_addBond_72 : decode cX5_addBond 72 = .ok (.iconst 4, 1) := by decide +kernel
theorem dX5_addBond_73 : decode cX5_addBond 73 = .ok (.if_icmp .eq 10, 3) := by decide +kernel
theorem dX5_addBond_76 : decode cX5_addBond 76 = .ok (.iload 4, 2) := by decide +kernel
theorem dX5_addBond_78 : decode cX5_addBond 78 = .ok (.bipush 12, 2) := by decide +kernel
theorem dX5_addBond_80 : decode cX5_addBond 80 = .ok (.if_icmp .ne 13, 3) := by decide +kernel
theorem dX5_addBond_83 : decode cX5_addBond 83 = .ok (.iload 5, 2) := by decide +kernel
theorem dX5_addBond_85 : decode cX5_addBond 85 = .ok (.iconst 0, 1) := by decide +kernel
theorem dX5_addBond_86 : decode cX5_addBond 86 = .ok (.iconst 3, 1) := by decide +kernel
theorem dX5_addBond_87 : decode cX5_addBond 87 = .ok (.invokestatic 46, 3) := by decide +kernel
theorem dX5_addBond_90 : decode cX5_addBond 90 = .ok (.ifCond .ne 9, 3) := by decide +kernel
theorem dX5_addBond_93 : decode cX5_addBond 93 = .ok (.aload_n 0, 1) := by decide +kernel
theorem dX5_addBond_94 : decode cX5_addBond 94 = .ok (.iconst 1, 1) := by decide +kernel
theorem dX5_addBond_95 : decode cX5_addBond 95 = .ok (.invokevirtual 67, 3) := by decide +kernel
theorem dX5_addBond_98 : decode cX5_addBond 98 = .ok (.ireturn, 1) := by decide +kernel
theorem dX5_addBond_99 : decode cX5_addBond 99 = .ok (.iconst 0, 1) := by decide +kernel
theorem dX5_addBond_100 : decode cX5_addBond 100 = .ok (.istore 6, 2) := by decide +kernel
theorem dX5_addBond_102 : decode cX5_addBond 102 = .ok (.iload_n 2, 1) := by decide +kernel
theorem dX5_addBond_103 : decode cX5_addBond 103 = .ok (.bipush 12, 2) := by decide +kernel
theorem dX5_addBond_105 : decode cX5_addBond 105 = .ok (.iload 4, 2) := by decide +kernel
theorem dX5_addBond_107 : decode cX5_addBond 107 = .ok (.idiv, 1) := by decide +kernel
theorem dX5_addBond_108 : decode cX5_addBond 108 = .ok (.iload 6, 2) := by decide +kernel
theorem dX5_addBond_110 : decode cX5_addBond 110 = .ok (.imul, 1) := by decide +kernel
theorem dX5_addBond_111 : decode cX5_addBond 111 = .ok (.invokestatic 85, 3) := by decide +kernel
theorem dX5_addBond_114 : decode cX5_addBond 114 = .ok (.iload_n 1, 1) := by decide +kernel
theorem dX5_addBond_115 : decode cX5_addBond 115 = .ok (.if_icmp .le 9, 3) := by decide +kernel
theorem dX5_addBond_118 : decode cX5_addBond 118 = .ok (.iinc 6 1, 3) := by decide +kernel
theorem dX5_addBond_121 : decode cX5_addBond 121 = .ok (.goto (-19), 3) := by decide +kernel
theorem dX5_addBond_124 : decode cX5_addBond 124 = .ok (.iload 6, 2) := by decide +kernel
theorem dX5_addBond_126 : decode cX5_addBond 126 = .ok (.bipush 120, 2) := by decide +kernel
theorem dX5_addBond_128 : decode cX5_addBond 128 = .ok (.if_icmp .gt 20, 3) := by decide +kernel
theorem dX5_addBond_131 : decode cX5_addBond 131 = .ok (.iload_n 2, 1) := by decide +kernel
theorem dX5_addBond_132 : decode cX5_addBond 132 = .ok (.bipush 12, 2) := by decide +kernel
theorem dX5_addBond_134 : decode cX5_addBond 134 = .ok (.iload 4, 2) := by decide +kernel
theorem dX5_addBond_136 : decode cX5_addBond 136 = .ok (.idiv, 1) := by decide +kernel
theorem dX5_addBond_137 : decode cX5_addBond 137 = .ok (.iload 6, 2) := by decide +kernel
theorem dX5_addBond_139 : decode cX5_addBond 139 = .ok (.imul, 1) := by decide +kernel
theorem dX5_addBond_140 : decode cX5_addBond 140 = .ok (.invokestatic 85, 3) := by decide +kernel
theorem dX5_addBond_143 : decode cX5_addBond 143 = .ok (.ldc 44, 2) := by decide +kernel
theorem dX5_addBond_145 : decode cX5_addBond 145 = .ok (.if_icmp .ge 9, 3) := by decide +kernel
theorem dX5_addBond_148 : decode cX5_addBond 148 = .ok (.aload_n 0, 1) := by decide +kernel
theorem dX5_addBond_149 : decode cX5_addBond 149 = .ok (.iconst 1, 1) := by decide +kernel
theorem dX5_addBond_150 : decode cX5_addBond 150 = .ok (.invokevirtual 67, 3) := by decide +kernel
theorem dX5_addBond_153 : decode cX5_addBond 153 = .ok (.ireturn, 1) := by decide +kernel
theorem dX5_addBond_154 : decode cX5_addBond 154 = .ok (.aload_n 0, 1) := by decide +kernel
theorem dX5_addBond_155 : decode cX5_addBond 155 = .ok (.getfield 77, 3) := by decide +kernel
theorem dX5_addBond_158 : decode cX5_addBond 158 = .ok (.bipush 10, 2) := by decide +kernel
theorem dX5_addBond_160 : decode cX5_addBond 160 = .ok (.if_icmp .ne 9, 3) := by decide +kernel
theorem dX5_addBond_163 : decode cX5_addBond 163 = .ok (.aload_n 0, 1) := by decide +kernel
theorem dX5_addBond_164 : decode cX5_addBond 164 = .ok (.iconst 2, 1) := by decide +kernel
theorem dX5_addBond_165 : decode cX5_addBond 165 = .ok (.invokevirtual 67, 3) := by decide +kernel
theorem dX5_addBond_168 : decode cX5_addBond 168 = .ok (.ireturn, 1) := by decide +kernel
theorem dX5_addBond_169 : decode cX5_addBond 169 = .ok (.iconst 0, 1) := by decide +kernel
theorem dX5_addBond_170 : decode cX5_addBond 170 = .ok (.istore 7, 2) := by decide +kernel
theorem dX5_addBond_172 : decode cX5_addBond 172 = .ok (.iload 7, 2) := by decide +kernel
theorem dX5_addBond_174 : decode cX5_addBond 174 = .ok (.iload 6, 2) := by decide +kernel
theorem dX5_addBond_176 : decode cX5_addBond 176 = .ok (.if_icmp .gt 42, 3) := by decide +kernel
theorem dX5_addBond_179 : decode cX5_addBond 179 = .ok (.aload_n 0, 1) := by decide +kernel
theorem dX5_addBond_180 : decode cX5_addBond 180 = .ok (.getfield 34, 3) := by decide +kernel
theorem dX5_addBond_183 : decode cX5_addBond 183 = .ok (.bipush 121, 2) := by decide +kernel
theorem dX5_addBond_185 : decode cX5_addBond 185 = .ok (.aload_n 0, 1) := by decide +kernel
theorem dX5_addBond_186 : decode cX5_addBond 186 = .ok (.getfield 77, 3) := by decide +kernel
theorem dX5_addBond_189 : decode cX5_addBond 189 = .ok (.imul, 1) := by decide +kernel
theorem dX5_addBond_190 : decode cX5_addBond 190 = .ok (.iload 7, 2) := by decide +kernel
theorem dX5_addBond_192 : decode cX5_addBond 192 = .ok (.iadd, 1) := by decide +kernel
theorem dX5_addBond_193 : decode cX5_addBond 193 = .ok (.iload_n 2, 1) := by decide +kernel
theorem dX5_addBond_194 : decode cX5_addBond 194 = .ok (.bipush 12, 2) := by decide +kernel
theorem dX5_addBond_196 : decode cX5_addBond 196 = .ok (.iload 4, 2) := by decide +kernel
theorem dX5_addBond_198 : decode cX5_addBond 198 = .ok (.idiv, 1) := by decide +kernel
theorem dX5_addBond_199 : decode cX5_addBond 199 = .ok (.iload 6, 2) := by decide +kernel
theorem dX5_addBond_201 : decode cX5_addBond 201 = .ok (.iload 7, 2) := by decide +kernel
theorem dX5_addBond_203 : decode cX5_addBond 203 = .ok (.isub, 1) := by decide +kernel
theorem dX5_addBond_204 : decode cX5_addBond 204 = .ok (.imul, 1) := by decide +kernel
theorem dX5_addBond_205 : decode cX5_addBond 205 = .ok (.invokestatic 85, 3) := by decide +kernel
theorem dX5_addBond_208 : decode cX5_addBond 208 = .ok (.invokestatic 8, 3) := by decide +kernel
theorem dX5_addBond_211 : decode cX5_addBond 211 = .ok (.iastore, 1) := by decide +kernel
theorem dX5_addBond_212 : decode cX5_addBond 212 = .ok (.iinc 7 1, 3) := by decide +kernel
theorem dX5_addBond_215 : decode cX5_addBond 215 = .ok (.goto (-43), 3) := by decide +kernel
theorem dX5_addBond_218 : decode cX5_addBond 218 = .ok (.iconst 0, 1) := by decide +kernel
theorem dX5_addBond_219 : decode cX5_addBond 219 = .ok (.istore 7, 2) := by decide +kernel
theorem dX5_addBond_221 : decode cX5_addBond 221 = .ok (.aload_n 0, 1) := by decide +kernel
theorem dX5_addBond_222 : decode cX5_addBond 222 = .ok (.getfield 34, 3) := by decide +kernel
theorem dX5_addBond_225 : decode cX5_addBond 225 = .ok (.bipush 121, 2) := by decide +kernel
theorem dX5_addBond_227 : decode cX5_addBond 227 = .ok (.aload_n 0, 1) := by decide +kernel
theorem dX5_addBond_228 : decode cX5_addBond 228 = .ok (.getfield 77, 3) := by decide +kernel
theorem dX5_addBond_231 : decode cX5_addBond 231 = .ok (.imul, 1) := by decide +kernel
theorem dX5_addBond_232 : decode cX5_addBond 232 = .ok (.iload 7, 2) := by decide +kernel
theorem dX5_addBond_234 : decode cX5_addBond 234 = .ok (.iadd, 1) := by decide +kernel
theorem dX5_addBond_235 : decode cX5_addBond 235 = .ok (.iconst 1, 1) := by decide +kernel
theorem dX5_addBond_236 : decode cX5_addBond 236 = .ok (.iadd, 1) := by decide +kernel
theorem dX5_addBond_237 : decode cX5_addBond 237 = .ok (.iaload, 1) := by decide +kernel
theorem dX5_addBond_238 : decode cX5_addBond 238 = .ok (.aload_n 0, 1) := by decide +kernel
theorem dX5_addBond_239 : decode cX5_addBond 239 = .ok (.getfield 14, 3) := by decide +kernel
theorem dX5_addBond_242 : decode cX5_addBond 242 = .ok (.if_icmp .gt 9, 3) := by decide +kernel
theorem dX5_addBond_245 : decode cX5_addBond 245 = .ok (.iinc 7 1, 3) := by decide +kernel
theorem dX5_addBond_248 : decode cX5_addBond 248 = .ok (.goto (-27), 3) := by decide +kernel
theorem dX5_addBond_251 : decode cX5_addBond 251 = .ok (.bipush 14, 2) := by decide +kernel
theorem dX5_addBond_253 : decode cX5_addBond 253 = .ok (.newarray .int, 2) := by decide +kernel
theorem dX5_addBond_255 : decode cX5_addBond 255 = .ok (.dup, 1) := by decide +kernel
theorem dX5_addBond_256 : decode cX5_addBond 256 = .ok (.iconst 0, 1) := by decide +kernel
theorem dX5_addBond_257 : decode cX5_addBond 257 = .ok (.iload_n 1, 1) := by decide +kernel
theorem dX5_addBond_258 : decode cX5_addBond 258 = .ok (.invokestatic 8, 3) := by decide +kernel
theorem dX5_addBond_261 : decode cX5_addBond 261 = .ok (.iastore, 1) := by decide +kernel
theorem dX5_addBond_262 : decode cX5_addBond 262 = .ok (.dup, 1) := by decide +kernel
theorem dX5_addBond_263 : decode cX5_addBond 263 = .ok (.iconst 1, 1) := by decide +kernel
theorem dX5_addBond_264 : decode cX5_addBond 264 = .ok (.iload_n 2, 1) := by decide +kernel
theorem dX5_addBond_265 : decode cX5_addBond 265 = .ok (.invokestatic 8, 3) := by decide +kernel
theorem dX5_addBond_268 : decode cX5_addBond 268 = .ok (.iastore, 1) := by decide +kernel
theorem dX5_addBond_269 : decode cX5_addBond 269 = .ok (.dup, 1) := by decide +kernel
theorem dX5_addBond_270 : decode cX5_addBond 270 = .ok (.iconst 2, 1) := by decide +kernel
theorem dX5_addBond_271 : decode cX5_addBond 271 = .ok (.iload_n 3, 1) := by decide +kernel
theorem dX5_addBond_272 : decode cX5_addBond 272 = .ok (.iastore, 1) := by decide +kernel
theorem dX5_addBond_273 : decode cX5_addBond 273 = .ok (.dup, 1) := by decide +kernel
theorem dX5_addBond_274 : decode cX5_addBond 274 = .ok (.iconst 3, 1) := by decide +kernel
theorem dX5_addBond_275 : decode cX5_addBond 275 = .ok (.iload 4, 2) := by decide +kernel
theorem dX5_addBond_277 : decode cX5_addBond 277 = .ok (.iastore, 1) := by decide +kernel
theorem dX5_addBond_278 : decode cX5_addBond 278 = .ok (.dup, 1) := by decide +kernel
theorem dX5_addBond_279 : decode cX5_addBond 279 = .ok (.iconst 4, 1) := by decide +kernel
theorem dX5_addBond_280 : decode cX5_addBond 280 = .ok (.iload 5, 2) := by decide +kernel
theorem dX5_addBond_282 : decode cX5_addBond 282 = .ok (.iastore, 1) := by decide +kernel
theorem dX5_addBond_283 : decode cX5_addBond 283 = .ok (.dup, 1) := by decide +kernel
theorem dX5_addBond_284 : decode cX5_addBond 284 = .ok (.iconst 5, 1) := by decide +kernel
theorem dX5_addBond_285 : decode cX5_addBond 285 = .ok (.sipush 10000, 3) := by decide +kernel
theorem dX5_addBond_288 : decode cX5_addBond 288 = .ok (.iastore, 1) := by decide +kernel
theorem dX5_addBond_289 : decode cX5_addBond 289 = .ok (.dup, 1) := by decide +kernel
theorem dX5_addBond_290 : decode cX5_addBond 290 = .ok (.bipush 6, 2) := by decide +kernel
theorem dX5_addBond_292 : decode cX5_addBond 292 = .ok (.iload 6, 2) := by decide +kernel
theorem dX5_addBond_294 : decode cX5_addBond 294 = .ok (.iastore, 1) := by decide +kernel
theorem dX5_addBond_295 : decode cX5_addBond 295 = .ok (.dup, 1) := by decide +kernel
theorem dX5_addBond_296 : decode cX5_addBond 296 = .ok (.bipush 7, 2) := by decide +kernel
theorem dX5_addBond_298 : decode cX5_addBond 298 = .ok (.iload 7, 2) := by decide +kernel
theorem dX5_addBond_300 : decode cX5_addBond 300 = .ok (.iastore, 1) := by decide +kernel
theorem dX5_addBond_301 : decode cX5_addBond 301 = .ok (.dup, 1) := by decide +kernel
theorem dX5_addBond_302 : decode cX5_addBond 302 = .ok (.bipush 8, 2) := by decide +kernel
theorem dX5_addBond_304 : decode cX5_addBond 304 = .ok (.iconst 0, 1) := by decide +kernel
theorem dX5_addBond_305 : decode cX5_addBond 305 = .ok (.iastore, 1) := by decide +kernel
theorem dX5_addBond_306 : decode cX5_addBond 306 = .ok (.dup, 1) := by decide +kernel
theorem dX5_addBond_307 : decode cX5_addBond 307 = .ok (.bipush 9, 2) := by decide +kernel
theorem dX5_addBond_309 : decode cX5_addBond 309 = .ok (.iconst 0, 1) := by decide +kernel
theorem dX5_addBond_310 : decode cX5_addBond 310 = .ok (.iastore, 1) := by decide +kernel
theorem dX5_addBond_311 : decode cX5_addBond 311 = .ok (.dup, 1) := by decide +kernel
theorem dX5_addBond_312 : decode cX5_addBond 312 = .ok (.bipush 10, 2) := by decide +kernel
theorem dX5_addBond_314 : decode cX5_addBond 314 = .ok (.iconst 0, 1) := by decide +kernel
theorem dX5_addBond_315 : decode cX5_addBond 315 = .ok (.iastore, 1) := by decide +kernel
theorem dX5_addBond_316 : decode cX5_addBond 316 = .ok (.dup, 1) := by decide +kernel
theorem dX5_addBond_317 : decode cX5_addBond 317 = .ok (.bipush 11, 2) := by decide +kernel
theorem dX5_addBond_319 : decode cX5_addBond 319 = .ok (.iconst 0, 1) := by decide +kernel
theorem dX5_addBond_320 : decode cX5_addBond 320 = .ok (.iastore, 1) := by decide +kernel
theorem dX5_addBond_321 : decode cX5_addBond 321 = .ok (.dup, 1) := by decide +kernel
theorem dX5_addBond_322 : decode cX5_addBond 322 = .ok (.bipush 12, 2) := by decide +kernel
theorem dX5_addBond_324 : decode cX5_addBond 324 = .ok (.iconst 0, 1) := by decide +kernel
theorem dX5_addBond_325 : decode cX5_addBond 325 = .ok (.iastore, 1) := by decide +kernel
theorem dX5_addBond_326 : decode cX5_addBond 326 = .ok (.dup, 1) := by decide +kernel
theorem dX5_addBond_327 : decode cX5_addBond 327 = .ok (.bipush 13, 2) := by decide +kernel
theorem dX5_addBond_329 : decode cX5_addBond 329 = .ok (.iconst 0, 1) := by decide +kernel
theorem dX5_addBond_330 : decode cX5_addBond 330 = .ok (.iastore, 1) := by decide +kernel
theorem dX5_addBond_331 : decode cX5_addBond 331 = .ok (.astore 8, 2) := by decide +kernel
theorem dX5_addBond_333 : decode cX5_addBond 333 = .ok (.aload 8, 2) := by decide +kernel
theorem dX5_addBond_335 : decode cX5_addBond 335 = .ok (.iconst 0, 1) := by decide +kernel
theorem dX5_addBond_336 : decode cX5_addBond 336 = .ok (.aload_n 0, 1) := by decide +kernel
theorem dX5_addBond_337 : decode cX5_addBond 337 = .ok (.getfield 31, 3) := by decide +kernel
theorem dX5_addBond_340 : decode cX5_addBond 340 = .ok (.bipush 14, 2) := by decide +kernel
theorem dX5_addBond_342 : decode cX5_addBond 342 = .ok (.aload_n 0, 1) := by decide +kernel
theorem dX5_addBond_343 : decode cX5_addBond 343 = .ok (.getfield 77, 3) := by decide +kernel
theorem dX5_addBond_346 : decode cX5_addBond 346 = .ok (.imul, 1) := by decide +kernel
theorem dX5_addBond_347 : decode cX5_addBond 347 = .ok (.bipush 14, 2) := by decide +kernel
theorem dX5_addBond_349 : decode cX5_addBond 349 = .ok (.invokestatic 88, 3) := by decide +kernel
theorem dX5_addBond_352 : decode cX5_addBond 352 = .ok (.aload_n 0, 1) := by decide +kernel
theorem dX5_addBond_353 : decode cX5_addBond 353 = .ok (.dup, 1) := by decide +kernel
theorem dX5_addBond_354 : decode cX5_addBond 354 = .ok (.getfield 77, 3) := by decide +kernel
theorem dX5_addBond_357 : decode cX5_addBond 357 = .ok (.iconst 1, 1) := by decide +kernel
theorem dX5_addBond_358 : decode cX5_addBond 358 = .ok (.iadd, 1) := by decide +kernel
theorem dX5_addBond_359 : decode cX5_addBond 359 = .ok (.putfield 77, 3) := by decide +kernel
theorem dX5_addBond_362 : decode cX5_addBond 362 = .ok (.aload_n 0, 1) := by decide +kernel
theorem dX5_addBond_363 : decode cX5_addBond 363 = .ok (.getfield 77, 3) := by decide +kernel
theorem dX5_addBond_366 : decode cX5_addBond 366 = .ok (.iconst 1, 1) := by decide +kernel
theorem dX5_addBond_367 : decode cX5_addBond 367 = .ok (.isub, 1) := by decide +kernel
theorem dX5_addBond_368 : decode cX5_addBond 368 = .ok (.ireturn, 1) := by decide +kernel
set_option maxRecDepth 20000 in
theorem ggX5_isThere_X5_own : GoodIn wsX5_isThere wsX5_own := goodIn_r _ [5, 6, 7, 8, 9, 10, 11, 12, 13, 14, 15, 16] (by decide +kernel) (by decide +kernel)
set_option maxRecDepth 20000 in
theorem gX5_isThere_X5_own : GoodIn wsX5_isThere (wsV RX5 94 RX5 yX5_own wsX5_own) := goodIn_app (goodIn_of _ (by decide +kernel)) ggX5_isThere_X5_own
theorem dX5_isThere_0 : decode cX5_isThere 0 = .ok (.aload_n 0, 1) := by decide +kernel
theorem dX5_isThere_1 : decode cX5_isThere 1 = .ok (.iload_n 1, 1) := by decide +kernel
theorem dX5_isThere_2 : decode cX5_isThere 2 = .ok (.bipush 8, 2) := by decide +kernel
theorem dX5_isThere_4 : decode cX5_isThere 4 = .ok (.invokevirtual 94, 3) := by decide +kernel
theorem dX5_isThere_7 : decode cX5_isThere 7 = .ok (.ifCond .ne 7, 3) := by decide +kernel
theorem dX5_isThere_10 : decode cX5_isThere 10 = .ok (.iconst 1, 1) := by decide +kernel
theorem dX5_isThere_11 : decode cX5_isThere 11 = .ok (.goto 4, 3) := by decide +kernel
theorem dX5_isThere_14 : decode cX5_isThere 14 = .ok (.iconst 0, 1) := by decide +kernel
theorem dX5_isThere_15 : decode cX5_isThere 15 = .ok (.ireturn, 1) := by decide +kernel
set_option maxRecDepth 20000 in
theorem ggX5_isSunk_X5_own : GoodIn wsX5_isSunk wsX5_own := goodIn_r _ [5, 6, 12, 13, 14, 15, 16, 17, 18, 19, 20, 21] (by decide +kernel) (by decide +kernel)
set_option maxRecDepth 20000 in
theorem gX5_isSunk_X5_own : GoodIn wsX5_isSunk (wsV RX5 94 RX5 yX5_own wsX5_own) := goodIn_app (goodIn_of _ (by decide +kernel)) ggX5_isSunk_X5_own
set_option maxRecDepth 20000 in
theorem ggX5_isSunk_X5_couponDay : GoodIn wsX5_isSunk wsX5_couponDay := goodIn_r _ [10, 11, 12, 13, 14, 15, 16, 17, 18, 19, 20, 21] (by decide +kernel) (by decide +kernel)
set_option maxRecDepth 20000 in
theorem gX5_isSunk_X5_couponDay : GoodIn wsX5_isSunk (wsV RX5 97 RX5 yX5_couponDay wsX5_couponDay) := goodIn_app (goodIn_of _ (by decide +kernel)) ggX5_isSunk_X5_couponDay
theorem dX5_isSunk_0 : decode cX5_isSunk 0 = .ok (.aload_n 0, 1) := by decide +kernel
theorem dX5_isSunk_1 : decode cX5_isSunk 1 = .ok (.iload_n 1, 1) := by decide +kernel
theorem dX5_isSunk_2 : decode cX5_isSunk 2 = .ok (.bipush 11, 2) := by decide +kernel
theorem dX5_isSunk_4 : decode cX5_isSunk 4 = .ok (.invokevirtual 94, 3) := by decide +kernel
theorem dX5_isSunk_7 : decode cX5_isSunk 7 = .ok (.ifCond .le 36, 3) := by decide +kernel
theorem dX5_isSunk_10 : decode cX5_isSunk 10 = .ok (.iload_n 2, 1) := by decide +kernel
theorem dX5_isSunk_11 : decode cX5_isSunk 11 = .ok (.aload_n 0, 1) := by decide +kernel
theorem dX5_isSunk_12 : decode cX5_isSunk 12 = .ok (.iload_n 1, 1) := by decide +kernel
theorem dX5_isSunk_13 : decode cX5_isSunk 13 = .ok (.bipush 6, 2) := by decide +kernel
theorem dX5_isSunk_15 : decode cX5_isSunk 15 = .ok (.invokevirtual 94, 3) := by decide +kernel
theorem dX5_isSunk_18 : decode cX5_isSunk 18 = .ok (.iconst 1, 1) := by decide +kernel
theorem dX5_isSunk_19 : decode cX5_isSunk 19 = .ok (.isub, 1) := by decide +kernel
theorem dX5_isSunk_20 : decode cX5_isSunk 20 = .ok (.if_icmp .ge 23, 3) := by decide +kernel
theorem dX5_isSunk_23 : decode cX5_isSunk 23 = .ok (.aload_n 0, 1) := by decide +kernel
theorem dX5_isSunk_24 : decode cX5_isSunk 24 = .ok (.iload_n 1, 1) := by decide +kernel
theorem dX5_isSunk_25 : decode cX5_isSunk 25 = .ok (.iload_n 2, 1) := by decide +kernel
theorem dX5_isSunk_26 : decode cX5_isSunk 26 = .ok (.invokevirtual 97, 3) := by decide +kernel
theorem dX5_isSunk_29 : decode cX5_isSunk 29 = .ok (.aload_n 0, 1) := by decide +kernel
theorem dX5_isSunk_30 : decode cX5_isSunk 30 = .ok (.iload_n 1, 1) := by decide +kernel
theorem dX5_isSunk_31 : decode cX5_isSunk 31 = .ok (.bipush 10, 2) := by decide +kernel
theorem dX5_isSunk_33 : decode cX5_isSunk 33 = .ok (.invokevirtual 94, 3) := by decide +kernel
theorem dX5_isSunk_36 : decode cX5_isSunk 36 = .ok (.if_icmp .lt 7, 3) := by decide +kernel
theorem dX5_isSunk_39 : decode cX5_isSunk 39 = .ok (.iconst 1, 1) := by decide +kernel
theorem dX5_isSunk_40 : decode cX5_isSunk 40 = .ok (.goto 4, 3) := by decide +kernel
theorem dX5_isSunk_43 : decode cX5_isSunk 43 = .ok (.iconst 0, 1) := by decide +kernel
theorem dX5_isSunk_44 : decode cX5_isSunk 44 = .ok (.ireturn, 1) := by decide +kernel
set_option maxRecDepth 20000 in
theorem ggX5_isCalled_X5_own : GoodIn wsX5_isCalled wsX5_own := goodIn_r _ [5, 6, 12, 13, 14, 15, 16, 17, 18, 19, 20, 21] (by decide +kernel) (by decide +kernel)
set_option maxRecDepth 20000 in
theorem gX5_isCalled_X5_own : GoodIn wsX5_isCalled (wsV RX5 94 RX5 yX5_own wsX5_own) := goodIn_app (goodIn_of _ (by decide +kernel)) ggX5_isCalled_X5_own
set_option maxRecDepth 20000 in
theorem ggX5_isCalled_X5_couponDay : GoodIn wsX5_isCalled wsX5_couponDay := goodIn_r _ [10, 11, 12, 13, 14, 15, 16, 17, 18, 19, 20, 21] (by decide +kernel) (by decide +kernel)
set_option maxRecDepth 20000 in
theorem gX5_isCalled_X5_couponDay : GoodIn wsX5_isCalled (wsV RX5 97 RX5 yX5_couponDay wsX5_couponDay) := goodIn_app (goodIn_of _ (by decide +kernel)) ggX5_isCalled_X5_couponDay
theorem dX5_isCalled_0 : decode cX5_isCalled 0 = .ok (.aload_n 0, 1) := by decide +kernel
theorem dX5_isCalled_1 : decode cX5_isCalled 1 = .ok (.iload_n 1, 1) := by decide +kernel
theorem dX5_isCalled_2 : decode cX5_isCalled 2 = .ok (.bipush 13, 2) := by decide +kernel
theorem dX5_isCalled_4 : decode cX5_isCalled 4 = .ok (.invokevirtual 94, 3) := by decide +kernel
theorem dX5_isCalled_7 : decode cX5_isCalled 7 = .ok (.ifCond .le 36, 3) := by decide +kernel
theorem dX5_isCalled_10 : decode cX5_isCalled 10 = .ok (.iload_n 2, 1) := by decide +kernel
theorem dX5_isCalled_11 : decode cX5_isCalled 11 = .ok (.aload_n 0, 1) := by decide +kernel
theorem dX5_isCalled_12 : decode cX5_isCalled 12 = .ok (.iload_n 1, 1) := by decide +kernel
theorem dX5_isCalled_13 : decode cX5_isCalled 13 = .ok (.bipush 6, 2) := by decide +kernel
theorem dX5_isCalled_15 : decode cX5_isCalled 15 = .ok (.invokevirtual 94, 3) := by decide +kernel
theorem dX5_isCalled_18 : decode cX5_isCalled 18 = .ok (.iconst 1, 1) := by decide +kernel
theorem dX5_isCalled_19 : decode cX5_isCalled 19 = .ok (.isub, 1) := by decide +kernel
theorem dX5_isCalled_20 : decode cX5_isCalled 20 = .ok (.if_icmp .ge 23, 3) := by decide +kernel
theorem dX5_isCalled_23 : decode cX5_isCalled 23 = .ok (.aload_n 0, 1) := by decide +kernel
theorem dX5_isCalled_24 : decode cX5_isCalled 24 = .ok (.iload_n 1, 1) := by decide +kernel
theorem dX5_isCalled_25 : decode cX5_isCalled 25 = .ok (.iload_n 2, 1) := by decide +kernel
theorem dX5_isCalled_26 : decode cX5_isCalled 26 = .ok (.invokevirtual 97, 3) := by decide +kernel
theorem dX5_isCalled_29 : decode cX5_isCalled 29 = .ok (.aload_n 0, 1) := by decide +kernel
theorem dX5_isCalled_30 : decode cX5_isCalled 30 = .ok (.iload_n 1, 1) := by decide +kernel
theorem dX5_isCalled_31 : decode cX5_isCalled 31 = .ok (.bipush 12, 2) := by decide +kernel
theorem dX5_isCalled_33 : decode cX5_isCalled 33 = .ok (.invokevirtual 94, 3) := by decide +kernel
theorem dX5_isCalled_36 : decode cX5_isCalled 36 = .ok (.if_icmp .lt 7, 3) := by decide +kernel
theorem dX5_isCalled_39 : decode cX5_isCalled 39 = .ok (.iconst 1, 1) := by decide +kernel
theorem dX5_isCalled_40 : decode cX5_isCalled 40 = .ok (.goto 4, 3) := by decide +kernel
theorem dX5_isCalled_43 : decode cX5_isCalled 43 = .ok (.iconst 0, 1) := by decide +kernel
theorem dX5_isCalled_44 : decode cX5_isCalled 44 = .ok (.ireturn, 1) := by decide +kernel
set_option maxRecDepth 20000 in
theorem ggX5_leftBehind_X5_own : GoodIn wsX5_leftBehind wsX5_own := goodIn_r _ [9, 10, 20, 21, 22, 23, 24, 25, 26, 27, 28, 29] (by decide +kernel) (by decide +kernel)
set_option maxRecDepth 20000 in
theorem gX5_leftBehind_X5_own : GoodIn wsX5_leftBehind (wsV RX5 94 RX5 yX5_own wsX5_own) := goodIn_app (goodIn_of _ (by decide +kernel)) ggX5_leftBehind_X5_own
set_option maxRecDepth 20000 in
theorem ggX5_leftBehind_X5_isSunk : GoodIn wsX5_leftBehind wsX5_isSunk := goodIn_r _ [14, 5, 6, 7, 8, 9, 10, 15, 16, 17, 18, 19, 20, 21, 22, 23, 24, 25, 26, 27, 28, 29] (by decide +kernel) (by decide +kernel)
set_option maxRecDepth 20000 in
theorem gX5_leftBehind_X5_isSunk : GoodIn wsX5_leftBehind (wsV RX5 100 RX5 yX5_isSunk wsX5_isSunk) := goodIn_app (goodIn_of _ (by decide +kernel)) ggX5_leftBehind_X5_isSunk
theorem dX5_leftBehind_0 : decode cX5_leftBehind 0 = .ok (.aload_n 0, 1) := by decide +kernel
theorem dX5_leftBehind_1 : decode cX5_leftBehind 1 = .ok (.iload_n 1, 1) := by decide +kernel
theorem dX5_leftBehind_2 : decode cX5_leftBehind 2 = .ok (.iconst 5, 1) := by decide +kernel
theorem dX5_leftBehind_3 : decode cX5_leftBehind 3 = .ok (.invokevirtual 94, 3) := by decide +kernel
theorem dX5_leftBehind_6 : decode cX5_leftBehind 6 = .ok (.istore_n 3, 1) := by decide +kernel
theorem dX5_leftBehind_7 : decode cX5_leftBehind 7 = .ok (.aload_n 0, 1) := by decide +kernel
theorem dX5_leftBehind_8 : decode cX5_leftBehind 8 = .ok (.iload_n 1, 1) := by decide +kernel
theorem dX5_leftBehind_9 : decode cX5_leftBehind 9 = .ok (.bipush 7, 2) := by decide +kernel
theorem dX5_leftBehind_11 : decode cX5_leftBehind 11 = .ok (.invokevirtual 94, 3) := by decide +kernel
theorem dX5_leftBehind_14 : decode cX5_leftBehind 14 = .ok (.istore 4, 2) := by decide +kernel
theorem dX5_leftBehind_16 : decode cX5_leftBehind 16 = .ok (.iload 4, 2) := by decide +kernel
theorem dX5_leftBehind_18 : decode cX5_leftBehind 18 = .ok (.iload_n 2, 1) := by decide +kernel
theorem dX5_leftBehind_19 : decode cX5_leftBehind 19 = .ok (.if_icmp .gt 33, 3) := by decide +kernel
theorem dX5_leftBehind_22 : decode cX5_leftBehind 22 = .ok (.aload_n 0, 1) := by decide +kernel
theorem dX5_leftBehind_23 : decode cX5_leftBehind 23 = .ok (.iload_n 1, 1) := by decide +kernel
theorem dX5_leftBehind_24 : decode cX5_leftBehind 24 = .ok (.iload 4, 2) := by decide +kernel
theorem dX5_leftBehind_26 : decode cX5_leftBehind 26 = .ok (.invokevirtual 100, 3) := by decide +kernel
theorem dX5_leftBehind_29 : decode cX5_leftBehind 29 = .ok (.ifCond .eq 17, 3) := by decide +kernel
theorem dX5_leftBehind_32 : decode cX5_leftBehind 32 = .ok (.iconst 0, 1) := by decide +kernel
theorem dX5_leftBehind_33 : decode cX5_leftBehind 33 = .ok (.iload_n 3, 1) := by decide +kernel
theorem dX5_leftBehind_34 : decode cX5_leftBehind 34 = .ok (.aload_n 0, 1) := by decide +kernel
theorem dX5_leftBehind_35 : decode cX5_leftBehind 35 = .ok (.iload_n 1, 1) := by decide +kernel
theorem dX5_leftBehind_36 : decode cX5_leftBehind 36 = .ok (.bipush 11, 2) := by decide +kernel
theorem dX5_leftBehind_38 : decode cX5_leftBehind 38 = .ok (.invokevirtual 94, 3) := by decide +kernel
theorem dX5_leftBehind_41 : decode cX5_leftBehind 41 = .ok (.isub, 1) := by decide +kernel
theorem dX5_leftBehind_42 : decode cX5_leftBehind 42 = .ok (.invokestatic 104, 3) := by decide +kernel
theorem dX5_leftBehind_45 : decode cX5_leftBehind 45 = .ok (.istore_n 3, 1) := by decide +kernel
theorem dX5_leftBehind_46 : decode cX5_leftBehind 46 = .ok (.iinc 4 1, 3) := by decide +kernel
theorem dX5_leftBehind_49 : decode cX5_leftBehind 49 = .ok (.goto (-33), 3) := by decide +kernel
theorem dX5_leftBehind_52 : decode cX5_leftBehind 52 = .ok (.iload_n 3, 1) := by decide +kernel
theorem dX5_leftBehind_53 : decode cX5_leftBehind 53 = .ok (.ireturn, 1) := by decide +kernel
set_option maxRecDepth 20000 in
theorem ggX5_setSink_X5_isBond : GoodIn wsX5_setSink wsX5_isBond := goodIn_r _ [7, 8, 9, 10, 6, 11, 52, 53, 54, 55, 56, 57, 58, 59, 60, 61] (by decide +kernel) (by decide +kernel)
set_option maxRecDepth 20000 in
theorem gX5_setSink_X5_isBond : GoodIn wsX5_setSink (wsV RX5 107 RX5 yX5_isBond wsX5_isBond) := goodIn_app (goodIn_of _ (by decide +kernel)) ggX5_setSink_X5_isBond
set_option maxRecDepth 20000 in
theorem ggX5_setSink_X5_no : GoodIn wsX5_setSink wsX5_no := goodIn_r _ [15, 1, 52, 53, 54, 55, 56, 57, 58, 59, 60, 61] (by decide +kernel) (by decide +kernel)
set_option maxRecDepth 20000 in
theorem gX5_setSink_X5_no : GoodIn wsX5_setSink (wsV RX5 67 RX5 yX5_no wsX5_no) := goodIn_app (goodIn_of _ (by decide +kernel)) ggX5_setSink_X5_no
set_option maxRecDepth 20000 in
theorem ggX5_setSink_X5_isDate : GoodIn wsX5_setSink wsX5_isDate := goodIn_r _ [18, 19, 20, 9, 10, 6, 11, 21, 22, 23] (by decide +kernel) (by decide +kernel)
set_option maxRecDepth 20000 in
theorem gX5_setSink_X5_isDate : GoodIn wsX5_setSink (va_wsS RX5 64 yX5_isDate wsX5_isDate) := goodIn_app (goodIn_of _ (by decide +kernel)) ggX5_setSink_X5_isDate
set_option maxRecDepth 20000 in
theorem ggX5_setSink_X5_isIn : GoodIn wsX5_setSink wsX5_isIn := goodIn_r _ [11] (by decide +kernel) (by decide +kernel)
set_option maxRecDepth 20000 in
theorem gX5_setSink_X5_isIn : GoodIn wsX5_setSink (va_wsS RX5 46 yX5_isIn wsX5_isIn) := goodIn_app (goodIn_of _ (by decide +kernel)) ggX5_setSink_X5_isIn
set_option maxRecDepth 20000 in
theorem ggX5_setSink_X5_isThere : GoodIn wsX5_setSink wsX5_isThere := goodIn_r _ [27, 28, 29, 30, 6, 31, 2, 52, 53, 54, 55, 56, 57, 58, 59, 60, 61] (by decide +kernel) (by decide +kernel)
set_option maxRecDepth 20000 in
theorem gX5_setSink_X5_isThere : GoodIn wsX5_setSink (wsV RX5 110 RX5 yX5_isThere wsX5_isThere) := goodIn_app (goodIn_of _ (by decide +kernel)) ggX5_setSink_X5_isThere
set_option maxRecDepth 20000 in
theorem ggX5_setSink_X5_number : GoodIn wsX5_setSink wsX5_number := goodIn_r _ [34, 21, 22, 6, 23] (by decide +kernel) (by decide +kernel)
set_option maxRecDepth 20000 in
theorem gX5_setSink_X5_number : GoodIn wsX5_setSink (va_wsS RX5 8 yX5_number wsX5_number) := goodIn_app (goodIn_of _ (by decide +kernel)) ggX5_setSink_X5_number
set_option maxRecDepth 20000 in
theorem ggX5_setSink_X5_own : GoodIn wsX5_setSink wsX5_own := goodIn_r _ [31, 2, 52, 53, 54, 55, 56, 57, 58, 59, 60, 61] (by decide +kernel) (by decide +kernel)
set_option maxRecDepth 20000 in
theorem gX5_setSink_X5_own : GoodIn wsX5_setSink (wsV RX5 94 RX5 yX5_own wsX5_own) := goodIn_app (goodIn_of _ (by decide +kernel)) ggX5_setSink_X5_own
set_option maxRecDepth 20000 in
theorem ggX5_setSink_X5_leftBehind : GoodIn wsX5_setSink wsX5_leftBehind := goodIn_r _ [38, 39, 40, 41, 42, 28, 29, 30, 6, 31, 2, 43, 44, 45, 46, 47, 48, 49, 50, 51, 52, 53, 54, 55, 56, 57, 58, 59, 60, 61] (by decide +kernel) (by decide +kernel)
set_option maxRecDepth 20000 in
theorem gX5_setSink_X5_leftBehind : GoodIn wsX5_setSink (wsV RX5 113 RX5 yX5_leftBehind wsX5_leftBehind) := goodIn_app (goodIn_of _ (by decide +kernel)) ggX5_setSink_X5_leftBehind
theorem dX5_setSink_0 : decode cX5_setSink 0 = .ok (.aload_n 0, 1) := by decide +kernel
theorem dX5_setSink_1 : decode cX5_setSink 1 = .ok (.iconst 0, 1) := by decide +kernel
theorem dX5_setSink_2 : decode cX5_setSink 2 = .ok (.putfield 41, 3) := by decide +kernel
theorem dX5_setSink_5 : decode cX5_setSink 5 = .ok (.aload_n 0, 1) := by decide +kernel
theorem dX5_setSink_6 : decode cX5_setSink 6 = .ok (.iload_n 1, 1) := by decide +kernel
theorem dX5_setSink_7 : decode cX5_setSink 7 = .ok (.invokevirtual 107, 3) := by decide +kernel
theorem dX5_setSink_10 : decode cX5_setSink 10 = .ok (.ifCond .ne 9, 3) := by decide +kernel
theorem dX5_setSink_13 : decode cX5_setSink 13 = .ok (.aload_n 0, 1) := by decide +kernel
theorem dX5_setSink_14 : decode cX5_setSink 14 = .ok (.iconst 1, 1) := by decide +kernel
theorem dX5_setSink_15 : decode cX5_setSink 15 = .ok (.invokevirtual 67, 3) := by decide +kernel
theorem dX5_setSink_18 : decode cX5_setSink 18 = .ok (.ireturn, 1) := by decide +kernel
theorem dX5_setSink_19 : decode cX5_setSink 19 = .ok (.iload_n 2, 1) := by decide +kernel
theorem dX5_setSink_20 : decode cX5_setSink 20 = .ok (.invokestatic 64, 3) := by decide +kernel
theorem dX5_setSink_23 : decode cX5_setSink 23 = .ok (.ifCond .eq 14, 3) := by decide +kernel
theorem dX5_setSink_26 : decode cX5_setSink 26 = .ok (.iload_n 3, 1) := by decide +kernel
theorem dX5_setSink_27 : decode cX5_setSink 27 = .ok (.iconst 0, 1) := by decide +kernel
theorem dX5_setSink_28 : decode cX5_setSink 28 = .ok (.sipush 5000, 3) := by decide +kernel
theorem dX5_setSink_31 : decode cX5_setSink 31 = .ok (.invokestatic 46, 3) := by decide +kernel
theorem dX5_setSink_34 : decode cX5_setSink 34 = .ok (.ifCond .ne 9, 3) := by decide +kernel
theorem dX5_setSink_37 : decode cX5_setSink 37 = .ok (.aload_n 0, 1) := by decide +kernel
theorem dX5_setSink_38 : decode cX5_setSink 38 = .ok (.iconst 2, 1) := by decide +kernel
theorem dX5_setSink_39 : decode cX5_setSink 39 = .ok (.invokevirtual 67, 3) := by decide +kernel
theorem dX5_setSink_42 : decode cX5_setSink 42 = .ok (.ireturn, 1) := by decide +kernel
theorem dX5_setSink_43 : decode cX5_setSink 43 = .ok (.aload_n 0, 1) := by decide +kernel
theorem dX5_setSink_44 : decode cX5_setSink 44 = .ok (.iload_n 1, 1) := by decide +kernel
theorem dX5_setSink_45 : decode cX5_setSink 45 = .ok (.invokevirtual 110, 3) := by decide +kernel
theorem dX5_setSink_48 : decode cX5_setSink 48 = .ok (.ifCond .ne 9, 3) := by decide +kernel
theorem dX5_setSink_51 : decode cX5_setSink 51 = .ok (.aload_n 0, 1) := by decide +kernel
theorem dX5_setSink_52 : decode cX5_setSink 52 = .ok (.iconst 3, 1) := by decide +kernel
theorem dX5_setSink_53 : decode cX5_setSink 53 = .ok (.invokevirtual 67, 3) := by decide +kernel
theorem dX5_setSink_56 : decode cX5_setSink 56 = .ok (.ireturn, 1) := by decide +kernel
theorem dX5_setSink_57 : decode cX5_setSink 57 = .ok (.aload_n 0, 1) := by decide +kernel
theorem dX5_setSink_58 : decode cX5_setSink 58 = .ok (.getfield 31, 3) := by decide +kernel
theorem dX5_setSink_61 : decode cX5_setSink 61 = .ok (.bipush 14, 2) := by decide +kernel
theorem dX5_setSink_63 : decode cX5_setSink 63 = .ok (.iload_n 1, 1) := by decide +kernel
theorem dX5_setSink_64 : decode cX5_setSink 64 = .ok (.imul, 1) := by decide +kernel
theorem dX5_setSink_65 : decode cX5_setSink 65 = .ok (.bipush 10, 2) := by decide +kernel
theorem dX5_setSink_67 : decode cX5_setSink 67 = .ok (.iadd, 1) := by decide +kernel
theorem dX5_setSink_68 : decode cX5_setSink 68 = .ok (.iload_n 2, 1) := by decide +kernel
theorem dX5_setSink_69 : decode cX5_setSink 69 = .ok (.invokestatic 8, 3) := by decide +kernel
theorem dX5_setSink_72 : decode cX5_setSink 72 = .ok (.iastore, 1) := by decide +kernel
theorem dX5_setSink_73 : decode cX5_setSink 73 = .ok (.aload_n 0, 1) := by decide +kernel
theorem dX5_setSink_74 : decode cX5_setSink 74 = .ok (.getfield 31, 3) := by decide +kernel
theorem dX5_setSink_77 : decode cX5_setSink 77 = .ok (.bipush 14, 2) := by decide +kernel
theorem dX5_setSink_79 : decode cX5_setSink 79 = .ok (.iload_n 1, 1) := by decide +kernel
theorem dX5_setSink_80 : decode cX5_setSink 80 = .ok (.imul, 1) := by decide +kernel
theorem dX5_setSink_81 : decode cX5_setSink 81 = .ok (.bipush 11, 2) := by decide +kernel
theorem dX5_setSink_83 : decode cX5_setSink 83 = .ok (.iadd, 1) := by decide +kernel
theorem dX5_setSink_84 : decode cX5_setSink 84 = .ok (.iload_n 3, 1) := by decide +kernel
theorem dX5_setSink_85 : decode cX5_setSink 85 = .ok (.iastore, 1) := by decide +kernel
theorem dX5_setSink_86 : decode cX5_setSink 86 = .ok (.aload_n 0, 1) := by decide +kernel
theorem dX5_setSink_87 : decode cX5_setSink 87 = .ok (.iload_n 1, 1) := by decide +kernel
theorem dX5_setSink_88 : decode cX5_setSink 88 = .ok (.aload_n 0, 1) := by decide +kernel
theorem dX5_setSink_89 : decode cX5_setSink 89 = .ok (.iload_n 1, 1) := by decide +kernel
theorem dX5_setSink_90 : decode cX5_setSink 90 = .ok (.bipush 6, 2) := by decide +kernel
theorem dX5_setSink_92 : decode cX5_setSink 92 = .ok (.invokevirtual 94, 3) := by decide +kernel
theorem dX5_setSink_95 : decode cX5_setSink 95 = .ok (.iconst 1, 1) := by decide +kernel
theorem dX5_setSink_96 : decode cX5_setSink 96 = .ok (.isub, 1) := by decide +kernel
theorem dX5_setSink_97 : decode cX5_setSink 97 = .ok (.invokevirtual 113, 3) := by decide +kernel
theorem dX5_setSink_100 : decode cX5_setSink 100 = .ok (.ireturn, 1) := by decide +kernel
set_option maxRecDepth 20000 in
theorem ggX5_firstCall_X5_isThere : GoodIn wsX5_firstCall wsX5_isThere := goodIn_r _ [5, 6, 7, 8, 4, 9, 10, 20, 21, 22, 23, 24, 25, 26, 27, 28, 29] (by decide +kernel) (by decide +kernel)
set_option maxRecDepth 20000 in
theorem gX5_firstCall_X5_isThere : GoodIn wsX5_firstCall (wsV RX5 110 RX5 yX5_isThere wsX5_isThere) := goodIn_app (goodIn_of _ (by decide +kernel)) ggX5_firstCall_X5_isThere
set_option maxRecDepth 20000 in
theorem ggX5_firstCall_X5_own : GoodIn wsX5_firstCall wsX5_own := goodIn_r _ [9, 10, 20, 21, 22, 23, 24, 25, 26, 27, 28, 29] (by decide +kernel) (by decide +kernel)
set_option maxRecDepth 20000 in
theorem gX5_firstCall_X5_own : GoodIn wsX5_firstCall (wsV RX5 94 RX5 yX5_own wsX5_own) := goodIn_app (goodIn_of _ (by decide +kernel)) ggX5_firstCall_X5_own
set_option maxRecDepth 20000 in
theorem ggX5_firstCall_X5_isCalled : GoodIn wsX5_firstCall wsX5_isCalled := goodIn_r _ [14, 6, 7, 8, 4, 9, 10, 15, 16, 17, 18, 19, 20, 21, 22, 23, 24, 25, 26, 27, 28, 29] (by decide +kernel) (by decide +kernel)
set_option maxRecDepth 20000 in
theorem gX5_firstCall_X5_isCalled : GoodIn wsX5_firstCall (wsV RX5 116 RX5 yX5_isCalled wsX5_isCalled) := goodIn_app (goodIn_of _ (by decide +kernel)) ggX5_firstCall_X5_isCalled
theorem dX5_firstCall_0 : decode cX5_firstCall 0 = .ok (.aload_n 0, 1) := by decide +kernel
theorem dX5_firstCall_1 : decode cX5_firstCall 1 = .ok (.iload_n 1, 1) := by decide +kernel
theorem dX5_firstCall_2 : decode cX5_firstCall 2 = .ok (.invokevirtual 110, 3) := by decide +kernel
theorem dX5_firstCall_5 : decode cX5_firstCall 5 = .ok (.ifCond .ne 5, 3) := by decide +kernel
theorem dX5_firstCall_8 : decode cX5_firstCall 8 = .ok (.iconst (-1), 1) := by decide +kernel
theorem dX5_firstCall_9 : decode cX5_firstCall 9 = .ok (.ireturn, 1) := by decide +kernel
theorem dX5_firstCall_10 : decode cX5_firstCall 10 = .ok (.aload_n 0, 1) := by decide +kernel
theorem dX5_firstCall_11 : decode cX5_firstCall 11 = .ok (.iload_n 1, 1) := by decide +kernel
theorem dX5_firstCall_12 : decode cX5_firstCall 12 = .ok (.bipush 7, 2) := by decide +kernel
theorem dX5_firstCall_14 : decode cX5_firstCall 14 = .ok (.invokevirtual 94, 3) := by decide +kernel
theorem dX5_firstCall_17 : decode cX5_firstCall 17 = .ok (.istore_n 2, 1) := by decide +kernel
theorem dX5_firstCall_18 : decode cX5_firstCall 18 = .ok (.iload_n 2, 1) := by decide +kernel
theorem dX5_firstCall_19 : decode cX5_firstCall 19 = .ok (.aload_n 0, 1) := by decide +kernel
theorem dX5_firstCall_20 : decode cX5_firstCall 20 = .ok (.iload_n 1, 1) := by decide +kernel
theorem dX5_firstCall_21 : decode cX5_firstCall 21 = .ok (.bipush 6, 2) := by decide +kernel
theorem dX5_firstCall_23 : decode cX5_firstCall 23 = .ok (.invokevirtual 94, 3) := by decide +kernel
theorem dX5_firstCall_26 : decode cX5_firstCall 26 = .ok (.if_icmp .ge 20, 3) := by decide +kernel
theorem dX5_firstCall_29 : decode cX5_firstCall 29 = .ok (.aload_n 0, 1) := by decide +kernel
theorem dX5_firstCall_30 : decode cX5_firstCall 30 = .ok (.iload_n 1, 1) := by decide +kernel
theorem dX5_firstCall_31 : decode cX5_firstCall 31 = .ok (.iload_n 2, 1) := by decide +kernel
theorem dX5_firstCall_32 : decode cX5_firstCall 32 = .ok (.invokevirtual 116, 3) := by decide +kernel
theorem dX5_firstCall_35 : decode cX5_firstCall 35 = .ok (.ifCond .eq 5, 3) := by decide +kernel
theorem dX5_firstCall_38 : decode cX5_firstCall 38 = .ok (.iload_n 2, 1) := by decide +kernel
theorem dX5_firstCall_39 : decode cX5_firstCall 39 = .ok (.ireturn, 1) := by decide +kernel
theorem dX5_firstCall_40 : decode cX5_firstCall 40 = .ok (.iinc 2 1, 3) := by decide +kernel
theorem dX5_firstCall_43 : decode cX5_firstCall 43 = .ok (.goto (-25), 3) := by decide +kernel
theorem dX5_firstCall_46 : decode cX5_firstCall 46 = .ok (.iconst (-1), 1) := by decide +kernel
theorem dX5_firstCall_47 : decode cX5_firstCall 47 = .ok (.ireturn, 1) := by decide +kernel
set_option maxRecDepth 20000 in
theorem ggX5_setCall_X5_isBond : GoodIn wsX5_setCall wsX5_isBond := goodIn_r _ [7, 8, 9, 10, 6, 11, 48, 49, 50, 51, 52, 53, 54, 55, 56, 57] (by decide +kernel) (by decide +kernel)
set_option maxRecDepth 20000 in
theorem gX5_setCall_X5_isBond : GoodIn wsX5_setCall (wsV RX5 107 RX5 yX5_isBond wsX5_isBond) := goodIn_app (goodIn_of _ (by decide +kernel)) ggX5_setCall_X5_isBond
set_option maxRecDepth 20000 in
theorem ggX5_setCall_X5_no : GoodIn wsX5_setCall wsX5_no := goodIn_r _ [15, 1, 48, 49, 50, 51, 52, 53, 54, 55, 56, 57] (by decide +kernel) (by decide +kernel)
set_option maxRecDepth 20000 in
theorem gX5_setCall_X5_no : GoodIn wsX5_setCall (wsV RX5 67 RX5 yX5_no wsX5_no) := goodIn_app (goodIn_of _ (by decide +kernel)) ggX5_setCall_X5_no
set_option maxRecDepth 20000 in
theorem ggX5_setCall_X5_isDate : GoodIn wsX5_setCall wsX5_isDate := goodIn_r _ [18, 19, 20, 9, 10, 6, 11, 21, 22, 23] (by decide +kernel) (by decide +kernel)
set_option maxRecDepth 20000 in
theorem gX5_setCall_X5_isDate : GoodIn wsX5_setCall (va_wsS RX5 64 yX5_isDate wsX5_isDate) := goodIn_app (goodIn_of _ (by decide +kernel)) ggX5_setCall_X5_isDate
set_option maxRecDepth 20000 in
theorem ggX5_setCall_X5_isIn : GoodIn wsX5_setCall wsX5_isIn := goodIn_r _ [11] (by decide +kernel) (by decide +kernel)
set_option maxRecDepth 20000 in
theorem gX5_setCall_X5_isIn : GoodIn wsX5_setCall (va_wsS RX5 46 yX5_isIn wsX5_isIn) := goodIn_app (goodIn_of _ (by decide +kernel)) ggX5_setCall_X5_isIn
set_option maxRecDepth 20000 in
theorem ggX5_setCall_X5_isThere : GoodIn wsX5_setCall wsX5_isThere := goodIn_r _ [27, 28, 29, 30, 6, 31, 2, 48, 49, 50, 51, 52, 53, 54, 55, 56, 57] (by decide +kernel) (by decide +kernel)
set_option maxRecDepth 20000 in
theorem gX5_setCall_X5_isThere : GoodIn wsX5_setCall (wsV RX5 110 RX5 yX5_isThere wsX5_isThere) := goodIn_app (goodIn_of _ (by decide +kernel)) ggX5_setCall_X5_isThere
set_option maxRecDepth 20000 in
theorem ggX5_setCall_X5_number : GoodIn wsX5_setCall wsX5_number := goodIn_r _ [34, 21, 22, 6, 23] (by decide +kernel) (by decide +kernel)
set_option maxRecDepth 20000 in
theorem gX5_setCall_X5_number : GoodIn wsX5_setCall (va_wsS RX5 8 yX5_number wsX5_number) := goodIn_app (goodIn_of _ (by decide +kernel)) ggX5_setCall_X5_number
set_option maxRecDepth 20000 in
theorem ggX5_setCall_X5_firstCall : GoodIn wsX5_setCall wsX5_firstCall := goodIn_r _ [38, 24, 25, 26, 6, 27, 28, 29, 30, 31, 2, 39, 40, 41, 42, 43, 44, 45, 46, 47, 48, 49, 50, 51, 52, 53, 54, 55, 56, 57] (by decide +kernel) (by decide +kernel)
set_option maxRecDepth 20000 in
theorem gX5_setCall_X5_firstCall : GoodIn wsX5_setCall (wsV RX5 119 RX5 yX5_firstCall wsX5_firstCall) := goodIn_app (goodIn_of _ (by decide +kernel)) ggX5_setCall_X5_firstCall
theorem dX5_setCall_0 : decode cX5_setCall 0 = .ok (.aload_n 0, 1) := by decide +kernel
theorem dX5_setCall_1 : decode cX5_setCall 1 = .ok (.iconst 0, 1) := by decide +kernel
theorem dX5_setCall_2 : decode cX5_setCall 2 = .ok (.putfield 41, 3) := by decide +kernel
theorem dX5_setCall_5 : decode cX5_setCall 5 = .ok (.aload_n 0, 1) := by decide +kernel
theorem dX5_setCall_6 : decode cX5_setCall 6 = .ok (.iload_n 1, 1) := by decide +kernel
theorem dX5_setCall_7 : decode cX5_setCall 7 = .ok (.invokevirtual 107, 3) := by decide +kernel
theorem dX5_setCall_10 : decode cX5_setCall 10 = .ok (.ifCond .ne 9, 3) := by decide +kernel
theorem dX5_setCall_13 : decode cX5_setCall 13 = .ok (.aload_n 0, 1) := by decide +kernel
theorem dX5_setCall_14 : decode cX5_setCall 14 = .ok (.iconst 1, 1) := by decide +kernel
theorem dX5_setCall_15 : decode cX5_setCall 15 = .ok (.invokevirtual 67, 3) := by decide +kernel
theorem dX5_setCall_18 : decode cX5_setCall 18 = .ok (.ireturn, 1) := by decide +kernel
theorem dX5_setCall_19 : decode cX5_setCall 19 = .ok (.iload_n 2, 1) := by decide +kernel
theorem dX5_setCall_20 : decode cX5_setCall 20 = .ok (.invokestatic 64, 3) := by decide +kernel
theorem dX5_setCall_23 : decode cX5_setCall 23 = .ok (.ifCond .eq 20, 3) := by decide +kernel
theorem dX5_setCall_26 : decode cX5_setCall 26 = .ok (.iload_n 3, 1) := by decide +kernel
theorem dX5_setCall_27 : decode cX5_setCall 27 = .ok (.ifCond .eq 22, 3) := by decide +kernel
theorem dX5_setCall_30 : decode cX5_setCall 30 = .ok (.iload_n 3, 1) := by decide +kernel
theorem dX5_setCall_31 : decode cX5_setCall 31 = .ok (.sipush 8000, 3) := by decide +kernel
theorem dX5_setCall_34 : decode cX5_setCall 34 = .ok (.sipush 15000, 3) := by decide +kernel
theorem dX5_setCall_37 : decode cX5_setCall 37 = .ok (.invokestatic 46, 3) := by decide +kernel
theorem dX5_setCall_40 : decode cX5_setCall 40 = .ok (.ifCond .ne 9, 3) := by decide +kernel
theorem dX5_setCall_43 : decode cX5_setCall 43 = .ok (.aload_n 0, 1) := by decide +kernel
theorem dX5_setCall_44 : decode cX5_setCall 44 = .ok (.iconst 2, 1) := by decide +kernel
theorem dX5_setCall_45 : decode cX5_setCall 45 = .ok (.invokevirtual 67, 3) := by decide +kernel
theorem dX5_setCall_48 : decode cX5_setCall 48 = .ok (.ireturn, 1) := by decide +kernel
theorem dX5_setCall_49 : decode cX5_setCall 49 = .ok (.aload_n 0, 1) := by decide +kernel
theorem dX5_setCall_50 : decode cX5_setCall 50 = .ok (.iload_n 1, 1) := by decide +kernel
theorem dX5_setCall_51 : decode cX5_setCall 51 = .ok (.invokevirtual 110, 3) := by decide +kernel
theorem dX5_setCall_54 : decode cX5_setCall 54 = .ok (.ifCond .ne 9, 3) := by decide +kernel
theorem dX5_setCall_57 : decode cX5_setCall 57 = .ok (.aload_n 0, 1) := by decide +kernel
theorem dX5_setCall_58 : decode cX5_setCall 58 = .ok (.iconst 3, 1) := by decide +kernel
theorem dX5_setCall_59 : decode cX5_setCall 59 = .ok (.invokevirtual 67, 3) := by decide +kernel
theorem dX5_setCall_62 : decode cX5_setCall 62 = .ok (.ireturn, 1) := by decide +kernel
theorem dX5_setCall_63 : decode cX5_setCall 63 = .ok (.aload_n 0, 1) := by decide +kernel
theorem dX5_setCall_64 : decode cX5_setCall 64 = .ok (.getfield 31, 3) := by decide +kernel
theorem dX5_setCall_67 : decode cX5_setCall 67 = .ok (.bipush 14, 2) := by decide +kernel
theorem dX5_setCall_69 : decode cX5_setCall 69 = .ok (.iload_n 1, 1) := by decide +kernel
theorem dX5_setCall_70 : decode cX5_setCall 70 = .ok (.imul, 1) := by decide +kernel
theorem dX5_setCall_71 : decode cX5_setCall 71 = .ok (.bipush 12, 2) := by decide +kernel
theorem dX5_setCall_73 : decode cX5_setCall 73 = .ok (.iadd, 1) := by decide +kernel
theorem dX5_setCall_74 : decode cX5_setCall 74 = .ok (.iload_n 2, 1) := by decide +kernel
theorem dX5_setCall_75 : decode cX5_setCall 75 = .ok (.invokestatic 8, 3) := by decide +kernel
theorem dX5_setCall_78 : decode cX5_setCall 78 = .ok (.iastore, 1) := by decide +kernel
theorem dX5_setCall_79 : decode cX5_setCall 79 = .ok (.aload_n 0, 1) := by decide +kernel
theorem dX5_setCall_80 : decode cX5_setCall 80 = .ok (.getfield 31, 3) := by decide +kernel
theorem dX5_setCall_83 : decode cX5_setCall 83 = .ok (.bipush 14, 2) := by decide +kernel
theorem dX5_setCall_85 : decode cX5_setCall 85 = .ok (.iload_n 1, 1) := by decide +kernel
theorem dX5_setCall_86 : decode cX5_setCall 86 = .ok (.imul, 1) := by decide +kernel
theorem dX5_setCall_87 : decode cX5_setCall 87 = .ok (.bipush 13, 2) := by decide +kernel
theorem dX5_setCall_89 : decode cX5_setCall 89 = .ok (.iadd, 1) := by decide +kernel
theorem dX5_setCall_90 : decode cX5_setCall 90 = .ok (.iload_n 3, 1) := by decide +kernel
theorem dX5_setCall_91 : decode cX5_setCall 91 = .ok (.iastore, 1) := by decide +kernel
theorem dX5_setCall_92 : decode cX5_setCall 92 = .ok (.aload_n 0, 1) := by decide +kernel
theorem dX5_setCall_93 : decode cX5_setCall 93 = .ok (.iload_n 1, 1) := by decide +kernel
theorem dX5_setCall_94 : decode cX5_setCall 94 = .ok (.invokevirtual 119, 3) := by decide +kernel
theorem dX5_setCall_97 : decode cX5_setCall 97 = .ok (.ireturn, 1) := by decide +kernel
set_option maxRecDepth 20000 in
theorem ggX5_setRate_X5_isIn : GoodIn wsX5_setRate wsX5_isIn := goodIn_r _ [6] (by decide +kernel) (by decide +kernel)
set_option maxRecDepth 20000 in
theorem gX5_setRate_X5_isIn : GoodIn wsX5_setRate (va_wsS RX5 46 yX5_isIn wsX5_isIn) := goodIn_app (goodIn_of _ (by decide +kernel)) ggX5_setRate_X5_isIn
set_option maxRecDepth 20000 in
theorem ggX5_setRate_X5_no : GoodIn wsX5_setRate wsX5_no := goodIn_r _ [10, 1, 11, 12, 13, 14, 15, 16, 17, 18, 19, 20] (by decide +kernel) (by decide +kernel)
set_option maxRecDepth 20000 in
theorem gX5_setRate_X5_no : GoodIn wsX5_setRate (wsV RX5 67 RX5 yX5_no wsX5_no) := goodIn_app (goodIn_of _ (by decide +kernel)) ggX5_setRate_X5_no
theorem dX5_setRate_0 : decode cX5_setRate 0 = .ok (.aload_n 0, 1) := by decide +kernel
theorem dX5_setRate_1 : decode cX5_setRate 1 = .ok (.iconst 0, 1) := by decide +kernel
theorem dX5_setRate_2 : decode cX5_setRate 2 = .ok (.putfield 41, 3) := by decide +kernel
theorem dX5_setRate_5 : decode cX5_setRate 5 = .ok (.iload_n 1, 1) := by decide +kernel
theorem dX5_setRate_6 : decode cX5_setRate 6 = .ok (.iconst 0, 1) := by decide +kernel
theorem dX5_setRate_7 : decode cX5_setRate 7 = .ok (.sipush 2000, 3) := by decide +kernel
theorem dX5_setRate_10 : decode cX5_setRate 10 = .ok (.invokestatic 46, 3) := by decide +kernel
theorem dX5_setRate_13 : decode cX5_setRate 13 = .ok (.ifCond .ne 9, 3) := by decide +kernel
theorem dX5_setRate_16 : decode cX5_setRate 16 = .ok (.aload_n 0, 1) := by decide +kernel
theorem dX5_setRate_17 : decode cX5_setRate 17 = .ok (.iconst 1, 1) := by decide +kernel
theorem dX5_setRate_18 : decode cX5_setRate 18 = .ok (.invokevirtual 67, 3) := by decide +kernel
theorem dX5_setRate_21 : decode cX5_setRate 21 = .ok (.ireturn, 1) := by decide +kernel
theorem dX5_setRate_22 : decode cX5_setRate 22 = .ok (.aload_n 0, 1) := by decide +kernel
theorem dX5_setRate_23 : decode cX5_setRate 23 = .ok (.getfield 24, 3) := by decide +kernel
theorem dX5_setRate_26 : decode cX5_setRate 26 = .ok (.istore_n 2, 1) := by decide +kernel
theorem dX5_setRate_27 : decode cX5_setRate 27 = .ok (.aload_n 0, 1) := by decide +kernel
theorem dX5_setRate_28 : decode cX5_setRate 28 = .ok (.iload_n 1, 1) := by decide +kernel
theorem dX5_setRate_29 : decode cX5_setRate 29 = .ok (.putfield 24, 3) := by decide +kernel
theorem dX5_setRate_32 : decode cX5_setRate 32 = .ok (.iload_n 2, 1) := by decide +kernel
theorem dX5_setRate_33 : decode cX5_setRate 33 = .ok (.ireturn, 1) := by decide +kernel
set_option maxRecDepth 20000 in
theorem ggX5_told_X5_own : GoodIn wsX5_told wsX5_own := goodIn_r _ [5, 6, 17, 18, 19, 20, 21, 22, 23, 24, 25, 26] (by decide +kernel) (by decide +kernel)
set_option maxRecDepth 20000 in
theorem gX5_told_X5_own : GoodIn wsX5_told (wsV RX5 94 RX5 yX5_own wsX5_own) := goodIn_app (goodIn_of _ (by decide +kernel)) ggX5_told_X5_own
set_option maxRecDepth 20000 in
theorem ggX5_told_X5_date : GoodIn wsX5_told wsX5_date := goodIn_r _ [9, 10, 11, 4, 12] (by decide +kernel) (by decide +kernel)
set_option maxRecDepth 20000 in
theorem gX5_told_X5_date : GoodIn wsX5_told (va_wsS RX5 70 yX5_date wsX5_date) := goodIn_app (goodIn_of _ (by decide +kernel)) ggX5_told_X5_date
set_option maxRecDepth 20000 in
theorem ggX5_told_X5_isThere : GoodIn wsX5_told wsX5_isThere := goodIn_r _ [16, 1, 2, 3, 4, 5, 6, 17, 18, 19, 20, 21, 22, 23, 24, 25, 26] (by decide +kernel) (by decide +kernel)
set_option maxRecDepth 20000 in
theorem gX5_told_X5_isThere : GoodIn wsX5_told (wsV RX5 110 RX5 yX5_isThere wsX5_isThere) := goodIn_app (goodIn_of _ (by decide +kernel)) ggX5_told_X5_isThere
theorem dX5_told_0 : decode cX5_told 0 = .ok (.iload_n 2, 1) := by decide +kernel
theorem dX5_told_1 : decode cX5_told 1 = .ok (.tableswitch 133 0 10 #[59, 69, 133, 133, 133, 133, 79, 89, 97, 117, 125], 59) := by decide +kernel
theorem dX5_told_60 : decode cX5_told 60 = .ok (.aload_n 0, 1) := by decide +kernel
theorem dX5_told_61 : decode cX5_told 61 = .ok (.iload_n 1, 1) := by decide +kernel
theorem dX5_told_62 : decode cX5_told 62 = .ok (.iconst 0, 1) := by decide +kernel
theorem dX5_told_63 : decode cX5_told 63 = .ok (.invokevirtual 94, 3) := by decide +kernel
theorem dX5_told_66 : decode cX5_told 66 = .ok (.invokestatic 70, 3) := by decide +kernel
theorem dX5_told_69 : decode cX5_told 69 = .ok (.ireturn, 1) := by decide +kernel
theorem dX5_told_70 : decode cX5_told 70 = .ok (.aload_n 0, 1) := by decide +kernel
theorem dX5_told_71 : decode cX5_told 71 = .ok (.iload_n 1, 1) := by decide +kernel
theorem dX5_told_72 : decode cX5_told 72 = .ok (.iconst 1, 1) := by decide +kernel
theorem dX5_told_73 : decode cX5_told 73 = .ok (.invokevirtual 94, 3) := by decide +kernel
theorem dX5_told_76 : decode cX5_told 76 = .ok (.invokestatic 70, 3) := by decide +kernel
theorem dX5_told_79 : decode cX5_told 79 = .ok (.ireturn, 1) := by decide +kernel
theorem dX5_told_80 : decode cX5_told 80 = .ok (.bipush 10, 2) := by decide +kernel
theorem dX5_told_82 : decode cX5_told 82 = .ok (.aload_n 0, 1) := by decide +kernel
theorem dX5_told_83 : decode cX5_told 83 = .ok (.iload_n 1, 1) := by decide +kernel
theorem dX5_told_84 : decode cX5_told 84 = .ok (.iconst 5, 1) := by decide +kernel
theorem dX5_told_85 : decode cX5_told 85 = .ok (.invokevirtual 94, 3) := by decide +kernel
theorem dX5_told_88 : decode cX5_told 88 = .ok (.imul, 1) := by decide +kernel
theorem dX5_told_89 : decode cX5_told 89 = .ok (.ireturn, 1) := by decide +kernel
theorem dX5_told_90 : decode cX5_told 90 = .ok (.aload_n 0, 1) := by decide +kernel
theorem dX5_told_91 : decode cX5_told 91 = .ok (.iload_n 1, 1) := by decide +kernel
theorem dX5_told_92 : decode cX5_told 92 = .ok (.bipush 6, 2) := by decide +kernel
theorem dX5_told_94 : decode cX5_told 94 = .ok (.invokevirtual 94, 3) := by decide +kernel
theorem dX5_told_97 : decode cX5_told 97 = .ok (.ireturn, 1) := by decide +kernel
theorem dX5_told_98 : decode cX5_told 98 = .ok (.aload_n 0, 1) := by decide +kernel
theorem dX5_told_99 : decode cX5_told 99 = .ok (.iload_n 1, 1) := by decide +kernel
theorem dX5_told_100 : decode cX5_told 100 = .ok (.invokevirtual 110, 3) := by decide +kernel
theorem dX5_told_103 : decode cX5_told 103 = .ok (.ifCond .eq 13, 3) := by decide +kernel
theorem dX5_told_106 : decode cX5_told 106 = .ok (.aload_n 0, 1) := by decide +kernel
theorem dX5_told_107 : decode cX5_told 107 = .ok (.iload_n 1, 1) := by decide +kernel
theorem dX5_told_108 : decode cX5_told 108 = .ok (.bipush 7, 2) := by decide +kernel
theorem dX5_told_110 : decode cX5_told 110 = .ok (.invokevirtual 94, 3) := by decide +kernel
theorem dX5_told_113 : decode cX5_told 113 = .ok (.goto 4, 3) := by decide +kernel
theorem dX5_told_116 : decode cX5_told 116 = .ok (.iconst (-1), 1) := by decide +kernel
theorem dX5_told_117 : decode cX5_told 117 = .ok (.ireturn, 1) := by decide +kernel
theorem dX5_told_118 : decode cX5_told 118 = .ok (.aload_n 0, 1) := by decide +kernel
theorem dX5_told_119 : decode cX5_told 119 = .ok (.iload_n 1, 1) := by decide +kernel
theorem dX5_told_120 : decode cX5_told 120 = .ok (.bipush 8, 2) := by decide +kernel
theorem dX5_told_122 : decode cX5_told 122 = .ok (.invokevirtual 94, 3) := by decide +kernel
theorem dX5_told_125 : decode cX5_told 125 = .ok (.ireturn, 1) := by decide +kernel
theorem dX5_told_126 : decode cX5_told 126 = .ok (.aload_n 0, 1) := by decide +kernel
theorem dX5_told_127 : decode cX5_told 127 = .ok (.iload_n 1, 1) := by decide +kernel
theorem dX5_told_128 : decode cX5_told 128 = .ok (.bipush 9, 2) := by decide +kernel
theorem dX5_told_130 : decode cX5_told 130 = .ok (.invokevirtual 94, 3) := by decide +kernel
theorem dX5_told_133 : decode cX5_told 133 = .ok (.ireturn, 1) := by decide +kernel
theorem dX5_told_134 : decode cX5_told 134 = .ok (.aload_n 0, 1) := by decide +kernel
theorem dX5_told_135 : decode cX5_told 135 = .ok (.iload_n 1, 1) := by decide +kernel
theorem dX5_told_136 : decode cX5_told 136 = .ok (.iload_n 2, 1) := by decide +kernel
theorem dX5_told_137 : decode cX5_told 137 = .ok (.invokevirtual 94, 3) := by decide +kernel
theorem dX5_told_140 : decode cX5_told 140 = .ok (.ireturn, 1) := by decide +kernel
set_option maxRecDepth 20000 in
theorem ggX5_bond_X5_isBond : GoodIn wsX5_bond wsX5_isBond := goodIn_r _ [6, 7, 8, 9, 5, 10, 34, 35, 36, 37, 38, 39, 40, 41, 42, 43] (by decide +kernel) (by decide +kernel)
set_option maxRecDepth 20000 in
theorem gX5_bond_X5_isBond : GoodIn wsX5_bond (wsV RX5 107 RX5 yX5_isBond wsX5_isBond) := goodIn_app (goodIn_of _ (by decide +kernel)) ggX5_bond_X5_isBond
set_option maxRecDepth 20000 in
theorem ggX5_bond_X5_isIn : GoodIn wsX5_bond wsX5_isIn := goodIn_r _ [10] (by decide +kernel) (by decide +kernel)
set_option maxRecDepth 20000 in
theorem gX5_bond_X5_isIn : GoodIn wsX5_bond (va_wsS RX5 46 yX5_isIn wsX5_isIn) := goodIn_app (goodIn_of _ (by decide +kernel)) ggX5_bond_X5_isIn
set_option maxRecDepth 20000 in
theorem ggX5_bond_X5_told : GoodIn wsX5_bond wsX5_told := goodIn_r _ [14, 15, 16, 17, 5, 18, 19, 20, 21, 22, 23, 24, 25, 26, 27, 28, 29, 34, 35, 36, 37, 38, 39, 40, 41, 42, 43] (by decide +kernel) (by decide +kernel)
set_option maxRecDepth 20000 in
theorem gX5_bond_X5_told : GoodIn wsX5_bond (wsV RX5 122 RX5 yX5_told wsX5_told) := goodIn_app (goodIn_of _ (by decide +kernel)) ggX5_bond_X5_told
set_option maxRecDepth 20000 in
theorem ggX5_bond_X5_no : GoodIn wsX5_bond wsX5_no := goodIn_r _ [33, 1, 34, 35, 36, 37, 38, 39, 40, 41, 42, 43] (by decide +kernel) (by decide +kernel)
set_option maxRecDepth 20000 in
theorem gX5_bond_X5_no : GoodIn wsX5_bond (wsV RX5 67 RX5 yX5_no wsX5_no) := goodIn_app (goodIn_of _ (by decide +kernel)) ggX5_bond_X5_no
theorem dX5_bond_0 : decode cX5_bond 0 = .ok (.aload_n 0, 1) := by decide +kernel
theorem dX5_bond_1 : decode cX5_bond 1 = .ok (.iconst 0, 1) := by decide +kernel
theorem dX5_bond_2 : decode cX5_bond 2 = .ok (.putfield 41, 3) := by decide +kernel
theorem dX5_bond_5 : decode cX5_bond 5 = .ok (.aload_n 0, 1) := by decide +kernel
theorem dX5_bond_6 : decode cX5_bond 6 = .ok (.iload_n 1, 1) := by decide +kernel
theorem dX5_bond_7 : decode cX5_bond 7 = .ok (.invokevirtual 107, 3) := by decide +kernel
theorem dX5_bond_10 : decode cX5_bond 10 = .ok (.ifCond .eq 22, 3) := by decide +kernel
theorem dX5_bond_13 : decode cX5_bond 13 = .ok (.iload_n 2, 1) := by decide +kernel
theorem dX5_bond_14 : decode cX5_bond 14 = .ok (.iconst 0, 1) := by decide +kernel
theorem dX5_bond_15 : decode cX5_bond 15 = .ok (.bipush 10, 2) := by decide +kernel
theorem dX5_bond_17 : decode cX5_bond 17 = .ok (.invokestatic 46, 3) := by decide +kernel
theorem dX5_bond_20 : decode cX5_bond 20 = .ok (.ifCond .eq 12, 3) := by decide +kernel
theorem dX5_bond_23 : decode cX5_bond 23 = .ok (.aload_n 0, 1) := by decide +kernel
theorem dX5_bond_24 : decode cX5_bond 24 = .ok (.iload_n 1, 1) := by decide +kernel
theorem dX5_bond_25 : decode cX5_bond 25 = .ok (.iload_n 2, 1) := by decide +kernel
theorem dX5_bond_26 : decode cX5_bond 26 = .ok (.invokevirtual 122, 3) := by decide +kernel
theorem dX5_bond_29 : decode cX5_bond 29 = .ok (.goto 8, 3) := by decide +kernel
theorem dX5_bond_32 : decode cX5_bond 32 = .ok (.aload_n 0, 1) := by decide +kernel
theorem dX5_bond_33 : decode cX5_bond 33 = .ok (.iconst 1, 1) := by decide +kernel
theorem dX5_bond_34 : decode cX5_bond 34 = .ok (.invokevirtual 67, 3) := by decide +kernel
theorem dX5_bond_37 : decode cX5_bond 37 = .ok (.ireturn, 1) := by decide +kernel
theorem dX5_thirty_0 : decode cX5_thirty 0 = .ok (.bipush 30, 2) := by decide +kernel
theorem dX5_thirty_2 : decode cX5_thirty 2 = .ok (.iload_n 0, 1) := by decide +kernel
theorem dX5_thirty_3 : decode cX5_thirty 3 = .ok (.bipush 100, 2) := by decide +kernel
theorem dX5_thirty_5 : decode cX5_thirty 5 = .ok (.irem, 1) := by decide +kernel
theorem dX5_thirty_6 : decode cX5_thirty 6 = .ok (.invokestatic 80, 3) := by decide +kernel
theorem dX5_thirty_9 : decode cX5_thirty 9 = .ok (.istore_n 2, 1) := by decide +kernel
theorem dX5_thirty_10 : decode cX5_thirty 10 = .ok (.iload_n 1, 1) := by decide +kernel
theorem dX5_thirty_11 : decode cX5_thirty 11 = .ok (.bipush 100, 2) := by decide +kernel
theorem dX5_thirty_13 : decode cX5_thirty 13 = .ok (.irem, 1) := by decide +kernel
theorem dX5_thirty_14 : decode cX5_thirty 14 = .ok (.bipush 31, 2) := by decide +kernel
theorem dX5_thirty_16 : decode cX5_thirty 16 = .ok (.if_icmp .ne 14, 3) := by decide +kernel
theorem dX5_thirty_19 : decode cX5_thirty 19 = .ok (.iload_n 2, 1) := by decide +kernel
theorem dX5_thirty_20 : decode cX5_thirty 20 = .ok (.bipush 30, 2) := by decide +kernel
theorem dX5_thirty_22 : decode cX5_thirty 22 = .ok (.if_icmp .ne 8, 3) := by decide +kernel
theorem dX5_thirty_25 : decode cX5_thirty 25 = .ok (.bipush 30, 2) := by decide +kernel
theorem dX5_thirty_27 : decode cX5_thirty 27 = .ok (.goto 7, 3) := by decide +kernel
theorem dX5_thirty_30 : decode cX5_thirty 30 = .ok (.iload_n 1, 1) := by decide +kernel
theorem dX5_thirty_31 : decode cX5_thirty 31 = .ok (.bipush 100, 2) := by decide +kernel
theorem dX5_thirty_33 : decode cX5_thirty 33 = .ok (.irem, 1) := by decide +kernel
theorem dX5_thirty_34 : decode cX5_thirty 34 = .ok (.istore_n 3, 1) := by decide +kernel
theorem dX5_thirty_35 : decode cX5_thirty 35 = .ok (.sipush 360, 3) := by decide +kernel
theorem dX5_thirty_38 : decode cX5_thirty 38 = .ok (.iload_n 1, 1) := by decide +kernel
theorem dX5_thirty_39 : decode cX5_thirty 39 = .ok (.sipush 10000, 3) := by decide +kernel
theorem dX5_thirty_42 : decode cX5_thirty 42 = .ok (.idiv, 1) := by decide +kernel
theorem dX5_thirty_43 : decode cX5_thirty 43 = .ok (.iload_n 0, 1) := by decide +kernel
theorem dX5_thirty_44 : decode cX5_thirty 44 = .ok (.sipush 10000, 3) := by decide +kernel
theorem dX5_thirty_47 : decode cX5_thirty 47 = .ok (.idiv, 1) := by decide +kernel
theorem dX5_thirty_48 : decode cX5_thirty 48 = .ok (.isub, 1) := by decide +kernel
theorem dX5_thirty_49 : decode cX5_thirty 49 = .ok (.imul, 1) := by decide +kernel
theorem dX5_thirty_50 : decode cX5_thirty 50 = .ok (.bipush 30, 2) := by decide +kernel
theorem dX5_thirty_52 : decode cX5_thirty 52 = .ok (.iload_n 1, 1) := by decide +kernel
theorem dX5_thirty_53 : decode cX5_thirty 53 = .ok (.bipush 100, 2) := by decide +kernel
theorem dX5_thirty_55 : decode cX5_thirty 55 = .ok (.idiv, 1) := by decide +kernel
theorem dX5_thirty_56 : decode cX5_thirty 56 = .ok (.bipush 100, 2) := by decide +kernel
theorem dX5_thirty_58 : decode cX5_thirty 58 = .ok (.irem, 1) := by decide +kernel
theorem dX5_thirty_59 : decode cX5_thirty 59 = .ok (.iload_n 0, 1) := by decide +kernel
theorem dX5_thirty_60 : decode cX5_thirty 60 = .ok (.bipush 100, 2) := by decide +kernel
theorem dX5_thirty_62 : decode cX5_thirty 62 = .ok (.idiv, 1) := by decide +kernel
theorem dX5_thirty_63 : decode cX5_thirty 63 = .ok (.bipush 100, 2) := by decide +kernel
theorem dX5_thirty_65 : decode cX5_thirty 65 = .ok (.irem, 1) := by decide +kernel
theorem dX5_thirty_66 : decode cX5_thirty 66 = .ok (.isub, 1) := by decide +kernel
theorem dX5_thirty_67 : decode cX5_thirty 67 = .ok (.imul, 1) := by decide +kernel
theorem dX5_thirty_68 : decode cX5_thirty 68 = .ok (.iadd, 1) := by decide +kernel
theorem dX5_thirty_69 : decode cX5_thirty 69 = .ok (.iload_n 3, 1) := by decide +kernel
theorem dX5_thirty_70 : decode cX5_thirty 70 = .ok (.iadd, 1) := by decide +kernel
theorem dX5_thirty_71 : decode cX5_thirty 71 = .ok (.iload_n 2, 1) := by decide +kernel
theorem dX5_thirty_72 : decode cX5_thirty 72 = .ok (.isub, 1) := by decide +kernel
theorem dX5_thirty_73 : decode cX5_thirty 73 = .ok (.ireturn, 1) := by decide +kernel
set_option maxRecDepth 20000 in
theorem ggX5_interest_X5_own : GoodIn wsX5_interest wsX5_own := goodIn_r _ [8, 9, 28, 29, 30, 31, 32, 33, 34, 35, 36, 37] (by decide +kernel) (by decide +kernel)
set_option maxRecDepth 20000 in
theorem gX5_interest_X5_own : GoodIn wsX5_interest (wsV RX5 94 RX5 yX5_own wsX5_own) := goodIn_app (goodIn_of _ (by decide +kernel)) ggX5_interest_X5_own
set_option maxRecDepth 20000 in
theorem ggX5_interest_X5_date : GoodIn wsX5_interest wsX5_date := goodIn_r _ [12, 13, 14, 7, 15] (by decide +kernel) (by decide +kernel)
set_option maxRecDepth 20000 in
theorem gX5_interest_X5_date : GoodIn wsX5_interest (va_wsS RX5 70 yX5_date wsX5_date) := goodIn_app (goodIn_of _ (by decide +kernel)) ggX5_interest_X5_date
set_option maxRecDepth 20000 in
theorem ggX5_interest_X5_thirty : GoodIn wsX5_interest wsX5_thirty := goodIn_r _ [18, 19, 20, 21, 22] (by decide +kernel) (by decide +kernel)
set_option maxRecDepth 20000 in
theorem gX5_interest_X5_thirty : GoodIn wsX5_interest (va_wsS RX5 125 yX5_thirty wsX5_thirty) := goodIn_app (goodIn_of _ (by decide +kernel)) ggX5_interest_X5_thirty
set_option maxRecDepth 20000 in
theorem ggX5_interest_X5_couponDay : GoodIn wsX5_interest wsX5_couponDay := goodIn_r _ [26, 27, 28, 29, 30, 31, 32, 33, 34, 35, 36, 37] (by decide +kernel) (by decide +kernel)
set_option maxRecDepth 20000 in
theorem gX5_interest_X5_couponDay : GoodIn wsX5_interest (wsV RX5 97 RX5 yX5_couponDay wsX5_couponDay) := goodIn_app (goodIn_of _ (by decide +kernel)) ggX5_interest_X5_couponDay
theorem dX5_interest_0 : decode cX5_interest 0 = .ok (.iload_n 2, 1) := by decide +kernel
theorem dX5_interest_1 : decode cX5_interest 1 = .ok (.i2l, 1) := by decide +kernel
theorem dX5_interest_2 : decode cX5_interest 2 = .ok (.aload_n 0, 1) := by decide +kernel
theorem dX5_interest_3 : decode cX5_interest 3 = .ok (.iload_n 1, 1) := by decide +kernel
theorem dX5_interest_4 : decode cX5_interest 4 = .ok (.iconst 2, 1) := by decide +kernel
theorem dX5_interest_5 : decode cX5_interest 5 = .ok (.invokevirtual 94, 3) := by decide +kernel
theorem dX5_interest_8 : decode cX5_interest 8 = .ok (.i2l, 1) := by decide +kernel
theorem dX5_interest_9 : decode cX5_interest 9 = .ok (.lmul, 1) := by decide +kernel
theorem dX5_interest_10 : decode cX5_interest 10 = .ok (.lstore 6, 2) := by decide +kernel
theorem dX5_interest_12 : decode cX5_interest 12 = .ok (.aload_n 0, 1) := by decide +kernel
theorem dX5_interest_13 : decode cX5_interest 13 = .ok (.iload_n 1, 1) := by decide +kernel
theorem dX5_interest_14 : decode cX5_interest 14 = .ok (.iconst 4, 1) := by decide +kernel
theorem dX5_interest_15 : decode cX5_interest 15 = .ok (.invokevirtual 94, 3) := by decide +kernel
theorem dX5_interest_18 : decode cX5_interest 18 = .ok (.tableswitch 76 0 2 #[26, 48, 62], 26) := by decide +kernel
theorem dX5_interest_44 : decode cX5_interest 44 = .ok (.lload 6, 2) := by decide +kernel
theorem dX5_interest_46 : decode cX5_interest 46 = .ok (.iload_n 3, 1) := by decide +kernel
theorem dX5_interest_47 : decode cX5_interest 47 = .ok (.invokestatic 70, 3) := by decide +kernel
theorem dX5_interest_50 : decode cX5_interest 50 = .ok (.iload 4, 2) := by decide +kernel
theorem dX5_interest_52 : decode cX5_interest 52 = .ok (.invokestatic 70, 3) := by decide +kernel
theorem dX5_interest_55 : decode cX5_interest 55 = .ok (.invokestatic 125, 3) := by decide +kernel
theorem dX5_interest_58 : decode cX5_interest 58 = .ok (.i2l, 1) := by decide +kernel
theorem dX5_interest_59 : decode cX5_interest 59 = .ok (.lmul, 1) := by decide +kernel
theorem dX5_interest_60 : decode cX5_interest 60 = .ok (.ldc2_w 128, 3) := by decide +kernel
theorem dX5_interest_63 : decode cX5_interest 63 = .ok (.ldiv, 1) := by decide +kernel
theorem dX5_interest_64 : decode cX5_interest 64 = .ok (.l2i, 1) := by decide +kernel
theorem dX5_interest_65 : decode cX5_interest 65 = .ok (.ireturn, 1) := by decide +kernel
theorem dX5_interest_66 : decode cX5_interest 66 = .ok (.lload 6, 2) := by decide +kernel
theorem dX5_interest_68 : decode cX5_interest 68 = .ok (.iload 4, 2) := by decide +kernel
theorem dX5_interest_70 : decode cX5_interest 70 = .ok (.iload_n 3, 1) := by decide +kernel
theorem dX5_interest_71 : decode cX5_interest 71 = .ok (.isub, 1) := by decide +kernel
theorem dX5_interest_72 : decode cX5_interest 72 = .ok (.i2l, 1) := by decide +kernel
theorem dX5_interest_73 : decode cX5_interest 73 = .ok (.lmul, 1) := by decide +kernel
theorem dX5_interest_74 : decode cX5_interest 74 = .ok (.ldc2_w 128, 3) := by decide +kernel
theorem dX5_interest_77 : decode cX5_interest 77 = .ok (.ldiv, 1) := by decide +kernel
theorem dX5_interest_78 : decode cX5_interest 78 = .ok (.l2i, 1) := by decide +kernel
theorem dX5_interest_79 : decode cX5_interest 79 = .ok (.ireturn, 1) := by decide +kernel
theorem dX5_interest_80 : decode cX5_interest 80 = .ok (.lload 6, 2) := by decide +kernel
theorem dX5_interest_82 : decode cX5_interest 82 = .ok (.iload 4, 2) := by decide +kernel
theorem dX5_interest_84 : decode cX5_interest 84 = .ok (.iload_n 3, 1) := by decide +kernel
theorem dX5_interest_85 : decode cX5_interest 85 = .ok (.isub, 1) := by decide +kernel
theorem dX5_interest_86 : decode cX5_interest 86 = .ok (.i2l, 1) := by decide +kernel
theorem dX5_interest_87 : decode cX5_interest 87 = .ok (.lmul, 1) := by decide +kernel
theorem dX5_interest_88 : decode cX5_interest 88 = .ok (.ldc2_w 130, 3) := by decide +kernel
theorem dX5_interest_91 : decode cX5_interest 91 = .ok (.ldiv, 1) := by decide +kernel
theorem dX5_interest_92 : decode cX5_interest 92 = .ok (.l2i, 1) := by decide +kernel
theorem dX5_interest_93 : decode cX5_interest 93 = .ok (.ireturn, 1) := by decide +kernel
theorem dX5_interest_94 : decode cX5_interest 94 = .ok (.lload 6, 2) := by decide +kernel
theorem dX5_interest_96 : decode cX5_interest 96 = .ok (.iload 4, 2) := by decide +kernel
theorem dX5_interest_98 : decode cX5_interest 98 = .ok (.iload_n 3, 1) := by decide +kernel
theorem dX5_interest_99 : decode cX5_interest 99 = .ok (.isub, 1) := by decide +kernel
theorem dX5_interest_100 : decode cX5_interest 100 = .ok (.i2l, 1) := by decide +kernel
theorem dX5_interest_101 : decode cX5_interest 101 = .ok (.lmul, 1) := by decide +kernel
theorem dX5_interest_102 : decode cX5_interest 102 = .ok (.aload_n 0, 1) := by decide +kernel
theorem dX5_interest_103 : decode cX5_interest 103 = .ok (.iload_n 1, 1) := by decide +kernel
theorem dX5_interest_104 : decode cX5_interest 104 = .ok (.iconst 3, 1) := by decide +kernel
theorem dX5_interest_105 : decode cX5_interest 105 = .ok (.invokevirtual 94, 3) := by decide +kernel
theorem dX5_interest_108 : decode cX5_interest 108 = .ok (.i2l, 1) := by decide +kernel
theorem dX5_interest_109 : decode cX5_interest 109 = .ok (.aload_n 0, 1) := by decide +kernel
theorem dX5_interest_110 : decode cX5_interest 110 = .ok (.iload_n 1, 1) := by decide +kernel
theorem dX5_interest_111 : decode cX5_interest 111 = .ok (.iload 5, 2) := by decide +kernel
theorem dX5_interest_113 : decode cX5_interest 113 = .ok (.invokevirtual 97, 3) := by decide +kernel
theorem dX5_interest_116 : decode cX5_interest 116 = .ok (.aload_n 0, 1) := by decide +kernel
theorem dX5_interest_117 : decode cX5_interest 117 = .ok (.iload_n 1, 1) := by decide +kernel
theorem dX5_interest_118 : decode cX5_interest 118 = .ok (.iload 5, 2) := by decide +kernel
theorem dX5_interest_120 : decode cX5_interest 120 = .ok (.iconst 1, 1) := by decide +kernel
theorem dX5_interest_121 : decode cX5_interest 121 = .ok (.isub, 1) := by decide +kernel
theorem dX5_interest_122 : decode cX5_interest 122 = .ok (.invokevirtual 97, 3) := by decide +kernel
theorem dX5_interest_125 : decode cX5_interest 125 = .ok (.isub, 1) := by decide +kernel
theorem dX5_interest_126 : decode cX5_interest 126 = .ok (.i2l, 1) := by decide +kernel
theorem dX5_interest_127 : decode cX5_interest 127 = .ok (.lmul, 1) := by decide +kernel
theorem dX5_interest_128 : decode cX5_interest 128 = .ok (.ldc2_w 132, 3) := by decide +kernel
theorem dX5_interest_131 : decode cX5_interest 131 = .ok (.lmul, 1) := by decide +kernel
theorem dX5_interest_132 : decode cX5_interest 132 = .ok (.ldiv, 1) := by decide +kernel
theorem dX5_interest_133 : decode cX5_interest 133 = .ok (.l2i, 1) := by decide +kernel
theorem dX5_interest_134 : decode cX5_interest 134 = .ok (.ireturn, 1) := by decide +kernel
set_option maxRecDepth 20000 in
theorem ggX5_beginning_X5_own : GoodIn wsX5_beginning wsX5_own := goodIn_r _ [9, 10, 16, 17, 18, 19, 20, 21, 22, 23, 24, 25] (by decide +kernel) (by decide +kernel)
set_option maxRecDepth 20000 in
theorem gX5_beginning_X5_own : GoodIn wsX5_beginning (wsV RX5 94 RX5 yX5_own wsX5_own) := goodIn_app (goodIn_of _ (by decide +kernel)) ggX5_beginning_X5_own
set_option maxRecDepth 20000 in
theorem ggX5_beginning_X5_couponDay : GoodIn wsX5_beginning wsX5_couponDay := goodIn_r _ [14, 15, 16, 17, 18, 19, 20, 21, 22, 23, 24, 25] (by decide +kernel) (by decide +kernel)
set_option maxRecDepth 20000 in
theorem gX5_beginning_X5_couponDay : GoodIn wsX5_beginning (wsV RX5 97 RX5 yX5_couponDay wsX5_couponDay) := goodIn_app (goodIn_of _ (by decide +kernel)) ggX5_beginning_X5_couponDay
theorem dX5_beginning_0 : decode cX5_beginning 0 = .ok (.iload_n 2, 1) := by decide +kernel
theorem dX5_beginning_1 : decode cX5_beginning 1 = .ok (.ifCond .ne 21, 3) := by decide +kernel
theorem dX5_beginning_4 : decode cX5_beginning 4 = .ok (.aload_n 0, 1) := by decide +kernel
theorem dX5_beginning_5 : decode cX5_beginning 5 = .ok (.iload_n 1, 1) := by decide +kernel
theorem dX5_beginning_6 : decode cX5_beginning 6 = .ok (.iconst 0, 1) := by decide +kernel
theorem dX5_beginning_7 : decode cX5_beginning 7 = .ok (.invokevirtual 94, 3) := by decide +kernel
theorem dX5_beginning_10 : decode cX5_beginning 10 = .ok (.aload_n 0, 1) := by decide +kernel
theorem dX5_beginning_11 : decode cX5_beginning 11 = .ok (.iload_n 1, 1) := by decide +kernel
theorem dX5_beginning_12 : decode cX5_beginning 12 = .ok (.iconst (-1), 1) := by decide +kernel
theorem dX5_beginning_13 : decode cX5_beginning 13 = .ok (.invokevirtual 97, 3) := by decide +kernel
theorem dX5_beginning_16 : decode cX5_beginning 16 = .ok (.invokestatic 104, 3) := by decide +kernel
theorem dX5_beginning_19 : decode cX5_beginning 19 = .ok (.goto 11, 3) := by decide +kernel
theorem dX5_beginning_22 : decode cX5_beginning 22 = .ok (.aload_n 0, 1) := by decide +kernel
theorem dX5_beginning_23 : decode cX5_beginning 23 = .ok (.iload_n 1, 1) := by decide +kernel
theorem dX5_beginning_24 : decode cX5_beginning 24 = .ok (.iload_n 2, 1) := by decide +kernel
theorem dX5_beginning_25 : decode cX5_beginning 25 = .ok (.iconst 1, 1) := by decide +kernel
theorem dX5_beginning_26 : decode cX5_beginning 26 = .ok (.isub, 1) := by decide +kernel
theorem dX5_beginning_27 : decode cX5_beginning 27 = .ok (.invokevirtual 97, 3) := by decide +kernel
theorem dX5_beginning_30 : decode cX5_beginning 30 = .ok (.ireturn, 1) := by decide +kernel
set_option maxRecDepth 20000 in
theorem ggX5_coupon_X5_couponDay : GoodIn wsX5_coupon wsX5_couponDay := goodIn_r _ [6, 7, 32, 33, 34, 35, 36, 37, 38, 39, 40, 41] (by decide +kernel) (by decide +kernel)
set_option maxRecDepth 20000 in
theorem gX5_coupon_X5_couponDay : GoodIn wsX5_coupon (wsV RX5 97 RX5 yX5_couponDay wsX5_couponDay) := goodIn_app (goodIn_of _ (by decide +kernel)) ggX5_coupon_X5_couponDay
set_option maxRecDepth 20000 in
theorem ggX5_coupon_X5_own : GoodIn wsX5_coupon wsX5_own := goodIn_r _ [11, 12, 32, 33, 34, 35, 36, 37, 38, 39, 40, 41] (by decide +kernel) (by decide +kernel)
set_option maxRecDepth 20000 in
theorem gX5_coupon_X5_own : GoodIn wsX5_coupon (wsV RX5 94 RX5 yX5_own wsX5_own) := goodIn_app (goodIn_of _ (by decide +kernel)) ggX5_coupon_X5_own
set_option maxRecDepth 20000 in
theorem ggX5_coupon_X5_interest : GoodIn wsX5_coupon wsX5_interest := goodIn_r _ [16, 17, 18, 1, 8, 9, 10, 5, 11, 12, 19, 20, 21, 22, 23, 24, 25, 26, 27, 28, 29, 30, 31, 2, 3, 4, 6, 7, 32, 33, 34, 35, 36, 37, 38, 39, 40, 41] (by decide +kernel) (by decide +kernel)
set_option maxRecDepth 20000 in
theorem gX5_coupon_X5_interest : GoodIn wsX5_coupon (wsV RX5 134 RX5 yX5_interest wsX5_interest) := goodIn_app (goodIn_of _ (by decide +kernel)) ggX5_coupon_X5_interest
theorem dX5_coupon_0 : decode cX5_coupon 0 = .ok (.iload_n 2, 1) := by decide +kernel
theorem dX5_coupon_1 : decode cX5_coupon 1 = .ok (.ifCond .ne 39, 3) := by decide +kernel
theorem dX5_coupon_4 : decode cX5_coupon 4 = .ok (.aload_n 0, 1) := by decide +kernel
theorem dX5_coupon_5 : decode cX5_coupon 5 = .ok (.iload_n 1, 1) := by decide +kernel
theorem dX5_coupon_6 : decode cX5_coupon 6 = .ok (.iconst (-1), 1) := by decide +kernel
theorem dX5_coupon_7 : decode cX5_coupon 7 = .ok (.invokevirtual 97, 3) := by decide +kernel
theorem dX5_coupon_10 : decode cX5_coupon 10 = .ok (.aload_n 0, 1) := by decide +kernel
theorem dX5_coupon_11 : decode cX5_coupon 11 = .ok (.iload_n 1, 1) := by decide +kernel
theorem dX5_coupon_12 : decode cX5_coupon 12 = .ok (.iconst 0, 1) := by decide +kernel
theorem dX5_coupon_13 : decode cX5_coupon 13 = .ok (.invokevirtual 94, 3) := by decide +kernel
theorem dX5_coupon_16 : decode cX5_coupon 16 = .ok (.if_icmp .ge 24, 3) := by decide +kernel
theorem dX5_coupon_19 : decode cX5_coupon 19 = .ok (.aload_n 0, 1) := by decide +kernel
theorem dX5_coupon_20 : decode cX5_coupon 20 = .ok (.iload_n 1, 1) := by decide +kernel
theorem dX5_coupon_21 : decode cX5_coupon 21 = .ok (.lload_n 3, 1) := by decide +kernel
theorem dX5_coupon_22 : decode cX5_coupon 22 = .ok (.l2i, 1) := by decide +kernel
theorem dX5_coupon_23 : decode cX5_coupon 23 = .ok (.aload_n 0, 1) := by decide +kernel
theorem dX5_coupon_24 : decode cX5_coupon 24 = .ok (.iload_n 1, 1) := by decide +kernel
theorem dX5_coupon_25 : decode cX5_coupon 25 = .ok (.iconst 0, 1) := by decide +kernel
theorem dX5_coupon_26 : decode cX5_coupon 26 = .ok (.invokevirtual 94, 3) := by decide +kernel
theorem dX5_coupon_29 : decode cX5_coupon 29 = .ok (.aload_n 0, 1) := by decide +kernel
theorem dX5_coupon_30 : decode cX5_coupon 30 = .ok (.iload_n 1, 1) := by decide +kernel
theorem dX5_coupon_31 : decode cX5_coupon 31 = .ok (.iconst 0, 1) := by decide +kernel
theorem dX5_coupon_32 : decode cX5_coupon 32 = .ok (.invokevirtual 97, 3) := by decide +kernel
theorem dX5_coupon_35 : decode cX5_coupon 35 = .ok (.iconst 0, 1) := by decide +kernel
theorem dX5_coupon_36 : decode cX5_coupon 36 = .ok (.invokevirtual 134, 3) := by decide +kernel
theorem dX5_coupon_39 : decode cX5_coupon 39 = .ok (.ireturn, 1) := by decide +kernel
theorem dX5_coupon_40 : decode cX5_coupon 40 = .ok (.lload_n 3, 1) := by decide +kernel
theorem dX5_coupon_41 : decode cX5_coupon 41 = .ok (.aload_n 0, 1) := by decide +kernel
theorem dX5_coupon_42 : decode cX5_coupon 42 = .ok (.iload_n 1, 1) := by decide +kernel
theorem dX5_coupon_43 : decode cX5_coupon 43 = .ok (.iconst 2, 1) := by decide +kernel
theorem dX5_coupon_44 : decode cX5_coupon 44 = .ok (.invokevirtual 94, 3) := by decide +kernel
theorem dX5_coupon_47 : decode cX5_coupon 47 = .ok (.i2l, 1) := by decide +kernel
theorem dX5_coupon_48 : decode cX5_coupon 48 = .ok (.lmul, 1) := by decide +kernel
theorem dX5_coupon_49 : decode cX5_coupon 49 = .ok (.ldc2_w 132, 3) := by decide +kernel
theorem dX5_coupon_52 : decode cX5_coupon 52 = .ok (.aload_n 0, 1) := by decide +kernel
theorem dX5_coupon_53 : decode cX5_coupon 53 = .ok (.iload_n 1, 1) := by decide +kernel
theorem dX5_coupon_54 : decode cX5_coupon 54 = .ok (.iconst 3, 1) := by decide +kernel
theorem dX5_coupon_55 : decode cX5_coupon 55 = .ok (.invokevirtual 94, 3) := by decide +kernel
theorem dX5_coupon_58 : decode cX5_coupon 58 = .ok (.i2l, 1) := by decide +kernel
theorem dX5_coupon_59 : decode cX5_coupon 59 = .ok (.lmul, 1) := by decide +kernel
theorem dX5_coupon_60 : decode cX5_coupon 60 = .ok (.ldiv, 1) := by decide +kernel
theorem dX5_coupon_61 : decode cX5_coupon 61 = .ok (.l2i, 1) := by decide +kernel
theorem dX5_coupon_62 : decode cX5_coupon 62 = .ok (.ireturn, 1) := by decide +kernel
set_option maxRecDepth 20000 in
theorem ggX5_couponTold_X5_couponDay : GoodIn wsX5_couponTold wsX5_couponDay := goodIn_r _ [6, 7, 57, 58, 59, 60, 61, 62, 63, 64, 65, 66] (by decide +kernel) (by decide +kernel)
set_option maxRecDepth 20000 in
theorem gX5_couponTold_X5_couponDay : GoodIn wsX5_couponTold (wsV RX5 97 RX5 yX5_couponDay wsX5_couponDay) := goodIn_app (goodIn_of _ (by decide +kernel)) ggX5_couponTold_X5_couponDay
set_option maxRecDepth 20000 in
theorem ggX5_couponTold_X5_date : GoodIn wsX5_couponTold wsX5_date := goodIn_r _ [10, 11, 12, 5, 13] (by decide +kernel) (by decide +kernel)
set_option maxRecDepth 20000 in
theorem gX5_couponTold_X5_date : GoodIn wsX5_couponTold (va_wsS RX5 70 yX5_date wsX5_date) := goodIn_app (goodIn_of _ (by decide +kernel)) ggX5_couponTold_X5_date
set_option maxRecDepth 20000 in
theorem ggX5_couponTold_X5_firstWorking : GoodIn wsX5_couponTold wsX5_firstWorking := goodIn_r _ [17, 18, 19, 20, 5, 21, 22, 23, 24, 25, 26, 57, 58, 59, 60, 61, 62, 63, 64, 65, 66] (by decide +kernel) (by decide +kernel)
set_option maxRecDepth 20000 in
theorem gX5_couponTold_X5_firstWorking : GoodIn wsX5_couponTold (wsV RX5 74 RX5 yX5_firstWorking wsX5_firstWorking) := goodIn_app (goodIn_of _ (by decide +kernel)) ggX5_couponTold_X5_firstWorking
set_option maxRecDepth 20000 in
theorem ggX5_couponTold_X5_beginning : GoodIn wsX5_couponTold wsX5_beginning := goodIn_r _ [30, 31, 32, 33, 34, 35, 36, 37, 5, 38, 39, 2, 3, 4, 6, 7, 57, 58, 59, 60, 61, 62, 63, 64, 65, 66] (by decide +kernel) (by decide +kernel)
set_option maxRecDepth 20000 in
theorem gX5_couponTold_X5_beginning : GoodIn wsX5_couponTold (wsV RX5 138 RX5 yX5_beginning wsX5_beginning) := goodIn_app (goodIn_of _ (by decide +kernel)) ggX5_couponTold_X5_beginning
set_option maxRecDepth 20000 in
theorem ggX5_couponTold_X5_coupon : GoodIn wsX5_couponTold wsX5_coupon := goodIn_r _ [43, 44, 2, 3, 4, 5, 6, 7, 35, 36, 37, 38, 39, 45, 46, 47, 48, 49, 50, 8, 9, 10, 11, 12, 13, 51, 52, 53, 54, 55, 33, 56, 57, 58, 59, 60, 61, 62, 63, 64, 65, 66] (by decide +kernel) (by decide +kernel)
set_option maxRecDepth 20000 in
theorem gX5_couponTold_X5_coupon : GoodIn wsX5_couponTold (wsV RX5 143 RX5 yX5_coupon wsX5_coupon) := goodIn_app (goodIn_of _ (by decide +kernel)) ggX5_couponTold_X5_coupon
theorem dX5_couponTold_0 : decode cX5_couponTold 0 = .ok (.iload_n 3, 1) := by decide +kernel
theorem dX5_couponTold_1 : decode cX5_couponTold 1 = .ok (.tableswitch 61 0 2 #[27, 37, 51], 27) := by decide +kernel
theorem dX5_couponTold_28 : decode cX5_couponTold 28 = .ok (.aload_n 0, 1) := by decide +kernel
theorem dX5_couponTold_29 : decode cX5_couponTold 29 = .ok (.iload_n 1, 1) := by decide +kernel
theorem dX5_couponTold_30 : decode cX5_couponTold 30 = .ok (.iload_n 2, 1) := by decide +kernel
theorem dX5_couponTold_31 : decode cX5_couponTold 31 = .ok (.invokevirtual 97, 3) := by decide +kernel
theorem dX5_couponTold_34 : decode cX5_couponTold 34 = .ok (.invokestatic 70, 3) := by decide +kernel
theorem dX5_couponTold_37 : decode cX5_couponTold 37 = .ok (.ireturn, 1) := by decide +kernel
theorem dX5_couponTold_38 : decode cX5_couponTold 38 = .ok (.aload_n 0, 1) := by decide +kernel
theorem dX5_couponTold_39 : decode cX5_couponTold 39 = .ok (.aload_n 0, 1) := by decide +kernel
theorem dX5_couponTold_40 : decode cX5_couponTold 40 = .ok (.iload_n 1, 1) := by decide +kernel
theorem dX5_couponTold_41 : decode cX5_couponTold 41 = .ok (.iload_n 2, 1) := by decide +kernel
theorem dX5_couponTold_42 : decode cX5_couponTold 42 = .ok (.invokevirtual 97, 3) := by decide +kernel
theorem dX5_couponTold_45 : decode cX5_couponTold 45 = .ok (.invokevirtual 74, 3) := by decide +kernel
theorem dX5_couponTold_48 : decode cX5_couponTold 48 = .ok (.invokestatic 70, 3) := by decide +kernel
theorem dX5_couponTold_51 : decode cX5_couponTold 51 = .ok (.ireturn, 1) := by decide +kernel
theorem dX5_couponTold_52 : decode cX5_couponTold 52 = .ok (.aload_n 0, 1) := by decide +kernel
theorem dX5_couponTold_53 : decode cX5_couponTold 53 = .ok (.iload_n 1, 1) := by decide +kernel
theorem dX5_couponTold_54 : decode cX5_couponTold 54 = .ok (.iload_n 2, 1) := by decide +kernel
theorem dX5_couponTold_55 : decode cX5_couponTold 55 = .ok (.invokevirtual 138, 3) := by decide +kernel
theorem dX5_couponTold_58 : decode cX5_couponTold 58 = .ok (.invokestatic 70, 3) := by decide +kernel
theorem dX5_couponTold_61 : decode cX5_couponTold 61 = .ok (.ireturn, 1) := by decide +kernel
theorem dX5_couponTold_62 : decode cX5_couponTold 62 = .ok (.aload_n 0, 1) := by decide +kernel
theorem dX5_couponTold_63 : decode cX5_couponTold 63 = .ok (.iload_n 1, 1) := by decide +kernel
theorem dX5_couponTold_64 : decode cX5_couponTold 64 = .ok (.iload_n 2, 1) := by decide +kernel
theorem dX5_couponTold_65 : decode cX5_couponTold 65 = .ok (.ldc2_w 141, 3) := by decide +kernel
theorem dX5_couponTold_68 : decode cX5_couponTold 68 = .ok (.invokevirtual 143, 3) := by decide +kernel
theorem dX5_couponTold_71 : decode cX5_couponTold 71 = .ok (.ireturn, 1) := by decide +kernel
set_option maxRecDepth 20000 in
theorem ggX5_coupon__X5_isBond : GoodIn wsX5_coupon_ wsX5_isBond := goodIn_r _ [6, 7, 8, 9, 5, 10, 74, 75, 76, 77, 78, 79, 80, 81, 82, 83] (by decide +kernel) (by decide +kernel)
set_option maxRecDepth 20000 in
theorem gX5_coupon__X5_isBond : GoodIn wsX5_coupon_ (wsV RX5 107 RX5 yX5_isBond wsX5_isBond) := goodIn_app (goodIn_of _ (by decide +kernel)) ggX5_coupon__X5_isBond
set_option maxRecDepth 20000 in
theorem ggX5_coupon__X5_own : GoodIn wsX5_coupon_ wsX5_own := goodIn_r _ [14, 15, 74, 75, 76, 77, 78, 79, 80, 81, 82, 83] (by decide +kernel) (by decide +kernel)
set_option maxRecDepth 20000 in
theorem gX5_coupon__X5_own : GoodIn wsX5_coupon_ (wsV RX5 94 RX5 yX5_own wsX5_own) := goodIn_app (goodIn_of _ (by decide +kernel)) ggX5_coupon__X5_own
set_option maxRecDepth 20000 in
theorem ggX5_coupon__X5_isIn : GoodIn wsX5_coupon_ wsX5_isIn := goodIn_r _ [10] (by decide +kernel) (by decide +kernel)
set_option maxRecDepth 20000 in
theorem gX5_coupon__X5_isIn : GoodIn wsX5_coupon_ (va_wsS RX5 46 yX5_isIn wsX5_isIn) := goodIn_app (goodIn_of _ (by decide +kernel)) ggX5_coupon__X5_isIn
set_option maxRecDepth 20000 in
theorem ggX5_coupon__X5_couponTold : GoodIn wsX5_coupon_ wsX5_couponTold := goodIn_r _ [19, 20, 21, 22, 23, 5, 24, 25, 26, 27, 28, 29, 30, 31, 32, 33, 34, 35, 36, 37, 38, 39, 40, 41, 42, 43, 44, 45, 46, 47, 48, 49, 50, 51, 52, 11, 12, 13, 14, 15, 53, 54, 55, 56, 57, 58, 59, 60, 61, 62, 63, 64, 65, 66, 67, 68, 69, 74, 75, 76, 77, 78, 79, 80, 81, 82, 83] (by decide +kernel) (by decide +kernel)
set_option maxRecDepth 20000 in
theorem gX5_coupon__X5_couponTold : GoodIn wsX5_coupon_ (wsV RX5 147 RX5 yX5_couponTold wsX5_couponTold) := goodIn_app (goodIn_of _ (by decide +kernel)) ggX5_coupon__X5_couponTold
set_option maxRecDepth 20000 in
theorem ggX5_coupon__X5_no : GoodIn wsX5_coupon_ wsX5_no := goodIn_r _ [73, 1, 74, 75, 76, 77, 78, 79, 80, 81, 82, 83] (by decide +kernel) (by decide +kernel)
set_option maxRecDepth 20000 in
theorem gX5_coupon__X5_no : GoodIn wsX5_coupon_ (wsV RX5 67 RX5 yX5_no wsX5_no) := goodIn_app (goodIn_of _ (by decide +kernel)) ggX5_coupon__X5_no
theorem dX5_coupon__0 : decode cX5_coupon_ 0 = .ok (.aload_n 0, 1) := by decide +kernel
theorem dX5_coupon__1 : decode cX5_coupon_ 1 = .ok (.iconst 0, 1) := by decide +kernel
theorem dX5_coupon__2 : decode cX5_coupon_ 2 = .ok (.putfield 41, 3) := by decide +kernel
theorem dX5_coupon__5 : decode cX5_coupon_ 5 = .ok (.aload_n 0, 1) := by decide +kernel
theorem dX5_coupon__6 : decode cX5_coupon_ 6 = .ok (.iload_n 1, 1) := by decide +kernel
theorem dX5_coupon__7 : decode cX5_coupon_ 7 = .ok (.invokevirtual 107, 3) := by decide +kernel
theorem dX5_coupon__10 : decode cX5_coupon_ 10 = .ok (.ifCond .eq 39, 3) := by decide +kernel
theorem dX5_coupon__13 : decode cX5_coupon_ 13 = .ok (.iload_n 2, 1) := by decide +kernel
theorem dX5_coupon__14 : decode cX5_coupon_ 14 = .ok (.iconst 0, 1) := by decide +kernel
theorem dX5_coupon__15 : decode cX5_coupon_ 15 = .ok (.aload_n 0, 1) := by decide +kernel
theorem dX5_coupon__16 : decode cX5_coupon_ 16 = .ok (.iload_n 1, 1) := by decide +kernel
theorem dX5_coupon__17 : decode cX5_coupon_ 17 = .ok (.bipush 6, 2) := by decide +kernel
theorem dX5_coupon__19 : decode cX5_coupon_ 19 = .ok (.invokevirtual 94, 3) := by decide +kernel
theorem dX5_coupon__22 : decode cX5_coupon_ 22 = .ok (.iconst 1, 1) := by decide +kernel
theorem dX5_coupon__23 : decode cX5_coupon_ 23 = .ok (.isub, 1) := by decide +kernel
theorem dX5_coupon__24 : decode cX5_coupon_ 24 = .ok (.invokestatic 46, 3) := by decide +kernel
theorem dX5_coupon__27 : decode cX5_coupon_ 27 = .ok (.ifCond .eq 22, 3) := by decide +kernel
theorem dX5_coupon__30 : decode cX5_coupon_ 30 = .ok (.iload_n 3, 1) := by decide +kernel
theorem dX5_coupon__31 : decode cX5_coupon_ 31 = .ok (.iconst 0, 1) := by decide +kernel
theorem dX5_coupon__32 : decode cX5_coupon_ 32 = .ok (.iconst 3, 1) := by decide +kernel
theorem dX5_coupon__33 : decode cX5_coupon_ 33 = .ok (.invokestatic 46, 3) := by decide +kernel
theorem dX5_coupon__36 : decode cX5_coupon_ 36 = .ok (.ifCond .eq 13, 3) := by decide +kernel
theorem dX5_coupon__39 : decode cX5_coupon_ 39 = .ok (.aload_n 0, 1) := by decide +kernel
theorem dX5_coupon__40 : decode cX5_coupon_ 40 = .ok (.iload_n 1, 1) := by decide +kernel
theorem dX5_coupon__41 : decode cX5_coupon_ 41 = .ok (.iload_n 2, 1) := by decide +kernel
theorem dX5_coupon__42 : decode cX5_coupon_ 42 = .ok (.iload_n 3, 1) := by decide +kernel
theorem dX5_coupon__43 : decode cX5_coupon_ 43 = .ok (.invokevirtual 147, 3) := by decide +kernel
theorem dX5_coupon__46 : decode cX5_coupon_ 46 = .ok (.goto 8, 3) := by decide +kernel
theorem dX5_coupon__49 : decode cX5_coupon_ 49 = .ok (.aload_n 0, 1) := by decide +kernel
theorem dX5_coupon__50 : decode cX5_coupon_ 50 = .ok (.iconst 1, 1) := by decide +kernel
theorem dX5_coupon__51 : decode cX5_coupon_ 51 = .ok (.invokevirtual 67, 3) := by decide +kernel
theorem dX5_coupon__54 : decode cX5_coupon_ 54 = .ok (.ireturn, 1) := by decide +kernel
set_option maxRecDepth 20000 in
theorem ggX5_behind_X5_own : GoodIn wsX5_behind wsX5_own := goodIn_r _ [5, 6, 12, 13, 14, 15, 16, 17, 18, 19, 20, 21] (by decide +kernel) (by decide +kernel)
set_option maxRecDepth 20000 in
theorem gX5_behind_X5_own : GoodIn wsX5_behind (wsV RX5 94 RX5 yX5_own wsX5_own) := goodIn_app (goodIn_of _ (by decide +kernel)) ggX5_behind_X5_own
set_option maxRecDepth 20000 in
theorem ggX5_behind_X5_couponDay : GoodIn wsX5_behind wsX5_couponDay := goodIn_r _ [10, 11, 12, 13, 14, 15, 16, 17, 18, 19, 20, 21] (by decide +kernel) (by decide +kernel)
set_option maxRecDepth 20000 in
theorem gX5_behind_X5_couponDay : GoodIn wsX5_behind (wsV RX5 97 RX5 yX5_couponDay wsX5_couponDay) := goodIn_app (goodIn_of _ (by decide +kernel)) ggX5_behind_X5_couponDay
theorem dX5_behind_0 : decode cX5_behind 0 = .ok (.iconst 0, 1) := by decide +kernel
theorem dX5_behind_1 : decode cX5_behind 1 = .ok (.istore_n 3, 1) := by decide +kernel
theorem dX5_behind_2 : decode cX5_behind 2 = .ok (.iload_n 3, 1) := by decide +kernel
theorem dX5_behind_3 : decode cX5_behind 3 = .ok (.aload_n 0, 1) := by decide +kernel
theorem dX5_behind_4 : decode cX5_behind 4 = .ok (.iload_n 1, 1) := by decide +kernel
theorem dX5_behind_5 : decode cX5_behind 5 = .ok (.bipush 6, 2) := by decide +kernel
theorem dX5_behind_7 : decode cX5_behind 7 = .ok (.invokevirtual 94, 3) := by decide +kernel
theorem dX5_behind_10 : decode cX5_behind 10 = .ok (.if_icmp .ge 19, 3) := by decide +kernel
theorem dX5_behind_13 : decode cX5_behind 13 = .ok (.aload_n 0, 1) := by decide +kernel
theorem dX5_behind_14 : decode cX5_behind 14 = .ok (.iload_n 1, 1) := by decide +kernel
theorem dX5_behind_15 : decode cX5_behind 15 = .ok (.iload_n 3, 1) := by decide +kernel
theorem dX5_behind_16 : decode cX5_behind 16 = .ok (.invokevirtual 97, 3) := by decide +kernel
theorem dX5_behind_19 : decode cX5_behind 19 = .ok (.iload_n 2, 1) := by decide +kernel
theorem dX5_behind_20 : decode cX5_behind 20 = .ok (.if_icmp .gt 9, 3) := by decide +kernel
theorem dX5_behind_23 : decode cX5_behind 23 = .ok (.iinc 3 1, 3) := by decide +kernel
theorem dX5_behind_26 : decode cX5_behind 26 = .ok (.goto (-24), 3) := by decide +kernel
theorem dX5_behind_29 : decode cX5_behind 29 = .ok (.iload_n 3, 1) := by decide +kernel
theorem dX5_behind_30 : decode cX5_behind 30 = .ok (.ireturn, 1) := by decide +kernel
set_option maxRecDepth 20000 in
theorem ggX5_accruedOn_X5_isThere : GoodIn wsX5_accruedOn wsX5_isThere := goodIn_r _ [5, 6, 7, 8, 4, 9, 10, 47, 48, 49, 50, 51, 52, 53, 54, 55, 56] (by decide +kernel) (by decide +kernel)
set_option maxRecDepth 20000 in
theorem gX5_accruedOn_X5_isThere : GoodIn wsX5_accruedOn (wsV RX5 110 RX5 yX5_isThere wsX5_isThere) := goodIn_app (goodIn_of _ (by decide +kernel)) ggX5_accruedOn_X5_isThere
set_option maxRecDepth 20000 in
theorem ggX5_accruedOn_X5_own : GoodIn wsX5_accruedOn wsX5_own := goodIn_r _ [9, 10, 47, 48, 49, 50, 51, 52, 53, 54, 55, 56] (by decide +kernel) (by decide +kernel)
set_option maxRecDepth 20000 in
theorem gX5_accruedOn_X5_own : GoodIn wsX5_accruedOn (wsV RX5 94 RX5 yX5_own wsX5_own) := goodIn_app (goodIn_of _ (by decide +kernel)) ggX5_accruedOn_X5_own
set_option maxRecDepth 20000 in
theorem ggX5_accruedOn_X5_behind : GoodIn wsX5_accruedOn wsX5_behind := goodIn_r _ [14, 6, 7, 8, 4, 9, 10, 15, 16, 17, 18, 19, 47, 48, 49, 50, 51, 52, 53, 54, 55, 56] (by decide +kernel) (by decide +kernel)
set_option maxRecDepth 20000 in
theorem gX5_accruedOn_X5_behind : GoodIn wsX5_accruedOn (wsV RX5 151 RX5 yX5_behind wsX5_behind) := goodIn_app (goodIn_of _ (by decide +kernel)) ggX5_accruedOn_X5_behind
set_option maxRecDepth 20000 in
theorem ggX5_accruedOn_X5_beginning : GoodIn wsX5_accruedOn wsX5_beginning := goodIn_r _ [23, 24, 25, 26, 27, 6, 7, 8, 4, 9, 10, 15, 16, 17, 18, 19, 47, 48, 49, 50, 51, 52, 53, 54, 55, 56] (by decide +kernel) (by decide +kernel)
set_option maxRecDepth 20000 in
theorem gX5_accruedOn_X5_beginning : GoodIn wsX5_accruedOn (wsV RX5 138 RX5 yX5_beginning wsX5_beginning) := goodIn_app (goodIn_of _ (by decide +kernel)) ggX5_accruedOn_X5_beginning
set_option maxRecDepth 20000 in
theorem ggX5_accruedOn_X5_interest : GoodIn wsX5_accruedOn wsX5_interest := goodIn_r _ [31, 32, 33, 34, 6, 7, 8, 4, 9, 10, 35, 36, 37, 38, 39, 40, 41, 42, 43, 44, 45, 26, 46, 15, 16, 17, 18, 19, 47, 48, 49, 50, 51, 52, 53, 54, 55, 56] (by decide +kernel) (by decide +kernel)
set_option maxRecDepth 20000 in
theorem gX5_accruedOn_X5_interest : GoodIn wsX5_accruedOn (wsV RX5 134 RX5 yX5_interest wsX5_interest) := goodIn_app (goodIn_of _ (by decide +kernel)) ggX5_accruedOn_X5_interest
theorem dX5_accruedOn_0 : decode cX5_accruedOn 0 = .ok (.aload_n 0, 1) := by decide +kernel
theorem dX5_accruedOn_1 : decode cX5_accruedOn 1 = .ok (.iload_n 1, 1) := by decide +kernel
theorem dX5_accruedOn_2 : decode cX5_accruedOn 2 = .ok (.invokevirtual 110, 3) := by decide +kernel
theorem dX5_accruedOn_5 : decode cX5_accruedOn 5 = .ok (.ifCond .eq 23, 3) := by decide +kernel
theorem dX5_accruedOn_8 : decode cX5_accruedOn 8 = .ok (.iload_n 2, 1) := by decide +kernel
theorem dX5_accruedOn_9 : decode cX5_accruedOn 9 = .ok (.aload_n 0, 1) := by decide +kernel
theorem dX5_accruedOn_10 : decode cX5_accruedOn 10 = .ok (.iload_n 1, 1) := by decide +kernel
theorem dX5_accruedOn_11 : decode cX5_accruedOn 11 = .ok (.iconst 0, 1) := by decide +kernel
theorem dX5_accruedOn_12 : decode cX5_accruedOn 12 = .ok (.invokevirtual 94, 3) := by decide +kernel
theorem dX5_accruedOn_15 : decode cX5_accruedOn 15 = .ok (.if_icmp .lt 13, 3) := by decide +kernel
theorem dX5_accruedOn_18 : decode cX5_accruedOn 18 = .ok (.iload_n 2, 1) := by decide +kernel
theorem dX5_accruedOn_19 : decode cX5_accruedOn 19 = .ok (.aload_n 0, 1) := by decide +kernel
theorem dX5_accruedOn_20 : decode cX5_accruedOn 20 = .ok (.iload_n 1, 1) := by decide +kernel
theorem dX5_accruedOn_21 : decode cX5_accruedOn 21 = .ok (.iconst 1, 1) := by decide +kernel
theorem dX5_accruedOn_22 : decode cX5_accruedOn 22 = .ok (.invokevirtual 94, 3) := by decide +kernel
theorem dX5_accruedOn_25 : decode cX5_accruedOn 25 = .ok (.if_icmp .lt 5, 3) := by decide +kernel
theorem dX5_accruedOn_28 : decode cX5_accruedOn 28 = .ok (.iconst 0, 1) := by decide +kernel
theorem dX5_accruedOn_29 : decode cX5_accruedOn 29 = .ok (.ireturn, 1) := by decide +kernel
theorem dX5_accruedOn_30 : decode cX5_accruedOn 30 = .ok (.aload_n 0, 1) := by decide +kernel
theorem dX5_accruedOn_31 : decode cX5_accruedOn 31 = .ok (.iload_n 1, 1) := by decide +kernel
theorem dX5_accruedOn_32 : decode cX5_accruedOn 32 = .ok (.iload_n 2, 1) := by decide +kernel
theorem dX5_accruedOn_33 : decode cX5_accruedOn 33 = .ok (.invokevirtual 151, 3) := by decide +kernel
theorem dX5_accruedOn_36 : decode cX5_accruedOn 36 = .ok (.istore_n 3, 1) := by decide +kernel
theorem dX5_accruedOn_37 : decode cX5_accruedOn 37 = .ok (.aload_n 0, 1) := by decide +kernel
theorem dX5_accruedOn_38 : decode cX5_accruedOn 38 = .ok (.iload_n 1, 1) := by decide +kernel
theorem dX5_accruedOn_39 : decode cX5_accruedOn 39 = .ok (.bipush 10, 2) := by decide +kernel
theorem dX5_accruedOn_41 : decode cX5_accruedOn 41 = .ok (.aload_n 0, 1) := by decide +kernel
theorem dX5_accruedOn_42 : decode cX5_accruedOn 42 = .ok (.iload_n 1, 1) := by decide +kernel
theorem dX5_accruedOn_43 : decode cX5_accruedOn 43 = .ok (.iconst 5, 1) := by decide +kernel
theorem dX5_accruedOn_44 : decode cX5_accruedOn 44 = .ok (.invokevirtual 94, 3) := by decide +kernel
theorem dX5_accruedOn_47 : decode cX5_accruedOn 47 = .ok (.imul, 1) := by decide +kernel
theorem dX5_accruedOn_48 : decode cX5_accruedOn 48 = .ok (.aload_n 0, 1) := by decide +kernel
theorem dX5_accruedOn_49 : decode cX5_accruedOn 49 = .ok (.iload_n 1, 1) := by decide +kernel
theorem dX5_accruedOn_50 : decode cX5_accruedOn 50 = .ok (.iload_n 3, 1) := by decide +kernel
theorem dX5_accruedOn_51 : decode cX5_accruedOn 51 = .ok (.invokevirtual 138, 3) := by decide +kernel
theorem dX5_accruedOn_54 : decode cX5_accruedOn 54 = .ok (.iload_n 2, 1) := by decide +kernel
theorem dX5_accruedOn_55 : decode cX5_accruedOn 55 = .ok (.iload_n 3, 1) := by decide +kernel
theorem dX5_accruedOn_56 : decode cX5_accruedOn 56 = .ok (.invokevirtual 134, 3) := by decide +kernel
theorem dX5_accruedOn_59 : decode cX5_accruedOn 59 = .ok (.ireturn, 1) := by decide +kernel
set_option maxRecDepth 20000 in
theorem ggX5_accrued_X5_isBond : GoodIn wsX5_accrued wsX5_isBond := goodIn_r _ [6, 7, 8, 9, 5, 10, 72, 73, 74, 75, 76, 77, 78, 79, 80, 81] (by decide +kernel) (by decide +kernel)
set_option maxRecDepth 20000 in
theorem gX5_accrued_X5_isBond : GoodIn wsX5_accrued (wsV RX5 107 RX5 yX5_isBond wsX5_isBond) := goodIn_app (goodIn_of _ (by decide +kernel)) ggX5_accrued_X5_isBond
set_option maxRecDepth 20000 in
theorem ggX5_accrued_X5_no : GoodIn wsX5_accrued wsX5_no := goodIn_r _ [14, 1, 72, 73, 74, 75, 76, 77, 78, 79, 80, 81] (by decide +kernel) (by decide +kernel)
set_option maxRecDepth 20000 in
theorem gX5_accrued_X5_no : GoodIn wsX5_accrued (wsV RX5 67 RX5 yX5_no wsX5_no) := goodIn_app (goodIn_of _ (by decide +kernel)) ggX5_accrued_X5_no
set_option maxRecDepth 20000 in
theorem ggX5_accrued_X5_isDate : GoodIn wsX5_accrued wsX5_isDate := goodIn_r _ [17, 18, 19, 8, 9, 5, 10, 20, 21, 22] (by decide +kernel) (by decide +kernel)
set_option maxRecDepth 20000 in
theorem gX5_accrued_X5_isDate : GoodIn wsX5_accrued (va_wsS RX5 64 yX5_isDate wsX5_isDate) := goodIn_app (goodIn_of _ (by decide +kernel)) ggX5_accrued_X5_isDate
set_option maxRecDepth 20000 in
theorem ggX5_accrued_X5_number : GoodIn wsX5_accrued wsX5_number := goodIn_r _ [25, 20, 21, 5, 22] (by decide +kernel) (by decide +kernel)
set_option maxRecDepth 20000 in
theorem gX5_accrued_X5_number : GoodIn wsX5_accrued (va_wsS RX5 8 yX5_number wsX5_number) := goodIn_app (goodIn_of _ (by decide +kernel)) ggX5_accrued_X5_number
set_option maxRecDepth 20000 in
theorem ggX5_accrued_X5_accruedOn : GoodIn wsX5_accrued wsX5_accruedOn := goodIn_r _ [29, 30, 31, 32, 5, 33, 34, 35, 36, 37, 38, 39, 40, 41, 42, 43, 44, 45, 46, 47, 48, 49, 50, 51, 52, 53, 54, 55, 56, 57, 58, 59, 60, 61, 62, 63, 64, 65, 20, 21, 22, 66, 67, 68, 69, 70, 71, 72, 73, 74, 75, 76, 77, 78, 79, 80, 81] (by decide +kernel) (by decide +kernel)
set_option maxRecDepth 20000 in
theorem gX5_accrued_X5_accruedOn : GoodIn wsX5_accrued (wsV RX5 154 RX5 yX5_accruedOn wsX5_accruedOn) := goodIn_app (goodIn_of _ (by decide +kernel)) ggX5_accrued_X5_accruedOn
theorem dX5_accrued_0 : decode cX5_accrued 0 = .ok (.aload_n 0, 1) := by decide +kernel
theorem dX5_accrued_1 : decode cX5_accrued 1 = .ok (.iconst 0, 1) := by decide +kernel
theorem dX5_accrued_2 : decode cX5_accrued 2 = .ok (.putfield 41, 3) := by decide +kernel
theorem dX5_accrued_5 : decode cX5_accrued 5 = .ok (.aload_n 0, 1) := by decide +kernel
theorem dX5_accrued_6 : decode cX5_accrued 6 = .ok (.iload_n 1, 1) := by decide +kernel
theorem dX5_accrued_7 : decode cX5_accrued 7 = .ok (.invokevirtual 107, 3) := by decide +kernel
theorem dX5_accrued_10 : decode cX5_accrued 10 = .ok (.ifCond .ne 9, 3) := by decide +kernel
theorem dX5_accrued_13 : decode cX5_accrued 13 = .ok (.aload_n 0, 1) := by decide +kernel
theorem dX5_accrued_14 : decode cX5_accrued 14 = .ok (.iconst 1, 1) := by decide +kernel
theorem dX5_accrued_15 : decode cX5_accrued 15 = .ok (.invokevirtual 67, 3) := by decide +kernel
theorem dX5_accrued_18 : decode cX5_accrued 18 = .ok (.ireturn, 1) := by decide +kernel
theorem dX5_accrued_19 : decode cX5_accrued 19 = .ok (.iload_n 2, 1) := by decide +kernel
theorem dX5_accrued_20 : decode cX5_accrued 20 = .ok (.invokestatic 64, 3) := by decide +kernel
theorem dX5_accrued_23 : decode cX5_accrued 23 = .ok (.ifCond .eq 15, 3) := by decide +kernel
theorem dX5_accrued_26 : decode cX5_accrued 26 = .ok (.aload_n 0, 1) := by decide +kernel
theorem dX5_accrued_27 : decode cX5_accrued 27 = .ok (.iload_n 1, 1) := by decide +kernel
theorem dX5_accrued_28 : decode cX5_accrued 28 = .ok (.iload_n 2, 1) := by decide +kernel
theorem dX5_accrued_29 : decode cX5_accrued 29 = .ok (.invokestatic 8, 3) := by decide +kernel
theorem dX5_accrued_32 : decode cX5_accrued 32 = .ok (.invokevirtual 154, 3) := by decide +kernel
theorem dX5_accrued_35 : decode cX5_accrued 35 = .ok (.goto 8, 3) := by decide +kernel
theorem dX5_accrued_38 : decode cX5_accrued 38 = .ok (.aload_n 0, 1) := by decide +kernel
theorem dX5_accrued_39 : decode cX5_accrued 39 = .ok (.iconst 2, 1) := by decide +kernel
theorem dX5_accrued_40 : decode cX5_accrued 40 = .ok (.invokevirtual 67, 3) := by decide +kernel
theorem dX5_accrued_43 : decode cX5_accrued 43 = .ok (.ireturn, 1) := by decide +kernel
set_option maxRecDepth 20000 in
theorem ggX5_worthOn_X5_behind : GoodIn wsX5_worthOn wsX5_behind := goodIn_r _ [14, 15, 16, 17, 13, 18, 19, 20, 21, 22, 23, 24, 47, 48, 49, 50, 51, 52, 53, 54, 55, 56] (by decide +kernel) (by decide +kernel)
set_option maxRecDepth 20000 in
theorem gX5_worthOn_X5_behind : GoodIn wsX5_worthOn (wsV RX5 151 RX5 yX5_behind wsX5_behind) := goodIn_app (goodIn_of _ (by decide +kernel)) ggX5_worthOn_X5_behind
set_option maxRecDepth 20000 in
theorem ggX5_worthOn_X5_own : GoodIn wsX5_worthOn wsX5_own := goodIn_r _ [18, 19, 47, 48, 49, 50, 51, 52, 53, 54, 55, 56] (by decide +kernel) (by decide +kernel)
set_option maxRecDepth 20000 in
theorem gX5_worthOn_X5_own : GoodIn wsX5_worthOn (wsV RX5 94 RX5 yX5_own wsX5_own) := goodIn_app (goodIn_of _ (by decide +kernel)) ggX5_worthOn_X5_own
set_option maxRecDepth 20000 in
theorem ggX5_worthOn_X5_couponDay : GoodIn wsX5_worthOn wsX5_couponDay := goodIn_r _ [23, 24, 47, 48, 49, 50, 51, 52, 53, 54, 55, 56] (by decide +kernel) (by decide +kernel)
set_option maxRecDepth 20000 in
theorem gX5_worthOn_X5_couponDay : GoodIn wsX5_worthOn (wsV RX5 97 RX5 yX5_couponDay wsX5_couponDay) := goodIn_app (goodIn_of _ (by decide +kernel)) ggX5_worthOn_X5_couponDay
set_option maxRecDepth 20000 in
theorem ggX5_worthOn_X5_isSunk : GoodIn wsX5_worthOn wsX5_isSunk := goodIn_r _ [28, 15, 16, 17, 13, 18, 19, 20, 21, 22, 23, 24, 47, 48, 49, 50, 51, 52, 53, 54, 55, 56] (by decide +kernel) (by decide +kernel)
set_option maxRecDepth 20000 in
theorem gX5_worthOn_X5_isSunk : GoodIn wsX5_worthOn (wsV RX5 100 RX5 yX5_isSunk wsX5_isSunk) := goodIn_app (goodIn_of _ (by decide +kernel)) ggX5_worthOn_X5_isSunk
set_option maxRecDepth 20000 in
theorem ggX5_worthOn_X5_coupon : GoodIn wsX5_worthOn wsX5_coupon := goodIn_r _ [32, 1, 20, 21, 22, 13, 23, 24, 15, 16, 17, 18, 19, 33, 34, 35, 36, 37, 3, 38, 39, 40, 41, 42, 43, 44, 45, 46, 4, 5, 6, 7, 47, 48, 49, 50, 51, 52, 53, 54, 55, 56] (by decide +kernel) (by decide +kernel)
set_option maxRecDepth 20000 in
theorem gX5_worthOn_X5_coupon : GoodIn wsX5_worthOn (wsV RX5 143 RX5 yX5_coupon wsX5_coupon) := goodIn_app (goodIn_of _ (by decide +kernel)) ggX5_worthOn_X5_coupon
theorem dX5_worthOn_0 : decode cX5_worthOn 0 = .ok (.lconst 0, 1) := by decide +kernel
theorem dX5_worthOn_1 : decode cX5_worthOn 1 = .ok (.lstore 5, 2) := by decide +kernel
theorem dX5_worthOn_3 : decode cX5_worthOn 3 = .ok (.lconst 0, 1) := by decide +kernel
theorem dX5_worthOn_4 : decode cX5_worthOn 4 = .ok (.lstore 7, 2) := by decide +kernel
theorem dX5_worthOn_6 : decode cX5_worthOn 6 = .ok (.iload_n 3, 1) := by decide +kernel
theorem dX5_worthOn_7 : decode cX5_worthOn 7 = .ok (.istore 9, 2) := by decide +kernel
theorem dX5_worthOn_9 : decode cX5_worthOn 9 = .ok (.aload_n 0, 1) := by decide +kernel
theorem dX5_worthOn_10 : decode cX5_worthOn 10 = .ok (.iload_n 1, 1) := by decide +kernel
theorem dX5_worthOn_11 : decode cX5_worthOn 11 = .ok (.iload_n 2, 1) := by decide +kernel
theorem dX5_worthOn_12 : decode cX5_worthOn 12 = .ok (.invokevirtual 151, 3) := by decide +kernel
theorem dX5_worthOn_15 : decode cX5_worthOn 15 = .ok (.istore 10, 2) := by decide +kernel
theorem dX5_worthOn_17 : decode cX5_worthOn 17 = .ok (.ldc2_w 132, 3) := by decide +kernel
theorem dX5_worthOn_20 : decode cX5_worthOn 20 = .ok (.aload_n 0, 1) := by decide +kernel
theorem dX5_worthOn_21 : decode cX5_worthOn 21 = .ok (.iload_n 1, 1) := by decide +kernel
theorem dX5_worthOn_22 : decode cX5_worthOn 22 = .ok (.iconst 3, 1) := by decide +kernel
theorem dX5_worthOn_23 : decode cX5_worthOn 23 = .ok (.invokevirtual 94, 3) := by decide +kernel
theorem dX5_worthOn_26 : decode cX5_worthOn 26 = .ok (.i2l, 1) := by decide +kernel
theorem dX5_worthOn_27 : decode cX5_worthOn 27 = .ok (.lmul, 1) := by decide +kernel
theorem dX5_worthOn_28 : decode cX5_worthOn 28 = .ok (.lstore 11, 2) := by decide +kernel
theorem dX5_worthOn_30 : decode cX5_worthOn 30 = .ok (.iload 10, 2) := by decide +kernel
theorem dX5_worthOn_32 : decode cX5_worthOn 32 = .ok (.istore 13, 2) := by decide +kernel
theorem dX5_worthOn_34 : decode cX5_worthOn 34 = .ok (.iload 13, 2) := by decide +kernel
theorem dX5_worthOn_36 : decode cX5_worthOn 36 = .ok (.aload_n 0, 1) := by decide +kernel
theorem dX5_worthOn_37 : decode cX5_worthOn 37 = .ok (.iload_n 1, 1) := by decide +kernel
theorem dX5_worthOn_38 : decode cX5_worthOn 38 = .ok (.bipush 6, 2) := by decide +kernel
theorem dX5_worthOn_40 : decode cX5_worthOn 40 = .ok (.invokevirtual 94, 3) := by decide +kernel
theorem dX5_worthOn_43 : decode cX5_worthOn 43 = .ok (.if_icmp .ge 144, 3) := by decide +kernel
theorem dX5_worthOn_46 : decode cX5_worthOn 46 = .ok (.iload 13, 2) := by decide +kernel
theorem dX5_worthOn_48 : decode cX5_worthOn 48 = .ok (.iload 10, 2) := by decide +kernel
theorem dX5_worthOn_50 : decode cX5_worthOn 50 = .ok (.if_icmp .ne 28, 3) := by decide +kernel
theorem dX5_worthOn_53 : decode cX5_worthOn 53 = .ok (.ldc2_w 157, 3) := by decide +kernel
theorem dX5_worthOn_56 : decode cX5_worthOn 56 = .ok (.ldc2_w 130, 3) := by decide +kernel
theorem dX5_worthOn_59 : decode cX5_worthOn 59 = .ok (.iload 4, 2) := by decide +kernel
theorem dX5_worthOn_61 : decode cX5_worthOn 61 = .ok (.i2l, 1) := by decide +kernel
theorem dX5_worthOn_62 : decode cX5_worthOn 62 = .ok (.aload_n 0, 1) := by decide +kernel
theorem dX5_worthOn_63 : decode cX5_worthOn 63 = .ok (.iload_n 1, 1) := by decide +kernel
theorem dX5_worthOn_64 : decode cX5_worthOn 64 = .ok (.iload 13, 2) := by decide +kernel
theorem dX5_worthOn_66 : decode cX5_worthOn 66 = .ok (.invokevirtual 97, 3) := by decide +kernel
theorem dX5_worthOn_69 : decode cX5_worthOn 69 = .ok (.iload_n 2, 1) := by decide +kernel
theorem dX5_worthOn_70 : decode cX5_worthOn 70 = .ok (.isub, 1) := by decide +kernel
theorem dX5_worthOn_71 : decode cX5_worthOn 71 = .ok (.i2l, 1) := by decide +kernel
theorem dX5_worthOn_72 : decode cX5_worthOn 72 = .ok (.lmul, 1) := by decide +kernel
theorem dX5_worthOn_73 : decode cX5_worthOn 73 = .ok (.ladd, 1) := by decide +kernel
theorem dX5_worthOn_74 : decode cX5_worthOn 74 = .ok (.ldiv, 1) := by decide +kernel
theorem dX5_worthOn_75 : decode cX5_worthOn 75 = .ok (.goto 15, 3) := by decide +kernel
theorem dX5_worthOn_78 : decode cX5_worthOn 78 = .ok (.lload 7, 2) := by decide +kernel
theorem dX5_worthOn_80 : decode cX5_worthOn 80 = .ok (.lload 11, 2) := by decide +kernel
theorem dX5_worthOn_82 : decode cX5_worthOn 82 = .ok (.lmul, 1) := by decide +kernel
theorem dX5_worthOn_83 : decode cX5_worthOn 83 = .ok (.lload 11, 2) := by decide +kernel
theorem dX5_worthOn_85 : decode cX5_worthOn 85 = .ok (.iload 4, 2) := by decide +kernel
theorem dX5_worthOn_87 : decode cX5_worthOn 87 = .ok (.i2l, 1) := by decide +kernel
theorem dX5_worthOn_88 : decode cX5_worthOn 88 = .ok (.ladd, 1) := by decide +kernel
theorem dX5_worthOn_89 : decode cX5_worthOn 89 = .ok (.ldiv, 1) := by decide +kernel
theorem dX5_worthOn_90 : decode cX5_worthOn 90 = .ok (.lstore 7, 2) := by decide +kernel
theorem dX5_worthOn_92 : decode cX5_worthOn 92 = .ok (.iload 13, 2) := by decide +kernel
theorem dX5_worthOn_94 : decode cX5_worthOn 94 = .ok (.aload_n 0, 1) := by decide +kernel
theorem dX5_worthOn_95 : decode cX5_worthOn 95 = .ok (.iload_n 1, 1) := by decide +kernel
theorem dX5_worthOn_96 : decode cX5_worthOn 96 = .ok (.bipush 6, 2) := by decide +kernel
theorem dX5_worthOn_98 : decode cX5_worthOn 98 = .ok (.invokevirtual 94, 3) := by decide +kernel
theorem dX5_worthOn_101 : decode cX5_worthOn 101 = .ok (.iconst 1, 1) := by decide +kernel
theorem dX5_worthOn_102 : decode cX5_worthOn 102 = .ok (.isub, 1) := by decide +kernel
theorem dX5_worthOn_103 : decode cX5_worthOn 103 = .ok (.if_icmp .ne 8, 3) := by decide +kernel
theorem dX5_worthOn_106 : decode cX5_worthOn 106 = .ok (.iload 9, 2) := by decide +kernel
theorem dX5_worthOn_108 : decode cX5_worthOn 108 = .ok (.goto 29, 3) := by decide +kernel
theorem dX5_worthOn_111 : decode cX5_worthOn 111 = .ok (.aload_n 0, 1) := by decide +kernel
theorem dX5_worthOn_112 : decode cX5_worthOn 112 = .ok (.iload_n 1, 1) := by decide +kernel
theorem dX5_worthOn_113 : decode cX5_worthOn 113 = .ok (.iload 13, 2) := by decide +kernel
theorem dX5_worthOn_115 : decode cX5_worthOn 115 = .ok (.invokevirtual 100, 3) := by decide +kernel
theorem dX5_worthOn_118 : decode cX5_worthOn 118 = .ok (.ifCond .eq 18, 3) := by decide +kernel
theorem dX5_worthOn_121 : decode cX5_worthOn 121 = .ok (.iload 9, 2) := by decide +kernel
theorem dX5_worthOn_123 : decode cX5_worthOn 123 = .ok (.aload_n 0, 1) := by decide +kernel
theorem dX5_worthOn_124 : decode cX5_worthOn 124 = .ok (.iload_n 1, 1) := by decide +kernel
theorem dX5_worthOn_125 : decode cX5_worthOn 125 = .ok (.bipush 11, 2) := by decide +kernel
theorem dX5_worthOn_127 : decode cX5_worthOn 127 = .ok (.invokevirtual 94, 3) := by decide +kernel
theorem dX5_worthOn_130 : decode cX5_worthOn 130 = .ok (.invokestatic 80, 3) := by decide +kernel
theorem dX5_worthOn_133 : decode cX5_worthOn 133 = .ok (.goto 4, 3) := by decide +kernel
theorem dX5_worthOn_136 : decode cX5_worthOn 136 = .ok (.iconst 0, 1) := by decide +kernel
theorem dX5_worthOn_137 : decode cX5_worthOn 137 = .ok (.istore 14, 2) := by decide +kernel
theorem dX5_worthOn_139 : decode cX5_worthOn 139 = .ok (.lload 5, 2) := by decide +kernel
theorem dX5_worthOn_141 : decode cX5_worthOn 141 = .ok (.aload_n 0, 1) := by decide +kernel
theorem dX5_worthOn_142 : decode cX5_worthOn 142 = .ok (.iload_n 1, 1) := by decide +kernel
theorem dX5_worthOn_143 : decode cX5_worthOn 143 = .ok (.iload 13, 2) := by decide +kernel
theorem dX5_worthOn_145 : decode cX5_worthOn 145 = .ok (.ldc2_w 159, 3) := by decide +kernel
theorem dX5_worthOn_148 : decode cX5_worthOn 148 = .ok (.iload 9, 2) := by decide +kernel
theorem dX5_worthOn_150 : decode cX5_worthOn 150 = .ok (.i2l, 1) := by decide +kernel
theorem dX5_worthOn_151 : decode cX5_worthOn 151 = .ok (.lmul, 1) := by decide +kernel
theorem dX5_worthOn_152 : decode cX5_worthOn 152 = .ok (.invokevirtual 143, 3) := by decide +kernel
theorem dX5_worthOn_155 : decode cX5_worthOn 155 = .ok (.i2l, 1) := by decide +kernel
theorem dX5_worthOn_156 : decode cX5_worthOn 156 = .ok (.ldc2_w 159, 3) := by decide +kernel
theorem dX5_worthOn_159 : decode cX5_worthOn 159 = .ok (.iload 14, 2) := by decide +kernel
theorem dX5_worthOn_161 : decode cX5_worthOn 161 = .ok (.i2l, 1) := by decide +kernel
theorem dX5_worthOn_162 : decode cX5_worthOn 162 = .ok (.lmul, 1) := by decide +kernel
theorem dX5_worthOn_163 : decode cX5_worthOn 163 = .ok (.ladd, 1) := by decide +kernel
theorem dX5_worthOn_164 : decode cX5_worthOn 164 = .ok (.lload 7, 2) := by decide +kernel
theorem dX5_worthOn_166 : decode cX5_worthOn 166 = .ok (.lmul, 1) := by decide +kernel
theorem dX5_worthOn_167 : decode cX5_worthOn 167 = .ok (.ldc2_w 161, 3) := by decide +kernel
theorem dX5_worthOn_170 : decode cX5_worthOn 170 = .ok (.ldiv, 1) := by decide +kernel
theorem dX5_worthOn_171 : decode cX5_worthOn 171 = .ok (.ladd, 1) := by decide +kernel
theorem dX5_worthOn_172 : decode cX5_worthOn 172 = .ok (.lstore 5, 2) := by decide +kernel
theorem dX5_worthOn_174 : decode cX5_worthOn 174 = .ok (.iload 9, 2) := by decide +kernel
theorem dX5_worthOn_176 : decode cX5_worthOn 176 = .ok (.iload 14, 2) := by decide +kernel
theorem dX5_worthOn_178 : decode cX5_worthOn 178 = .ok (.isub, 1) := by decide +kernel
theorem dX5_worthOn_179 : decode cX5_worthOn 179 = .ok (.istore 9, 2) := by decide +kernel
theorem dX5_worthOn_181 : decode cX5_worthOn 181 = .ok (.iinc 13 1, 3) := by decide +kernel
theorem dX5_worthOn_184 : decode cX5_worthOn 184 = .ok (.goto (-150), 3) := by decide +kernel
theorem dX5_worthOn_187 : decode cX5_worthOn 187 = .ok (.lload 5, 2) := by decide +kernel
theorem dX5_worthOn_189 : decode cX5_worthOn 189 = .ok (.lreturn, 1) := by decide +kernel
set_option maxRecDepth 20000 in
theorem ggX5_worthNow_X5_isThere : GoodIn wsX5_worthNow wsX5_isThere := goodIn_r _ [6, 7, 8, 9, 5, 10, 11, 56, 57, 58, 59, 60, 61, 62, 63, 64, 65] (by decide +kernel) (by decide +kernel)
set_option maxRecDepth 20000 in
theorem gX5_worthNow_X5_isThere : GoodIn wsX5_worthNow (wsV RX5 110 RX5 yX5_isThere wsX5_isThere) := goodIn_app (goodIn_of _ (by decide +kernel)) ggX5_worthNow_X5_isThere
set_option maxRecDepth 20000 in
theorem ggX5_worthNow_X5_own : GoodIn wsX5_worthNow wsX5_own := goodIn_r _ [10, 11, 56, 57, 58, 59, 60, 61, 62, 63, 64, 65] (by decide +kernel) (by decide +kernel)
set_option maxRecDepth 20000 in
theorem gX5_worthNow_X5_own : GoodIn wsX5_worthNow (wsV RX5 94 RX5 yX5_own wsX5_own) := goodIn_app (goodIn_of _ (by decide +kernel)) ggX5_worthNow_X5_own
set_option maxRecDepth 20000 in
theorem ggX5_worthNow_X5_worthOn : GoodIn wsX5_worthNow wsX5_worthOn := goodIn_r _ [15, 16, 17, 18, 19, 20, 21, 22, 23, 24, 25, 26, 27, 5, 28, 7, 8, 9, 10, 11, 29, 30, 31, 32, 33, 34, 35, 36, 37, 38, 39, 40, 41, 42, 43, 44, 45, 46, 47, 48, 49, 50, 51, 52, 53, 54, 55, 56, 57, 58, 59, 60, 61, 62, 63, 64, 65] (by decide +kernel) (by decide +kernel)
set_option maxRecDepth 20000 in
theorem gX5_worthNow_X5_worthOn : GoodIn wsX5_worthNow (wsV RX5 163 RX5 yX5_worthOn wsX5_worthOn) := goodIn_app (goodIn_of _ (by decide +kernel)) ggX5_worthNow_X5_worthOn
theorem dX5_worthNow_0 : decode cX5_worthNow 0 = .ok (.aload_n 0, 1) := by decide +kernel
theorem dX5_worthNow_1 : decode cX5_worthNow 1 = .ok (.iload_n 1, 1) := by decide +kernel
theorem dX5_worthNow_2 : decode cX5_worthNow 2 = .ok (.invokevirtual 110, 3) := by decide +kernel
theorem dX5_worthNow_5 : decode cX5_worthNow 5 = .ok (.ifCond .eq 22, 3) := by decide +kernel
theorem dX5_worthNow_8 : decode cX5_worthNow 8 = .ok (.aload_n 0, 1) := by decide +kernel
theorem dX5_worthNow_9 : decode cX5_worthNow 9 = .ok (.iload_n 1, 1) := by decide +kernel
theorem dX5_worthNow_10 : decode cX5_worthNow 10 = .ok (.aload_n 0, 1) := by decide +kernel
theorem dX5_worthNow_11 : decode cX5_worthNow 11 = .ok (.getfield 14, 3) := by decide +kernel
theorem dX5_worthNow_14 : decode cX5_worthNow 14 = .ok (.aload_n 0, 1) := by decide +kernel
theorem dX5_worthNow_15 : decode cX5_worthNow 15 = .ok (.iload_n 1, 1) := by decide +kernel
theorem dX5_worthNow_16 : decode cX5_worthNow 16 = .ok (.iconst 5, 1) := by decide +kernel
theorem dX5_worthNow_17 : decode cX5_worthNow 17 = .ok (.invokevirtual 94, 3) := by decide +kernel
theorem dX5_worthNow_20 : decode cX5_worthNow 20 = .ok (.iload_n 2, 1) := by decide +kernel
theorem dX5_worthNow_21 : decode cX5_worthNow 21 = .ok (.invokevirtual 163, 3) := by decide +kernel
theorem dX5_worthNow_24 : decode cX5_worthNow 24 = .ok (.goto 4, 3) := by decide +kernel
theorem dX5_worthNow_27 : decode cX5_worthNow 27 = .ok (.lconst 0, 1) := by decide +kernel
theorem dX5_worthNow_28 : decode cX5_worthNow 28 = .ok (.lreturn, 1) := by decide +kernel
set_option maxRecDepth 20000 in
theorem ggX5_worth_X5_isBond : GoodIn wsX5_worth wsX5_isBond := goodIn_r _ [6, 7, 8, 9, 5, 10, 73, 74, 75, 76, 77, 78, 79, 80, 81, 82] (by decide +kernel) (by decide +kernel)
set_option maxRecDepth 20000 in
theorem gX5_worth_X5_isBond : GoodIn wsX5_worth (wsV RX5 107 RX5 yX5_isBond wsX5_isBond) := goodIn_app (goodIn_of _ (by decide +kernel)) ggX5_worth_X5_isBond
set_option maxRecDepth 20000 in
theorem ggX5_worth_X5_no : GoodIn wsX5_worth wsX5_no := goodIn_r _ [14, 1, 73, 74, 75, 76, 77, 78, 79, 80, 81, 82] (by decide +kernel) (by decide +kernel)
set_option maxRecDepth 20000 in
theorem gX5_worth_X5_no : GoodIn wsX5_worth (wsV RX5 67 RX5 yX5_no wsX5_no) := goodIn_app (goodIn_of _ (by decide +kernel)) ggX5_worth_X5_no
set_option maxRecDepth 20000 in
theorem ggX5_worth_X5_isIn : GoodIn wsX5_worth wsX5_isIn := goodIn_r _ [10] (by decide +kernel) (by decide +kernel)
set_option maxRecDepth 20000 in
theorem gX5_worth_X5_isIn : GoodIn wsX5_worth (va_wsS RX5 46 yX5_isIn wsX5_isIn) := goodIn_app (goodIn_of _ (by decide +kernel)) ggX5_worth_X5_isIn
set_option maxRecDepth 20000 in
theorem ggX5_worth_X5_worthNow : GoodIn wsX5_worth wsX5_worthNow := goodIn_r _ [18, 19, 20, 21, 22, 5, 23, 24, 25, 26, 27, 28, 29, 30, 31, 32, 33, 34, 35, 36, 37, 38, 39, 40, 41, 42, 43, 44, 45, 46, 47, 48, 49, 50, 51, 52, 53, 54, 55, 56, 57, 58, 59, 60, 61, 62, 63, 64, 65, 66, 67, 68, 69, 70, 71, 72, 73, 74, 75, 76, 77, 78, 79, 80, 81, 82] (by decide +kernel) (by decide +kernel)
set_option maxRecDepth 20000 in
theorem gX5_worth_X5_worthNow : GoodIn wsX5_worth (wsV RX5 167 RX5 yX5_worthNow wsX5_worthNow) := goodIn_app (goodIn_of _ (by decide +kernel)) ggX5_worth_X5_worthNow
theorem dX5_worth_0 : decode cX5_worth 0 = .ok (.aload_n 0, 1) := by decide +kernel
theorem dX5_worth_1 : decode cX5_worth 1 = .ok (.iconst 0, 1) := by decide +kernel
theorem dX5_worth_2 : decode cX5_worth 2 = .ok (.putfield 41, 3) := by decide +kernel
theorem dX5_worth_5 : decode cX5_worth 5 = .ok (.aload_n 0, 1) := by decide +kernel
theorem dX5_worth_6 : decode cX5_worth 6 = .ok (.iload_n 1, 1) := by decide +kernel
theorem dX5_worth_7 : decode cX5_worth 7 = .ok (.invokevirtual 107, 3) := by decide +kernel
theorem dX5_worth_10 : decode cX5_worth 10 = .ok (.ifCond .ne 9, 3) := by decide +kernel
theorem dX5_worth_13 : decode cX5_worth 13 = .ok (.aload_n 0, 1) := by decide +kernel
theorem dX5_worth_14 : decode cX5_worth 14 = .ok (.iconst 1, 1) := by decide +kernel
theorem dX5_worth_15 : decode cX5_worth 15 = .ok (.invokevirtual 67, 3) := by decide +kernel
theorem dX5_worth_18 : decode cX5_worth 18 = .ok (.ireturn, 1) := by decide +kernel
theorem dX5_worth_19 : decode cX5_worth 19 = .ok (.iload_n 2, 1) := by decide +kernel
theorem dX5_worth_20 : decode cX5_worth 20 = .ok (.iconst 0, 1) := by decide +kernel
theorem dX5_worth_21 : decode cX5_worth 21 = .ok (.sipush 5000, 3) := by decide +kernel
theorem dX5_worth_24 : decode cX5_worth 24 = .ok (.invokestatic 46, 3) := by decide +kernel
theorem dX5_worth_27 : decode cX5_worth 27 = .ok (.ifCond .eq 13, 3) := by decide +kernel
theorem dX5_worth_30 : decode cX5_worth 30 = .ok (.aload_n 0, 1) := by decide +kernel
theorem dX5_worth_31 : decode cX5_worth 31 = .ok (.iload_n 1, 1) := by decide +kernel
theorem dX5_worth_32 : decode cX5_worth 32 = .ok (.iload_n 2, 1) := by decide +kernel
theorem dX5_worth_33 : decode cX5_worth 33 = .ok (.invokevirtual 167, 3) := by decide +kernel
theorem dX5_worth_36 : decode cX5_worth 36 = .ok (.l2i, 1) := by decide +kernel
theorem dX5_worth_37 : decode cX5_worth 37 = .ok (.goto 8, 3) := by decide +kernel
theorem dX5_worth_40 : decode cX5_worth 40 = .ok (.aload_n 0, 1) := by decide +kernel
theorem dX5_worth_41 : decode cX5_worth 41 = .ok (.iconst 2, 1) := by decide +kernel
theorem dX5_worth_42 : decode cX5_worth 42 = .ok (.invokevirtual 67, 3) := by decide +kernel
theorem dX5_worth_45 : decode cX5_worth 45 = .ok (.ireturn, 1) := by decide +kernel
set_option maxRecDepth 20000 in
theorem ggX5_fullPrice_X5_own : GoodIn wsX5_fullPrice wsX5_own := goodIn_r _ [8, 9, 53, 54, 55, 56, 57, 58, 59, 60, 61, 62] (by decide +kernel) (by decide +kernel)
set_option maxRecDepth 20000 in
theorem gX5_fullPrice_X5_own : GoodIn wsX5_fullPrice (wsV RX5 94 RX5 yX5_own wsX5_own) := goodIn_app (goodIn_of _ (by decide +kernel)) ggX5_fullPrice_X5_own
set_option maxRecDepth 20000 in
theorem ggX5_fullPrice_X5_accruedOn : GoodIn wsX5_fullPrice wsX5_accruedOn := goodIn_r _ [13, 14, 15, 16, 7, 17, 4, 5, 6, 8, 9, 18, 19, 20, 21, 22, 23, 24, 25, 26, 27, 28, 29, 30, 31, 32, 33, 34, 35, 36, 37, 38, 39, 40, 2, 41, 42, 43, 44, 45, 46, 47, 48, 49, 50, 51, 52, 53, 54, 55, 56, 57, 58, 59, 60, 61, 62] (by decide +kernel) (by decide +kernel)
set_option maxRecDepth 20000 in
theorem gX5_fullPrice_X5_accruedOn : GoodIn wsX5_fullPrice (wsV RX5 154 RX5 yX5_accruedOn wsX5_accruedOn) := goodIn_app (goodIn_of _ (by decide +kernel)) ggX5_fullPrice_X5_accruedOn
theorem dX5_fullPrice_0 : decode cX5_fullPrice 0 = .ok (.ldc2_w 159, 3) := by decide +kernel
theorem dX5_fullPrice_3 : decode cX5_fullPrice 3 = .ok (.aload_n 0, 1) := by decide +kernel
theorem dX5_fullPrice_4 : decode cX5_fullPrice 4 = .ok (.iload_n 1, 1) := by decide +kernel
theorem dX5_fullPrice_5 : decode cX5_fullPrice 5 = .ok (.iconst 5, 1) := by decide +kernel
theorem dX5_fullPrice_6 : decode cX5_fullPrice 6 = .ok (.invokevirtual 94, 3) := by decide +kernel
theorem dX5_fullPrice_9 : decode cX5_fullPrice 9 = .ok (.i2l, 1) := by decide +kernel
theorem dX5_fullPrice_10 : decode cX5_fullPrice 10 = .ok (.lmul, 1) := by decide +kernel
theorem dX5_fullPrice_11 : decode cX5_fullPrice 11 = .ok (.iload_n 2, 1) := by decide +kernel
theorem dX5_fullPrice_12 : decode cX5_fullPrice 12 = .ok (.i2l, 1) := by decide +kernel
theorem dX5_fullPrice_13 : decode cX5_fullPrice 13 = .ok (.lmul, 1) := by decide +kernel
theorem dX5_fullPrice_14 : decode cX5_fullPrice 14 = .ok (.ldc2_w 132, 3) := by decide +kernel
theorem dX5_fullPrice_17 : decode cX5_fullPrice 17 = .ok (.ldiv, 1) := by decide +kernel
theorem dX5_fullPrice_18 : decode cX5_fullPrice 18 = .ok (.aload_n 0, 1) := by decide +kernel
theorem dX5_fullPrice_19 : decode cX5_fullPrice 19 = .ok (.iload_n 1, 1) := by decide +kernel
theorem dX5_fullPrice_20 : decode cX5_fullPrice 20 = .ok (.aload_n 0, 1) := by decide +kernel
theorem dX5_fullPrice_21 : decode cX5_fullPrice 21 = .ok (.getfield 14, 3) := by decide +kernel
theorem dX5_fullPrice_24 : decode cX5_fullPrice 24 = .ok (.invokevirtual 154, 3) := by decide +kernel
theorem dX5_fullPrice_27 : decode cX5_fullPrice 27 = .ok (.i2l, 1) := by decide +kernel
theorem dX5_fullPrice_28 : decode cX5_fullPrice 28 = .ok (.ladd, 1) := by decide +kernel
theorem dX5_fullPrice_29 : decode cX5_fullPrice 29 = .ok (.lreturn, 1) := by decide +kernel
set_option maxRecDepth 20000 in
theorem ggX5_yielded_X5_isThere : GoodIn wsX5_yielded wsX5_isThere := goodIn_r _ [5, 6, 7, 8, 4, 9, 10, 75, 76, 77, 78, 79, 80, 81, 82, 83, 84] (by decide +kernel) (by decide +kernel)
set_option maxRecDepth 20000 in
theorem gX5_yielded_X5_isThere : GoodIn wsX5_yielded (wsV RX5 110 RX5 yX5_isThere wsX5_isThere) := goodIn_app (goodIn_of _ (by decide +kernel)) ggX5_yielded_X5_isThere
set_option maxRecDepth 20000 in
theorem ggX5_yielded_X5_fullPrice : GoodIn wsX5_yielded wsX5_fullPrice := goodIn_r _ [14, 15, 16, 17, 6, 7, 8, 4, 9, 10, 18, 19, 20, 21, 1, 2, 3, 5, 22, 23, 24, 25, 26, 27, 28, 29, 30, 31, 32, 33, 34, 35, 36, 37, 38, 39, 40, 41, 42, 43, 44, 45, 46, 47, 48, 49, 50, 51, 52, 53, 54, 55, 56, 75, 76, 77, 78, 79, 80, 81, 82, 83, 84] (by decide +kernel) (by decide +kernel)
set_option maxRecDepth 20000 in
theorem gX5_yielded_X5_fullPrice : GoodIn wsX5_yielded (wsV RX5 171 RX5 yX5_fullPrice wsX5_fullPrice) := goodIn_app (goodIn_of _ (by decide +kernel)) ggX5_yielded_X5_fullPrice
set_option maxRecDepth 20000 in
theorem ggX5_yielded_X5_worthNow : GoodIn wsX5_yielded wsX5_worthNow := goodIn_r _ [60, 17, 1, 2, 3, 4, 5, 6, 7, 8, 9, 10, 61, 62, 63, 64, 16, 65, 44, 54, 55, 37, 56, 15, 66, 22, 23, 24, 25, 26, 27, 28, 29, 30, 67, 68, 69, 70, 71, 72, 73, 74, 39, 40, 41, 42, 43, 45, 46, 47, 48, 49, 50, 51, 52, 53, 75, 76, 77, 78, 79, 80, 81, 82, 83, 84] (by decide +kernel) (by decide +kernel)
set_option maxRecDepth 20000 in
theorem gX5_yielded_X5_worthNow : GoodIn wsX5_yielded (wsV RX5 167 RX5 yX5_worthNow wsX5_worthNow) := goodIn_app (goodIn_of _ (by decide +kernel)) ggX5_yielded_X5_worthNow
theorem dX5_yielded_0 : decode cX5_yielded 0 = .ok (.aload_n 0, 1) := by decide +kernel
theorem dX5_yielded_1 : decode cX5_yielded 1 = .ok (.iload_n 1, 1) := by decide +kernel
theorem dX5_yielded_2 : decode cX5_yielded 2 = .ok (.invokevirtual 110, 3) := by decide +kernel
theorem dX5_yielded_5 : decode cX5_yielded 5 = .ok (.ifCond .ne 5, 3) := by decide +kernel
theorem dX5_yielded_8 : decode cX5_yielded 8 = .ok (.iconst (-1), 1) := by decide +kernel
theorem dX5_yielded_9 : decode cX5_yielded 9 = .ok (.ireturn, 1) := by decide +kernel
theorem dX5_yielded_10 : decode cX5_yielded 10 = .ok (.aload_n 0, 1) := by decide +kernel
theorem dX5_yielded_11 : decode cX5_yielded 11 = .ok (.iload_n 1, 1) := by decide +kernel
theorem dX5_yielded_12 : decode cX5_yielded 12 = .ok (.iload_n 2, 1) := by decide +kernel
theorem dX5_yielded_13 : decode cX5_yielded 13 = .ok (.invokevirtual 171, 3) := by decide +kernel
theorem dX5_yielded_16 : decode cX5_yielded 16 = .ok (.lstore_n 3, 1) := by decide +kernel
theorem dX5_yielded_17 : decode cX5_yielded 17 = .ok (.iconst (-1), 1) := by decide +kernel
theorem dX5_yielded_18 : decode cX5_yielded 18 = .ok (.istore 5, 2) := by decide +kernel
theorem dX5_yielded_20 : decode cX5_yielded 20 = .ok (.sipush 5001, 3) := by decide +kernel
theorem dX5_yielded_23 : decode cX5_yielded 23 = .ok (.istore 6, 2) := by decide +kernel
theorem dX5_yielded_25 : decode cX5_yielded 25 = .ok (.iload 6, 2) := by decide +kernel
theorem dX5_yielded_27 : decode cX5_yielded 27 = .ok (.iload 5, 2) := by decide +kernel
theorem dX5_yielded_29 : decode cX5_yielded 29 = .ok (.isub, 1) := by decide +kernel
theorem dX5_yielded_30 : decode cX5_yielded 30 = .ok (.iconst 1, 1) := by decide +kernel
theorem dX5_yielded_31 : decode cX5_yielded 31 = .ok (.if_icmp .le 38, 3) := by decide +kernel
theorem dX5_yielded_34 : decode cX5_yielded 34 = .ok (.iload 6, 2) := by decide +kernel
theorem dX5_yielded_36 : decode cX5_yielded 36 = .ok (.iload 5, 2) := by decide +kernel
theorem dX5_yielded_38 : decode cX5_yielded 38 = .ok (.iadd, 1) := by decide +kernel
theorem dX5_yielded_39 : decode cX5_yielded 39 = .ok (.iconst 2, 1) := by decide +kernel
theorem dX5_yielded_40 : decode cX5_yielded 40 = .ok (.idiv, 1) := by decide +kernel
theorem dX5_yielded_41 : decode cX5_yielded 41 = .ok (.istore 7, 2) := by decide +kernel
theorem dX5_yielded_43 : decode cX5_yielded 43 = .ok (.aload_n 0, 1) := by decide +kernel
theorem dX5_yielded_44 : decode cX5_yielded 44 = .ok (.iload_n 1, 1) := by decide +kernel
theorem dX5_yielded_45 : decode cX5_yielded 45 = .ok (.iload 7, 2) := by decide +kernel
theorem dX5_yielded_47 : decode cX5_yielded 47 = .ok (.invokevirtual 167, 3) := by decide +kernel
theorem dX5_yielded_50 : decode cX5_yielded 50 = .ok (.lload_n 3, 1) := by decide +kernel
theorem dX5_yielded_51 : decode cX5_yielded 51 = .ok (.lcmp, 1) := by decide +kernel
theorem dX5_yielded_52 : decode cX5_yielded 52 = .ok (.ifCond .lt 10, 3) := by decide +kernel
theorem dX5_yielded_55 : decode cX5_yielded 55 = .ok (.iload 7, 2) := by decide +kernel
theorem dX5_yielded_57 : decode cX5_yielded 57 = .ok (.istore 5, 2) := by decide +kernel
theorem dX5_yielded_59 : decode cX5_yielded 59 = .ok (.goto 7, 3) := by decide +kernel
theorem dX5_yielded_62 : decode cX5_yielded 62 = .ok (.iload 7, 2) := by decide +kernel
theorem dX5_yielded_64 : decode cX5_yielded 64 = .ok (.istore 6, 2) := by decide +kernel
theorem dX5_yielded_66 : decode cX5_yielded 66 = .ok (.goto (-41), 3) := by decide +kernel
theorem dX5_yielded_69 : decode cX5_yielded 69 = .ok (.iload 5, 2) := by decide +kernel
theorem dX5_yielded_71 : decode cX5_yielded 71 = .ok (.ireturn, 1) := by decide +kernel
set_option maxRecDepth 20000 in
theorem ggX5_yields_X5_isBond : GoodIn wsX5_yields wsX5_isBond := goodIn_r _ [6, 7, 8, 9, 5, 10, 92, 93, 94, 95, 96, 97, 98, 99, 100, 101] (by decide +kernel) (by decide +kernel)
set_option maxRecDepth 20000 in
theorem gX5_yields_X5_isBond : GoodIn wsX5_yields (wsV RX5 107 RX5 yX5_isBond wsX5_isBond) := goodIn_app (goodIn_of _ (by decide +kernel)) ggX5_yields_X5_isBond
set_option maxRecDepth 20000 in
theorem ggX5_yields_X5_no : GoodIn wsX5_yields wsX5_no := goodIn_r _ [14, 1, 92, 93, 94, 95, 96, 97, 98, 99, 100, 101] (by decide +kernel) (by decide +kernel)
set_option maxRecDepth 20000 in
theorem gX5_yields_X5_no : GoodIn wsX5_yields (wsV RX5 67 RX5 yX5_no wsX5_no) := goodIn_app (goodIn_of _ (by decide +kernel)) ggX5_yields_X5_no
set_option maxRecDepth 20000 in
theorem ggX5_yields_X5_isIn : GoodIn wsX5_yields wsX5_isIn := goodIn_r _ [10] (by decide +kernel) (by decide +kernel)
set_option maxRecDepth 20000 in
theorem gX5_yields_X5_isIn : GoodIn wsX5_yields (va_wsS RX5 46 yX5_isIn wsX5_isIn) := goodIn_app (goodIn_of _ (by decide +kernel)) ggX5_yields_X5_isIn
set_option maxRecDepth 20000 in
theorem ggX5_yields_X5_yielded : GoodIn wsX5_yields wsX5_yielded := goodIn_r _ [18, 19, 20, 21, 5, 22, 23, 24, 25, 26, 27, 28, 29, 30, 31, 32, 33, 34, 35, 36, 37, 38, 39, 40, 41, 42, 43, 44, 45, 46, 47, 48, 49, 50, 51, 52, 53, 54, 55, 56, 57, 58, 59, 60, 61, 62, 63, 64, 65, 66, 67, 68, 69, 70, 71, 72, 73, 74, 75, 76, 77, 78, 79, 80, 81, 82, 83, 84, 85, 86, 87, 88, 89, 90, 91, 92, 93, 94, 95, 96, 97, 98, 99, 100, 101] (by decide +kernel) (by decide +kernel)
set_option maxRecDepth 20000 in
theorem gX5_yields_X5_yielded : GoodIn wsX5_yields (wsV RX5 174 RX5 yX5_yielded wsX5_yielded) := goodIn_app (goodIn_of _ (by decide +kernel)) ggX5_yields_X5_yielded
theorem dX5_yields_0 : decode cX5_yields 0 = .ok (.aload_n 0, 1) := by decide +kernel
theorem dX5_yields_1 : decode cX5_yields 1 = .ok (.iconst 0, 1) := by decide +kernel
theorem dX5_yields_2 : decode cX5_yields 2 = .ok (.putfield 41, 3) := by decide +kernel
theorem dX5_yields_5 : decode cX5_yields 5 = .ok (.aload_n 0, 1) := by decide +kernel
theorem dX5_yields_6 : decode cX5_yields 6 = .ok (.iload_n 1, 1) := by decide +kernel
theorem dX5_yields_7 : decode cX5_yields 7 = .ok (.invokevirtual 107, 3) := by decide +kernel
theorem dX5_yields_10 : decode cX5_yields 10 = .ok (.ifCond .ne 9, 3) := by decide +kernel
theorem dX5_yields_13 : decode cX5_yields 13 = .ok (.aload_n 0, 1) := by decide +kernel
theorem dX5_yields_14 : decode cX5_yields 14 = .ok (.iconst 1, 1) := by decide +kernel
theorem dX5_yields_15 : decode cX5_yields 15 = .ok (.invokevirtual 67, 3) := by decide +kernel
theorem dX5_yields_18 : decode cX5_yields 18 = .ok (.ireturn, 1) := by decide +kernel
theorem dX5_yields_19 : decode cX5_yields 19 = .ok (.iload_n 2, 1) := by decide +kernel
theorem dX5_yields_20 : decode cX5_yields 20 = .ok (.iconst 1, 1) := by decide +kernel
theorem dX5_yields_21 : decode cX5_yields 21 = .ok (.sipush 30000, 3) := by decide +kernel
theorem dX5_yields_24 : decode cX5_yields 24 = .ok (.invokestatic 46, 3) := by decide +kernel
theorem dX5_yields_27 : decode cX5_yields 27 = .ok (.ifCond .eq 12, 3) := by decide +kernel
theorem dX5_yields_30 : decode cX5_yields 30 = .ok (.aload_n 0, 1) := by decide +kernel
theorem dX5_yields_31 : decode cX5_yields 31 = .ok (.iload_n 1, 1) := by decide +kernel
theorem dX5_yields_32 : decode cX5_yields 32 = .ok (.iload_n 2, 1) := by decide +kernel
theorem dX5_yields_33 : decode cX5_yields 33 = .ok (.invokevirtual 174, 3) := by decide +kernel
theorem dX5_yields_36 : decode cX5_yields 36 = .ok (.goto 8, 3) := by decide +kernel
theorem dX5_yields_39 : decode cX5_yields 39 = .ok (.aload_n 0, 1) := by decide +kernel
theorem dX5_yields_40 : decode cX5_yields 40 = .ok (.iconst 2, 1) := by decide +kernel
theorem dX5_yields_41 : decode cX5_yields 41 = .ok (.invokevirtual 67, 3) := by decide +kernel
theorem dX5_yields_44 : decode cX5_yields 44 = .ok (.ireturn, 1) := by decide +kernel
set_option maxRecDepth 20000 in
theorem ggX5_moves_X5_isBond : GoodIn wsX5_moves wsX5_isBond := goodIn_r _ [6, 7, 8, 9, 5, 10, 73, 74, 75, 76, 77, 78, 79, 80, 81, 82] (by decide +kernel) (by decide +kernel)
set_option maxRecDepth 20000 in
theorem gX5_moves_X5_isBond : GoodIn wsX5_moves (wsV RX5 107 RX5 yX5_isBond wsX5_isBond) := goodIn_app (goodIn_of _ (by decide +kernel)) ggX5_moves_X5_isBond
set_option maxRecDepth 20000 in
theorem ggX5_moves_X5_no : GoodIn wsX5_moves wsX5_no := goodIn_r _ [14, 1, 73, 74, 75, 76, 77, 78, 79, 80, 81, 82] (by decide +kernel) (by decide +kernel)
set_option maxRecDepth 20000 in
theorem gX5_moves_X5_no : GoodIn wsX5_moves (wsV RX5 67 RX5 yX5_no wsX5_no) := goodIn_app (goodIn_of _ (by decide +kernel)) ggX5_moves_X5_no
set_option maxRecDepth 20000 in
theorem ggX5_moves_X5_isIn : GoodIn wsX5_moves wsX5_isIn := goodIn_r _ [10] (by decide +kernel) (by decide +kernel)
set_option maxRecDepth 20000 in
theorem gX5_moves_X5_isIn : GoodIn wsX5_moves (va_wsS RX5 46 yX5_isIn wsX5_isIn) := goodIn_app (goodIn_of _ (by decide +kernel)) ggX5_moves_X5_isIn
set_option maxRecDepth 20000 in
theorem ggX5_moves_X5_worthNow : GoodIn wsX5_moves wsX5_worthNow := goodIn_r _ [18, 19, 20, 21, 22, 5, 23, 24, 25, 26, 27, 28, 29, 30, 31, 32, 33, 34, 35, 36, 37, 38, 39, 40, 41, 42, 43, 44, 45, 46, 47, 48, 49, 50, 51, 52, 53, 54, 55, 56, 57, 58, 59, 60, 61, 62, 63, 64, 65, 66, 67, 68, 69, 70, 71, 72, 73, 74, 75, 76, 77, 78, 79, 80, 81, 82] (by decide +kernel) (by decide +kernel)
set_option maxRecDepth 20000 in
theorem gX5_moves_X5_worthNow : GoodIn wsX5_moves (wsV RX5 167 RX5 yX5_worthNow wsX5_worthNow) := goodIn_app (goodIn_of _ (by decide +kernel)) ggX5_moves_X5_worthNow
theorem dX5_moves_0 : decode cX5_moves 0 = .ok (.aload_n 0, 1) := by decide +kernel
theorem dX5_moves_1 : decode cX5_moves 1 = .ok (.iconst 0, 1) := by decide +kernel
theorem dX5_moves_2 : decode cX5_moves 2 = .ok (.putfield 41, 3) := by decide +kernel
theorem dX5_moves_5 : decode cX5_moves 5 = .ok (.aload_n 0, 1) := by decide +kernel
theorem dX5_moves_6 : decode cX5_moves 6 = .ok (.iload_n 1, 1) := by decide +kernel
theorem dX5_moves_7 : decode cX5_moves 7 = .ok (.invokevirtual 107, 3) := by decide +kernel
theorem dX5_moves_10 : decode cX5_moves 10 = .ok (.ifCond .ne 9, 3) := by decide +kernel
theorem dX5_moves_13 : decode cX5_moves 13 = .ok (.aload_n 0, 1) := by decide +kernel
theorem dX5_moves_14 : decode cX5_moves 14 = .ok (.iconst 1, 1) := by decide +kernel
theorem dX5_moves_15 : decode cX5_moves 15 = .ok (.invokevirtual 67, 3) := by decide +kernel
theorem dX5_moves_18 : decode cX5_moves 18 = .ok (.ireturn, 1) := by decide +kernel
theorem dX5_moves_19 : decode cX5_moves 19 = .ok (.iload_n 2, 1) := by decide +kernel
theorem dX5_moves_20 : decode cX5_moves 20 = .ok (.iconst 0, 1) := by decide +kernel
theorem dX5_moves_21 : decode cX5_moves 21 = .ok (.sipush 5000, 3) := by decide +kernel
theorem dX5_moves_24 : decode cX5_moves 24 = .ok (.invokestatic 46, 3) := by decide +kernel
theorem dX5_moves_27 : decode cX5_moves 27 = .ok (.ifCond .eq 22, 3) := by decide +kernel
theorem dX5_moves_30 : decode cX5_moves 30 = .ok (.aload_n 0, 1) := by decide +kernel
theorem dX5_moves_31 : decode cX5_moves 31 = .ok (.iload_n 1, 1) := by decide +kernel
theorem dX5_moves_32 : decode cX5_moves 32 = .ok (.iload_n 2, 1) := by decide +kernel
theorem dX5_moves_33 : decode cX5_moves 33 = .ok (.invokevirtual 167, 3) := by decide +kernel
theorem dX5_moves_36 : decode cX5_moves 36 = .ok (.aload_n 0, 1) := by decide +kernel
theorem dX5_moves_37 : decode cX5_moves 37 = .ok (.iload_n 1, 1) := by decide +kernel
theorem dX5_moves_38 : decode cX5_moves 38 = .ok (.iload_n 2, 1) := by decide +kernel
theorem dX5_moves_39 : decode cX5_moves 39 = .ok (.iconst 1, 1) := by decide +kernel
theorem dX5_moves_40 : decode cX5_moves 40 = .ok (.iadd, 1) := by decide +kernel
theorem dX5_moves_41 : decode cX5_moves 41 = .ok (.invokevirtual 167, 3) := by decide +kernel
theorem dX5_moves_44 : decode cX5_moves 44 = .ok (.lsub, 1) := by decide +kernel
theorem dX5_moves_45 : decode cX5_moves 45 = .ok (.l2i, 1) := by decide +kernel
theorem dX5_moves_46 : decode cX5_moves 46 = .ok (.goto 8, 3) := by decide +kernel
theorem dX5_moves_49 : decode cX5_moves 49 = .ok (.aload_n 0, 1) := by decide +kernel
theorem dX5_moves_50 : decode cX5_moves 50 = .ok (.iconst 2, 1) := by decide +kernel
theorem dX5_moves_51 : decode cX5_moves 51 = .ok (.invokevirtual 67, 3) := by decide +kernel
theorem dX5_moves_54 : decode cX5_moves 54 = .ok (.ireturn, 1) := by decide +kernel
set_option maxRecDepth 20000 in
theorem ggX5_callPaid_X5_own : GoodIn wsX5_callPaid wsX5_own := goodIn_r _ [7, 8, 9, 10, 11, 12, 13, 14, 15, 16, 17, 18] (by decide +kernel) (by decide +kernel)
set_option maxRecDepth 20000 in
theorem gX5_callPaid_X5_own : GoodIn wsX5_callPaid (wsV RX5 94 RX5 yX5_own wsX5_own) := goodIn_app (goodIn_of _ (by decide +kernel)) ggX5_callPaid_X5_own
theorem dX5_callPaid_0 : decode cX5_callPaid 0 = .ok (.ldc2_w 159, 3) := by decide +kernel
theorem dX5_callPaid_3 : decode cX5_callPaid 3 = .ok (.iload_n 2, 1) := by decide +kernel
theorem dX5_callPaid_4 : decode cX5_callPaid 4 = .ok (.i2l, 1) := by decide +kernel
theorem dX5_callPaid_5 : decode cX5_callPaid 5 = .ok (.lmul, 1) := by decide +kernel
theorem dX5_callPaid_6 : decode cX5_callPaid 6 = .ok (.aload_n 0, 1) := by decide +kernel
theorem dX5_callPaid_7 : decode cX5_callPaid 7 = .ok (.iload_n 1, 1) := by decide +kernel
theorem dX5_callPaid_8 : decode cX5_callPaid 8 = .ok (.bipush 13, 2) := by decide +kernel
theorem dX5_callPaid_10 : decode cX5_callPaid 10 = .ok (.invokevirtual 94, 3) := by decide +kernel
theorem dX5_callPaid_13 : decode cX5_callPaid 13 = .ok (.i2l, 1) := by decide +kernel
theorem dX5_callPaid_14 : decode cX5_callPaid 14 = .ok (.lmul, 1) := by decide +kernel
theorem dX5_callPaid_15 : decode cX5_callPaid 15 = .ok (.ldc2_w 132, 3) := by decide +kernel
theorem dX5_callPaid_18 : decode cX5_callPaid 18 = .ok (.ldiv, 1) := by decide +kernel
theorem dX5_callPaid_19 : decode cX5_callPaid 19 = .ok (.lreturn, 1) := by decide +kernel
set_option maxRecDepth 20000 in
theorem ggX5_callsAt_X5_isBond : GoodIn wsX5_callsAt wsX5_isBond := goodIn_r _ [6, 7, 8, 9, 5, 10, 87, 88, 89, 90, 91, 92, 93, 94, 95, 96] (by decide +kernel) (by decide +kernel)
set_option maxRecDepth 20000 in
theorem gX5_callsAt_X5_isBond : GoodIn wsX5_callsAt (wsV RX5 107 RX5 yX5_isBond wsX5_isBond) := goodIn_app (goodIn_of _ (by decide +kernel)) ggX5_callsAt_X5_isBond
set_option maxRecDepth 20000 in
theorem ggX5_callsAt_X5_no : GoodIn wsX5_callsAt wsX5_no := goodIn_r _ [14, 1, 87, 88, 89, 90, 91, 92, 93, 94, 95, 96] (by decide +kernel) (by decide +kernel)
set_option maxRecDepth 20000 in
theorem gX5_callsAt_X5_no : GoodIn wsX5_callsAt (wsV RX5 67 RX5 yX5_no wsX5_no) := goodIn_app (goodIn_of _ (by decide +kernel)) ggX5_callsAt_X5_no
set_option maxRecDepth 20000 in
theorem ggX5_callsAt_X5_firstCall : GoodIn wsX5_callsAt wsX5_firstCall := goodIn_r _ [18, 19, 20, 21, 5, 22, 23, 24, 25, 26, 27, 28, 29, 30, 31, 32, 33, 34, 35, 36, 87, 88, 89, 90, 91, 92, 93, 94, 95, 96] (by decide +kernel) (by decide +kernel)
set_option maxRecDepth 20000 in
theorem gX5_callsAt_X5_firstCall : GoodIn wsX5_callsAt (wsV RX5 119 RX5 yX5_firstCall wsX5_firstCall) := goodIn_app (goodIn_of _ (by decide +kernel)) ggX5_callsAt_X5_firstCall
set_option maxRecDepth 20000 in
theorem ggX5_callsAt_X5_leftBehind : GoodIn wsX5_callsAt wsX5_leftBehind := goodIn_r _ [40, 41, 42, 43, 44, 23, 24, 25, 5, 26, 27, 45, 46, 47, 48, 32, 33, 34, 35, 36, 87, 88, 89, 90, 91, 92, 93, 94, 95, 96] (by decide +kernel) (by decide +kernel)
set_option maxRecDepth 20000 in
theorem gX5_callsAt_X5_leftBehind : GoodIn wsX5_callsAt (wsV RX5 113 RX5 yX5_leftBehind wsX5_leftBehind) := goodIn_app (goodIn_of _ (by decide +kernel)) ggX5_callsAt_X5_leftBehind
set_option maxRecDepth 20000 in
theorem ggX5_callsAt_X5_couponDay : GoodIn wsX5_callsAt wsX5_couponDay := goodIn_r _ [35, 36, 87, 88, 89, 90, 91, 92, 93, 94, 95, 96] (by decide +kernel) (by decide +kernel)
set_option maxRecDepth 20000 in
theorem gX5_callsAt_X5_couponDay : GoodIn wsX5_callsAt (wsV RX5 97 RX5 yX5_couponDay wsX5_couponDay) := goodIn_app (goodIn_of _ (by decide +kernel)) ggX5_callsAt_X5_couponDay
set_option maxRecDepth 20000 in
theorem ggX5_callsAt_X5_worthOn : GoodIn wsX5_callsAt wsX5_worthOn := goodIn_r _ [52, 53, 54, 55, 56, 57, 43, 58, 59, 60, 61, 62, 63, 5, 64, 23, 24, 25, 26, 27, 32, 33, 34, 35, 36, 45, 46, 47, 48, 65, 66, 67, 68, 69, 70, 71, 72, 73, 74, 75, 76, 77, 78, 79, 80, 81, 82, 87, 88, 89, 90, 91, 92, 93, 94, 95, 96] (by decide +kernel) (by decide +kernel)
set_option maxRecDepth 20000 in
theorem gX5_callsAt_X5_worthOn : GoodIn wsX5_callsAt (wsV RX5 163 RX5 yX5_worthOn wsX5_worthOn) := goodIn_app (goodIn_of _ (by decide +kernel)) ggX5_callsAt_X5_worthOn
set_option maxRecDepth 20000 in
theorem ggX5_callsAt_X5_callPaid : GoodIn wsX5_callsAt wsX5_callPaid := goodIn_r _ [86, 59, 53, 23, 24, 25, 5, 26, 27, 87, 88, 89, 90, 91, 92, 93, 94, 95, 96] (by decide +kernel) (by decide +kernel)
set_option maxRecDepth 20000 in
theorem gX5_callsAt_X5_callPaid : GoodIn wsX5_callsAt (wsV RX5 177 RX5 yX5_callPaid wsX5_callPaid) := goodIn_app (goodIn_of _ (by decide +kernel)) ggX5_callsAt_X5_callPaid
theorem dX5_callsAt_0 : decode cX5_callsAt 0 = .ok (.aload_n 0, 1) := by decide +kernel
theorem dX5_callsAt_1 : decode cX5_callsAt 1 = .ok (.iconst 0, 1) := by decide +kernel
theorem dX5_callsAt_2 : decode cX5_callsAt 2 = .ok (.putfield 41, 3) := by decide +kernel
theorem dX5_callsAt_5 : decode cX5_callsAt 5 = .ok (.aload_n 0, 1) := by decide +kernel
theorem dX5_callsAt_6 : decode cX5_callsAt 6 = .ok (.iload_n 1, 1) := by decide +kernel
theorem dX5_callsAt_7 : decode cX5_callsAt 7 = .ok (.invokevirtual 107, 3) := by decide +kernel
theorem dX5_callsAt_10 : decode cX5_callsAt 10 = .ok (.ifCond .ne 9, 3) := by decide +kernel
theorem dX5_callsAt_13 : decode cX5_callsAt 13 = .ok (.aload_n 0, 1) := by decide +kernel
theorem dX5_callsAt_14 : decode cX5_callsAt 14 = .ok (.iconst 1, 1) := by decide +kernel
theorem dX5_callsAt_15 : decode cX5_callsAt 15 = .ok (.invokevirtual 67, 3) := by decide +kernel
theorem dX5_callsAt_18 : decode cX5_callsAt 18 = .ok (.ireturn, 1) := by decide +kernel
theorem dX5_callsAt_19 : decode cX5_callsAt 19 = .ok (.aload_n 0, 1) := by decide +kernel
theorem dX5_callsAt_20 : decode cX5_callsAt 20 = .ok (.iload_n 1, 1) := by decide +kernel
theorem dX5_callsAt_21 : decode cX5_callsAt 21 = .ok (.invokevirtual 119, 3) := by decide +kernel
theorem dX5_callsAt_24 : decode cX5_callsAt 24 = .ok (.istore_n 2, 1) := by decide +kernel
theorem dX5_callsAt_25 : decode cX5_callsAt 25 = .ok (.iload_n 2, 1) := by decide +kernel
theorem dX5_callsAt_26 : decode cX5_callsAt 26 = .ok (.iconst (-1), 1) := by decide +kernel
theorem dX5_callsAt_27 : decode cX5_callsAt 27 = .ok (.if_icmp .ne 5, 3) := by decide +kernel
theorem dX5_callsAt_30 : decode cX5_callsAt 30 = .ok (.iconst (-1), 1) := by decide +kernel
theorem dX5_callsAt_31 : decode cX5_callsAt 31 = .ok (.ireturn, 1) := by decide +kernel
theorem dX5_callsAt_32 : decode cX5_callsAt 32 = .ok (.aload_n 0, 1) := by decide +kernel
theorem dX5_callsAt_33 : decode cX5_callsAt 33 = .ok (.iload_n 1, 1) := by decide +kernel
theorem dX5_callsAt_34 : decode cX5_callsAt 34 = .ok (.iload_n 2, 1) := by decide +kernel
theorem dX5_callsAt_35 : decode cX5_callsAt 35 = .ok (.invokevirtual 113, 3) := by decide +kernel
theorem dX5_callsAt_38 : decode cX5_callsAt 38 = .ok (.istore_n 3, 1) := by decide +kernel
theorem dX5_callsAt_39 : decode cX5_callsAt 39 = .ok (.iload_n 3, 1) := by decide +kernel
theorem dX5_callsAt_40 : decode cX5_callsAt 40 = .ok (.ifCond .ne 5, 3) := by decide +kernel
theorem dX5_callsAt_43 : decode cX5_callsAt 43 = .ok (.iconst (-1), 1) := by decide +kernel
theorem dX5_callsAt_44 : decode cX5_callsAt 44 = .ok (.ireturn, 1) := by decide +kernel
theorem dX5_callsAt_45 : decode cX5_callsAt 45 = .ok (.iconst (-1), 1) := by decide +kernel
theorem dX5_callsAt_46 : decode cX5_callsAt 46 = .ok (.istore 4, 2) := by decide +kernel
theorem dX5_callsAt_48 : decode cX5_callsAt 48 = .ok (.sipush 2001, 3) := by decide +kernel
theorem dX5_callsAt_51 : decode cX5_callsAt 51 = .ok (.istore 5, 2) := by decide +kernel
theorem dX5_callsAt_53 : decode cX5_callsAt 53 = .ok (.iload 5, 2) := by decide +kernel
theorem dX5_callsAt_55 : decode cX5_callsAt 55 = .ok (.iload 4, 2) := by decide +kernel
theorem dX5_callsAt_57 : decode cX5_callsAt 57 = .ok (.isub, 1) := by decide +kernel
theorem dX5_callsAt_58 : decode cX5_callsAt 58 = .ok (.iconst 1, 1) := by decide +kernel
theorem dX5_callsAt_59 : decode cX5_callsAt 59 = .ok (.if_icmp .le 50, 3) := by decide +kernel
theorem dX5_callsAt_62 : decode cX5_callsAt 62 = .ok (.iload 5, 2) := by decide +kernel
theorem dX5_callsAt_64 : decode cX5_callsAt 64 = .ok (.iload 4, 2) := by decide +kernel
theorem dX5_callsAt_66 : decode cX5_callsAt 66 = .ok (.iadd, 1) := by decide +kernel
theorem dX5_callsAt_67 : decode cX5_callsAt 67 = .ok (.iconst 2, 1) := by decide +kernel
theorem dX5_callsAt_68 : decode cX5_callsAt 68 = .ok (.idiv, 1) := by decide +kernel
theorem dX5_callsAt_69 : decode cX5_callsAt 69 = .ok (.istore 6, 2) := by decide +kernel
theorem dX5_callsAt_71 : decode cX5_callsAt 71 = .ok (.aload_n 0, 1) := by decide +kernel
theorem dX5_callsAt_72 : decode cX5_callsAt 72 = .ok (.iload_n 1, 1) := by decide +kernel
theorem dX5_callsAt_73 : decode cX5_callsAt 73 = .ok (.aload_n 0, 1) := by decide +kernel
theorem dX5_callsAt_74 : decode cX5_callsAt 74 = .ok (.iload_n 1, 1) := by decide +kernel
theorem dX5_callsAt_75 : decode cX5_callsAt 75 = .ok (.iload_n 2, 1) := by decide +kernel
theorem dX5_callsAt_76 : decode cX5_callsAt 76 = .ok (.invokevirtual 97, 3) := by decide +kernel
theorem dX5_callsAt_79 : decode cX5_callsAt 79 = .ok (.iload_n 3, 1) := by decide +kernel
theorem dX5_callsAt_80 : decode cX5_callsAt 80 = .ok (.iload 6, 2) := by decide +kernel
theorem dX5_callsAt_82 : decode cX5_callsAt 82 = .ok (.invokevirtual 163, 3) := by decide +kernel
theorem dX5_callsAt_85 : decode cX5_callsAt 85 = .ok (.aload_n 0, 1) := by decide +kernel
theorem dX5_callsAt_86 : decode cX5_callsAt 86 = .ok (.iload_n 1, 1) := by decide +kernel
theorem dX5_callsAt_87 : decode cX5_callsAt 87 = .ok (.iload_n 3, 1) := by decide +kernel
theorem dX5_callsAt_88 : decode cX5_callsAt 88 = .ok (.invokevirtual 177, 3) := by decide +kernel
theorem dX5_callsAt_91 : decode cX5_callsAt 91 = .ok (.lcmp, 1) := by decide +kernel
theorem dX5_callsAt_92 : decode cX5_callsAt 92 = .ok (.ifCond .le 10, 3) := by decide +kernel
theorem dX5_callsAt_95 : decode cX5_callsAt 95 = .ok (.iload 6, 2) := by decide +kernel
theorem dX5_callsAt_97 : decode cX5_callsAt 97 = .ok (.istore 4, 2) := by decide +kernel
theorem dX5_callsAt_99 : decode cX5_callsAt 99 = .ok (.goto 7, 3) := by decide +kernel
theorem dX5_callsAt_102 : decode cX5_callsAt 102 = .ok (.iload 6, 2) := by decide +kernel
theorem dX5_callsAt_104 : decode cX5_callsAt 104 = .ok (.istore 5, 2) := by decide +kernel
theorem dX5_callsAt_106 : decode cX5_callsAt 106 = .ok (.goto (-53), 3) := by decide +kernel
theorem dX5_callsAt_109 : decode cX5_callsAt 109 = .ok (.iload 4, 2) := by decide +kernel
theorem dX5_callsAt_111 : decode cX5_callsAt 111 = .ok (.ireturn, 1) := by decide +kernel
set_option maxRecDepth 20000 in
theorem ggX5_buy_X5_isBond : GoodIn wsX5_buy wsX5_isBond := goodIn_r _ [9, 10, 11, 12, 8, 13, 80, 81, 82, 83, 84, 85, 86, 87, 88, 89] (by decide +kernel) (by decide +kernel)
set_option maxRecDepth 20000 in
theorem gX5_buy_X5_isBond : GoodIn wsX5_buy (wsV RX5 107 RX5 yX5_isBond wsX5_isBond) := goodIn_app (goodIn_of _ (by decide +kernel)) ggX5_buy_X5_isBond
set_option maxRecDepth 20000 in
theorem ggX5_buy_X5_no : GoodIn wsX5_buy wsX5_no := goodIn_r _ [17, 1, 80, 81, 82, 83, 84, 85, 86, 87, 88, 89] (by decide +kernel) (by decide +kernel)
set_option maxRecDepth 20000 in
theorem gX5_buy_X5_no : GoodIn wsX5_buy (wsV RX5 67 RX5 yX5_no wsX5_no) := goodIn_app (goodIn_of _ (by decide +kernel)) ggX5_buy_X5_no
set_option maxRecDepth 20000 in
theorem ggX5_buy_X5_isIn : GoodIn wsX5_buy wsX5_isIn := goodIn_r _ [13] (by decide +kernel) (by decide +kernel)
set_option maxRecDepth 20000 in
theorem gX5_buy_X5_isIn : GoodIn wsX5_buy (va_wsS RX5 46 yX5_isIn wsX5_isIn) := goodIn_app (goodIn_of _ (by decide +kernel)) ggX5_buy_X5_isIn
set_option maxRecDepth 20000 in
theorem ggX5_buy_X5_fullPrice : GoodIn wsX5_buy wsX5_fullPrice := goodIn_r _ [21, 22, 23, 2, 24, 25, 26, 8, 27, 4, 28, 29, 30, 31, 32, 33, 34, 35, 36, 37, 38, 39, 40, 41, 42, 43, 44, 45, 46, 47, 48, 49, 50, 51, 52, 53, 54, 55, 56, 57, 58, 59, 60, 61, 62, 63, 64, 65, 66, 67, 68, 69, 70, 80, 81, 82, 83, 84, 85, 86, 87, 88, 89] (by decide +kernel) (by decide +kernel)
set_option maxRecDepth 20000 in
theorem gX5_buy_X5_fullPrice : GoodIn wsX5_buy (wsV RX5 171 RX5 yX5_fullPrice wsX5_fullPrice) := goodIn_app (goodIn_of _ (by decide +kernel)) ggX5_buy_X5_fullPrice
set_option maxRecDepth 20000 in
theorem ggX5_buy_X5_isWorking : GoodIn wsX5_buy wsX5_isWorking := goodIn_r _ [74, 75, 76, 77, 78, 8, 79, 80, 81, 82, 83, 84, 85, 86, 87, 88, 89] (by decide +kernel) (by decide +kernel)
set_option maxRecDepth 20000 in
theorem gX5_buy_X5_isWorking : GoodIn wsX5_buy (wsV RX5 60 RX5 yX5_isWorking wsX5_isWorking) := goodIn_app (goodIn_of _ (by decide +kernel)) ggX5_buy_X5_isWorking
set_option maxRecDepth 20000 in
theorem ggX5_buy_X5_isThere : GoodIn wsX5_buy wsX5_isThere := goodIn_r _ [35, 24, 25, 26, 8, 27, 4, 80, 81, 82, 83, 84, 85, 86, 87, 88, 89] (by decide +kernel) (by decide +kernel)
set_option maxRecDepth 20000 in
theorem gX5_buy_X5_isThere : GoodIn wsX5_buy (wsV RX5 110 RX5 yX5_isThere wsX5_isThere) := goodIn_app (goodIn_of _ (by decide +kernel)) ggX5_buy_X5_isThere
set_option maxRecDepth 20000 in
theorem ggX5_buy_X5_own : GoodIn wsX5_buy wsX5_own := goodIn_r _ [27, 4, 80, 81, 82, 83, 84, 85, 86, 87, 88, 89] (by decide +kernel) (by decide +kernel)
set_option maxRecDepth 20000 in
theorem gX5_buy_X5_own : GoodIn wsX5_buy (wsV RX5 94 RX5 yX5_own wsX5_own) := goodIn_app (goodIn_of _ (by decide +kernel)) ggX5_buy_X5_own
theorem dX5_buy_0 : decode cX5_buy 0 = .ok (.aload_n 0, 1) := by decide +kernel
theorem dX5_buy_1 : decode cX5_buy 1 = .ok (.iconst 0, 1) := by decide +kernel
theorem dX5_buy_2 : decode cX5_buy 2 = .ok (.putfield 41, 3) := by decide +kernel
theorem dX5_buy_5 : decode cX5_buy 5 = .ok (.aload_n 0, 1) := by decide +kernel
theorem dX5_buy_6 : decode cX5_buy 6 = .ok (.iload_n 1, 1) := by decide +kernel
theorem dX5_buy_7 : decode cX5_buy 7 = .ok (.invokevirtual 107, 3) := by decide +kernel
theorem dX5_buy_10 : decode cX5_buy 10 = .ok (.ifCond .ne 10, 3) := by decide +kernel
theorem dX5_buy_13 : decode cX5_buy 13 = .ok (.aload_n 0, 1) := by decide +kernel
theorem dX5_buy_14 : decode cX5_buy 14 = .ok (.iconst 1, 1) := by decide +kernel
theorem dX5_buy_15 : decode cX5_buy 15 = .ok (.invokevirtual 67, 3) := by decide +kernel
theorem dX5_buy_18 : decode cX5_buy 18 = .ok (.i2l, 1) := by decide +kernel
theorem dX5_buy_19 : decode cX5_buy 19 = .ok (.lreturn, 1) := by decide +kernel
theorem dX5_buy_20 : decode cX5_buy 20 = .ok (.iload_n 2, 1) := by decide +kernel
theorem dX5_buy_21 : decode cX5_buy 21 = .ok (.iconst 1, 1) := by decide +kernel
theorem dX5_buy_22 : decode cX5_buy 22 = .ok (.sipush 1000, 3) := by decide +kernel
theorem dX5_buy_25 : decode cX5_buy 25 = .ok (.invokestatic 46, 3) := by decide +kernel
theorem dX5_buy_28 : decode cX5_buy 28 = .ok (.ifCond .eq 14, 3) := by decide +kernel
theorem dX5_buy_31 : decode cX5_buy 31 = .ok (.iload_n 3, 1) := by decide +kernel
theorem dX5_buy_32 : decode cX5_buy 32 = .ok (.iconst 1, 1) := by decide +kernel
theorem dX5_buy_33 : decode cX5_buy 33 = .ok (.sipush 30000, 3) := by decide +kernel
theorem dX5_buy_36 : decode cX5_buy 36 = .ok (.invokestatic 46, 3) := by decide +kernel
theorem dX5_buy_39 : decode cX5_buy 39 = .ok (.ifCond .ne 10, 3) := by decide +kernel
theorem dX5_buy_42 : decode cX5_buy 42 = .ok (.aload_n 0, 1) := by decide +kernel
theorem dX5_buy_43 : decode cX5_buy 43 = .ok (.iconst 2, 1) := by decide +kernel
theorem dX5_buy_44 : decode cX5_buy 44 = .ok (.invokevirtual 67, 3) := by decide +kernel
theorem dX5_buy_47 : decode cX5_buy 47 = .ok (.i2l, 1) := by decide +kernel
theorem dX5_buy_48 : decode cX5_buy 48 = .ok (.lreturn, 1) := by decide +kernel
theorem dX5_buy_49 : decode cX5_buy 49 = .ok (.iload_n 2, 1) := by decide +kernel
theorem dX5_buy_50 : decode cX5_buy 50 = .ok (.i2l, 1) := by decide +kernel
theorem dX5_buy_51 : decode cX5_buy 51 = .ok (.aload_n 0, 1) := by decide +kernel
theorem dX5_buy_52 : decode cX5_buy 52 = .ok (.iload_n 1, 1) := by decide +kernel
theorem dX5_buy_53 : decode cX5_buy 53 = .ok (.iload_n 3, 1) := by decide +kernel
theorem dX5_buy_54 : decode cX5_buy 54 = .ok (.invokevirtual 171, 3) := by decide +kernel
theorem dX5_buy_57 : decode cX5_buy 57 = .ok (.lmul, 1) := by decide +kernel
theorem dX5_buy_58 : decode cX5_buy 58 = .ok (.lstore 4, 2) := by decide +kernel
theorem dX5_buy_60 : decode cX5_buy 60 = .ok (.aload_n 0, 1) := by decide +kernel
theorem dX5_buy_61 : decode cX5_buy 61 = .ok (.aload_n 0, 1) := by decide +kernel
theorem dX5_buy_62 : decode cX5_buy 62 = .ok (.getfield 14, 3) := by decide +kernel
theorem dX5_buy_65 : decode cX5_buy 65 = .ok (.invokevirtual 60, 3) := by decide +kernel
theorem dX5_buy_68 : decode cX5_buy 68 = .ok (.ifCond .eq 49, 3) := by decide +kernel
theorem dX5_buy_71 : decode cX5_buy 71 = .ok (.aload_n 0, 1) := by decide +kernel
theorem dX5_buy_72 : decode cX5_buy 72 = .ok (.iload_n 1, 1) := by decide +kernel
theorem dX5_buy_73 : decode cX5_buy 73 = .ok (.invokevirtual 110, 3) := by decide +kernel
theorem dX5_buy_76 : decode cX5_buy 76 = .ok (.ifCond .eq 41, 3) := by decide +kernel
theorem dX5_buy_79 : decode cX5_buy 79 = .ok (.aload_n 0, 1) := by decide +kernel
theorem dX5_buy_80 : decode cX5_buy 80 = .ok (.getfield 14, 3) := by decide +kernel
theorem dX5_buy_83 : decode cX5_buy 83 = .ok (.aload_n 0, 1) := by decide +kernel
theorem dX5_buy_84 : decode cX5_buy 84 = .ok (.iload_n 1, 1) := by decide +kernel
theorem dX5_buy_85 : decode cX5_buy 85 = .ok (.iconst 0, 1) := by decide +kernel
theorem dX5_buy_86 : decode cX5_buy 86 = .ok (.invokevirtual 94, 3) := by decide +kernel
theorem dX5_buy_89 : decode cX5_buy 89 = .ok (.if_icmp .lt 28, 3) := by decide +kernel
theorem dX5_buy_92 : decode cX5_buy 92 = .ok (.aload_n 0, 1) := by decide +kernel
theorem dX5_buy_93 : decode cX5_buy 93 = .ok (.iload_n 1, 1) := by decide +kernel
theorem dX5_buy_94 : decode cX5_buy 94 = .ok (.bipush 9, 2) := by decide +kernel
theorem dX5_buy_96 : decode cX5_buy 96 = .ok (.invokevirtual 94, 3) := by decide +kernel
theorem dX5_buy_99 : decode cX5_buy 99 = .ok (.iload_n 2, 1) := by decide +kernel
theorem dX5_buy_100 : decode cX5_buy 100 = .ok (.iadd, 1) := by decide +kernel
theorem dX5_buy_101 : decode cX5_buy 101 = .ok (.sipush 1000, 3) := by decide +kernel
theorem dX5_buy_104 : decode cX5_buy 104 = .ok (.if_icmp .gt 13, 3) := by decide +kernel
theorem dX5_buy_107 : decode cX5_buy 107 = .ok (.lload 4, 2) := by decide +kernel
theorem dX5_buy_109 : decode cX5_buy 109 = .ok (.aload_n 0, 1) := by decide +kernel
theorem dX5_buy_110 : decode cX5_buy 110 = .ok (.getfield 20, 3) := by decide +kernel
theorem dX5_buy_113 : decode cX5_buy 113 = .ok (.lcmp, 1) := by decide +kernel
theorem dX5_buy_114 : decode cX5_buy 114 = .ok (.ifCond .le 10, 3) := by decide +kernel
theorem dX5_buy_117 : decode cX5_buy 117 = .ok (.aload_n 0, 1) := by decide +kernel
theorem dX5_buy_118 : decode cX5_buy 118 = .ok (.iconst 3, 1) := by decide +kernel
theorem dX5_buy_119 : decode cX5_buy 119 = .ok (.invokevirtual 67, 3) := by decide +kernel
theorem dX5_buy_122 : decode cX5_buy 122 = .ok (.i2l, 1) := by decide +kernel
theorem dX5_buy_123 : decode cX5_buy 123 = .ok (.lreturn, 1) := by decide +kernel
theorem dX5_buy_124 : decode cX5_buy 124 = .ok (.aload_n 0, 1) := by decide +kernel
theorem dX5_buy_125 : decode cX5_buy 125 = .ok (.dup, 1) := by decide +kernel
theorem dX5_buy_126 : decode cX5_buy 126 = .ok (.getfield 20, 3) := by decide +kernel
theorem dX5_buy_129 : decode cX5_buy 129 = .ok (.lload 4, 2) := by decide +kernel
theorem dX5_buy_131 : decode cX5_buy 131 = .ok (.lsub, 1) := by decide +kernel
theorem dX5_buy_132 : decode cX5_buy 132 = .ok (.putfield 20, 3) := by decide +kernel
theorem dX5_buy_135 : decode cX5_buy 135 = .ok (.aload_n 0, 1) := by decide +kernel
theorem dX5_buy_136 : decode cX5_buy 136 = .ok (.getfield 31, 3) := by decide +kernel
theorem dX5_buy_139 : decode cX5_buy 139 = .ok (.bipush 14, 2) := by decide +kernel
theorem dX5_buy_141 : decode cX5_buy 141 = .ok (.iload_n 1, 1) := by decide +kernel
theorem dX5_buy_142 : decode cX5_buy 142 = .ok (.imul, 1) := by decide +kernel
theorem dX5_buy_143 : decode cX5_buy 143 = .ok (.bipush 9, 2) := by decide +kernel
theorem dX5_buy_145 : decode cX5_buy 145 = .ok (.iadd, 1) := by decide +kernel
theorem dX5_buy_146 : decode cX5_buy 146 = .ok (.dup2, 1) := by decide +kernel
theorem dX5_buy_147 : decode cX5_buy 147 = .ok (.iaload, 1) := by decide +kernel
theorem dX5_buy_148 : decode cX5_buy 148 = .ok (.iload_n 2, 1) := by decide +kernel
theorem dX5_buy_149 : decode cX5_buy 149 = .ok (.iadd, 1) := by decide +kernel
theorem dX5_buy_150 : decode cX5_buy 150 = .ok (.iastore, 1) := by decide +kernel
theorem dX5_buy_151 : decode cX5_buy 151 = .ok (.lload 4, 2) := by decide +kernel
theorem dX5_buy_153 : decode cX5_buy 153 = .ok (.lreturn, 1) := by decide +kernel
set_option maxRecDepth 20000 in
theorem ggX5_sell_X5_isBond : GoodIn wsX5_sell wsX5_isBond := goodIn_r _ [9, 10, 11, 12, 8, 13, 80, 81, 82, 83, 84, 85, 86, 87, 88, 89] (by decide +kernel) (by decide +kernel)
set_option maxRecDepth 20000 in
theorem gX5_sell_X5_isBond : GoodIn wsX5_sell (wsV RX5 107 RX5 yX5_isBond wsX5_isBond) := goodIn_app (goodIn_of _ (by decide +kernel)) ggX5_sell_X5_isBond
set_option maxRecDepth 20000 in
theorem ggX5_sell_X5_no : GoodIn wsX5_sell wsX5_no := goodIn_r _ [17, 1, 80, 81, 82, 83, 84, 85, 86, 87, 88, 89] (by decide +kernel) (by decide +kernel)
set_option maxRecDepth 20000 in
theorem gX5_sell_X5_no : GoodIn wsX5_sell (wsV RX5 67 RX5 yX5_no wsX5_no) := goodIn_app (goodIn_of _ (by decide +kernel)) ggX5_sell_X5_no
set_option maxRecDepth 20000 in
theorem ggX5_sell_X5_isIn : GoodIn wsX5_sell wsX5_isIn := goodIn_r _ [13] (by decide +kernel) (by decide +kernel)
set_option maxRecDepth 20000 in
theorem gX5_sell_X5_isIn : GoodIn wsX5_sell (va_wsS RX5 46 yX5_isIn wsX5_isIn) := goodIn_app (goodIn_of _ (by decide +kernel)) ggX5_sell_X5_isIn
set_option maxRecDepth 20000 in
theorem ggX5_sell_X5_isWorking : GoodIn wsX5_sell wsX5_isWorking := goodIn_r _ [21, 22, 23, 24, 25, 8, 26, 80, 81, 82, 83, 84, 85, 86, 87, 88, 89] (by decide +kernel) (by decide +kernel)
set_option maxRecDepth 20000 in
theorem gX5_sell_X5_isWorking : GoodIn wsX5_sell (wsV RX5 60 RX5 yX5_isWorking wsX5_isWorking) := goodIn_app (goodIn_of _ (by decide +kernel)) ggX5_sell_X5_isWorking
set_option maxRecDepth 20000 in
theorem ggX5_sell_X5_own : GoodIn wsX5_sell wsX5_own := goodIn_r _ [30, 4, 80, 81, 82, 83, 84, 85, 86, 87, 88, 89] (by decide +kernel) (by decide +kernel)
set_option maxRecDepth 20000 in
theorem gX5_sell_X5_own : GoodIn wsX5_sell (wsV RX5 94 RX5 yX5_own wsX5_own) := goodIn_app (goodIn_of _ (by decide +kernel)) ggX5_sell_X5_own
set_option maxRecDepth 20000 in
theorem ggX5_sell_X5_fullPrice : GoodIn wsX5_sell wsX5_fullPrice := goodIn_r _ [34, 35, 36, 2, 27, 28, 29, 8, 30, 4, 37, 38, 39, 40, 41, 42, 43, 44, 45, 46, 47, 48, 49, 50, 51, 52, 53, 54, 55, 56, 57, 58, 59, 60, 61, 62, 63, 64, 65, 66, 67, 68, 69, 70, 71, 72, 73, 74, 75, 76, 77, 78, 79, 80, 81, 82, 83, 84, 85, 86, 87, 88, 89] (by decide +kernel) (by decide +kernel)
set_option maxRecDepth 20000 in
theorem gX5_sell_X5_fullPrice : GoodIn wsX5_sell (wsV RX5 171 RX5 yX5_fullPrice wsX5_fullPrice) := goodIn_app (goodIn_of _ (by decide +kernel)) ggX5_sell_X5_fullPrice
theorem dX5_sell_0 : decode cX5_sell 0 = .ok (.aload_n 0, 1) := by decide +kernel
theorem dX5_sell_1 : decode cX5_sell 1 = .ok (.iconst 0, 1) := by decide +kernel
theorem dX5_sell_2 : decode cX5_sell 2 = .ok (.putfield 41, 3) := by decide +kernel
theorem dX5_sell_5 : decode cX5_sell 5 = .ok (.aload_n 0, 1) := by decide +kernel
theorem dX5_sell_6 : decode cX5_sell 6 = .ok (.iload_n 1, 1) := by decide +kernel
theorem dX5_sell_7 : decode cX5_sell 7 = .ok (.invokevirtual 107, 3) := by decide +kernel
theorem dX5_sell_10 : decode cX5_sell 10 = .ok (.ifCond .ne 10, 3) := by decide +kernel
theorem dX5_sell_13 : decode cX5_sell 13 = .ok (.aload_n 0, 1) := by decide +kernel
theorem dX5_sell_14 : decode cX5_sell 14 = .ok (.iconst 1, 1) := by decide +kernel
theorem dX5_sell_15 : decode cX5_sell 15 = .ok (.invokevirtual 67, 3) := by decide +kernel
theorem dX5_sell_18 : decode cX5_sell 18 = .ok (.i2l, 1) := by decide +kernel
theorem dX5_sell_19 : decode cX5_sell 19 = .ok (.lreturn, 1) := by decide +kernel
theorem dX5_sell_20 : decode cX5_sell 20 = .ok (.iload_n 2, 1) := by decide +kernel
theorem dX5_sell_21 : decode cX5_sell 21 = .ok (.iconst 1, 1) := by decide +kernel
theorem dX5_sell_22 : decode cX5_sell 22 = .ok (.sipush 1000, 3) := by decide +kernel
theorem dX5_sell_25 : decode cX5_sell 25 = .ok (.invokestatic 46, 3) := by decide +kernel
theorem dX5_sell_28 : decode cX5_sell 28 = .ok (.ifCond .eq 14, 3) := by decide +kernel
theorem dX5_sell_31 : decode cX5_sell 31 = .ok (.iload_n 3, 1) := by decide +kernel
theorem dX5_sell_32 : decode cX5_sell 32 = .ok (.iconst 1, 1) := by decide +kernel
theorem dX5_sell_33 : decode cX5_sell 33 = .ok (.sipush 30000, 3) := by decide +kernel
theorem dX5_sell_36 : decode cX5_sell 36 = .ok (.invokestatic 46, 3) := by decide +kernel
theorem dX5_sell_39 : decode cX5_sell 39 = .ok (.ifCond .ne 10, 3) := by decide +kernel
theorem dX5_sell_42 : decode cX5_sell 42 = .ok (.aload_n 0, 1) := by decide +kernel
theorem dX5_sell_43 : decode cX5_sell 43 = .ok (.iconst 2, 1) := by decide +kernel
theorem dX5_sell_44 : decode cX5_sell 44 = .ok (.invokevirtual 67, 3) := by decide +kernel
theorem dX5_sell_47 : decode cX5_sell 47 = .ok (.i2l, 1) := by decide +kernel
theorem dX5_sell_48 : decode cX5_sell 48 = .ok (.lreturn, 1) := by decide +kernel
theorem dX5_sell_49 : decode cX5_sell 49 = .ok (.aload_n 0, 1) := by decide +kernel
theorem dX5_sell_50 : decode cX5_sell 50 = .ok (.aload_n 0, 1) := by decide +kernel
theorem dX5_sell_51 : decode cX5_sell 51 = .ok (.getfield 14, 3) := by decide +kernel
theorem dX5_sell_54 : decode cX5_sell 54 = .ok (.invokevirtual 60, 3) := by decide +kernel
theorem dX5_sell_57 : decode cX5_sell 57 = .ok (.ifCond .eq 14, 3) := by decide +kernel
theorem dX5_sell_60 : decode cX5_sell 60 = .ok (.aload_n 0, 1) := by decide +kernel
theorem dX5_sell_61 : decode cX5_sell 61 = .ok (.iload_n 1, 1) := by decide +kernel
theorem dX5_sell_62 : decode cX5_sell 62 = .ok (.bipush 9, 2) := by decide +kernel
theorem dX5_sell_64 : decode cX5_sell 64 = .ok (.invokevirtual 94, 3) := by decide +kernel
theorem dX5_sell_67 : decode cX5_sell 67 = .ok (.iload_n 2, 1) := by decide +kernel
theorem dX5_sell_68 : decode cX5_sell 68 = .ok (.if_icmp .ge 10, 3) := by decide +kernel
theorem dX5_sell_71 : decode cX5_sell 71 = .ok (.aload_n 0, 1) := by decide +kernel
theorem dX5_sell_72 : decode cX5_sell 72 = .ok (.iconst 3, 1) := by decide +kernel
theorem dX5_sell_73 : decode cX5_sell 73 = .ok (.invokevirtual 67, 3) := by decide +kernel
theorem dX5_sell_76 : decode cX5_sell 76 = .ok (.i2l, 1) := by decide +kernel
theorem dX5_sell_77 : decode cX5_sell 77 = .ok (.lreturn, 1) := by decide +kernel
theorem dX5_sell_78 : decode cX5_sell 78 = .ok (.iload_n 2, 1) := by decide +kernel
theorem dX5_sell_79 : decode cX5_sell 79 = .ok (.i2l, 1) := by decide +kernel
theorem dX5_sell_80 : decode cX5_sell 80 = .ok (.aload_n 0, 1) := by decide +kernel
theorem dX5_sell_81 : decode cX5_sell 81 = .ok (.iload_n 1, 1) := by decide +kernel
theorem dX5_sell_82 : decode cX5_sell 82 = .ok (.iload_n 3, 1) := by decide +kernel
theorem dX5_sell_83 : decode cX5_sell 83 = .ok (.invokevirtual 171, 3) := by decide +kernel
theorem dX5_sell_86 : decode cX5_sell 86 = .ok (.lmul, 1) := by decide +kernel
theorem dX5_sell_87 : decode cX5_sell 87 = .ok (.lstore 4, 2) := by decide +kernel
theorem dX5_sell_89 : decode cX5_sell 89 = .ok (.aload_n 0, 1) := by decide +kernel
theorem dX5_sell_90 : decode cX5_sell 90 = .ok (.dup, 1) := by decide +kernel
theorem dX5_sell_91 : decode cX5_sell 91 = .ok (.getfield 20, 3) := by decide +kernel
theorem dX5_sell_94 : decode cX5_sell 94 = .ok (.lload 4, 2) := by decide +kernel
theorem dX5_sell_96 : decode cX5_sell 96 = .ok (.ladd, 1) := by decide +kernel
theorem dX5_sell_97 : decode cX5_sell 97 = .ok (.putfield 20, 3) := by decide +kernel
theorem dX5_sell_100 : decode cX5_sell 100 = .ok (.aload_n 0, 1) := by decide +kernel
theorem dX5_sell_101 : decode cX5_sell 101 = .ok (.getfield 31, 3) := by decide +kernel
theorem dX5_sell_104 : decode cX5_sell 104 = .ok (.bipush 14, 2) := by decide +kernel
theorem dX5_sell_106 : decode cX5_sell 106 = .ok (.iload_n 1, 1) := by decide +kernel
theorem dX5_sell_107 : decode cX5_sell 107 = .ok (.imul, 1) := by decide +kernel
theorem dX5_sell_108 : decode cX5_sell 108 = .ok (.bipush 9, 2) := by decide +kernel
theorem dX5_sell_110 : decode cX5_sell 110 = .ok (.iadd, 1) := by decide +kernel
theorem dX5_sell_111 : decode cX5_sell 111 = .ok (.dup2, 1) := by decide +kernel
theorem dX5_sell_112 : decode cX5_sell 112 = .ok (.iaload, 1) := by decide +kernel
theorem dX5_sell_113 : decode cX5_sell 113 = .ok (.iload_n 2, 1) := by decide +kernel
theorem dX5_sell_114 : decode cX5_sell 114 = .ok (.isub, 1) := by decide +kernel
theorem dX5_sell_115 : decode cX5_sell 115 = .ok (.iastore, 1) := by decide +kernel
theorem dX5_sell_116 : decode cX5_sell 116 = .ok (.lload 4, 2) := by decide +kernel
theorem dX5_sell_118 : decode cX5_sell 118 = .ok (.lreturn, 1) := by decide +kernel
set_option maxRecDepth 20000 in
theorem ggX5_pay_X5_own : GoodIn wsX5_pay wsX5_own := goodIn_r _ [7, 8, 9, 10, 11, 12, 13, 14, 15, 16, 17, 18] (by decide +kernel) (by decide +kernel)
set_option maxRecDepth 20000 in
theorem gX5_pay_X5_own : GoodIn wsX5_pay (wsV RX5 94 RX5 yX5_own wsX5_own) := goodIn_app (goodIn_of _ (by decide +kernel)) ggX5_pay_X5_own
theorem dX5_pay_0 : decode cX5_pay 0 = .ok (.lload_n 3, 1) := by decide +kernel
theorem dX5_pay_1 : decode cX5_pay 1 = .ok (.aload_n 0, 1) := by decide +kernel
theorem dX5_pay_2 : decode cX5_pay 2 = .ok (.iload_n 1, 1) := by decide +kernel
theorem dX5_pay_3 : decode cX5_pay 3 = .ok (.bipush 9, 2) := by decide +kernel
theorem dX5_pay_5 : decode cX5_pay 5 = .ok (.invokevirtual 94, 3) := by decide +kernel
theorem dX5_pay_8 : decode cX5_pay 8 = .ok (.i2l, 1) := by decide +kernel
theorem dX5_pay_9 : decode cX5_pay 9 = .ok (.lmul, 1) := by decide +kernel
theorem dX5_pay_10 : decode cX5_pay 10 = .ok (.lstore 5, 2) := by decide +kernel
theorem dX5_pay_12 : decode cX5_pay 12 = .ok (.aload_n 0, 1) := by decide +kernel
theorem dX5_pay_13 : decode cX5_pay 13 = .ok (.getfield 37, 3) := by decide +kernel
theorem dX5_pay_16 : decode cX5_pay 16 = .ok (.iload_n 2, 1) := by decide +kernel
theorem dX5_pay_17 : decode cX5_pay 17 = .ok (.dup2, 1) := by decide +kernel
theorem dX5_pay_18 : decode cX5_pay 18 = .ok (.laload, 1) := by decide +kernel
theorem dX5_pay_19 : decode cX5_pay 19 = .ok (.lload 5, 2) := by decide +kernel
theorem dX5_pay_21 : decode cX5_pay 21 = .ok (.ladd, 1) := by decide +kernel
theorem dX5_pay_22 : decode cX5_pay 22 = .ok (.lastore, 1) := by decide +kernel
theorem dX5_pay_23 : decode cX5_pay 23 = .ok (.aload_n 0, 1) := by decide +kernel
theorem dX5_pay_24 : decode cX5_pay 24 = .ok (.dup, 1) := by decide +kernel
theorem dX5_pay_25 : decode cX5_pay 25 = .ok (.getfield 20, 3) := by decide +kernel
theorem dX5_pay_28 : decode cX5_pay 28 = .ok (.lload 5, 2) := by decide +kernel
theorem dX5_pay_30 : decode cX5_pay 30 = .ok (.ladd, 1) := by decide +kernel
theorem dX5_pay_31 : decode cX5_pay 31 = .ok (.putfield 20, 3) := by decide +kernel
theorem dX5_pay_34 : decode cX5_pay 34 = .ok (.lload 5, 2) := by decide +kernel
theorem dX5_pay_36 : decode cX5_pay 36 = .ok (.lreturn, 1) := by decide +kernel
theorem dX5_leave_0 : decode cX5_leave 0 = .ok (.aload_n 0, 1) := by decide +kernel
theorem dX5_leave_1 : decode cX5_leave 1 = .ok (.getfield 31, 3) := by decide +kernel
theorem dX5_leave_4 : decode cX5_leave 4 = .ok (.bipush 14, 2) := by decide +kernel
theorem dX5_leave_6 : decode cX5_leave 6 = .ok (.iload_n 1, 1) := by decide +kernel
theorem dX5_leave_7 : decode cX5_leave 7 = .ok (.imul, 1) := by decide +kernel
theorem dX5_leave_8 : decode cX5_leave 8 = .ok (.bipush 8, 2) := by decide +kernel
theorem dX5_leave_10 : decode cX5_leave 10 = .ok (.iadd, 1) := by decide +kernel
theorem dX5_leave_11 : decode cX5_leave 11 = .ok (.iload_n 2, 1) := by decide +kernel
theorem dX5_leave_12 : decode cX5_leave 12 = .ok (.iastore, 1) := by decide +kernel
theorem dX5_leave_13 : decode cX5_leave 13 = .ok (.aload_n 0, 1) := by decide +kernel
theorem dX5_leave_14 : decode cX5_leave 14 = .ok (.getfield 31, 3) := by decide +kernel
theorem dX5_leave_17 : decode cX5_leave 17 = .ok (.bipush 14, 2) := by decide +kernel
theorem dX5_leave_19 : decode cX5_leave 19 = .ok (.iload_n 1, 1) := by decide +kernel
theorem dX5_leave_20 : decode cX5_leave 20 = .ok (.imul, 1) := by decide +kernel
theorem dX5_leave_21 : decode cX5_leave 21 = .ok (.bipush 9, 2) := by decide +kernel
theorem dX5_leave_23 : decode cX5_leave 23 = .ok (.iadd, 1) := by decide +kernel
theorem dX5_leave_24 : decode cX5_leave 24 = .ok (.iconst 0, 1) := by decide +kernel
theorem dX5_leave_25 : decode cX5_leave 25 = .ok (.iastore, 1) := by decide +kernel
theorem dX5_leave_26 : decode cX5_leave 26 = .ok (.return_, 1) := by decide +kernel
set_option maxRecDepth 20000 in
theorem ggX5_look_X5_own : GoodIn wsX5_look wsX5_own := goodIn_r _ [12, 1, 70, 71, 72, 73, 74, 75, 76, 77, 78, 79] (by decide +kernel) (by decide +kernel)
set_option maxRecDepth 20000 in
theorem gX5_look_X5_own : GoodIn wsX5_look (wsV RX5 94 RX5 yX5_own wsX5_own) := goodIn_app (goodIn_of _ (by decide +kernel)) ggX5_look_X5_own
set_option maxRecDepth 20000 in
theorem ggX5_look_X5_coupon : GoodIn wsX5_look wsX5_coupon := goodIn_r _ [16, 17, 18, 19, 20, 11, 21, 22, 8, 9, 10, 12, 1, 23, 24, 25, 26, 27, 28, 29, 30, 31, 32, 33, 34, 35, 36, 37, 3, 4, 5, 6, 70, 71, 72, 73, 74, 75, 76, 77, 78, 79] (by decide +kernel) (by decide +kernel)
set_option maxRecDepth 20000 in
theorem gX5_look_X5_coupon : GoodIn wsX5_look (wsV RX5 143 RX5 yX5_coupon wsX5_coupon) := goodIn_app (goodIn_of _ (by decide +kernel)) ggX5_look_X5_coupon
set_option maxRecDepth 20000 in
theorem ggX5_look_X5_pay : GoodIn wsX5_look wsX5_pay := goodIn_r _ [41, 42, 43, 8, 9, 10, 11, 12, 1, 70, 71, 72, 73, 74, 75, 76, 77, 78, 79] (by decide +kernel) (by decide +kernel)
set_option maxRecDepth 20000 in
theorem gX5_look_X5_pay : GoodIn wsX5_look (wsV RX5 180 RX5 yX5_pay wsX5_pay) := goodIn_app (goodIn_of _ (by decide +kernel)) ggX5_look_X5_pay
set_option maxRecDepth 20000 in
theorem ggX5_look_X5_leave : GoodIn wsX5_look wsX5_leave := goodIn_r _ [47, 1, 70, 71, 72, 73, 74, 75, 76, 77, 78, 79] (by decide +kernel) (by decide +kernel)
set_option maxRecDepth 20000 in
theorem gX5_look_X5_leave : GoodIn wsX5_look (wsV RX5 184 RX5 yX5_leave wsX5_leave) := goodIn_app (goodIn_of _ (by decide +kernel)) ggX5_look_X5_leave
set_option maxRecDepth 20000 in
theorem ggX5_look_X5_isSunk : GoodIn wsX5_look wsX5_isSunk := goodIn_r _ [51, 8, 9, 10, 11, 12, 1, 18, 19, 20, 21, 22, 70, 71, 72, 73, 74, 75, 76, 77, 78, 79] (by decide +kernel) (by decide +kernel)
set_option maxRecDepth 20000 in
theorem gX5_look_X5_isSunk : GoodIn wsX5_look (wsV RX5 100 RX5 yX5_isSunk wsX5_isSunk) := goodIn_app (goodIn_of _ (by decide +kernel)) ggX5_look_X5_isSunk
set_option maxRecDepth 20000 in
theorem ggX5_look_X5_isCalled : GoodIn wsX5_look wsX5_isCalled := goodIn_r _ [55, 8, 9, 10, 11, 12, 1, 18, 19, 20, 21, 22, 70, 71, 72, 73, 74, 75, 76, 77, 78, 79] (by decide +kernel) (by decide +kernel)
set_option maxRecDepth 20000 in
theorem gX5_look_X5_isCalled : GoodIn wsX5_look (wsV RX5 116 RX5 yX5_isCalled wsX5_isCalled) := goodIn_app (goodIn_of _ (by decide +kernel)) ggX5_look_X5_isCalled
set_option maxRecDepth 20000 in
theorem ggX5_look_X5_couponDay : GoodIn wsX5_look wsX5_couponDay := goodIn_r _ [21, 22, 70, 71, 72, 73, 74, 75, 76, 77, 78, 79] (by decide +kernel) (by decide +kernel)
set_option maxRecDepth 20000 in
theorem gX5_look_X5_couponDay : GoodIn wsX5_look (wsV RX5 97 RX5 yX5_couponDay wsX5_couponDay) := goodIn_app (goodIn_of _ (by decide +kernel)) ggX5_look_X5_couponDay
set_option maxRecDepth 20000 in
theorem ggX5_look_X5_worthOn : GoodIn wsX5_look wsX5_worthOn := goodIn_r _ [59, 17, 60, 28, 3, 4, 5, 6, 2, 61, 62, 63, 64, 11, 65, 8, 9, 10, 12, 1, 18, 19, 20, 21, 22, 48, 49, 50, 51, 13, 14, 15, 16, 23, 24, 25, 26, 27, 29, 30, 31, 32, 33, 34, 35, 36, 37, 70, 71, 72, 73, 74, 75, 76, 77, 78, 79] (by decide +kernel) (by decide +kernel)
set_option maxRecDepth 20000 in
theorem gX5_look_X5_worthOn : GoodIn wsX5_look (wsV RX5 163 RX5 yX5_worthOn wsX5_worthOn) := goodIn_app (goodIn_of _ (by decide +kernel)) ggX5_look_X5_worthOn
set_option maxRecDepth 20000 in
theorem ggX5_look_X5_callPaid : GoodIn wsX5_look wsX5_callPaid := goodIn_r _ [69, 2, 17, 8, 9, 10, 11, 12, 1, 70, 71, 72, 73, 74, 75, 76, 77, 78, 79] (by decide +kernel) (by decide +kernel)
set_option maxRecDepth 20000 in
theorem gX5_look_X5_callPaid : GoodIn wsX5_look (wsV RX5 177 RX5 yX5_callPaid wsX5_callPaid) := goodIn_app (goodIn_of _ (by decide +kernel)) ggX5_look_X5_callPaid
theorem dX5_look_0 : decode cX5_look 0 = .ok (.aload_n 0, 1) := by decide +kernel
theorem dX5_look_1 : decode cX5_look 1 = .ok (.iload_n 1, 1) := by decide +kernel
theorem dX5_look_2 : decode cX5_look 2 = .ok (.bipush 7, 2) := by decide +kernel
theorem dX5_look_4 : decode cX5_look 4 = .ok (.invokevirtual 94, 3) := by decide +kernel
theorem dX5_look_7 : decode cX5_look 7 = .ok (.istore_n 2, 1) := by decide +kernel
theorem dX5_look_8 : decode cX5_look 8 = .ok (.aload_n 0, 1) := by decide +kernel
theorem dX5_look_9 : decode cX5_look 9 = .ok (.getfield 31, 3) := by decide +kernel
theorem dX5_look_12 : decode cX5_look 12 = .ok (.bipush 14, 2) := by decide +kernel
theorem dX5_look_14 : decode cX5_look 14 = .ok (.iload_n 1, 1) := by decide +kernel
theorem dX5_look_15 : decode cX5_look 15 = .ok (.imul, 1) := by decide +kernel
theorem dX5_look_16 : decode cX5_look 16 = .ok (.bipush 7, 2) := by decide +kernel
theorem dX5_look_18 : decode cX5_look 18 = .ok (.iadd, 1) := by decide +kernel
theorem dX5_look_19 : decode cX5_look 19 = .ok (.dup2, 1) := by decide +kernel
theorem dX5_look_20 : decode cX5_look 20 = .ok (.iaload, 1) := by decide +kernel
theorem dX5_look_21 : decode cX5_look 21 = .ok (.iconst 1, 1) := by decide +kernel
theorem dX5_look_22 : decode cX5_look 22 = .ok (.iadd, 1) := by decide +kernel
theorem dX5_look_23 : decode cX5_look 23 = .ok (.iastore, 1) := by decide +kernel
theorem dX5_look_24 : decode cX5_look 24 = .ok (.aload_n 0, 1) := by decide +kernel
theorem dX5_look_25 : decode cX5_look 25 = .ok (.iload_n 1, 1) := by decide +kernel
theorem dX5_look_26 : decode cX5_look 26 = .ok (.iconst 0, 1) := by decide +kernel
theorem dX5_look_27 : decode cX5_look 27 = .ok (.aload_n 0, 1) := by decide +kernel
theorem dX5_look_28 : decode cX5_look 28 = .ok (.iload_n 1, 1) := by decide +kernel
theorem dX5_look_29 : decode cX5_look 29 = .ok (.iload_n 2, 1) := by decide +kernel
theorem dX5_look_30 : decode cX5_look 30 = .ok (.ldc2_w 159, 3) := by decide +kernel
theorem dX5_look_33 : decode cX5_look 33 = .ok (.aload_n 0, 1) := by decide +kernel
theorem dX5_look_34 : decode cX5_look 34 = .ok (.iload_n 1, 1) := by decide +kernel
theorem dX5_look_35 : decode cX5_look 35 = .ok (.iconst 5, 1) := by decide +kernel
theorem dX5_look_36 : decode cX5_look 36 = .ok (.invokevirtual 94, 3) := by decide +kernel
theorem dX5_look_39 : decode cX5_look 39 = .ok (.i2l, 1) := by decide +kernel
theorem dX5_look_40 : decode cX5_look 40 = .ok (.lmul, 1) := by decide +kernel
theorem dX5_look_41 : decode cX5_look 41 = .ok (.invokevirtual 143, 3) := by decide +kernel
theorem dX5_look_44 : decode cX5_look 44 = .ok (.i2l, 1) := by decide +kernel
theorem dX5_look_45 : decode cX5_look 45 = .ok (.invokevirtual 180, 3) := by decide +kernel
theorem dX5_look_48 : decode cX5_look 48 = .ok (.lstore_n 3, 1) := by decide +kernel
theorem dX5_look_49 : decode cX5_look 49 = .ok (.iload_n 2, 1) := by decide +kernel
theorem dX5_look_50 : decode cX5_look 50 = .ok (.aload_n 0, 1) := by decide +kernel
theorem dX5_look_51 : decode cX5_look 51 = .ok (.iload_n 1, 1) := by decide +kernel
theorem dX5_look_52 : decode cX5_look 52 = .ok (.bipush 6, 2) := by decide +kernel
theorem dX5_look_54 : decode cX5_look 54 = .ok (.invokevirtual 94, 3) := by decide +kernel
theorem dX5_look_57 : decode cX5_look 57 = .ok (.iconst 1, 1) := by decide +kernel
theorem dX5_look_58 : decode cX5_look 58 = .ok (.isub, 1) := by decide +kernel
theorem dX5_look_59 : decode cX5_look 59 = .ok (.if_icmp .ne 31, 3) := by decide +kernel
theorem dX5_look_62 : decode cX5_look 62 = .ok (.lload_n 3, 1) := by decide +kernel
theorem dX5_look_63 : decode cX5_look 63 = .ok (.aload_n 0, 1) := by decide +kernel
theorem dX5_look_64 : decode cX5_look 64 = .ok (.iload_n 1, 1) := by decide +kernel
theorem dX5_look_65 : decode cX5_look 65 = .ok (.iconst 3, 1) := by decide +kernel
theorem dX5_look_66 : decode cX5_look 66 = .ok (.ldc2_w 159, 3) := by decide +kernel
theorem dX5_look_69 : decode cX5_look 69 = .ok (.aload_n 0, 1) := by decide +kernel
theorem dX5_look_70 : decode cX5_look 70 = .ok (.iload_n 1, 1) := by decide +kernel
theorem dX5_look_71 : decode cX5_look 71 = .ok (.iconst 5, 1) := by decide +kernel
theorem dX5_look_72 : decode cX5_look 72 = .ok (.invokevirtual 94, 3) := by decide +kernel
theorem dX5_look_75 : decode cX5_look 75 = .ok (.i2l, 1) := by decide +kernel
theorem dX5_look_76 : decode cX5_look 76 = .ok (.lmul, 1) := by decide +kernel
theorem dX5_look_77 : decode cX5_look 77 = .ok (.invokevirtual 180, 3) := by decide +kernel
theorem dX5_look_80 : decode cX5_look 80 = .ok (.ladd, 1) := by decide +kernel
theorem dX5_look_81 : decode cX5_look 81 = .ok (.lstore_n 3, 1) := by decide +kernel
theorem dX5_look_82 : decode cX5_look 82 = .ok (.aload_n 0, 1) := by decide +kernel
theorem dX5_look_83 : decode cX5_look 83 = .ok (.iload_n 1, 1) := by decide +kernel
theorem dX5_look_84 : decode cX5_look 84 = .ok (.iconst 1, 1) := by decide +kernel
theorem dX5_look_85 : decode cX5_look 85 = .ok (.invokevirtual 184, 3) := by decide +kernel
theorem dX5_look_88 : decode cX5_look 88 = .ok (.lload_n 3, 1) := by decide +kernel
theorem dX5_look_89 : decode cX5_look 89 = .ok (.lreturn, 1) := by decide +kernel
theorem dX5_look_90 : decode cX5_look 90 = .ok (.aload_n 0, 1) := by decide +kernel
theorem dX5_look_91 : decode cX5_look 91 = .ok (.iload_n 1, 1) := by decide +kernel
theorem dX5_look_92 : decode cX5_look 92 = .ok (.iload_n 2, 1) := by decide +kernel
theorem dX5_look_93 : decode cX5_look 93 = .ok (.invokevirtual 100, 3) := by decide +kernel
theorem dX5_look_96 : decode cX5_look 96 = .ok (.ifCond .eq 53, 3) := by decide +kernel
theorem dX5_look_99 : decode cX5_look 99 = .ok (.aload_n 0, 1) := by decide +kernel
theorem dX5_look_100 : decode cX5_look 100 = .ok (.iload_n 1, 1) := by decide +kernel
theorem dX5_look_101 : decode cX5_look 101 = .ok (.iconst 5, 1) := by decide +kernel
theorem dX5_look_102 : decode cX5_look 102 = .ok (.invokevirtual 94, 3) := by decide +kernel
theorem dX5_look_105 : decode cX5_look 105 = .ok (.aload_n 0, 1) := by decide +kernel
theorem dX5_look_106 : decode cX5_look 106 = .ok (.iload_n 1, 1) := by decide +kernel
theorem dX5_look_107 : decode cX5_look 107 = .ok (.bipush 11, 2) := by decide +kernel
theorem dX5_look_109 : decode cX5_look 109 = .ok (.invokevirtual 94, 3) := by decide +kernel
theorem dX5_look_112 : decode cX5_look 112 = .ok (.invokestatic 80, 3) := by decide +kernel
theorem dX5_look_115 : decode cX5_look 115 = .ok (.istore 5, 2) := by decide +kernel
theorem dX5_look_117 : decode cX5_look 117 = .ok (.lload_n 3, 1) := by decide +kernel
theorem dX5_look_118 : decode cX5_look 118 = .ok (.aload_n 0, 1) := by decide +kernel
theorem dX5_look_119 : decode cX5_look 119 = .ok (.iload_n 1, 1) := by decide +kernel
theorem dX5_look_120 : decode cX5_look 120 = .ok (.iconst 1, 1) := by decide +kernel
theorem dX5_look_121 : decode cX5_look 121 = .ok (.ldc2_w 159, 3) := by decide +kernel
theorem dX5_look_124 : decode cX5_look 124 = .ok (.iload 5, 2) := by decide +kernel
theorem dX5_look_126 : decode cX5_look 126 = .ok (.i2l, 1) := by decide +kernel
theorem dX5_look_127 : decode cX5_look 127 = .ok (.lmul, 1) := by decide +kernel
theorem dX5_look_128 : decode cX5_look 128 = .ok (.invokevirtual 180, 3) := by decide +kernel
theorem dX5_look_131 : decode cX5_look 131 = .ok (.ladd, 1) := by decide +kernel
theorem dX5_look_132 : decode cX5_look 132 = .ok (.lstore_n 3, 1) := by decide +kernel
theorem dX5_look_133 : decode cX5_look 133 = .ok (.aload_n 0, 1) := by decide +kernel
theorem dX5_look_134 : decode cX5_look 134 = .ok (.getfield 31, 3) := by decide +kernel
theorem dX5_look_137 : decode cX5_look 137 = .ok (.bipush 14, 2) := by decide +kernel
theorem dX5_look_139 : decode cX5_look 139 = .ok (.iload_n 1, 1) := by decide +kernel
theorem dX5_look_140 : decode cX5_look 140 = .ok (.imul, 1) := by decide +kernel
theorem dX5_look_141 : decode cX5_look 141 = .ok (.iconst 5, 1) := by decide +kernel
theorem dX5_look_142 : decode cX5_look 142 = .ok (.iadd, 1) := by decide +kernel
theorem dX5_look_143 : decode cX5_look 143 = .ok (.dup2, 1) := by decide +kernel
theorem dX5_look_144 : decode cX5_look 144 = .ok (.iaload, 1) := by decide +kernel
theorem dX5_look_145 : decode cX5_look 145 = .ok (.iload 5, 2) := by decide +kernel
theorem dX5_look_147 : decode cX5_look 147 = .ok (.isub, 1) := by decide +kernel
theorem dX5_look_148 : decode cX5_look 148 = .ok (.iastore, 1) := by decide +kernel
theorem dX5_look_149 : decode cX5_look 149 = .ok (.aload_n 0, 1) := by decide +kernel
theorem dX5_look_150 : decode cX5_look 150 = .ok (.iload_n 1, 1) := by decide +kernel
theorem dX5_look_151 : decode cX5_look 151 = .ok (.iconst 5, 1) := by decide +kernel
theorem dX5_look_152 : decode cX5_look 152 = .ok (.invokevirtual 94, 3) := by decide +kernel
theorem dX5_look_155 : decode cX5_look 155 = .ok (.ifCond .ne 12, 3) := by decide +kernel
theorem dX5_look_158 : decode cX5_look 158 = .ok (.aload_n 0, 1) := by decide +kernel
theorem dX5_look_159 : decode cX5_look 159 = .ok (.iload_n 1, 1) := by decide +kernel
theorem dX5_look_160 : decode cX5_look 160 = .ok (.iconst 1, 1) := by decide +kernel
theorem dX5_look_161 : decode cX5_look 161 = .ok (.invokevirtual 184, 3) := by decide +kernel
theorem dX5_look_164 : decode cX5_look 164 = .ok (.goto 74, 3) := by decide +kernel
theorem dX5_look_167 : decode cX5_look 167 = .ok (.aload_n 0, 1) := by decide +kernel
theorem dX5_look_168 : decode cX5_look 168 = .ok (.iload_n 1, 1) := by decide +kernel
theorem dX5_look_169 : decode cX5_look 169 = .ok (.iload_n 2, 1) := by decide +kernel
theorem dX5_look_170 : decode cX5_look 170 = .ok (.invokevirtual 116, 3) := by decide +kernel
theorem dX5_look_173 : decode cX5_look 173 = .ok (.ifCond .eq 65, 3) := by decide +kernel
theorem dX5_look_176 : decode cX5_look 176 = .ok (.aload_n 0, 1) := by decide +kernel
theorem dX5_look_177 : decode cX5_look 177 = .ok (.iload_n 1, 1) := by decide +kernel
theorem dX5_look_178 : decode cX5_look 178 = .ok (.aload_n 0, 1) := by decide +kernel
theorem dX5_look_179 : decode cX5_look 179 = .ok (.iload_n 1, 1) := by decide +kernel
theorem dX5_look_180 : decode cX5_look 180 = .ok (.iload_n 2, 1) := by decide +kernel
theorem dX5_look_181 : decode cX5_look 181 = .ok (.invokevirtual 97, 3) := by decide +kernel
theorem dX5_look_184 : decode cX5_look 184 = .ok (.aload_n 0, 1) := by decide +kernel
theorem dX5_look_185 : decode cX5_look 185 = .ok (.iload_n 1, 1) := by decide +kernel
theorem dX5_look_186 : decode cX5_look 186 = .ok (.iconst 5, 1) := by decide +kernel
theorem dX5_look_187 : decode cX5_look 187 = .ok (.invokevirtual 94, 3) := by decide +kernel
theorem dX5_look_190 : decode cX5_look 190 = .ok (.aload_n 0, 1) := by decide +kernel
theorem dX5_look_191 : decode cX5_look 191 = .ok (.getfield 24, 3) := by decide +kernel
theorem dX5_look_194 : decode cX5_look 194 = .ok (.invokevirtual 163, 3) := by decide +kernel
theorem dX5_look_197 : decode cX5_look 197 = .ok (.aload_n 0, 1) := by decide +kernel
theorem dX5_look_198 : decode cX5_look 198 = .ok (.iload_n 1, 1) := by decide +kernel
theorem dX5_look_199 : decode cX5_look 199 = .ok (.aload_n 0, 1) := by decide +kernel
theorem dX5_look_200 : decode cX5_look 200 = .ok (.iload_n 1, 1) := by decide +kernel
theorem dX5_look_201 : decode cX5_look 201 = .ok (.iconst 5, 1) := by decide +kernel
theorem dX5_look_202 : decode cX5_look 202 = .ok (.invokevirtual 94, 3) := by decide +kernel
theorem dX5_look_205 : decode cX5_look 205 = .ok (.invokevirtual 177, 3) := by decide +kernel
theorem dX5_look_208 : decode cX5_look 208 = .ok (.lcmp, 1) := by decide +kernel
theorem dX5_look_209 : decode cX5_look 209 = .ok (.ifCond .le 29, 3) := by decide +kernel
theorem dX5_look_212 : decode cX5_look 212 = .ok (.lload_n 3, 1) := by decide +kernel
theorem dX5_look_213 : decode cX5_look 213 = .ok (.aload_n 0, 1) := by decide +kernel
theorem dX5_look_214 : decode cX5_look 214 = .ok (.iload_n 1, 1) := by decide +kernel
theorem dX5_look_215 : decode cX5_look 215 = .ok (.iconst 2, 1) := by decide +kernel
theorem dX5_look_216 : decode cX5_look 216 = .ok (.aload_n 0, 1) := by decide +kernel
theorem dX5_look_217 : decode cX5_look 217 = .ok (.iload_n 1, 1) := by decide +kernel
theorem dX5_look_218 : decode cX5_look 218 = .ok (.aload_n 0, 1) := by decide +kernel
theorem dX5_look_219 : decode cX5_look 219 = .ok (.iload_n 1, 1) := by decide +kernel
theorem dX5_look_220 : decode cX5_look 220 = .ok (.iconst 5, 1) := by decide +kernel
theorem dX5_look_221 : decode cX5_look 221 = .ok (.invokevirtual 94, 3) := by decide +kernel
theorem dX5_look_224 : decode cX5_look 224 = .ok (.invokevirtual 177, 3) := by decide +kernel
theorem dX5_look_227 : decode cX5_look 227 = .ok (.invokevirtual 180, 3) := by decide +kernel
theorem dX5_look_230 : decode cX5_look 230 = .ok (.ladd, 1) := by decide +kernel
theorem dX5_look_231 : decode cX5_look 231 = .ok (.lstore_n 3, 1) := by decide +kernel
theorem dX5_look_232 : decode cX5_look 232 = .ok (.aload_n 0, 1) := by decide +kernel
theorem dX5_look_233 : decode cX5_look 233 = .ok (.iload_n 1, 1) := by decide +kernel
theorem dX5_look_234 : decode cX5_look 234 = .ok (.iconst 2, 1) := by decide +kernel
theorem dX5_look_235 : decode cX5_look 235 = .ok (.invokevirtual 184, 3) := by decide +kernel
theorem dX5_look_238 : decode cX5_look 238 = .ok (.lload_n 3, 1) := by decide +kernel
theorem dX5_look_239 : decode cX5_look 239 = .ok (.lreturn, 1) := by decide +kernel
set_option maxRecDepth 20000 in
theorem ggX5_pass_X5_isIn : GoodIn wsX5_pass wsX5_isIn := goodIn_r _ [8] (by decide +kernel) (by decide +kernel)
set_option maxRecDepth 20000 in
theorem gX5_pass_X5_isIn : GoodIn wsX5_pass (va_wsS RX5 46 yX5_isIn wsX5_isIn) := goodIn_app (goodIn_of _ (by decide +kernel)) ggX5_pass_X5_isIn
set_option maxRecDepth 20000 in
theorem ggX5_pass_X5_no : GoodIn wsX5_pass wsX5_no := goodIn_r _ [12, 1, 101, 102, 103, 104, 105, 106, 107, 108, 109, 110] (by decide +kernel) (by decide +kernel)
set_option maxRecDepth 20000 in
theorem gX5_pass_X5_no : GoodIn wsX5_pass (wsV RX5 67 RX5 yX5_no wsX5_no) := goodIn_app (goodIn_of _ (by decide +kernel)) ggX5_pass_X5_no
set_option maxRecDepth 20000 in
theorem ggX5_pass_X5_number : GoodIn wsX5_pass wsX5_number := goodIn_r _ [15, 16, 17, 7, 18] (by decide +kernel) (by decide +kernel)
set_option maxRecDepth 20000 in
theorem gX5_pass_X5_number : GoodIn wsX5_pass (va_wsS RX5 8 yX5_number wsX5_number) := goodIn_app (goodIn_of _ (by decide +kernel)) ggX5_pass_X5_number
set_option maxRecDepth 20000 in
theorem ggX5_pass_X5_isWorking : GoodIn wsX5_pass wsX5_isWorking := goodIn_r _ [22, 23, 24, 25, 26, 7, 27, 101, 102, 103, 104, 105, 106, 107, 108, 109, 110] (by decide +kernel) (by decide +kernel)
set_option maxRecDepth 20000 in
theorem gX5_pass_X5_isWorking : GoodIn wsX5_pass (wsV RX5 60 RX5 yX5_isWorking wsX5_isWorking) := goodIn_app (goodIn_of _ (by decide +kernel)) ggX5_pass_X5_isWorking
set_option maxRecDepth 20000 in
theorem ggX5_pass_X5_isThere : GoodIn wsX5_pass wsX5_isThere := goodIn_r _ [31, 32, 33, 34, 7, 35, 36, 101, 102, 103, 104, 105, 106, 107, 108, 109, 110] (by decide +kernel) (by decide +kernel)
set_option maxRecDepth 20000 in
theorem gX5_pass_X5_isThere : GoodIn wsX5_pass (wsV RX5 110 RX5 yX5_isThere wsX5_isThere) := goodIn_app (goodIn_of _ (by decide +kernel)) ggX5_pass_X5_isThere
set_option maxRecDepth 20000 in
theorem ggX5_pass_X5_own : GoodIn wsX5_pass wsX5_own := goodIn_r _ [35, 36, 101, 102, 103, 104, 105, 106, 107, 108, 109, 110] (by decide +kernel) (by decide +kernel)
set_option maxRecDepth 20000 in
theorem gX5_pass_X5_own : GoodIn wsX5_pass (wsV RX5 94 RX5 yX5_own wsX5_own) := goodIn_app (goodIn_of _ (by decide +kernel)) ggX5_pass_X5_own
set_option maxRecDepth 20000 in
theorem ggX5_pass_X5_couponDay : GoodIn wsX5_pass wsX5_couponDay := goodIn_r _ [40, 41, 101, 102, 103, 104, 105, 106, 107, 108, 109, 110] (by decide +kernel) (by decide +kernel)
set_option maxRecDepth 20000 in
theorem gX5_pass_X5_couponDay : GoodIn wsX5_pass (wsV RX5 97 RX5 yX5_couponDay wsX5_couponDay) := goodIn_app (goodIn_of _ (by decide +kernel)) ggX5_pass_X5_couponDay
set_option maxRecDepth 20000 in
theorem ggX5_pass_X5_look : GoodIn wsX5_pass wsX5_look := goodIn_r _ [45, 36, 46, 47, 48, 49, 50, 51, 32, 33, 34, 7, 35, 52, 53, 54, 55, 56, 37, 38, 39, 40, 41, 57, 58, 59, 60, 61, 62, 63, 64, 65, 16, 17, 18, 66, 67, 68, 69, 70, 71, 72, 73, 74, 75, 76, 77, 78, 79, 80, 81, 82, 83, 84, 85, 86, 87, 88, 89, 90, 91, 92, 93, 94, 95, 96, 97, 98, 99, 100, 101, 102, 103, 104, 105, 106, 107, 108, 109, 110] (by decide +kernel) (by decide +kernel)
set_option maxRecDepth 20000 in
theorem gX5_pass_X5_look : GoodIn wsX5_pass (wsV RX5 188 RX5 yX5_look wsX5_look) := goodIn_app (goodIn_of _ (by decide +kernel)) ggX5_pass_X5_look
theorem dX5_pass_0 : decode cX5_pass 0 = .ok (.aload_n 0, 1) := by decide +kernel
theorem dX5_pass_1 : decode cX5_pass 1 = .ok (.iconst 0, 1) := by decide +kernel
theorem dX5_pass_2 : decode cX5_pass 2 = .ok (.putfield 41, 3) := by decide +kernel
theorem dX5_pass_5 : decode cX5_pass 5 = .ok (.iload_n 1, 1) := by decide +kernel
theorem dX5_pass_6 : decode cX5_pass 6 = .ok (.iconst 1, 1) := by decide +kernel
theorem dX5_pass_7 : decode cX5_pass 7 = .ok (.sipush 400, 3) := by decide +kernel
theorem dX5_pass_10 : decode cX5_pass 10 = .ok (.invokestatic 46, 3) := by decide +kernel
theorem dX5_pass_13 : decode cX5_pass 13 = .ok (.ifCond .ne 10, 3) := by decide +kernel
theorem dX5_pass_16 : decode cX5_pass 16 = .ok (.aload_n 0, 1) := by decide +kernel
theorem dX5_pass_17 : decode cX5_pass 17 = .ok (.iconst 1, 1) := by decide +kernel
theorem dX5_pass_18 : decode cX5_pass 18 = .ok (.invokevirtual 67, 3) := by decide +kernel
theorem dX5_pass_21 : decode cX5_pass 21 = .ok (.i2l, 1) := by decide +kernel
theorem dX5_pass_22 : decode cX5_pass 22 = .ok (.lreturn, 1) := by decide +kernel
theorem dX5_pass_23 : decode cX5_pass 23 = .ok (.aload_n 0, 1) := by decide +kernel
theorem dX5_pass_24 : decode cX5_pass 24 = .ok (.getfield 14, 3) := by decide +kernel
theorem dX5_pass_27 : decode cX5_pass 27 = .ok (.iload_n 1, 1) := by decide +kernel
theorem dX5_pass_28 : decode cX5_pass 28 = .ok (.iadd, 1) := by decide +kernel
theorem dX5_pass_29 : decode cX5_pass 29 = .ok (.ldc 73, 2) := by decide +kernel
theorem dX5_pass_31 : decode cX5_pass 31 = .ok (.invokestatic 8, 3) := by decide +kernel
theorem dX5_pass_34 : decode cX5_pass 34 = .ok (.if_icmp .le 10, 3) := by decide +kernel
theorem dX5_pass_37 : decode cX5_pass 37 = .ok (.aload_n 0, 1) := by decide +kernel
theorem dX5_pass_38 : decode cX5_pass 38 = .ok (.iconst 2, 1) := by decide +kernel
theorem dX5_pass_39 : decode cX5_pass 39 = .ok (.invokevirtual 67, 3) := by decide +kernel
theorem dX5_pass_42 : decode cX5_pass 42 = .ok (.i2l, 1) := by decide +kernel
theorem dX5_pass_43 : decode cX5_pass 43 = .ok (.lreturn, 1) := by decide +kernel
theorem dX5_pass_44 : decode cX5_pass 44 = .ok (.lconst 0, 1) := by decide +kernel
theorem dX5_pass_45 : decode cX5_pass 45 = .ok (.lstore_n 2, 1) := by decide +kernel
theorem dX5_pass_46 : decode cX5_pass 46 = .ok (.iconst 0, 1) := by decide +kernel
theorem dX5_pass_47 : decode cX5_pass 47 = .ok (.istore 4, 2) := by decide +kernel
theorem dX5_pass_49 : decode cX5_pass 49 = .ok (.iload 4, 2) := by decide +kernel
theorem dX5_pass_51 : decode cX5_pass 51 = .ok (.iload_n 1, 1) := by decide +kernel
theorem dX5_pass_52 : decode cX5_pass 52 = .ok (.if_icmp .ge 93, 3) := by decide +kernel
theorem dX5_pass_55 : decode cX5_pass 55 = .ok (.aload_n 0, 1) := by decide +kernel
theorem dX5_pass_56 : decode cX5_pass 56 = .ok (.dup, 1) := by decide +kernel
theorem dX5_pass_57 : decode cX5_pass 57 = .ok (.getfield 14, 3) := by decide +kernel
theorem dX5_pass_60 : decode cX5_pass 60 = .ok (.iconst 1, 1) := by decide +kernel
theorem dX5_pass_61 : decode cX5_pass 61 = .ok (.iadd, 1) := by decide +kernel
theorem dX5_pass_62 : decode cX5_pass 62 = .ok (.putfield 14, 3) := by decide +kernel
theorem dX5_pass_65 : decode cX5_pass 65 = .ok (.aload_n 0, 1) := by decide +kernel
theorem dX5_pass_66 : decode cX5_pass 66 = .ok (.aload_n 0, 1) := by decide +kernel
theorem dX5_pass_67 : decode cX5_pass 67 = .ok (.getfield 14, 3) := by decide +kernel
theorem dX5_pass_70 : decode cX5_pass 70 = .ok (.invokevirtual 60, 3) := by decide +kernel
theorem dX5_pass_73 : decode cX5_pass 73 = .ok (.ifCond .ne 6, 3) := by decide +kernel
theorem dX5_pass_76 : decode cX5_pass 76 = .ok (.goto 63, 3) := by decide +kernel
theorem dX5_pass_79 : decode cX5_pass 79 = .ok (.iconst 0, 1) := by decide +kernel
theorem dX5_pass_80 : decode cX5_pass 80 = .ok (.istore 5, 2) := by decide +kernel
theorem dX5_pass_82 : decode cX5_pass 82 = .ok (.iload 5, 2) := by decide +kernel
theorem dX5_pass_84 : decode cX5_pass 84 = .ok (.aload_n 0, 1) := by decide +kernel
theorem dX5_pass_85 : decode cX5_pass 85 = .ok (.getfield 77, 3) := by decide +kernel
theorem dX5_pass_88 : decode cX5_pass 88 = .ok (.if_icmp .ge 51, 3) := by decide +kernel
theorem dX5_pass_91 : decode cX5_pass 91 = .ok (.aload_n 0, 1) := by decide +kernel
theorem dX5_pass_92 : decode cX5_pass 92 = .ok (.iload 5, 2) := by decide +kernel
theorem dX5_pass_94 : decode cX5_pass 94 = .ok (.invokevirtual 110, 3) := by decide +kernel
theorem dX5_pass_97 : decode cX5_pass 97 = .ok (.ifCond .eq 36, 3) := by decide +kernel
theorem dX5_pass_100 : decode cX5_pass 100 = .ok (.aload_n 0, 1) := by decide +kernel
theorem dX5_pass_101 : decode cX5_pass 101 = .ok (.iload 5, 2) := by decide +kernel
theorem dX5_pass_103 : decode cX5_pass 103 = .ok (.aload_n 0, 1) := by decide +kernel
theorem dX5_pass_104 : decode cX5_pass 104 = .ok (.iload 5, 2) := by decide +kernel
theorem dX5_pass_106 : decode cX5_pass 106 = .ok (.bipush 7, 2) := by decide +kernel
theorem dX5_pass_108 : decode cX5_pass 108 = .ok (.invokevirtual 94, 3) := by decide +kernel
theorem dX5_pass_111 : decode cX5_pass 111 = .ok (.invokevirtual 97, 3) := by decide +kernel
theorem dX5_pass_114 : decode cX5_pass 114 = .ok (.aload_n 0, 1) := by decide +kernel
theorem dX5_pass_115 : decode cX5_pass 115 = .ok (.getfield 14, 3) := by decide +kernel
theorem dX5_pass_118 : decode cX5_pass 118 = .ok (.if_icmp .gt 15, 3) := by decide +kernel
theorem dX5_pass_121 : decode cX5_pass 121 = .ok (.lload_n 2, 1) := by decide +kernel
theorem dX5_pass_122 : decode cX5_pass 122 = .ok (.aload_n 0, 1) := by decide +kernel
theorem dX5_pass_123 : decode cX5_pass 123 = .ok (.iload 5, 2) := by decide +kernel
theorem dX5_pass_125 : decode cX5_pass 125 = .ok (.invokevirtual 188, 3) := by decide +kernel
theorem dX5_pass_128 : decode cX5_pass 128 = .ok (.ladd, 1) := by decide +kernel
theorem dX5_pass_129 : decode cX5_pass 129 = .ok (.lstore_n 2, 1) := by decide +kernel
theorem dX5_pass_130 : decode cX5_pass 130 = .ok (.goto (-39), 3) := by decide +kernel
theorem dX5_pass_133 : decode cX5_pass 133 = .ok (.iinc 5 1, 3) := by decide +kernel
theorem dX5_pass_136 : decode cX5_pass 136 = .ok (.goto (-54), 3) := by decide +kernel
theorem dX5_pass_139 : decode cX5_pass 139 = .ok (.iinc 4 1, 3) := by decide +kernel
theorem dX5_pass_142 : decode cX5_pass 142 = .ok (.goto (-93), 3) := by decide +kernel
theorem dX5_pass_145 : decode cX5_pass 145 = .ok (.lload_n 2, 1) := by decide +kernel
theorem dX5_pass_146 : decode cX5_pass 146 = .ok (.lreturn, 1) := by decide +kernel
set_option maxRecDepth 20000 in
theorem ggX5_counted_X5_isThere : GoodIn wsX5_counted wsX5_isThere := goodIn_r _ [11, 12, 13, 14, 10, 15, 16, 65, 66, 67, 68, 69, 70, 71, 72, 73, 74] (by decide +kernel) (by decide +kernel)
set_option maxRecDepth 20000 in
theorem gX5_counted_X5_isThere : GoodIn wsX5_counted (wsV RX5 110 RX5 yX5_isThere wsX5_isThere) := goodIn_app (goodIn_of _ (by decide +kernel)) ggX5_counted_X5_isThere
set_option maxRecDepth 20000 in
theorem ggX5_counted_X5_own : GoodIn wsX5_counted wsX5_own := goodIn_r _ [15, 16, 65, 66, 67, 68, 69, 70, 71, 72, 73, 74] (by decide +kernel) (by decide +kernel)
set_option maxRecDepth 20000 in
theorem gX5_counted_X5_own : GoodIn wsX5_counted (wsV RX5 94 RX5 yX5_own wsX5_own) := goodIn_app (goodIn_of _ (by decide +kernel)) ggX5_counted_X5_own
set_option maxRecDepth 20000 in
theorem ggX5_counted_X5_date : GoodIn wsX5_counted wsX5_date := goodIn_r _ [19, 20, 21, 10, 22] (by decide +kernel) (by decide +kernel)
set_option maxRecDepth 20000 in
theorem gX5_counted_X5_date : GoodIn wsX5_counted (va_wsS RX5 70 yX5_date wsX5_date) := goodIn_app (goodIn_of _ (by decide +kernel)) ggX5_counted_X5_date
set_option maxRecDepth 20000 in
theorem ggX5_counted_X5_worthNow : GoodIn wsX5_counted wsX5_worthNow := goodIn_r _ [26, 2, 7, 8, 9, 10, 11, 12, 13, 14, 15, 16, 27, 28, 29, 30, 31, 32, 33, 34, 35, 36, 37, 38, 39, 40, 41, 42, 43, 44, 45, 46, 47, 48, 49, 50, 51, 52, 53, 54, 55, 56, 57, 58, 59, 60, 61, 17, 18, 19, 20, 21, 22, 62, 63, 64, 65, 66, 67, 68, 69, 70, 71, 72, 73, 74] (by decide +kernel) (by decide +kernel)
set_option maxRecDepth 20000 in
theorem gX5_counted_X5_worthNow : GoodIn wsX5_counted (wsV RX5 167 RX5 yX5_worthNow wsX5_worthNow) := goodIn_app (goodIn_of _ (by decide +kernel)) ggX5_counted_X5_worthNow
theorem dX5_counted_0 : decode cX5_counted 0 = .ok (.lconst 0, 1) := by decide +kernel
theorem dX5_counted_1 : decode cX5_counted 1 = .ok (.lstore_n 2, 1) := by decide +kernel
theorem dX5_counted_2 : decode cX5_counted 2 = .ok (.lconst 0, 1) := by decide +kernel
theorem dX5_counted_3 : decode cX5_counted 3 = .ok (.lstore 4, 2) := by decide +kernel
theorem dX5_counted_5 : decode cX5_counted 5 = .ok (.iconst 0, 1) := by decide +kernel
theorem dX5_counted_6 : decode cX5_counted 6 = .ok (.istore 6, 2) := by decide +kernel
theorem dX5_counted_8 : decode cX5_counted 8 = .ok (.iload 6, 2) := by decide +kernel
theorem dX5_counted_10 : decode cX5_counted 10 = .ok (.aload_n 0, 1) := by decide +kernel
theorem dX5_counted_11 : decode cX5_counted 11 = .ok (.getfield 77, 3) := by decide +kernel
theorem dX5_counted_14 : decode cX5_counted 14 = .ok (.if_icmp .ge 40, 3) := by decide +kernel
theorem dX5_counted_17 : decode cX5_counted 17 = .ok (.lload_n 2, 1) := by decide +kernel
theorem dX5_counted_18 : decode cX5_counted 18 = .ok (.aload_n 0, 1) := by decide +kernel
theorem dX5_counted_19 : decode cX5_counted 19 = .ok (.iload 6, 2) := by decide +kernel
theorem dX5_counted_21 : decode cX5_counted 21 = .ok (.invokevirtual 110, 3) := by decide +kernel
theorem dX5_counted_24 : decode cX5_counted 24 = .ok (.ifCond .eq 7, 3) := by decide +kernel
theorem dX5_counted_27 : decode cX5_counted 27 = .ok (.lconst 1, 1) := by decide +kernel
theorem dX5_counted_28 : decode cX5_counted 28 = .ok (.goto 4, 3) := by decide +kernel
theorem dX5_counted_31 : decode cX5_counted 31 = .ok (.lconst 0, 1) := by decide +kernel
theorem dX5_counted_32 : decode cX5_counted 32 = .ok (.ladd, 1) := by decide +kernel
theorem dX5_counted_33 : decode cX5_counted 33 = .ok (.lstore_n 2, 1) := by decide +kernel
theorem dX5_counted_34 : decode cX5_counted 34 = .ok (.lload 4, 2) := by decide +kernel
theorem dX5_counted_36 : decode cX5_counted 36 = .ok (.aload_n 0, 1) := by decide +kernel
theorem dX5_counted_37 : decode cX5_counted 37 = .ok (.iload 6, 2) := by decide +kernel
theorem dX5_counted_39 : decode cX5_counted 39 = .ok (.bipush 9, 2) := by decide +kernel
theorem dX5_counted_41 : decode cX5_counted 41 = .ok (.invokevirtual 94, 3) := by decide +kernel
theorem dX5_counted_44 : decode cX5_counted 44 = .ok (.i2l, 1) := by decide +kernel
theorem dX5_counted_45 : decode cX5_counted 45 = .ok (.ladd, 1) := by decide +kernel
theorem dX5_counted_46 : decode cX5_counted 46 = .ok (.lstore 4, 2) := by decide +kernel
theorem dX5_counted_48 : decode cX5_counted 48 = .ok (.iinc 6 1, 3) := by decide +kernel
theorem dX5_counted_51 : decode cX5_counted 51 = .ok (.goto (-43), 3) := by decide +kernel
theorem dX5_counted_54 : decode cX5_counted 54 = .ok (.iload_n 1, 1) := by decide +kernel
theorem dX5_counted_55 : decode cX5_counted 55 = .ok (.tableswitch 158 0 11 #[61, 70, 75, 81, 87, 89, 95, 158, 158, 158, 158, 98], 61) := by decide +kernel
theorem dX5_counted_116 : decode cX5_counted 116 = .ok (.aload_n 0, 1) := by decide +kernel
theorem dX5_counted_117 : decode cX5_counted 117 = .ok (.getfield 14, 3) := by decide +kernel
theorem dX5_counted_120 : decode cX5_counted 120 = .ok (.invokestatic 70, 3) := by decide +kernel
theorem dX5_counted_123 : decode cX5_counted 123 = .ok (.i2l, 1) := by decide +kernel
theorem dX5_counted_124 : decode cX5_counted 124 = .ok (.lreturn, 1) := by decide +kernel
theorem dX5_counted_125 : decode cX5_counted 125 = .ok (.aload_n 0, 1) := by decide +kernel
theorem dX5_counted_126 : decode cX5_counted 126 = .ok (.getfield 20, 3) := by decide +kernel
theorem dX5_counted_129 : decode cX5_counted 129 = .ok (.lreturn, 1) := by decide +kernel
theorem dX5_counted_130 : decode cX5_counted 130 = .ok (.aload_n 0, 1) := by decide +kernel
theorem dX5_counted_131 : decode cX5_counted 131 = .ok (.getfield 24, 3) := by decide +kernel
theorem dX5_counted_134 : decode cX5_counted 134 = .ok (.i2l, 1) := by decide +kernel
theorem dX5_counted_135 : decode cX5_counted 135 = .ok (.lreturn, 1) := by decide +kernel
theorem dX5_counted_136 : decode cX5_counted 136 = .ok (.aload_n 0, 1) := by decide +kernel
theorem dX5_counted_137 : decode cX5_counted 137 = .ok (.getfield 77, 3) := by decide +kernel
theorem dX5_counted_140 : decode cX5_counted 140 = .ok (.i2l, 1) := by decide +kernel
theorem dX5_counted_141 : decode cX5_counted 141 = .ok (.lreturn, 1) := by decide +kernel
theorem dX5_counted_142 : decode cX5_counted 142 = .ok (.lload_n 2, 1) := by decide +kernel
theorem dX5_counted_143 : decode cX5_counted 143 = .ok (.lreturn, 1) := by decide +kernel
theorem dX5_counted_144 : decode cX5_counted 144 = .ok (.aload_n 0, 1) := by decide +kernel
theorem dX5_counted_145 : decode cX5_counted 145 = .ok (.getfield 57, 3) := by decide +kernel
theorem dX5_counted_148 : decode cX5_counted 148 = .ok (.i2l, 1) := by decide +kernel
theorem dX5_counted_149 : decode cX5_counted 149 = .ok (.lreturn, 1) := by decide +kernel
theorem dX5_counted_150 : decode cX5_counted 150 = .ok (.lload 4, 2) := by decide +kernel
theorem dX5_counted_152 : decode cX5_counted 152 = .ok (.lreturn, 1) := by decide +kernel
theorem dX5_counted_153 : decode cX5_counted 153 = .ok (.lconst 0, 1) := by decide +kernel
theorem dX5_counted_154 : decode cX5_counted 154 = .ok (.lstore 6, 2) := by decide +kernel
theorem dX5_counted_156 : decode cX5_counted 156 = .ok (.iconst 0, 1) := by decide +kernel
theorem dX5_counted_157 : decode cX5_counted 157 = .ok (.istore 8, 2) := by decide +kernel
theorem dX5_counted_159 : decode cX5_counted 159 = .ok (.iload 8, 2) := by decide +kernel
theorem dX5_counted_161 : decode cX5_counted 161 = .ok (.aload_n 0, 1) := by decide +kernel
theorem dX5_counted_162 : decode cX5_counted 162 = .ok (.getfield 77, 3) := by decide +kernel
theorem dX5_counted_165 : decode cX5_counted 165 = .ok (.if_icmp .ge 45, 3) := by decide +kernel
theorem dX5_counted_168 : decode cX5_counted 168 = .ok (.aload_n 0, 1) := by decide +kernel
theorem dX5_counted_169 : decode cX5_counted 169 = .ok (.iload 8, 2) := by decide +kernel
theorem dX5_counted_171 : decode cX5_counted 171 = .ok (.bipush 9, 2) := by decide +kernel
theorem dX5_counted_173 : decode cX5_counted 173 = .ok (.invokevirtual 94, 3) := by decide +kernel
theorem dX5_counted_176 : decode cX5_counted 176 = .ok (.ifCond .le 28, 3) := by decide +kernel
theorem dX5_counted_179 : decode cX5_counted 179 = .ok (.lload 6, 2) := by decide +kernel
theorem dX5_counted_181 : decode cX5_counted 181 = .ok (.aload_n 0, 1) := by decide +kernel
theorem dX5_counted_182 : decode cX5_counted 182 = .ok (.iload 8, 2) := by decide +kernel
theorem dX5_counted_184 : decode cX5_counted 184 = .ok (.bipush 9, 2) := by decide +kernel
theorem dX5_counted_186 : decode cX5_counted 186 = .ok (.invokevirtual 94, 3) := by decide +kernel
theorem dX5_counted_189 : decode cX5_counted 189 = .ok (.i2l, 1) := by decide +kernel
theorem dX5_counted_190 : decode cX5_counted 190 = .ok (.aload_n 0, 1) := by decide +kernel
theorem dX5_counted_191 : decode cX5_counted 191 = .ok (.iload 8, 2) := by decide +kernel
theorem dX5_counted_193 : decode cX5_counted 193 = .ok (.aload_n 0, 1) := by decide +kernel
theorem dX5_counted_194 : decode cX5_counted 194 = .ok (.getfield 24, 3) := by decide +kernel
theorem dX5_counted_197 : decode cX5_counted 197 = .ok (.invokevirtual 167, 3) := by decide +kernel
theorem dX5_counted_200 : decode cX5_counted 200 = .ok (.lmul, 1) := by decide +kernel
theorem dX5_counted_201 : decode cX5_counted 201 = .ok (.ladd, 1) := by decide +kernel
theorem dX5_counted_202 : decode cX5_counted 202 = .ok (.lstore 6, 2) := by decide +kernel
theorem dX5_counted_204 : decode cX5_counted 204 = .ok (.iinc 8 1, 3) := by decide +kernel
theorem dX5_counted_207 : decode cX5_counted 207 = .ok (.goto (-48), 3) := by decide +kernel
theorem dX5_counted_210 : decode cX5_counted 210 = .ok (.lload 6, 2) := by decide +kernel
theorem dX5_counted_212 : decode cX5_counted 212 = .ok (.lreturn, 1) := by decide +kernel
theorem dX5_counted_213 : decode cX5_counted 213 = .ok (.aload_n 0, 1) := by decide +kernel
theorem dX5_counted_214 : decode cX5_counted 214 = .ok (.getfield 37, 3) := by decide +kernel
theorem dX5_counted_217 : decode cX5_counted 217 = .ok (.iload_n 1, 1) := by decide +kernel
theorem dX5_counted_218 : decode cX5_counted 218 = .ok (.bipush 7, 2) := by decide +kernel
theorem dX5_counted_220 : decode cX5_counted 220 = .ok (.isub, 1) := by decide +kernel
theorem dX5_counted_221 : decode cX5_counted 221 = .ok (.laload, 1) := by decide +kernel
theorem dX5_counted_222 : decode cX5_counted 222 = .ok (.lreturn, 1) := by decide +kernel
set_option maxRecDepth 20000 in
theorem ggX5_count_X5_isIn : GoodIn wsX5_count wsX5_isIn := goodIn_r _ [5] (by decide +kernel) (by decide +kernel)
set_option maxRecDepth 20000 in
theorem gX5_count_X5_isIn : GoodIn wsX5_count (va_wsS RX5 46 yX5_isIn wsX5_isIn) := goodIn_app (goodIn_of _ (by decide +kernel)) ggX5_count_X5_isIn
set_option maxRecDepth 20000 in
theorem ggX5_count_X5_counted : GoodIn wsX5_count wsX5_counted := goodIn_r _ [9, 10, 11, 12, 13, 14, 15, 16, 17, 18, 4, 19, 20, 21, 22, 23, 24, 25, 26, 27, 28, 29, 30, 31, 32, 33, 34, 35, 36, 37, 38, 39, 40, 41, 42, 43, 44, 45, 46, 47, 48, 49, 50, 51, 52, 53, 54, 55, 56, 57, 58, 59, 60, 61, 62, 63, 64, 65, 66, 67, 68, 69, 70, 71, 72, 77, 78, 79, 80, 81, 82, 83, 84, 85, 86] (by decide +kernel) (by decide +kernel)
set_option maxRecDepth 20000 in
theorem gX5_count_X5_counted : GoodIn wsX5_count (wsV RX5 192 RX5 yX5_counted wsX5_counted) := goodIn_app (goodIn_of _ (by decide +kernel)) ggX5_count_X5_counted
set_option maxRecDepth 20000 in
theorem ggX5_count_X5_no : GoodIn wsX5_count wsX5_no := goodIn_r _ [76, 1, 77, 78, 79, 80, 81, 82, 83, 84, 85, 86] (by decide +kernel) (by decide +kernel)
set_option maxRecDepth 20000 in
theorem gX5_count_X5_no : GoodIn wsX5_count (wsV RX5 67 RX5 yX5_no wsX5_no) := goodIn_app (goodIn_of _ (by decide +kernel)) ggX5_count_X5_no
theorem dX5_count_0 : decode cX5_count 0 = .ok (.aload_n 0, 1) := by decide +kernel
theorem dX5_count_1 : decode cX5_count 1 = .ok (.iconst 0, 1) := by decide +kernel
theorem dX5_count_2 : decode cX5_count 2 = .ok (.putfield 41, 3) := by decide +kernel
theorem dX5_count_5 : decode cX5_count 5 = .ok (.iload_n 1, 1) := by decide +kernel
theorem dX5_count_6 : decode cX5_count 6 = .ok (.iconst 0, 1) := by decide +kernel
theorem dX5_count_7 : decode cX5_count 7 = .ok (.bipush 11, 2) := by decide +kernel
theorem dX5_count_9 : decode cX5_count 9 = .ok (.invokestatic 46, 3) := by decide +kernel
theorem dX5_count_12 : decode cX5_count 12 = .ok (.ifCond .eq 11, 3) := by decide +kernel
theorem dX5_count_15 : decode cX5_count 15 = .ok (.aload_n 0, 1) := by decide +kernel
theorem dX5_count_16 : decode cX5_count 16 = .ok (.iload_n 1, 1) := by decide +kernel
theorem dX5_count_17 : decode cX5_count 17 = .ok (.invokevirtual 192, 3) := by decide +kernel
theorem dX5_count_20 : decode cX5_count 20 = .ok (.goto 9, 3) := by decide +kernel
theorem dX5_count_23 : decode cX5_count 23 = .ok (.aload_n 0, 1) := by decide +kernel
theorem dX5_count_24 : decode cX5_count 24 = .ok (.iconst 1, 1) := by decide +kernel
theorem dX5_count_25 : decode cX5_count 25 = .ok (.invokevirtual 67, 3) := by decide +kernel
theorem dX5_count_28 : decode cX5_count 28 = .ok (.i2l, 1) := by decide +kernel
theorem dX5_count_29 : decode cX5_count 29 = .ok (.lreturn, 1) := by decide +kernel
set_option maxRecDepth 20000 in
theorem ggX5_paysIn_X5_isIn : GoodIn wsX5_paysIn wsX5_isIn := goodIn_r _ [12] (by decide +kernel) (by decide +kernel)
set_option maxRecDepth 20000 in
theorem gX5_paysIn_X5_isIn : GoodIn wsX5_paysIn (va_wsS RX5 46 yX5_isIn wsX5_isIn) := goodIn_app (goodIn_of _ (by decide +kernel)) ggX5_paysIn_X5_isIn
set_option maxRecDepth 20000 in
theorem ggX5_paysIn_X5_no : GoodIn wsX5_paysIn wsX5_no := goodIn_r _ [16, 1, 55, 56, 57, 58, 59, 60, 61, 62, 63, 64] (by decide +kernel) (by decide +kernel)
set_option maxRecDepth 20000 in
theorem gX5_paysIn_X5_no : GoodIn wsX5_paysIn (wsV RX5 67 RX5 yX5_no wsX5_no) := goodIn_app (goodIn_of _ (by decide +kernel)) ggX5_paysIn_X5_no
set_option maxRecDepth 20000 in
theorem ggX5_paysIn_X5_own : GoodIn wsX5_paysIn wsX5_own := goodIn_r _ [20, 21, 55, 56, 57, 58, 59, 60, 61, 62, 63, 64] (by decide +kernel) (by decide +kernel)
set_option maxRecDepth 20000 in
theorem gX5_paysIn_X5_own : GoodIn wsX5_paysIn (wsV RX5 94 RX5 yX5_own wsX5_own) := goodIn_app (goodIn_of _ (by decide +kernel)) ggX5_paysIn_X5_own
set_option maxRecDepth 20000 in
theorem ggX5_paysIn_X5_behind : GoodIn wsX5_paysIn wsX5_behind := goodIn_r _ [25, 17, 18, 19, 11, 20, 21, 26, 27, 28, 29, 30, 55, 56, 57, 58, 59, 60, 61, 62, 63, 64] (by decide +kernel) (by decide +kernel)
set_option maxRecDepth 20000 in
theorem gX5_paysIn_X5_behind : GoodIn wsX5_paysIn (wsV RX5 151 RX5 yX5_behind wsX5_behind) := goodIn_app (goodIn_of _ (by decide +kernel)) ggX5_paysIn_X5_behind
set_option maxRecDepth 20000 in
theorem ggX5_paysIn_X5_isSunk : GoodIn wsX5_paysIn wsX5_isSunk := goodIn_r _ [34, 17, 18, 19, 11, 20, 21, 26, 27, 28, 29, 30, 55, 56, 57, 58, 59, 60, 61, 62, 63, 64] (by decide +kernel) (by decide +kernel)
set_option maxRecDepth 20000 in
theorem gX5_paysIn_X5_isSunk : GoodIn wsX5_paysIn (wsV RX5 100 RX5 yX5_isSunk wsX5_isSunk) := goodIn_app (goodIn_of _ (by decide +kernel)) ggX5_paysIn_X5_isSunk
set_option maxRecDepth 20000 in
theorem ggX5_paysIn_X5_couponDay : GoodIn wsX5_paysIn wsX5_couponDay := goodIn_r _ [29, 30, 55, 56, 57, 58, 59, 60, 61, 62, 63, 64] (by decide +kernel) (by decide +kernel)
set_option maxRecDepth 20000 in
theorem gX5_paysIn_X5_couponDay : GoodIn wsX5_paysIn (wsV RX5 97 RX5 yX5_couponDay wsX5_couponDay) := goodIn_app (goodIn_of _ (by decide +kernel)) ggX5_paysIn_X5_couponDay
set_option maxRecDepth 20000 in
theorem ggX5_paysIn_X5_date : GoodIn wsX5_paysIn wsX5_date := goodIn_r _ [37, 38, 39, 11, 40] (by decide +kernel) (by decide +kernel)
set_option maxRecDepth 20000 in
theorem gX5_paysIn_X5_date : GoodIn wsX5_paysIn (va_wsS RX5 70 yX5_date wsX5_date) := goodIn_app (goodIn_of _ (by decide +kernel)) ggX5_paysIn_X5_date
set_option maxRecDepth 20000 in
theorem ggX5_paysIn_X5_coupon : GoodIn wsX5_paysIn wsX5_coupon := goodIn_r _ [44, 45, 26, 27, 28, 11, 29, 30, 17, 18, 19, 20, 21, 46, 47, 48, 49, 50, 51, 35, 36, 37, 38, 39, 40, 52, 53, 54, 4, 5, 6, 7, 55, 56, 57, 58, 59, 60, 61, 62, 63, 64] (by decide +kernel) (by decide +kernel)
set_option maxRecDepth 20000 in
theorem gX5_paysIn_X5_coupon : GoodIn wsX5_paysIn (wsV RX5 143 RX5 yX5_coupon wsX5_coupon) := goodIn_app (goodIn_of _ (by decide +kernel)) ggX5_paysIn_X5_coupon
theorem dX5_paysIn_0 : decode cX5_paysIn 0 = .ok (.aload_n 0, 1) := by decide +kernel
theorem dX5_paysIn_1 : decode cX5_paysIn 1 = .ok (.iconst 0, 1) := by decide +kernel
theorem dX5_paysIn_2 : decode cX5_paysIn 2 = .ok (.putfield 41, 3) := by decide +kernel
theorem dX5_paysIn_5 : decode cX5_paysIn 5 = .ok (.iload_n 1, 1) := by decide +kernel
theorem dX5_paysIn_6 : decode cX5_paysIn 6 = .ok (.sipush 2016, 3) := by decide +kernel
theorem dX5_paysIn_9 : decode cX5_paysIn 9 = .ok (.sipush 2066, 3) := by decide +kernel
theorem dX5_paysIn_12 : decode cX5_paysIn 12 = .ok (.invokestatic 46, 3) := by decide +kernel
theorem dX5_paysIn_15 : decode cX5_paysIn 15 = .ok (.ifCond .ne 10, 3) := by decide +kernel
theorem dX5_paysIn_18 : decode cX5_paysIn 18 = .ok (.aload_n 0, 1) := by decide +kernel
theorem dX5_paysIn_19 : decode cX5_paysIn 19 = .ok (.iconst 1, 1) := by decide +kernel
theorem dX5_paysIn_20 : decode cX5_paysIn 20 = .ok (.invokevirtual 67, 3) := by decide +kernel
theorem dX5_paysIn_23 : decode cX5_paysIn 23 = .ok (.i2l, 1) := by decide +kernel
theorem dX5_paysIn_24 : decode cX5_paysIn 24 = .ok (.lreturn, 1) := by decide +kernel
theorem dX5_paysIn_25 : decode cX5_paysIn 25 = .ok (.lconst 0, 1) := by decide +kernel
theorem dX5_paysIn_26 : decode cX5_paysIn 26 = .ok (.lstore_n 2, 1) := by decide +kernel
theorem dX5_paysIn_27 : decode cX5_paysIn 27 = .ok (.iconst 0, 1) := by decide +kernel
theorem dX5_paysIn_28 : decode cX5_paysIn 28 = .ok (.istore 4, 2) := by decide +kernel
theorem dX5_paysIn_30 : decode cX5_paysIn 30 = .ok (.iload 4, 2) := by decide +kernel
theorem dX5_paysIn_32 : decode cX5_paysIn 32 = .ok (.aload_n 0, 1) := by decide +kernel
theorem dX5_paysIn_33 : decode cX5_paysIn 33 = .ok (.getfield 77, 3) := by decide +kernel
theorem dX5_paysIn_36 : decode cX5_paysIn 36 = .ok (.if_icmp .ge 176, 3) := by decide +kernel
theorem dX5_paysIn_39 : decode cX5_paysIn 39 = .ok (.aload_n 0, 1) := by decide +kernel
theorem dX5_paysIn_40 : decode cX5_paysIn 40 = .ok (.iload 4, 2) := by decide +kernel
theorem dX5_paysIn_42 : decode cX5_paysIn 42 = .ok (.bipush 9, 2) := by decide +kernel
theorem dX5_paysIn_44 : decode cX5_paysIn 44 = .ok (.invokevirtual 94, 3) := by decide +kernel
theorem dX5_paysIn_47 : decode cX5_paysIn 47 = .ok (.ifCond .ne 6, 3) := by decide +kernel
theorem dX5_paysIn_50 : decode cX5_paysIn 50 = .ok (.goto 156, 3) := by decide +kernel
theorem dX5_paysIn_53 : decode cX5_paysIn 53 = .ok (.aload_n 0, 1) := by decide +kernel
theorem dX5_paysIn_54 : decode cX5_paysIn 54 = .ok (.iload 4, 2) := by decide +kernel
theorem dX5_paysIn_56 : decode cX5_paysIn 56 = .ok (.iconst 5, 1) := by decide +kernel
theorem dX5_paysIn_57 : decode cX5_paysIn 57 = .ok (.invokevirtual 94, 3) := by decide +kernel
theorem dX5_paysIn_60 : decode cX5_paysIn 60 = .ok (.istore 5, 2) := by decide +kernel
theorem dX5_paysIn_62 : decode cX5_paysIn 62 = .ok (.aload_n 0, 1) := by decide +kernel
theorem dX5_paysIn_63 : decode cX5_paysIn 63 = .ok (.iload 4, 2) := by decide +kernel
theorem dX5_paysIn_65 : decode cX5_paysIn 65 = .ok (.aload_n 0, 1) := by decide +kernel
theorem dX5_paysIn_66 : decode cX5_paysIn 66 = .ok (.getfield 14, 3) := by decide +kernel
theorem dX5_paysIn_69 : decode cX5_paysIn 69 = .ok (.invokevirtual 151, 3) := by decide +kernel
theorem dX5_paysIn_72 : decode cX5_paysIn 72 = .ok (.istore 6, 2) := by decide +kernel
theorem dX5_paysIn_74 : decode cX5_paysIn 74 = .ok (.iload 6, 2) := by decide +kernel
theorem dX5_paysIn_76 : decode cX5_paysIn 76 = .ok (.aload_n 0, 1) := by decide +kernel
theorem dX5_paysIn_77 : decode cX5_paysIn 77 = .ok (.iload 4, 2) := by decide +kernel
theorem dX5_paysIn_79 : decode cX5_paysIn 79 = .ok (.bipush 6, 2) := by decide +kernel
theorem dX5_paysIn_81 : decode cX5_paysIn 81 = .ok (.invokevirtual 94, 3) := by decide +kernel
theorem dX5_paysIn_84 : decode cX5_paysIn 84 = .ok (.if_icmp .ge 122, 3) := by decide +kernel
theorem dX5_paysIn_87 : decode cX5_paysIn 87 = .ok (.iload 6, 2) := by decide +kernel
theorem dX5_paysIn_89 : decode cX5_paysIn 89 = .ok (.aload_n 0, 1) := by decide +kernel
theorem dX5_paysIn_90 : decode cX5_paysIn 90 = .ok (.iload 4, 2) := by decide +kernel
theorem dX5_paysIn_92 : decode cX5_paysIn 92 = .ok (.bipush 6, 2) := by decide +kernel
theorem dX5_paysIn_94 : decode cX5_paysIn 94 = .ok (.invokevirtual 94, 3) := by decide +kernel
theorem dX5_paysIn_97 : decode cX5_paysIn 97 = .ok (.iconst 1, 1) := by decide +kernel
theorem dX5_paysIn_98 : decode cX5_paysIn 98 = .ok (.isub, 1) := by decide +kernel
theorem dX5_paysIn_99 : decode cX5_paysIn 99 = .ok (.if_icmp .ne 8, 3) := by decide +kernel
theorem dX5_paysIn_102 : decode cX5_paysIn 102 = .ok (.iload 5, 2) := by decide +kernel
theorem dX5_paysIn_104 : decode cX5_paysIn 104 = .ok (.goto 31, 3) := by decide +kernel
theorem dX5_paysIn_107 : decode cX5_paysIn 107 = .ok (.aload_n 0, 1) := by decide +kernel
theorem dX5_paysIn_108 : decode cX5_paysIn 108 = .ok (.iload 4, 2) := by decide +kernel
theorem dX5_paysIn_110 : decode cX5_paysIn 110 = .ok (.iload 6, 2) := by decide +kernel
theorem dX5_paysIn_112 : decode cX5_paysIn 112 = .ok (.invokevirtual 100, 3) := by decide +kernel
theorem dX5_paysIn_115 : decode cX5_paysIn 115 = .ok (.ifCond .eq 19, 3) := by decide +kernel
theorem dX5_paysIn_118 : decode cX5_paysIn 118 = .ok (.iload 5, 2) := by decide +kernel
theorem dX5_paysIn_120 : decode cX5_paysIn 120 = .ok (.aload_n 0, 1) := by decide +kernel
theorem dX5_paysIn_121 : decode cX5_paysIn 121 = .ok (.iload 4, 2) := by decide +kernel
theorem dX5_paysIn_123 : decode cX5_paysIn 123 = .ok (.bipush 11, 2) := by decide +kernel
theorem dX5_paysIn_125 : decode cX5_paysIn 125 = .ok (.invokevirtual 94, 3) := by decide +kernel
theorem dX5_paysIn_128 : decode cX5_paysIn 128 = .ok (.invokestatic 80, 3) := by decide +kernel
theorem dX5_paysIn_131 : decode cX5_paysIn 131 = .ok (.goto 4, 3) := by decide +kernel
theorem dX5_paysIn_134 : decode cX5_paysIn 134 = .ok (.iconst 0, 1) := by decide +kernel
theorem dX5_paysIn_135 : decode cX5_paysIn 135 = .ok (.istore 7, 2) := by decide +kernel
theorem dX5_paysIn_137 : decode cX5_paysIn 137 = .ok (.aload_n 0, 1) := by decide +kernel
theorem dX5_paysIn_138 : decode cX5_paysIn 138 = .ok (.iload 4, 2) := by decide +kernel
theorem dX5_paysIn_140 : decode cX5_paysIn 140 = .ok (.iload 6, 2) := by decide +kernel
theorem dX5_paysIn_142 : decode cX5_paysIn 142 = .ok (.invokevirtual 97, 3) := by decide +kernel
theorem dX5_paysIn_145 : decode cX5_paysIn 145 = .ok (.invokestatic 70, 3) := by decide +kernel
theorem dX5_paysIn_148 : decode cX5_paysIn 148 = .ok (.sipush 10000, 3) := by decide +kernel
theorem dX5_paysIn_151 : decode cX5_paysIn 151 = .ok (.idiv, 1) := by decide +kernel
theorem dX5_paysIn_152 : decode cX5_paysIn 152 = .ok (.iload_n 1, 1) := by decide +kernel
theorem dX5_paysIn_153 : decode cX5_paysIn 153 = .ok (.if_icmp .ne 40, 3) := by decide +kernel
theorem dX5_paysIn_156 : decode cX5_paysIn 156 = .ok (.lload_n 2, 1) := by decide +kernel
theorem dX5_paysIn_157 : decode cX5_paysIn 157 = .ok (.aload_n 0, 1) := by decide +kernel
theorem dX5_paysIn_158 : decode cX5_paysIn 158 = .ok (.iload 4, 2) := by decide +kernel
theorem dX5_paysIn_160 : decode cX5_paysIn 160 = .ok (.bipush 9, 2) := by decide +kernel
theorem dX5_paysIn_162 : decode cX5_paysIn 162 = .ok (.invokevirtual 94, 3) := by decide +kernel
theorem dX5_paysIn_165 : decode cX5_paysIn 165 = .ok (.i2l, 1) := by decide +kernel
theorem dX5_paysIn_166 : decode cX5_paysIn 166 = .ok (.aload_n 0, 1) := by decide +kernel
theorem dX5_paysIn_167 : decode cX5_paysIn 167 = .ok (.iload 4, 2) := by decide +kernel
theorem dX5_paysIn_169 : decode cX5_paysIn 169 = .ok (.iload 6, 2) := by decide +kernel
theorem dX5_paysIn_171 : decode cX5_paysIn 171 = .ok (.ldc2_w 159, 3) := by decide +kernel
theorem dX5_paysIn_174 : decode cX5_paysIn 174 = .ok (.iload 5, 2) := by decide +kernel
theorem dX5_paysIn_176 : decode cX5_paysIn 176 = .ok (.i2l, 1) := by decide +kernel
theorem dX5_paysIn_177 : decode cX5_paysIn 177 = .ok (.lmul, 1) := by decide +kernel
theorem dX5_paysIn_178 : decode cX5_paysIn 178 = .ok (.invokevirtual 143, 3) := by decide +kernel
theorem dX5_paysIn_181 : decode cX5_paysIn 181 = .ok (.i2l, 1) := by decide +kernel
theorem dX5_paysIn_182 : decode cX5_paysIn 182 = .ok (.ldc2_w 159, 3) := by decide +kernel
theorem dX5_paysIn_185 : decode cX5_paysIn 185 = .ok (.iload 7, 2) := by decide +kernel
theorem dX5_paysIn_187 : decode cX5_paysIn 187 = .ok (.i2l, 1) := by decide +kernel
theorem dX5_paysIn_188 : decode cX5_paysIn 188 = .ok (.lmul, 1) := by decide +kernel
theorem dX5_paysIn_189 : decode cX5_paysIn 189 = .ok (.ladd, 1) := by decide +kernel
theorem dX5_paysIn_190 : decode cX5_paysIn 190 = .ok (.lmul, 1) := by decide +kernel
theorem dX5_paysIn_191 : decode cX5_paysIn 191 = .ok (.ladd, 1) := by decide +kernel
theorem dX5_paysIn_192 : decode cX5_paysIn 192 = .ok (.lstore_n 2, 1) := by decide +kernel
theorem dX5_paysIn_193 : decode cX5_paysIn 193 = .ok (.iload 5, 2) := by decide +kernel
theorem dX5_paysIn_195 : decode cX5_paysIn 195 = .ok (.iload 7, 2) := by decide +kernel
theorem dX5_paysIn_197 : decode cX5_paysIn 197 = .ok (.isub, 1) := by decide +kernel
theorem dX5_paysIn_198 : decode cX5_paysIn 198 = .ok (.istore 5, 2) := by decide +kernel
theorem dX5_paysIn_200 : decode cX5_paysIn 200 = .ok (.iinc 6 1, 3) := by decide +kernel
theorem dX5_paysIn_203 : decode cX5_paysIn 203 = .ok (.goto (-129), 3) := by decide +kernel
theorem dX5_paysIn_206 : decode cX5_paysIn 206 = .ok (.iinc 4 1, 3) := by decide +kernel
theorem dX5_paysIn_209 : decode cX5_paysIn 209 = .ok (.goto (-179), 3) := by decide +kernel
theorem dX5_paysIn_212 : decode cX5_paysIn 212 = .ok (.lload_n 2, 1) := by decide +kernel
theorem dX5_paysIn_213 : decode cX5_paysIn 213 = .ok (.lreturn, 1) := by decide +kernel
set_option maxRecDepth 20000 in
theorem ggX5_ladder_X5_isIn : GoodIn wsX5_ladder wsX5_isIn := goodIn_r _ [15] (by decide +kernel) (by decide +kernel)
set_option maxRecDepth 20000 in
theorem gX5_ladder_X5_isIn : GoodIn wsX5_ladder (va_wsS RX5 46 yX5_isIn wsX5_isIn) := goodIn_app (goodIn_of _ (by decide +kernel)) ggX5_ladder_X5_isIn
set_option maxRecDepth 20000 in
theorem ggX5_ladder_X5_no : GoodIn wsX5_ladder wsX5_no := goodIn_r _ [19, 1, 76, 77, 78, 79, 80, 81, 82, 83, 84, 85] (by decide +kernel) (by decide +kernel)
set_option maxRecDepth 20000 in
theorem gX5_ladder_X5_no : GoodIn wsX5_ladder (wsV RX5 67 RX5 yX5_no wsX5_no) := goodIn_app (goodIn_of _ (by decide +kernel)) ggX5_ladder_X5_no
set_option maxRecDepth 20000 in
theorem ggX5_ladder_X5_isThere : GoodIn wsX5_ladder wsX5_isThere := goodIn_r _ [23, 24, 25, 26, 14, 27, 28, 76, 77, 78, 79, 80, 81, 82, 83, 84, 85] (by decide +kernel) (by decide +kernel)
set_option maxRecDepth 20000 in
theorem gX5_ladder_X5_isThere : GoodIn wsX5_ladder (wsV RX5 110 RX5 yX5_isThere wsX5_isThere) := goodIn_app (goodIn_of _ (by decide +kernel)) ggX5_ladder_X5_isThere
set_option maxRecDepth 20000 in
theorem ggX5_ladder_X5_own : GoodIn wsX5_ladder wsX5_own := goodIn_r _ [27, 28, 76, 77, 78, 79, 80, 81, 82, 83, 84, 85] (by decide +kernel) (by decide +kernel)
set_option maxRecDepth 20000 in
theorem gX5_ladder_X5_own : GoodIn wsX5_ladder (wsV RX5 94 RX5 yX5_own wsX5_own) := goodIn_app (goodIn_of _ (by decide +kernel)) ggX5_ladder_X5_own
set_option maxRecDepth 20000 in
theorem ggX5_ladder_X5_date : GoodIn wsX5_ladder wsX5_date := goodIn_r _ [31, 32, 33, 14, 34] (by decide +kernel) (by decide +kernel)
set_option maxRecDepth 20000 in
theorem gX5_ladder_X5_date : GoodIn wsX5_ladder (va_wsS RX5 70 yX5_date wsX5_date) := goodIn_app (goodIn_of _ (by decide +kernel)) ggX5_ladder_X5_date
set_option maxRecDepth 20000 in
theorem ggX5_ladder_X5_worthNow : GoodIn wsX5_ladder wsX5_worthNow := goodIn_r _ [38, 4, 20, 21, 22, 14, 23, 24, 25, 26, 27, 28, 39, 40, 41, 42, 43, 44, 45, 46, 47, 10, 48, 49, 50, 51, 52, 53, 54, 55, 56, 57, 58, 59, 60, 61, 62, 63, 64, 65, 66, 67, 68, 69, 70, 71, 72, 29, 30, 31, 32, 33, 34, 73, 74, 75, 76, 77, 78, 79, 80, 81, 82, 83, 84, 85] (by decide +kernel) (by decide +kernel)
set_option maxRecDepth 20000 in
theorem gX5_ladder_X5_worthNow : GoodIn wsX5_ladder (wsV RX5 167 RX5 yX5_worthNow wsX5_worthNow) := goodIn_app (goodIn_of _ (by decide +kernel)) ggX5_ladder_X5_worthNow
theorem dX5_ladder_0 : decode cX5_ladder 0 = .ok (.aload_n 0, 1) := by decide +kernel
theorem dX5_ladder_1 : decode cX5_ladder 1 = .ok (.iconst 0, 1) := by decide +kernel
theorem dX5_ladder_2 : decode cX5_ladder 2 = .ok (.putfield 41, 3) := by decide +kernel
theorem dX5_ladder_5 : decode cX5_ladder 5 = .ok (.iload_n 1, 1) := by decide +kernel
theorem dX5_ladder_6 : decode cX5_ladder 6 = .ok (.sipush 2016, 3) := by decide +kernel
theorem dX5_ladder_9 : decode cX5_ladder 9 = .ok (.sipush 2066, 3) := by decide +kernel
theorem dX5_ladder_12 : decode cX5_ladder 12 = .ok (.invokestatic 46, 3) := by decide +kernel
theorem dX5_ladder_15 : decode cX5_ladder 15 = .ok (.ifCond .eq 14, 3) := by decide +kernel
theorem dX5_ladder_18 : decode cX5_ladder 18 = .ok (.iload_n 2, 1) := by decide +kernel
theorem dX5_ladder_19 : decode cX5_ladder 19 = .ok (.iload_n 1, 1) := by decide +kernel
theorem dX5_ladder_20 : decode cX5_ladder 20 = .ok (.sipush 2066, 3) := by decide +kernel
theorem dX5_ladder_23 : decode cX5_ladder 23 = .ok (.invokestatic 46, 3) := by decide +kernel
theorem dX5_ladder_26 : decode cX5_ladder 26 = .ok (.ifCond .ne 9, 3) := by decide +kernel
theorem dX5_ladder_29 : decode cX5_ladder 29 = .ok (.aload_n 0, 1) := by decide +kernel
theorem dX5_ladder_30 : decode cX5_ladder 30 = .ok (.iconst 1, 1) := by decide +kernel
theorem dX5_ladder_31 : decode cX5_ladder 31 = .ok (.invokevirtual 67, 3) := by decide +kernel
theorem dX5_ladder_34 : decode cX5_ladder 34 = .ok (.ireturn, 1) := by decide +kernel
theorem dX5_ladder_35 : decode cX5_ladder 35 = .ok (.lconst 0, 1) := by decide +kernel
theorem dX5_ladder_36 : decode cX5_ladder 36 = .ok (.lstore_n 3, 1) := by decide +kernel
theorem dX5_ladder_37 : decode cX5_ladder 37 = .ok (.iload_n 1, 1) := by decide +kernel
theorem dX5_ladder_38 : decode cX5_ladder 38 = .ok (.istore 5, 2) := by decide +kernel
theorem dX5_ladder_40 : decode cX5_ladder 40 = .ok (.iload 5, 2) := by decide +kernel
theorem dX5_ladder_42 : decode cX5_ladder 42 = .ok (.iload_n 2, 1) := by decide +kernel
theorem dX5_ladder_43 : decode cX5_ladder 43 = .ok (.if_icmp .gt 140, 3) := by decide +kernel
theorem dX5_ladder_46 : decode cX5_ladder 46 = .ok (.ldc2_w 195, 3) := by decide +kernel
theorem dX5_ladder_49 : decode cX5_ladder 49 = .ok (.lstore 6, 2) := by decide +kernel
theorem dX5_ladder_51 : decode cX5_ladder 51 = .ok (.iconst 0, 1) := by decide +kernel
theorem dX5_ladder_52 : decode cX5_ladder 52 = .ok (.istore 8, 2) := by decide +kernel
theorem dX5_ladder_54 : decode cX5_ladder 54 = .ok (.iload 8, 2) := by decide +kernel
theorem dX5_ladder_56 : decode cX5_ladder 56 = .ok (.aload_n 0, 1) := by decide +kernel
theorem dX5_ladder_57 : decode cX5_ladder 57 = .ok (.getfield 77, 3) := by decide +kernel
theorem dX5_ladder_60 : decode cX5_ladder 60 = .ok (.if_icmp .ge 101, 3) := by decide +kernel
theorem dX5_ladder_63 : decode cX5_ladder 63 = .ok (.aload_n 0, 1) := by decide +kernel
theorem dX5_ladder_64 : decode cX5_ladder 64 = .ok (.iload 8, 2) := by decide +kernel
theorem dX5_ladder_66 : decode cX5_ladder 66 = .ok (.invokevirtual 110, 3) := by decide +kernel
theorem dX5_ladder_69 : decode cX5_ladder 69 = .ok (.ifCond .eq 86, 3) := by decide +kernel
theorem dX5_ladder_72 : decode cX5_ladder 72 = .ok (.aload_n 0, 1) := by decide +kernel
theorem dX5_ladder_73 : decode cX5_ladder 73 = .ok (.iload 8, 2) := by decide +kernel
theorem dX5_ladder_75 : decode cX5_ladder 75 = .ok (.iconst 0, 1) := by decide +kernel
theorem dX5_ladder_76 : decode cX5_ladder 76 = .ok (.invokevirtual 94, 3) := by decide +kernel
theorem dX5_ladder_79 : decode cX5_ladder 79 = .ok (.aload_n 0, 1) := by decide +kernel
theorem dX5_ladder_80 : decode cX5_ladder 80 = .ok (.getfield 14, 3) := by decide +kernel
theorem dX5_ladder_83 : decode cX5_ladder 83 = .ok (.if_icmp .gt 72, 3) := by decide +kernel
theorem dX5_ladder_86 : decode cX5_ladder 86 = .ok (.aload_n 0, 1) := by decide +kernel
theorem dX5_ladder_87 : decode cX5_ladder 87 = .ok (.iload 8, 2) := by decide +kernel
theorem dX5_ladder_89 : decode cX5_ladder 89 = .ok (.iconst 1, 1) := by decide +kernel
theorem dX5_ladder_90 : decode cX5_ladder 90 = .ok (.invokevirtual 94, 3) := by decide +kernel
theorem dX5_ladder_93 : decode cX5_ladder 93 = .ok (.aload_n 0, 1) := by decide +kernel
theorem dX5_ladder_94 : decode cX5_ladder 94 = .ok (.getfield 14, 3) := by decide +kernel
theorem dX5_ladder_97 : decode cX5_ladder 97 = .ok (.if_icmp .le 58, 3) := by decide +kernel
theorem dX5_ladder_100 : decode cX5_ladder 100 = .ok (.aload_n 0, 1) := by decide +kernel
theorem dX5_ladder_101 : decode cX5_ladder 101 = .ok (.iload 8, 2) := by decide +kernel
theorem dX5_ladder_103 : decode cX5_ladder 103 = .ok (.iconst 1, 1) := by decide +kernel
theorem dX5_ladder_104 : decode cX5_ladder 104 = .ok (.invokevirtual 94, 3) := by decide +kernel
theorem dX5_ladder_107 : decode cX5_ladder 107 = .ok (.invokestatic 70, 3) := by decide +kernel
theorem dX5_ladder_110 : decode cX5_ladder 110 = .ok (.sipush 10000, 3) := by decide +kernel
theorem dX5_ladder_113 : decode cX5_ladder 113 = .ok (.idiv, 1) := by decide +kernel
theorem dX5_ladder_114 : decode cX5_ladder 114 = .ok (.iload 5, 2) := by decide +kernel
theorem dX5_ladder_116 : decode cX5_ladder 116 = .ok (.if_icmp .eq 6, 3) := by decide +kernel
theorem dX5_ladder_119 : decode cX5_ladder 119 = .ok (.goto 36, 3) := by decide +kernel
theorem dX5_ladder_122 : decode cX5_ladder 122 = .ok (.aload_n 0, 1) := by decide +kernel
theorem dX5_ladder_123 : decode cX5_ladder 123 = .ok (.iload 8, 2) := by decide +kernel
theorem dX5_ladder_125 : decode cX5_ladder 125 = .ok (.aload_n 0, 1) := by decide +kernel
theorem dX5_ladder_126 : decode cX5_ladder 126 = .ok (.getfield 24, 3) := by decide +kernel
theorem dX5_ladder_129 : decode cX5_ladder 129 = .ok (.invokevirtual 167, 3) := by decide +kernel
theorem dX5_ladder_132 : decode cX5_ladder 132 = .ok (.lstore 9, 2) := by decide +kernel
theorem dX5_ladder_134 : decode cX5_ladder 134 = .ok (.lload 6, 2) := by decide +kernel
theorem dX5_ladder_136 : decode cX5_ladder 136 = .ok (.ldc2_w 195, 3) := by decide +kernel
theorem dX5_ladder_139 : decode cX5_ladder 139 = .ok (.lcmp, 1) := by decide +kernel
theorem dX5_ladder_140 : decode cX5_ladder 140 = .ok (.ifCond .eq 11, 3) := by decide +kernel
theorem dX5_ladder_143 : decode cX5_ladder 143 = .ok (.lload 9, 2) := by decide +kernel
theorem dX5_ladder_145 : decode cX5_ladder 145 = .ok (.lload 6, 2) := by decide +kernel
theorem dX5_ladder_147 : decode cX5_ladder 147 = .ok (.lcmp, 1) := by decide +kernel
theorem dX5_ladder_148 : decode cX5_ladder 148 = .ok (.ifCond .ge 7, 3) := by decide +kernel
theorem dX5_ladder_151 : decode cX5_ladder 151 = .ok (.lload 9, 2) := by decide +kernel
theorem dX5_ladder_153 : decode cX5_ladder 153 = .ok (.lstore 6, 2) := by decide +kernel
theorem dX5_ladder_155 : decode cX5_ladder 155 = .ok (.iinc 8 1, 3) := by decide +kernel
theorem dX5_ladder_158 : decode cX5_ladder 158 = .ok (.goto (-104), 3) := by decide +kernel
theorem dX5_ladder_161 : decode cX5_ladder 161 = .ok (.lload 6, 2) := by decide +kernel
theorem dX5_ladder_163 : decode cX5_ladder 163 = .ok (.ldc2_w 195, 3) := by decide +kernel
theorem dX5_ladder_166 : decode cX5_ladder 166 = .ok (.lcmp, 1) := by decide +kernel
theorem dX5_ladder_167 : decode cX5_ladder 167 = .ok (.ifCond .ne 5, 3) := by decide +kernel
theorem dX5_ladder_170 : decode cX5_ladder 170 = .ok (.iconst (-1), 1) := by decide +kernel
theorem dX5_ladder_171 : decode cX5_ladder 171 = .ok (.ireturn, 1) := by decide +kernel
theorem dX5_ladder_172 : decode cX5_ladder 172 = .ok (.lload_n 3, 1) := by decide +kernel
theorem dX5_ladder_173 : decode cX5_ladder 173 = .ok (.lload 6, 2) := by decide +kernel
theorem dX5_ladder_175 : decode cX5_ladder 175 = .ok (.ladd, 1) := by decide +kernel
theorem dX5_ladder_176 : decode cX5_ladder 176 = .ok (.lstore_n 3, 1) := by decide +kernel
theorem dX5_ladder_177 : decode cX5_ladder 177 = .ok (.iinc 5 1, 3) := by decide +kernel
theorem dX5_ladder_180 : decode cX5_ladder 180 = .ok (.goto (-140), 3) := by decide +kernel
theorem dX5_ladder_183 : decode cX5_ladder 183 = .ok (.lload_n 3, 1) := by decide +kernel
theorem dX5_ladder_184 : decode cX5_ladder 184 = .ok (.lconst 0, 1) := by decide +kernel
theorem dX5_ladder_185 : decode cX5_ladder 185 = .ok (.lcmp, 1) := by decide +kernel
theorem dX5_ladder_186 : decode cX5_ladder 186 = .ok (.ifCond .ne 7, 3) := by decide +kernel
theorem dX5_ladder_189 : decode cX5_ladder 189 = .ok (.iconst 0, 1) := by decide +kernel
theorem dX5_ladder_190 : decode cX5_ladder 190 = .ok (.goto 16, 3) := by decide +kernel
theorem dX5_ladder_193 : decode cX5_ladder 193 = .ok (.ldc2_w 197, 3) := by decide +kernel
theorem dX5_ladder_196 : decode cX5_ladder 196 = .ok (.aload_n 0, 1) := by decide +kernel
theorem dX5_ladder_197 : decode cX5_ladder 197 = .ok (.getfield 20, 3) := by decide +kernel
theorem dX5_ladder_200 : decode cX5_ladder 200 = .ok (.lload_n 3, 1) := by decide +kernel
theorem dX5_ladder_201 : decode cX5_ladder 201 = .ok (.ldiv, 1) := by decide +kernel
theorem dX5_ladder_202 : decode cX5_ladder 202 = .ok (.invokestatic 199, 3) := by decide +kernel
theorem dX5_ladder_205 : decode cX5_ladder 205 = .ok (.l2i, 1) := by decide +kernel
theorem dX5_ladder_206 : decode cX5_ladder 206 = .ok (.ireturn, 1) := by decide +kernel
set_option maxRecDepth 20000 in
theorem ggX5_best_X5_isIn : GoodIn wsX5_best wsX5_isIn := goodIn_r _ [7] (by decide +kernel) (by decide +kernel)
set_option maxRecDepth 20000 in
theorem gX5_best_X5_isIn : GoodIn wsX5_best (va_wsS RX5 46 yX5_isIn wsX5_isIn) := goodIn_app (goodIn_of _ (by decide +kernel)) ggX5_best_X5_isIn
set_option maxRecDepth 20000 in
theorem ggX5_best_X5_no : GoodIn wsX5_best wsX5_no := goodIn_r _ [11, 1, 88, 89, 90, 91, 92, 93, 94, 95, 96, 97] (by decide +kernel) (by decide +kernel)
set_option maxRecDepth 20000 in
theorem gX5_best_X5_no : GoodIn wsX5_best (wsV RX5 67 RX5 yX5_no wsX5_no) := goodIn_app (goodIn_of _ (by decide +kernel)) ggX5_best_X5_no
set_option maxRecDepth 20000 in
theorem ggX5_best_X5_own : GoodIn wsX5_best wsX5_own := goodIn_r _ [15, 16, 88, 89, 90, 91, 92, 93, 94, 95, 96, 97] (by decide +kernel) (by decide +kernel)
set_option maxRecDepth 20000 in
theorem gX5_best_X5_own : GoodIn wsX5_best (wsV RX5 94 RX5 yX5_own wsX5_own) := goodIn_app (goodIn_of _ (by decide +kernel)) ggX5_best_X5_own
set_option maxRecDepth 20000 in
theorem ggX5_best_X5_yielded : GoodIn wsX5_best wsX5_yielded := goodIn_r _ [20, 21, 22, 23, 6, 24, 12, 13, 14, 15, 16, 25, 26, 27, 28, 29, 30, 3, 31, 32, 33, 34, 35, 36, 37, 38, 39, 40, 41, 42, 43, 44, 45, 46, 47, 48, 49, 50, 51, 52, 53, 54, 55, 56, 57, 58, 59, 60, 61, 62, 63, 64, 65, 66, 67, 68, 69, 70, 71, 72, 73, 74, 75, 76, 77, 78, 79, 80, 81, 82, 83, 84, 85, 86, 87, 88, 89, 90, 91, 92, 93, 94, 95, 96, 97] (by decide +kernel) (by decide +kernel)
set_option maxRecDepth 20000 in
theorem gX5_best_X5_yielded : GoodIn wsX5_best (wsV RX5 174 RX5 yX5_yielded wsX5_yielded) := goodIn_app (goodIn_of _ (by decide +kernel)) ggX5_best_X5_yielded
theorem dX5_best_0 : decode cX5_best 0 = .ok (.aload_n 0, 1) := by decide +kernel
theorem dX5_best_1 : decode cX5_best 1 = .ok (.iconst 0, 1) := by decide +kernel
theorem dX5_best_2 : decode cX5_best 2 = .ok (.putfield 41, 3) := by decide +kernel
theorem dX5_best_5 : decode cX5_best 5 = .ok (.iload_n 1, 1) := by decide +kernel
theorem dX5_best_6 : decode cX5_best 6 = .ok (.iconst 1, 1) := by decide +kernel
theorem dX5_best_7 : decode cX5_best 7 = .ok (.sipush 30000, 3) := by decide +kernel
theorem dX5_best_10 : decode cX5_best 10 = .ok (.invokestatic 46, 3) := by decide +kernel
theorem dX5_best_13 : decode cX5_best 13 = .ok (.ifCond .ne 9, 3) := by decide +kernel
theorem dX5_best_16 : decode cX5_best 16 = .ok (.aload_n 0, 1) := by decide +kernel
theorem dX5_best_17 : decode cX5_best 17 = .ok (.iconst 1, 1) := by decide +kernel
theorem dX5_best_18 : decode cX5_best 18 = .ok (.invokevirtual 67, 3) := by decide +kernel
theorem dX5_best_21 : decode cX5_best 21 = .ok (.ireturn, 1) := by decide +kernel
theorem dX5_best_22 : decode cX5_best 22 = .ok (.iconst (-1), 1) := by decide +kernel
theorem dX5_best_23 : decode cX5_best 23 = .ok (.istore_n 2, 1) := by decide +kernel
theorem dX5_best_24 : decode cX5_best 24 = .ok (.iconst (-1), 1) := by decide +kernel
theorem dX5_best_25 : decode cX5_best 25 = .ok (.istore_n 3, 1) := by decide +kernel
theorem dX5_best_26 : decode cX5_best 26 = .ok (.iconst 0, 1) := by decide +kernel
theorem dX5_best_27 : decode cX5_best 27 = .ok (.istore 4, 2) := by decide +kernel
theorem dX5_best_29 : decode cX5_best 29 = .ok (.iload 4, 2) := by decide +kernel
theorem dX5_best_31 : decode cX5_best 31 = .ok (.aload_n 0, 1) := by decide +kernel
theorem dX5_best_32 : decode cX5_best 32 = .ok (.getfield 77, 3) := by decide +kernel
theorem dX5_best_35 : decode cX5_best 35 = .ok (.if_icmp .ge 51, 3) := by decide +kernel
theorem dX5_best_38 : decode cX5_best 38 = .ok (.aload_n 0, 1) := by decide +kernel
theorem dX5_best_39 : decode cX5_best 39 = .ok (.iload 4, 2) := by decide +kernel
theorem dX5_best_41 : decode cX5_best 41 = .ok (.iconst 0, 1) := by decide +kernel
theorem dX5_best_42 : decode cX5_best 42 = .ok (.invokevirtual 94, 3) := by decide +kernel
theorem dX5_best_45 : decode cX5_best 45 = .ok (.aload_n 0, 1) := by decide +kernel
theorem dX5_best_46 : decode cX5_best 46 = .ok (.getfield 14, 3) := by decide +kernel
theorem dX5_best_49 : decode cX5_best 49 = .ok (.if_icmp .le 7, 3) := by decide +kernel
theorem dX5_best_52 : decode cX5_best 52 = .ok (.iconst (-1), 1) := by decide +kernel
theorem dX5_best_53 : decode cX5_best 53 = .ok (.goto 10, 3) := by decide +kernel
theorem dX5_best_56 : decode cX5_best 56 = .ok (.aload_n 0, 1) := by decide +kernel
theorem dX5_best_57 : decode cX5_best 57 = .ok (.iload 4, 2) := by decide +kernel
theorem dX5_best_59 : decode cX5_best 59 = .ok (.iload_n 1, 1) := by decide +kernel
theorem dX5_best_60 : decode cX5_best 60 = .ok (.invokevirtual 174, 3) := by decide +kernel
theorem dX5_best_63 : decode cX5_best 63 = .ok (.istore 5, 2) := by decide +kernel
theorem dX5_best_65 : decode cX5_best 65 = .ok (.iload 5, 2) := by decide +kernel
theorem dX5_best_67 : decode cX5_best 67 = .ok (.iload_n 3, 1) := by decide +kernel
theorem dX5_best_68 : decode cX5_best 68 = .ok (.if_icmp .gt 6, 3) := by decide +kernel
theorem dX5_best_71 : decode cX5_best 71 = .ok (.goto 9, 3) := by decide +kernel
theorem dX5_best_74 : decode cX5_best 74 = .ok (.iload 4, 2) := by decide +kernel
theorem dX5_best_76 : decode cX5_best 76 = .ok (.istore_n 2, 1) := by decide +kernel
theorem dX5_best_77 : decode cX5_best 77 = .ok (.iload 5, 2) := by decide +kernel
theorem dX5_best_79 : decode cX5_best 79 = .ok (.istore_n 3, 1) := by decide +kernel
theorem dX5_best_80 : decode cX5_best 80 = .ok (.iinc 4 1, 3) := by decide +kernel
theorem dX5_best_83 : decode cX5_best 83 = .ok (.goto (-54), 3) := by decide +kernel
theorem dX5_best_86 : decode cX5_best 86 = .ok (.iload_n 2, 1) := by decide +kernel
theorem dX5_best_87 : decode cX5_best 87 = .ok (.ireturn, 1) := by decide +kernel
set_option maxRecDepth 20000 in
theorem ggX5_years_X5_own : GoodIn wsX5_years wsX5_own := goodIn_r _ [10, 11, 12, 13, 14, 15, 16, 17, 18, 19, 20, 21] (by decide +kernel) (by decide +kernel)
set_option maxRecDepth 20000 in
theorem gX5_years_X5_own : GoodIn wsX5_years (wsV RX5 94 RX5 yX5_own wsX5_own) := goodIn_app (goodIn_of _ (by decide +kernel)) ggX5_years_X5_own
theorem dX5_years_0 : decode cX5_years 0 = .ok (.aload_n 0, 1) := by decide +kernel
theorem dX5_years_1 : decode cX5_years 1 = .ok (.iconst 0, 1) := by decide +kernel
theorem dX5_years_2 : decode cX5_years 2 = .ok (.putfield 41, 3) := by decide +kernel
theorem dX5_years_5 : decode cX5_years 5 = .ok (.lconst 0, 1) := by decide +kernel
theorem dX5_years_6 : decode cX5_years 6 = .ok (.lstore_n 1, 1) := by decide +kernel
theorem dX5_years_7 : decode cX5_years 7 = .ok (.lconst 0, 1) := by decide +kernel
theorem dX5_years_8 : decode cX5_years 8 = .ok (.lstore_n 3, 1) := by decide +kernel
theorem dX5_years_9 : decode cX5_years 9 = .ok (.iconst 0, 1) := by decide +kernel
theorem dX5_years_10 : decode cX5_years 10 = .ok (.istore 5, 2) := by decide +kernel
theorem dX5_years_12 : decode cX5_years 12 = .ok (.iload 5, 2) := by decide +kernel
theorem dX5_years_14 : decode cX5_years 14 = .ok (.aload_n 0, 1) := by decide +kernel
theorem dX5_years_15 : decode cX5_years 15 = .ok (.getfield 77, 3) := by decide +kernel
theorem dX5_years_18 : decode cX5_years 18 = .ok (.if_icmp .ge 57, 3) := by decide +kernel
theorem dX5_years_21 : decode cX5_years 21 = .ok (.ldc2_w 159, 3) := by decide +kernel
theorem dX5_years_24 : decode cX5_years 24 = .ok (.aload_n 0, 1) := by decide +kernel
theorem dX5_years_25 : decode cX5_years 25 = .ok (.iload 5, 2) := by decide +kernel
theorem dX5_years_27 : decode cX5_years 27 = .ok (.iconst 5, 1) := by decide +kernel
theorem dX5_years_28 : decode cX5_years 28 = .ok (.invokevirtual 94, 3) := by decide +kernel
theorem dX5_years_31 : decode cX5_years 31 = .ok (.i2l, 1) := by decide +kernel
theorem dX5_years_32 : decode cX5_years 32 = .ok (.lmul, 1) := by decide +kernel
theorem dX5_years_33 : decode cX5_years 33 = .ok (.aload_n 0, 1) := by decide +kernel
theorem dX5_years_34 : decode cX5_years 34 = .ok (.iload 5, 2) := by decide +kernel
theorem dX5_years_36 : decode cX5_years 36 = .ok (.bipush 9, 2) := by decide +kernel
theorem dX5_years_38 : decode cX5_years 38 = .ok (.invokevirtual 94, 3) := by decide +kernel
theorem dX5_years_41 : decode cX5_years 41 = .ok (.i2l, 1) := by decide +kernel
theorem dX5_years_42 : decode cX5_years 42 = .ok (.lmul, 1) := by decide +kernel
theorem dX5_years_43 : decode cX5_years 43 = .ok (.lstore 6, 2) := by decide +kernel
theorem dX5_years_45 : decode cX5_years 45 = .ok (.lload_n 1, 1) := by decide +kernel
theorem dX5_years_46 : decode cX5_years 46 = .ok (.lload 6, 2) := by decide +kernel
theorem dX5_years_48 : decode cX5_years 48 = .ok (.ladd, 1) := by decide +kernel
theorem dX5_years_49 : decode cX5_years 49 = .ok (.lstore_n 1, 1) := by decide +kernel
theorem dX5_years_50 : decode cX5_years 50 = .ok (.lload_n 3, 1) := by decide +kernel
theorem dX5_years_51 : decode cX5_years 51 = .ok (.lload 6, 2) := by decide +kernel
theorem dX5_years_53 : decode cX5_years 53 = .ok (.aload_n 0, 1) := by decide +kernel
theorem dX5_years_54 : decode cX5_years 54 = .ok (.iload 5, 2) := by decide +kernel
theorem dX5_years_56 : decode cX5_years 56 = .ok (.iconst 1, 1) := by decide +kernel
theorem dX5_years_57 : decode cX5_years 57 = .ok (.invokevirtual 94, 3) := by decide +kernel
theorem dX5_years_60 : decode cX5_years 60 = .ok (.aload_n 0, 1) := by decide +kernel
theorem dX5_years_61 : decode cX5_years 61 = .ok (.getfield 14, 3) := by decide +kernel
theorem dX5_years_64 : decode cX5_years 64 = .ok (.isub, 1) := by decide +kernel
theorem dX5_years_65 : decode cX5_years 65 = .ok (.i2l, 1) := by decide +kernel
theorem dX5_years_66 : decode cX5_years 66 = .ok (.lmul, 1) := by decide +kernel
theorem dX5_years_67 : decode cX5_years 67 = .ok (.ladd, 1) := by decide +kernel
theorem dX5_years_68 : decode cX5_years 68 = .ok (.lstore_n 3, 1) := by decide +kernel
theorem dX5_years_69 : decode cX5_years 69 = .ok (.iinc 5 1, 3) := by decide +kernel
theorem dX5_years_72 : decode cX5_years 72 = .ok (.goto (-60), 3) := by decide +kernel
theorem dX5_years_75 : decode cX5_years 75 = .ok (.lload_n 1, 1) := by decide +kernel
theorem dX5_years_76 : decode cX5_years 76 = .ok (.lconst 0, 1) := by decide +kernel
theorem dX5_years_77 : decode cX5_years 77 = .ok (.lcmp, 1) := by decide +kernel
theorem dX5_years_78 : decode cX5_years 78 = .ok (.ifCond .ne 7, 3) := by decide +kernel
theorem dX5_years_81 : decode cX5_years 81 = .ok (.dconst 0, 1) := by decide +kernel
theorem dX5_years_82 : decode cX5_years 82 = .ok (.goto 12, 3) := by decide +kernel
theorem dX5_years_85 : decode cX5_years 85 = .ok (.lload_n 3, 1) := by decide +kernel
theorem dX5_years_86 : decode cX5_years 86 = .ok (.l2d, 1) := by decide +kernel
theorem dX5_years_87 : decode cX5_years 87 = .ok (.lload_n 1, 1) := by decide +kernel
theorem dX5_years_88 : decode cX5_years 88 = .ok (.l2d, 1) := by decide +kernel
theorem dX5_years_89 : decode cX5_years 89 = .ok (.ddiv, 1) := by decide +kernel
theorem dX5_years_90 : decode cX5_years 90 = .ok (.ldc2_w 202, 3) := by decide +kernel
theorem dX5_years_93 : decode cX5_years 93 = .ok (.ddiv, 1) := by decide +kernel
theorem dX5_years_94 : decode cX5_years 94 = .ok (.dreturn, 1) := by decide +kernel
set_option maxRecDepth 20000 in
theorem ggX5_digest_X5_counted : GoodIn wsX5_digest wsX5_counted := goodIn_r _ [12, 6, 7, 13, 14, 4, 15, 16, 17, 18, 11, 19, 20, 21, 22, 23, 24, 25, 26, 27, 28, 29, 30, 31, 32, 33, 34, 35, 36, 37, 38, 39, 40, 41, 42, 43, 44, 45, 46, 47, 48, 49, 50, 51, 52, 53, 54, 55, 56, 57, 58, 59, 60, 61, 62, 63, 64, 65, 66, 67, 68, 69, 70, 71, 72, 104, 105, 106, 107, 108, 109, 110, 111, 112, 113] (by decide +kernel) (by decide +kernel)
set_option maxRecDepth 20000 in
theorem gX5_digest_X5_counted : GoodIn wsX5_digest (wsV RX5 192 RX5 yX5_counted wsX5_counted) := goodIn_app (goodIn_of _ (by decide +kernel)) ggX5_digest_X5_counted
set_option maxRecDepth 20000 in
theorem ggX5_digest_X5_date : GoodIn wsX5_digest wsX5_date := goodIn_r _ [27, 28, 29, 11, 30] (by decide +kernel) (by decide +kernel)
set_option maxRecDepth 20000 in
theorem gX5_digest_X5_date : GoodIn wsX5_digest (va_wsS RX5 70 yX5_date wsX5_date) := goodIn_app (goodIn_of _ (by decide +kernel)) ggX5_digest_X5_date
set_option maxRecDepth 20000 in
theorem ggX5_digest_X5_told : GoodIn wsX5_digest wsX5_told := goodIn_r _ [76, 20, 21, 22, 11, 23, 24, 25, 26, 27, 28, 29, 30, 16, 17, 18, 19, 104, 105, 106, 107, 108, 109, 110, 111, 112, 113] (by decide +kernel) (by decide +kernel)
set_option maxRecDepth 20000 in
theorem gX5_digest_X5_told : GoodIn wsX5_digest (wsV RX5 122 RX5 yX5_told wsX5_told) := goodIn_app (goodIn_of _ (by decide +kernel)) ggX5_digest_X5_told
set_option maxRecDepth 20000 in
theorem ggX5_digest_X5_accruedOn : GoodIn wsX5_digest wsX5_accruedOn := goodIn_r _ [80, 16, 17, 18, 11, 19, 20, 21, 22, 23, 24, 48, 49, 50, 51, 52, 53, 54, 55, 56, 81, 82, 83, 84, 85, 86, 44, 87, 65, 66, 67, 68, 69, 41, 39, 25, 26, 27, 28, 29, 30, 70, 71, 72, 42, 43, 45, 104, 105, 106, 107, 108, 109, 110, 111, 112, 113] (by decide +kernel) (by decide +kernel)
set_option maxRecDepth 20000 in
theorem gX5_digest_X5_accruedOn : GoodIn wsX5_digest (wsV RX5 154 RX5 yX5_accruedOn wsX5_accruedOn) := goodIn_app (goodIn_of _ (by decide +kernel)) ggX5_digest_X5_accruedOn
set_option maxRecDepth 20000 in
theorem ggX5_digest_X5_own : GoodIn wsX5_digest wsX5_own := goodIn_r _ [23, 24, 104, 105, 106, 107, 108, 109, 110, 111, 112, 113] (by decide +kernel) (by decide +kernel)
set_option maxRecDepth 20000 in
theorem gX5_digest_X5_own : GoodIn wsX5_digest (wsV RX5 94 RX5 yX5_own wsX5_own) := goodIn_app (goodIn_of _ (by decide +kernel)) ggX5_digest_X5_own
set_option maxRecDepth 20000 in
theorem ggX5_digest_X5_couponTold : GoodIn wsX5_digest wsX5_couponTold := goodIn_r _ [91, 92, 52, 53, 54, 11, 55, 56, 25, 26, 27, 28, 29, 30, 93, 94, 95, 96, 97, 98, 99, 100, 4, 5, 101, 102, 103, 81, 82, 83, 84, 85, 86, 44, 87, 20, 21, 22, 23, 24, 61, 62, 63, 64, 39, 65, 66, 67, 68, 69, 41, 70, 71, 72, 42, 43, 45, 104, 105, 106, 107, 108, 109, 110, 111, 112, 113] (by decide +kernel) (by decide +kernel)
set_option maxRecDepth 20000 in
theorem gX5_digest_X5_couponTold : GoodIn wsX5_digest (wsV RX5 147 RX5 yX5_couponTold wsX5_couponTold) := goodIn_app (goodIn_of _ (by decide +kernel)) ggX5_digest_X5_couponTold
theorem dX5_digest_0 : decode cX5_digest 0 = .ok (.aload_n 0, 1) := by decide +kernel
theorem dX5_digest_1 : decode cX5_digest 1 = .ok (.iconst 0, 1) := by decide +kernel
theorem dX5_digest_2 : decode cX5_digest 2 = .ok (.putfield 41, 3) := by decide +kernel
theorem dX5_digest_5 : decode cX5_digest 5 = .ok (.ldc2_w 204, 3) := by decide +kernel
theorem dX5_digest_8 : decode cX5_digest 8 = .ok (.lstore_n 1, 1) := by decide +kernel
theorem dX5_digest_9 : decode cX5_digest 9 = .ok (.iconst 0, 1) := by decide +kernel
theorem dX5_digest_10 : decode cX5_digest 10 = .ok (.istore_n 3, 1) := by decide +kernel
theorem dX5_digest_11 : decode cX5_digest 11 = .ok (.iload_n 3, 1) := by decide +kernel
theorem dX5_digest_12 : decode cX5_digest 12 = .ok (.bipush 11, 2) := by decide +kernel
theorem dX5_digest_14 : decode cX5_digest 14 = .ok (.if_icmp .gt 21, 3) := by decide +kernel
theorem dX5_digest_17 : decode cX5_digest 17 = .ok (.lload_n 1, 1) := by decide +kernel
theorem dX5_digest_18 : decode cX5_digest 18 = .ok (.ldc2_w 206, 3) := by decide +kernel
theorem dX5_digest_21 : decode cX5_digest 21 = .ok (.lmul, 1) := by decide +kernel
theorem dX5_digest_22 : decode cX5_digest 22 = .ok (.aload_n 0, 1) := by decide +kernel
theorem dX5_digest_23 : decode cX5_digest 23 = .ok (.iload_n 3, 1) := by decide +kernel
theorem dX5_digest_24 : decode cX5_digest 24 = .ok (.invokevirtual 192, 3) := by decide +kernel
theorem dX5_digest_27 : decode cX5_digest 27 = .ok (.ladd, 1) := by decide +kernel
theorem dX5_digest_28 : decode cX5_digest 28 = .ok (.lstore_n 1, 1) := by decide +kernel
theorem dX5_digest_29 : decode cX5_digest 29 = .ok (.iinc 3 1, 3) := by decide +kernel
theorem dX5_digest_32 : decode cX5_digest 32 = .ok (.goto (-21), 3) := by decide +kernel
theorem dX5_digest_35 : decode cX5_digest 35 = .ok (.iconst 0, 1) := by decide +kernel
theorem dX5_digest_36 : decode cX5_digest 36 = .ok (.istore_n 3, 1) := by decide +kernel
theorem dX5_digest_37 : decode cX5_digest 37 = .ok (.iload_n 3, 1) := by decide +kernel
theorem dX5_digest_38 : decode cX5_digest 38 = .ok (.aload_n 0, 1) := by decide +kernel
theorem dX5_digest_39 : decode cX5_digest 39 = .ok (.getfield 57, 3) := by decide +kernel
theorem dX5_digest_42 : decode cX5_digest 42 = .ok (.if_icmp .ge 26, 3) := by decide +kernel
theorem dX5_digest_45 : decode cX5_digest 45 = .ok (.lload_n 1, 1) := by decide +kernel
theorem dX5_digest_46 : decode cX5_digest 46 = .ok (.ldc2_w 206, 3) := by decide +kernel
theorem dX5_digest_49 : decode cX5_digest 49 = .ok (.lmul, 1) := by decide +kernel
theorem dX5_digest_50 : decode cX5_digest 50 = .ok (.aload_n 0, 1) := by decide +kernel
theorem dX5_digest_51 : decode cX5_digest 51 = .ok (.getfield 27, 3) := by decide +kernel
theorem dX5_digest_54 : decode cX5_digest 54 = .ok (.iload_n 3, 1) := by decide +kernel
theorem dX5_digest_55 : decode cX5_digest 55 = .ok (.iaload, 1) := by decide +kernel
theorem dX5_digest_56 : decode cX5_digest 56 = .ok (.invokestatic 70, 3) := by decide +kernel
theorem dX5_digest_59 : decode cX5_digest 59 = .ok (.i2l, 1) := by decide +kernel
theorem dX5_digest_60 : decode cX5_digest 60 = .ok (.ladd, 1) := by decide +kernel
theorem dX5_digest_61 : decode cX5_digest 61 = .ok (.lstore_n 1, 1) := by decide +kernel
theorem dX5_digest_62 : decode cX5_digest 62 = .ok (.iinc 3 1, 3) := by decide +kernel
theorem dX5_digest_65 : decode cX5_digest 65 = .ok (.goto (-28), 3) := by decide +kernel
theorem dX5_digest_68 : decode cX5_digest 68 = .ok (.iconst 0, 1) := by decide +kernel
theorem dX5_digest_69 : decode cX5_digest 69 = .ok (.istore_n 3, 1) := by decide +kernel
theorem dX5_digest_70 : decode cX5_digest 70 = .ok (.iload_n 3, 1) := by decide +kernel
theorem dX5_digest_71 : decode cX5_digest 71 = .ok (.aload_n 0, 1) := by decide +kernel
theorem dX5_digest_72 : decode cX5_digest 72 = .ok (.getfield 77, 3) := by decide +kernel
theorem dX5_digest_75 : decode cX5_digest 75 = .ok (.if_icmp .ge 108, 3) := by decide +kernel
theorem dX5_digest_78 : decode cX5_digest 78 = .ok (.iconst 0, 1) := by decide +kernel
theorem dX5_digest_79 : decode cX5_digest 79 = .ok (.istore 4, 2) := by decide +kernel
theorem dX5_digest_81 : decode cX5_digest 81 = .ok (.iload 4, 2) := by decide +kernel
theorem dX5_digest_83 : decode cX5_digest 83 = .ok (.bipush 10, 2) := by decide +kernel
theorem dX5_digest_85 : decode cX5_digest 85 = .ok (.if_icmp .gt 24, 3) := by decide +kernel
theorem dX5_digest_88 : decode cX5_digest 88 = .ok (.lload_n 1, 1) := by decide +kernel
theorem dX5_digest_89 : decode cX5_digest 89 = .ok (.ldc2_w 206, 3) := by decide +kernel
theorem dX5_digest_92 : decode cX5_digest 92 = .ok (.lmul, 1) := by decide +kernel
theorem dX5_digest_93 : decode cX5_digest 93 = .ok (.aload_n 0, 1) := by decide +kernel
theorem dX5_digest_94 : decode cX5_digest 94 = .ok (.iload_n 3, 1) := by decide +kernel
theorem dX5_digest_95 : decode cX5_digest 95 = .ok (.iload 4, 2) := by decide +kernel
theorem dX5_digest_97 : decode cX5_digest 97 = .ok (.invokevirtual 122, 3) := by decide +kernel
theorem dX5_digest_100 : decode cX5_digest 100 = .ok (.i2l, 1) := by decide +kernel
theorem dX5_digest_101 : decode cX5_digest 101 = .ok (.ladd, 1) := by decide +kernel
theorem dX5_digest_102 : decode cX5_digest 102 = .ok (.lstore_n 1, 1) := by decide +kernel
theorem dX5_digest_103 : decode cX5_digest 103 = .ok (.iinc 4 1, 3) := by decide +kernel
theorem dX5_digest_106 : decode cX5_digest 106 = .ok (.goto (-25), 3) := by decide +kernel
theorem dX5_digest_109 : decode cX5_digest 109 = .ok (.lload_n 1, 1) := by decide +kernel
theorem dX5_digest_110 : decode cX5_digest 110 = .ok (.ldc2_w 206, 3) := by decide +kernel
theorem dX5_digest_113 : decode cX5_digest 113 = .ok (.lmul, 1) := by decide +kernel
theorem dX5_digest_114 : decode cX5_digest 114 = .ok (.aload_n 0, 1) := by decide +kernel
theorem dX5_digest_115 : decode cX5_digest 115 = .ok (.iload_n 3, 1) := by decide +kernel
theorem dX5_digest_116 : decode cX5_digest 116 = .ok (.aload_n 0, 1) := by decide +kernel
theorem dX5_digest_117 : decode cX5_digest 117 = .ok (.getfield 14, 3) := by decide +kernel
theorem dX5_digest_120 : decode cX5_digest 120 = .ok (.invokevirtual 154, 3) := by decide +kernel
theorem dX5_digest_123 : decode cX5_digest 123 = .ok (.i2l, 1) := by decide +kernel
theorem dX5_digest_124 : decode cX5_digest 124 = .ok (.ladd, 1) := by decide +kernel
theorem dX5_digest_125 : decode cX5_digest 125 = .ok (.lstore_n 1, 1) := by decide +kernel
theorem dX5_digest_126 : decode cX5_digest 126 = .ok (.iconst 0, 1) := by decide +kernel
theorem dX5_digest_127 : decode cX5_digest 127 = .ok (.istore 4, 2) := by decide +kernel
theorem dX5_digest_129 : decode cX5_digest 129 = .ok (.iload 4, 2) := by decide +kernel
theorem dX5_digest_131 : decode cX5_digest 131 = .ok (.aload_n 0, 1) := by decide +kernel
theorem dX5_digest_132 : decode cX5_digest 132 = .ok (.iload_n 3, 1) := by decide +kernel
theorem dX5_digest_133 : decode cX5_digest 133 = .ok (.bipush 6, 2) := by decide +kernel
theorem dX5_digest_135 : decode cX5_digest 135 = .ok (.invokevirtual 94, 3) := by decide +kernel
theorem dX5_digest_138 : decode cX5_digest 138 = .ok (.if_icmp .ge 39, 3) := by decide +kernel
theorem dX5_digest_141 : decode cX5_digest 141 = .ok (.lload_n 1, 1) := by decide +kernel
theorem dX5_digest_142 : decode cX5_digest 142 = .ok (.ldc2_w 206, 3) := by decide +kernel
theorem dX5_digest_145 : decode cX5_digest 145 = .ok (.lmul, 1) := by decide +kernel
theorem dX5_digest_146 : decode cX5_digest 146 = .ok (.aload_n 0, 1) := by decide +kernel
theorem dX5_digest_147 : decode cX5_digest 147 = .ok (.iload_n 3, 1) := by decide +kernel
theorem dX5_digest_148 : decode cX5_digest 148 = .ok (.iload 4, 2) := by decide +kernel
theorem dX5_digest_150 : decode cX5_digest 150 = .ok (.iconst 0, 1) := by decide +kernel
theorem dX5_digest_151 : decode cX5_digest 151 = .ok (.invokevirtual 147, 3) := by decide +kernel
theorem dX5_digest_154 : decode cX5_digest 154 = .ok (.i2l, 1) := by decide +kernel
theorem dX5_digest_155 : decode cX5_digest 155 = .ok (.ladd, 1) := by decide +kernel
theorem dX5_digest_156 : decode cX5_digest 156 = .ok (.ldc2_w 206, 3) := by decide +kernel
theorem dX5_digest_159 : decode cX5_digest 159 = .ok (.lmul, 1) := by decide +kernel
theorem dX5_digest_160 : decode cX5_digest 160 = .ok (.aload_n 0, 1) := by decide +kernel
theorem dX5_digest_161 : decode cX5_digest 161 = .ok (.iload_n 3, 1) := by decide +kernel
theorem dX5_digest_162 : decode cX5_digest 162 = .ok (.iload 4, 2) := by decide +kernel
theorem dX5_digest_164 : decode cX5_digest 164 = .ok (.iconst 3, 1) := by decide +kernel
theorem dX5_digest_165 : decode cX5_digest 165 = .ok (.invokevirtual 147, 3) := by decide +kernel
theorem dX5_digest_168 : decode cX5_digest 168 = .ok (.i2l, 1) := by decide +kernel
theorem dX5_digest_169 : decode cX5_digest 169 = .ok (.ladd, 1) := by decide +kernel
theorem dX5_digest_170 : decode cX5_digest 170 = .ok (.lstore_n 1, 1) := by decide +kernel
theorem dX5_digest_171 : decode cX5_digest 171 = .ok (.iinc 4 1, 3) := by decide +kernel
theorem dX5_digest_174 : decode cX5_digest 174 = .ok (.goto (-45), 3) := by decide +kernel
theorem dX5_digest_177 : decode cX5_digest 177 = .ok (.iinc 3 1, 3) := by decide +kernel
theorem dX5_digest_180 : decode cX5_digest 180 = .ok (.goto (-110), 3) := by decide +kernel
theorem dX5_digest_183 : decode cX5_digest 183 = .ok (.lload_n 1, 1) := by decide +kernel
theorem dX5_digest_184 : decode cX5_digest 184 = .ok (.lreturn, 1) := by decide +kernel
theorem dJ9_max_7cf53_0 : decode cJ9_max_7cf53 0 = .ok (.iload_n 0, 1) := by decide +kernel
theorem dJ9_max_7cf53_1 : decode cJ9_max_7cf53 1 = .ok (.iload_n 1, 1) := by decide +kernel
theorem dJ9_max_7cf53_2 : decode cJ9_max_7cf53 2 = .ok (.if_icmp .lt 7, 3) := by decide +kernel
theorem dJ9_max_7cf53_5 : decode cJ9_max_7cf53 5 = .ok (.iload_n 0, 1) := by decide +kernel
theorem dJ9_max_7cf53_6 : decode cJ9_max_7cf53 6 = .ok (.goto 4, 3) := by decide +kernel
theorem dJ9_max_7cf53_9 : decode cJ9_max_7cf53 9 = .ok (.iload_n 1, 1) := by decide +kernel
theorem dJ9_max_7cf53_10 : decode cJ9_max_7cf53 10 = .ok (.ireturn, 1) := by decide +kernel
theorem dJ9_min_7cf53_0 : decode cJ9_min_7cf53 0 = .ok (.iload_n 0, 1) := by decide +kernel
theorem dJ9_min_7cf53_1 : decode cJ9_min_7cf53 1 = .ok (.iload_n 1, 1) := by decide +kernel
theorem dJ9_min_7cf53_2 : decode cJ9_min_7cf53 2 = .ok (.if_icmp .gt 7, 3) := by decide +kernel
theorem dJ9_min_7cf53_5 : decode cJ9_min_7cf53 5 = .ok (.iload_n 0, 1) := by decide +kernel
theorem dJ9_min_7cf53_6 : decode cJ9_min_7cf53 6 = .ok (.goto 4, 3) := by decide +kernel
theorem dJ9_min_7cf53_9 : decode cJ9_min_7cf53 9 = .ok (.iload_n 1, 1) := by decide +kernel
theorem dJ9_min_7cf53_10 : decode cJ9_min_7cf53 10 = .ok (.ireturn, 1) := by decide +kernel
theorem dJ9_min_f86c9_0 : decode cJ9_min_f86c9 0 = .ok (.lload_n 0, 1) := by decide +kernel
theorem dJ9_min_f86c9_1 : decode cJ9_min_f86c9 1 = .ok (.lload_n 2, 1) := by decide +kernel
theorem dJ9_min_f86c9_2 : decode cJ9_min_f86c9 2 = .ok (.lcmp, 1) := by decide +kernel
theorem dJ9_min_f86c9_3 : decode cJ9_min_f86c9 3 = .ok (.ifCond .gt 7, 3) := by decide +kernel
theorem dJ9_min_f86c9_6 : decode cJ9_min_f86c9 6 = .ok (.lload_n 0, 1) := by decide +kernel
theorem dJ9_min_f86c9_7 : decode cJ9_min_f86c9 7 = .ok (.goto 4, 3) := by decide +kernel
theorem dJ9_min_f86c9_10 : decode cJ9_min_f86c9 10 = .ok (.lload_n 2, 1) := by decide +kernel
theorem dJ9_min_f86c9_11 : decode cJ9_min_f86c9 11 = .ok (.lreturn, 1) := by decide +kernel
