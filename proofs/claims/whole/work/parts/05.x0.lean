set_option maxRecDepth 20000 in
theorem ggX0_init_X3_firstBehind : GoodIn wsX0_init wsX3_firstBehind := goodIn_r _ [11, 12, 22, 23, 24, 25, 26, 27, 28, 29, 30] (by decide +kernel) (by decide +kernel)
set_option maxRecDepth 20000 in
theorem gX0_init_X3_firstBehind : GoodIn wsX0_init (wsV RX0 19 RX3 yX3_firstBehind wsX3_firstBehind) := goodIn_app (goodIn_of _ (by decide +kernel)) ggX0_init_X3_firstBehind
theorem dX0_init_0 : decode cX0_init 0 = .ok (.aload_n 0, 1) := by decide +kernel
theorem dX0_init_1 : decode cX0_init 1 = .ok (.invokespecial 3, 3) := by decide +kernel
theorem dX0_init_4 : decode cX0_init 4 = .ok (.aload_n 0, 1) := by decide +kernel
theorem dX0_init_5 : decode cX0_init 5 = .ok (.aload_n 1, 1) := by decide +kernel
theorem dX0_init_6 : decode cX0_init 6 = .ok (.putfield 9, 3) := by decide +kernel
theorem dX0_init_9 : decode cX0_init 9 = .ok (.aload_n 0, 1) := by decide +kernel
theorem dX0_init_10 : decode cX0_init 10 = .ok (.sipush 10000, 3) := by decide +kernel
theorem dX0_init_13 : decode cX0_init 13 = .ok (.putfield 15, 3) := by decide +kernel
theorem dX0_init_16 : decode cX0_init 16 = .ok (.aload_n 0, 1) := by decide +kernel
theorem dX0_init_17 : decode cX0_init 17 = .ok (.aload_n 1, 1) := by decide +kernel
theorem dX0_init_18 : decode cX0_init 18 = .ok (.iload_n 2, 1) := by decide +kernel
theorem dX0_init_19 : decode cX0_init 19 = .ok (.invokevirtual 19, 3) := by decide +kernel
theorem dX0_init_22 : decode cX0_init 22 = .ok (.putfield 25, 3) := by decide +kernel
theorem dX0_init_25 : decode cX0_init 25 = .ok (.return_, 1) := by decide +kernel
theorem dX0_isGone_0 : decode cX0_isGone 0 = .ok (.aload_n 0, 1) := by decide +kernel
theorem dX0_isGone_1 : decode cX0_isGone 1 = .ok (.getfield 28, 3) := by decide +kernel
theorem dX0_isGone_4 : decode cX0_isGone 4 = .ok (.ifCond .eq 7, 3) := by decide +kernel
theorem dX0_isGone_7 : decode cX0_isGone 7 = .ok (.iconst 1, 1) := by decide +kernel
theorem dX0_isGone_8 : decode cX0_isGone 8 = .ok (.goto 4, 3) := by decide +kernel
theorem dX0_isGone_11 : decode cX0_isGone 11 = .ok (.iconst 0, 1) := by decide +kernel
theorem dX0_isGone_12 : decode cX0_isGone 12 = .ok (.ireturn, 1) := by decide +kernel
theorem dX0_isIssued_0 : decode cX0_isIssued 0 = .ok (.aload_n 0, 1) := by decide +kernel
theorem dX0_isIssued_1 : decode cX0_isIssued 1 = .ok (.getfield 9, 3) := by decide +kernel
theorem dX0_isIssued_4 : decode cX0_isIssued 4 = .ok (.getfield 31, 3) := by decide +kernel
theorem dX0_isIssued_7 : decode cX0_isIssued 7 = .ok (.iload_n 1, 1) := by decide +kernel
theorem dX0_isIssued_8 : decode cX0_isIssued 8 = .ok (.if_icmp .gt 7, 3) := by decide +kernel
theorem dX0_isIssued_11 : decode cX0_isIssued 11 = .ok (.iconst 1, 1) := by decide +kernel
theorem dX0_isIssued_12 : decode cX0_isIssued 12 = .ok (.goto 4, 3) := by decide +kernel
theorem dX0_isIssued_15 : decode cX0_isIssued 15 = .ok (.iconst 0, 1) := by decide +kernel
theorem dX0_isIssued_16 : decode cX0_isIssued 16 = .ok (.ireturn, 1) := by decide +kernel
set_option maxRecDepth 20000 in
theorem ggX0_isRung_X0_isGone : GoodIn wsX0_isRung wsX0_isGone := goodIn_r _ [7, 8, 18, 19, 20, 21, 22, 23, 24, 25, 26] (by decide +kernel) (by decide +kernel)
set_option maxRecDepth 20000 in
theorem gX0_isRung_X0_isGone : GoodIn wsX0_isRung (wsV RX0 34 RX0 yX0_isGone wsX0_isGone) := goodIn_app (goodIn_of _ (by decide +kernel)) ggX0_isRung_X0_isGone
set_option maxRecDepth 20000 in
theorem ggX0_isRung_X0_isIssued : GoodIn wsX0_isRung wsX0_isIssued := goodIn_r _ [12, 1, 13, 18, 19, 20, 21, 22, 23, 24, 25, 26, 27, 28, 29, 30, 31, 32, 33, 34, 35] (by decide +kernel) (by decide +kernel)
set_option maxRecDepth 20000 in
theorem gX0_isRung_X0_isIssued : GoodIn wsX0_isRung (wsV RX0 38 RX0 yX0_isIssued wsX0_isIssued) := goodIn_app (goodIn_of _ (by decide +kernel)) ggX0_isRung_X0_isIssued
set_option maxRecDepth 20000 in
theorem ggX0_isRung_X1_yearOf : GoodIn wsX0_isRung wsX1_yearOf := goodIn_r _ [17] (by decide +kernel) (by decide +kernel)
set_option maxRecDepth 20000 in
theorem gX0_isRung_X1_yearOf : GoodIn wsX0_isRung (va_wsS RX0 45 yX1_yearOf wsX1_yearOf) := goodIn_app (goodIn_of _ (by decide +kernel)) ggX0_isRung_X1_yearOf
theorem dX0_isRung_0 : decode cX0_isRung 0 = .ok (.aload_n 0, 1) := by decide +kernel
theorem dX0_isRung_1 : decode cX0_isRung 1 = .ok (.invokevirtual 34, 3) := by decide +kernel
theorem dX0_isRung_4 : decode cX0_isRung 4 = .ok (.ifCond .ne 40, 3) := by decide +kernel
theorem dX0_isRung_7 : decode cX0_isRung 7 = .ok (.aload_n 0, 1) := by decide +kernel
theorem dX0_isRung_8 : decode cX0_isRung 8 = .ok (.iload_n 2, 1) := by decide +kernel
theorem dX0_isRung_9 : decode cX0_isRung 9 = .ok (.invokevirtual 38, 3) := by decide +kernel
theorem dX0_isRung_12 : decode cX0_isRung 12 = .ok (.ifCond .eq 32, 3) := by decide +kernel
theorem dX0_isRung_15 : decode cX0_isRung 15 = .ok (.aload_n 0, 1) := by decide +kernel
theorem dX0_isRung_16 : decode cX0_isRung 16 = .ok (.getfield 9, 3) := by decide +kernel
theorem dX0_isRung_19 : decode cX0_isRung 19 = .ok (.getfield 42, 3) := by decide +kernel
theorem dX0_isRung_22 : decode cX0_isRung 22 = .ok (.iload_n 2, 1) := by decide +kernel
theorem dX0_isRung_23 : decode cX0_isRung 23 = .ok (.if_icmp .le 21, 3) := by decide +kernel
theorem dX0_isRung_26 : decode cX0_isRung 26 = .ok (.aload_n 0, 1) := by decide +kernel
theorem dX0_isRung_27 : decode cX0_isRung 27 = .ok (.getfield 9, 3) := by decide +kernel
theorem dX0_isRung_30 : decode cX0_isRung 30 = .ok (.getfield 42, 3) := by decide +kernel
theorem dX0_isRung_33 : decode cX0_isRung 33 = .ok (.invokestatic 45, 3) := by decide +kernel
theorem dX0_isRung_36 : decode cX0_isRung 36 = .ok (.iload_n 1, 1) := by decide +kernel
theorem dX0_isRung_37 : decode cX0_isRung 37 = .ok (.if_icmp .ne 7, 3) := by decide +kernel
theorem dX0_isRung_40 : decode cX0_isRung 40 = .ok (.iconst 1, 1) := by decide +kernel
theorem dX0_isRung_41 : decode cX0_isRung 41 = .ok (.goto 4, 3) := by decide +kernel
theorem dX0_isRung_44 : decode cX0_isRung 44 = .ok (.iconst 0, 1) := by decide +kernel
theorem dX0_isRung_45 : decode cX0_isRung 45 = .ok (.ireturn, 1) := by decide +kernel
theorem dX0_faceOf_0 : decode cX0_faceOf 0 = .ok (.ldc2_w 50, 3) := by decide +kernel
theorem dX0_faceOf_3 : decode cX0_faceOf 3 = .ok (.iload_n 0, 1) := by decide +kernel
theorem dX0_faceOf_4 : decode cX0_faceOf 4 = .ok (.i2l, 1) := by decide +kernel
theorem dX0_faceOf_5 : decode cX0_faceOf 5 = .ok (.lmul, 1) := by decide +kernel
theorem dX0_faceOf_6 : decode cX0_faceOf 6 = .ok (.ldc2_w 52, 3) := by decide +kernel
theorem dX0_faceOf_9 : decode cX0_faceOf 9 = .ok (.ldiv, 1) := by decide +kernel
theorem dX0_faceOf_10 : decode cX0_faceOf 10 = .ok (.lreturn, 1) := by decide +kernel
set_option maxRecDepth 20000 in
theorem ggX0_face_X0_faceOf : GoodIn wsX0_face wsX0_faceOf := goodIn_r _ [5, 6, 7] (by decide +kernel) (by decide +kernel)
set_option maxRecDepth 20000 in
theorem gX0_face_X0_faceOf : GoodIn wsX0_face (va_wsS RX0 54 yX0_faceOf wsX0_faceOf) := goodIn_app (goodIn_of _ (by decide +kernel)) ggX0_face_X0_faceOf
theorem dX0_face_0 : decode cX0_face 0 = .ok (.aload_n 0, 1) := by decide +kernel
theorem dX0_face_1 : decode cX0_face 1 = .ok (.getfield 15, 3) := by decide +kernel
theorem dX0_face_4 : decode cX0_face 4 = .ok (.invokestatic 54, 3) := by decide +kernel
theorem dX0_face_7 : decode cX0_face 7 = .ok (.lreturn, 1) := by decide +kernel
set_option maxRecDepth 20000 in
theorem ggX0_accruedOn_X0_isGone : GoodIn wsX0_accruedOn wsX0_isGone := goodIn_r _ [6, 7, 72, 73, 74, 75, 76, 77, 78, 79, 80] (by decide +kernel) (by decide +kernel)
set_option maxRecDepth 20000 in
theorem gX0_accruedOn_X0_isGone : GoodIn wsX0_accruedOn (wsV RX0 34 RX0 yX0_isGone wsX0_isGone) := goodIn_app (goodIn_of _ (by decide +kernel)) ggX0_accruedOn_X0_isGone
set_option maxRecDepth 20000 in
theorem ggX0_accruedOn_X0_face : GoodIn wsX0_accruedOn wsX0_face := goodIn_r _ [11, 12, 13, 14, 5, 15, 16, 17, 72, 73, 74, 75, 76, 77, 78, 79, 80] (by decide +kernel) (by decide +kernel)
set_option maxRecDepth 20000 in
theorem gX0_accruedOn_X0_face : GoodIn wsX0_accruedOn (wsV RX0 58 RX0 yX0_face wsX0_face) := goodIn_app (goodIn_of _ (by decide +kernel)) ggX0_accruedOn_X0_face
set_option maxRecDepth 20000 in
theorem ggX0_accruedOn_X3_accruedFor : GoodIn wsX0_accruedOn wsX3_accruedFor := goodIn_r _ [22, 23, 24, 25, 26, 27, 28, 21, 29, 30, 31, 32, 33, 34, 35, 36, 37, 38, 39, 40, 41, 42, 43, 44, 45, 46, 47, 48, 49, 50, 51, 52, 53, 54, 55, 56, 57, 58, 59, 60, 61, 62, 63, 64, 65, 66, 67, 68, 69, 70, 71, 81, 82, 83, 84, 85, 86, 87, 88, 89] (by decide +kernel) (by decide +kernel)
set_option maxRecDepth 20000 in
theorem gX0_accruedOn_X3_accruedFor : GoodIn wsX0_accruedOn (wsV RX0 62 RX3 yX3_accruedFor wsX3_accruedFor) := goodIn_app (goodIn_of _ (by decide +kernel)) ggX0_accruedOn_X3_accruedFor
theorem dX0_accruedOn_0 : decode cX0_accruedOn 0 = .ok (.aload_n 0, 1) := by decide +kernel
theorem dX0_accruedOn_1 : decode cX0_accruedOn 1 = .ok (.invokevirtual 34, 3) := by decide +kernel
theorem dX0_accruedOn_4 : decode cX0_accruedOn 4 = .ok (.ifCond .eq 7, 3) := by decide +kernel
theorem dX0_accruedOn_7 : decode cX0_accruedOn 7 = .ok (.lconst 0, 1) := by decide +kernel
theorem dX0_accruedOn_8 : decode cX0_accruedOn 8 = .ok (.goto 15, 3) := by decide +kernel
theorem dX0_accruedOn_11 : decode cX0_accruedOn 11 = .ok (.aload_n 0, 1) := by decide +kernel
theorem dX0_accruedOn_12 : decode cX0_accruedOn 12 = .ok (.getfield 9, 3) := by decide +kernel
theorem dX0_accruedOn_15 : decode cX0_accruedOn 15 = .ok (.iload_n 1, 1) := by decide +kernel
theorem dX0_accruedOn_16 : decode cX0_accruedOn 16 = .ok (.aload_n 0, 1) := by decide +kernel
theorem dX0_accruedOn_17 : decode cX0_accruedOn 17 = .ok (.invokevirtual 58, 3) := by decide +kernel
theorem dX0_accruedOn_20 : decode cX0_accruedOn 20 = .ok (.invokevirtual 62, 3) := by decide +kernel
theorem dX0_accruedOn_23 : decode cX0_accruedOn 23 = .ok (.lreturn, 1) := by decide +kernel
set_option maxRecDepth 20000 in
theorem ggX0_fullPrice_X0_face : GoodIn wsX0_fullPrice wsX0_face := goodIn_r _ [7, 8, 9, 10, 6, 11, 12, 1, 67, 68, 69, 70, 71, 72, 73, 74, 75] (by decide +kernel) (by decide +kernel)
set_option maxRecDepth 20000 in
theorem gX0_fullPrice_X0_face : GoodIn wsX0_fullPrice (wsV RX0 58 RX0 yX0_face wsX0_face) := goodIn_app (goodIn_of _ (by decide +kernel)) ggX0_fullPrice_X0_face
set_option maxRecDepth 20000 in
theorem ggX0_fullPrice_X3_accruedFor : GoodIn wsX0_fullPrice wsX3_accruedFor := goodIn_r _ [17, 18, 19, 20, 21, 22, 23, 16, 24, 25, 26, 27, 28, 29, 30, 31, 32, 33, 34, 35, 36, 37, 38, 39, 40, 41, 42, 43, 44, 45, 46, 47, 48, 49, 50, 51, 52, 53, 54, 55, 56, 57, 58, 59, 60, 61, 62, 63, 64, 65, 66, 76, 77, 78, 79, 80, 81, 82, 83, 84] (by decide +kernel) (by decide +kernel)
set_option maxRecDepth 20000 in
theorem gX0_fullPrice_X3_accruedFor : GoodIn wsX0_fullPrice (wsV RX0 62 RX3 yX3_accruedFor wsX3_accruedFor) := goodIn_app (goodIn_of _ (by decide +kernel)) ggX0_fullPrice_X3_accruedFor
theorem dX0_fullPrice_0 : decode cX0_fullPrice 0 = .ok (.aload_n 0, 1) := by decide +kernel
theorem dX0_fullPrice_1 : decode cX0_fullPrice 1 = .ok (.invokevirtual 58, 3) := by decide +kernel
theorem dX0_fullPrice_4 : decode cX0_fullPrice 4 = .ok (.iload_n 2, 1) := by decide +kernel
theorem dX0_fullPrice_5 : decode cX0_fullPrice 5 = .ok (.i2l, 1) := by decide +kernel
theorem dX0_fullPrice_6 : decode cX0_fullPrice 6 = .ok (.lmul, 1) := by decide +kernel
theorem dX0_fullPrice_7 : decode cX0_fullPrice 7 = .ok (.ldc2_w 52, 3) := by decide +kernel
theorem dX0_fullPrice_10 : decode cX0_fullPrice 10 = .ok (.ldiv, 1) := by decide +kernel
theorem dX0_fullPrice_11 : decode cX0_fullPrice 11 = .ok (.aload_n 0, 1) := by decide +kernel
theorem dX0_fullPrice_12 : decode cX0_fullPrice 12 = .ok (.getfield 9, 3) := by decide +kernel
theorem dX0_fullPrice_15 : decode cX0_fullPrice 15 = .ok (.iload_n 1, 1) := by decide +kernel
theorem dX0_fullPrice_16 : decode cX0_fullPrice 16 = .ok (.aload_n 0, 1) := by decide +kernel
theorem dX0_fullPrice_17 : decode cX0_fullPrice 17 = .ok (.invokevirtual 58, 3) := by decide +kernel
theorem dX0_fullPrice_20 : decode cX0_fullPrice 20 = .ok (.invokevirtual 62, 3) := by decide +kernel
theorem dX0_fullPrice_23 : decode cX0_fullPrice 23 = .ok (.ladd, 1) := by decide +kernel
theorem dX0_fullPrice_24 : decode cX0_fullPrice 24 = .ok (.lreturn, 1) := by decide +kernel
theorem dX0_isEnd_0 : decode cX0_isEnd 0 = .ok (.iload_n 1, 1) := by decide +kernel
theorem dX0_isEnd_1 : decode cX0_isEnd 1 = .ok (.aload_n 0, 1) := by decide +kernel
theorem dX0_isEnd_2 : decode cX0_isEnd 2 = .ok (.getfield 9, 3) := by decide +kernel
theorem dX0_isEnd_5 : decode cX0_isEnd 5 = .ok (.getfield 66, 3) := by decide +kernel
theorem dX0_isEnd_8 : decode cX0_isEnd 8 = .ok (.arraylength, 1) := by decide +kernel
theorem dX0_isEnd_9 : decode cX0_isEnd 9 = .ok (.iconst 1, 1) := by decide +kernel
theorem dX0_isEnd_10 : decode cX0_isEnd 10 = .ok (.isub, 1) := by decide +kernel
theorem dX0_isEnd_11 : decode cX0_isEnd 11 = .ok (.if_icmp .ne 7, 3) := by decide +kernel
theorem dX0_isEnd_14 : decode cX0_isEnd 14 = .ok (.iconst 1, 1) := by decide +kernel
theorem dX0_isEnd_15 : decode cX0_isEnd 15 = .ok (.goto 4, 3) := by decide +kernel
theorem dX0_isEnd_18 : decode cX0_isEnd 18 = .ok (.iconst 0, 1) := by decide +kernel
theorem dX0_isEnd_19 : decode cX0_isEnd 19 = .ok (.ireturn, 1) := by decide +kernel
theorem dX0_sunkOn_0 : decode cX0_sunkOn 0 = .ok (.iload_n 1, 1) := by decide +kernel
theorem dX0_sunkOn_1 : decode cX0_sunkOn 1 = .ok (.ifCond .lt 37, 3) := by decide +kernel
theorem dX0_sunkOn_4 : decode cX0_sunkOn 4 = .ok (.iload_n 1, 1) := by decide +kernel
theorem dX0_sunkOn_5 : decode cX0_sunkOn 5 = .ok (.aload_n 0, 1) := by decide +kernel
theorem dX0_sunkOn_6 : decode cX0_sunkOn 6 = .ok (.getfield 9, 3) := by decide +kernel
theorem dX0_sunkOn_9 : decode cX0_sunkOn 9 = .ok (.getfield 66, 3) := by decide +kernel
theorem dX0_sunkOn_12 : decode cX0_sunkOn 12 = .ok (.arraylength, 1) := by decide +kernel
theorem dX0_sunkOn_13 : decode cX0_sunkOn 13 = .ok (.iconst 1, 1) := by decide +kernel
theorem dX0_sunkOn_14 : decode cX0_sunkOn 14 = .ok (.isub, 1) := by decide +kernel
theorem dX0_sunkOn_15 : decode cX0_sunkOn 15 = .ok (.if_icmp .ge 23, 3) := by decide +kernel
theorem dX0_sunkOn_18 : decode cX0_sunkOn 18 = .ok (.aload_n 0, 1) := by decide +kernel
theorem dX0_sunkOn_19 : decode cX0_sunkOn 19 = .ok (.getfield 9, 3) := by decide +kernel
theorem dX0_sunkOn_22 : decode cX0_sunkOn 22 = .ok (.getfield 66, 3) := by decide +kernel
theorem dX0_sunkOn_25 : decode cX0_sunkOn 25 = .ok (.iload_n 1, 1) := by decide +kernel
theorem dX0_sunkOn_26 : decode cX0_sunkOn 26 = .ok (.iaload, 1) := by decide +kernel
theorem dX0_sunkOn_27 : decode cX0_sunkOn 27 = .ok (.aload_n 0, 1) := by decide +kernel
theorem dX0_sunkOn_28 : decode cX0_sunkOn 28 = .ok (.getfield 70, 3) := by decide +kernel
theorem dX0_sunkOn_31 : decode cX0_sunkOn 31 = .ok (.if_icmp .lt 7, 3) := by decide +kernel
theorem dX0_sunkOn_34 : decode cX0_sunkOn 34 = .ok (.iconst 1, 1) := by decide +kernel
theorem dX0_sunkOn_35 : decode cX0_sunkOn 35 = .ok (.goto 4, 3) := by decide +kernel
theorem dX0_sunkOn_38 : decode cX0_sunkOn 38 = .ok (.iconst 0, 1) := by decide +kernel
theorem dX0_sunkOn_39 : decode cX0_sunkOn 39 = .ok (.istore_n 3, 1) := by decide +kernel
theorem dX0_sunkOn_40 : decode cX0_sunkOn 40 = .ok (.iload_n 3, 1) := by decide +kernel
theorem dX0_sunkOn_41 : decode cX0_sunkOn 41 = .ok (.ifCond .eq 14, 3) := by decide +kernel
theorem dX0_sunkOn_44 : decode cX0_sunkOn 44 = .ok (.aload_n 0, 1) := by decide +kernel
theorem dX0_sunkOn_45 : decode cX0_sunkOn 45 = .ok (.getfield 73, 3) := by decide +kernel
theorem dX0_sunkOn_48 : decode cX0_sunkOn 48 = .ok (.iload_n 2, 1) := by decide +kernel
theorem dX0_sunkOn_49 : decode cX0_sunkOn 49 = .ok (.invokestatic 76, 3) := by decide +kernel
theorem dX0_sunkOn_52 : decode cX0_sunkOn 52 = .ok (.goto 4, 3) := by decide +kernel
theorem dX0_sunkOn_55 : decode cX0_sunkOn 55 = .ok (.iconst 0, 1) := by decide +kernel
theorem dX0_sunkOn_56 : decode cX0_sunkOn 56 = .ok (.ireturn, 1) := by decide +kernel
set_option maxRecDepth 20000 in
theorem ggX0_paymentOn_X0_faceOf : GoodIn wsX0_paymentOn wsX0_faceOf := goodIn_r _ [5, 6, 7] (by decide +kernel) (by decide +kernel)
set_option maxRecDepth 20000 in
theorem gX0_paymentOn_X0_faceOf : GoodIn wsX0_paymentOn (va_wsS RX0 54 yX0_faceOf wsX0_faceOf) := goodIn_app (goodIn_of _ (by decide +kernel)) ggX0_paymentOn_X0_faceOf
set_option maxRecDepth 20000 in
theorem ggX0_paymentOn_X3_couponFor : GoodIn wsX0_paymentOn wsX3_couponFor := goodIn_r _ [12, 13, 14, 15, 16, 17, 18, 19, 44, 45, 46, 47, 48, 49, 50, 51, 52] (by decide +kernel) (by decide +kernel)
set_option maxRecDepth 20000 in
theorem gX0_paymentOn_X3_couponFor : GoodIn wsX0_paymentOn (wsV RX0 82 RX3 yX3_couponFor wsX3_couponFor) := goodIn_app (goodIn_of _ (by decide +kernel)) ggX0_paymentOn_X3_couponFor
set_option maxRecDepth 20000 in
theorem ggX0_paymentOn_X0_isEnd : GoodIn wsX0_paymentOn wsX0_isEnd := goodIn_r _ [23, 1, 24, 35, 36, 37, 38, 39, 40, 41, 42, 43, 44, 45, 46, 47, 48, 49, 50, 51, 52] (by decide +kernel) (by decide +kernel)
set_option maxRecDepth 20000 in
theorem gX0_paymentOn_X0_isEnd : GoodIn wsX0_paymentOn (wsV RX0 85 RX0 yX0_isEnd wsX0_isEnd) := goodIn_app (goodIn_of _ (by decide +kernel)) ggX0_paymentOn_X0_isEnd
set_option maxRecDepth 20000 in
theorem ggX0_paymentOn_X0_sunkOn : GoodIn wsX0_paymentOn wsX0_sunkOn := goodIn_r _ [28, 1, 24, 29, 30, 31, 32, 33, 34, 35, 36, 37, 38, 39, 40, 41, 42, 43, 44, 45, 46, 47, 48, 49, 50, 51, 52] (by decide +kernel) (by decide +kernel)
set_option maxRecDepth 20000 in
theorem gX0_paymentOn_X0_sunkOn : GoodIn wsX0_paymentOn (wsV RX0 88 RX0 yX0_sunkOn wsX0_sunkOn) := goodIn_app (goodIn_of _ (by decide +kernel)) ggX0_paymentOn_X0_sunkOn
theorem dX0_paymentOn_0 : decode cX0_paymentOn 0 = .ok (.aload_n 0, 1) := by decide +kernel
theorem dX0_paymentOn_1 : decode cX0_paymentOn 1 = .ok (.getfield 9, 3) := by decide +kernel
theorem dX0_paymentOn_4 : decode cX0_paymentOn 4 = .ok (.iload_n 1, 1) := by decide +kernel
theorem dX0_paymentOn_5 : decode cX0_paymentOn 5 = .ok (.iload_n 2, 1) := by decide +kernel
theorem dX0_paymentOn_6 : decode cX0_paymentOn 6 = .ok (.invokestatic 54, 3) := by decide +kernel
theorem dX0_paymentOn_9 : decode cX0_paymentOn 9 = .ok (.invokevirtual 82, 3) := by decide +kernel
theorem dX0_paymentOn_12 : decode cX0_paymentOn 12 = .ok (.aload_n 0, 1) := by decide +kernel
theorem dX0_paymentOn_13 : decode cX0_paymentOn 13 = .ok (.iload_n 1, 1) := by decide +kernel
theorem dX0_paymentOn_14 : decode cX0_paymentOn 14 = .ok (.invokevirtual 85, 3) := by decide +kernel
theorem dX0_paymentOn_17 : decode cX0_paymentOn 17 = .ok (.ifCond .eq 7, 3) := by decide +kernel
theorem dX0_paymentOn_20 : decode cX0_paymentOn 20 = .ok (.iload_n 2, 1) := by decide +kernel
theorem dX0_paymentOn_21 : decode cX0_paymentOn 21 = .ok (.goto 9, 3) := by decide +kernel
theorem dX0_paymentOn_24 : decode cX0_paymentOn 24 = .ok (.aload_n 0, 1) := by decide +kernel
theorem dX0_paymentOn_25 : decode cX0_paymentOn 25 = .ok (.iload_n 1, 1) := by decide +kernel
theorem dX0_paymentOn_26 : decode cX0_paymentOn 26 = .ok (.iload_n 2, 1) := by decide +kernel
theorem dX0_paymentOn_27 : decode cX0_paymentOn 27 = .ok (.invokevirtual 88, 3) := by decide +kernel
theorem dX0_paymentOn_30 : decode cX0_paymentOn 30 = .ok (.invokestatic 54, 3) := by decide +kernel
theorem dX0_paymentOn_33 : decode cX0_paymentOn 33 = .ok (.ladd, 1) := by decide +kernel
theorem dX0_paymentOn_34 : decode cX0_paymentOn 34 = .ok (.lreturn, 1) := by decide +kernel
set_option maxRecDepth 20000 in
theorem ggX0_factorBehind_X0_sunkOn : GoodIn wsX0_factorBehind wsX0_sunkOn := goodIn_r _ [7, 8, 9, 10, 11, 12, 13, 14, 15, 16, 17, 18, 19, 20, 21, 22, 23, 24, 25, 26, 27, 28, 29, 30, 31, 32, 33] (by decide +kernel) (by decide +kernel)
set_option maxRecDepth 20000 in
theorem gX0_factorBehind_X0_sunkOn : GoodIn wsX0_factorBehind (wsV RX0 88 RX0 yX0_sunkOn wsX0_sunkOn) := goodIn_app (goodIn_of _ (by decide +kernel)) ggX0_factorBehind_X0_sunkOn
theorem dX0_factorBehind_0 : decode cX0_factorBehind 0 = .ok (.aload_n 0, 1) := by decide +kernel
theorem dX0_factorBehind_1 : decode cX0_factorBehind 1 = .ok (.getfield 15, 3) := by decide +kernel
theorem dX0_factorBehind_4 : decode cX0_factorBehind 4 = .ok (.istore_n 2, 1) := by decide +kernel
theorem dX0_factorBehind_5 : decode cX0_factorBehind 5 = .ok (.aload_n 0, 1) := by decide +kernel
theorem dX0_factorBehind_6 : decode cX0_factorBehind 6 = .ok (.getfield 25, 3) := by decide +kernel
theorem dX0_factorBehind_9 : decode cX0_factorBehind 9 = .ok (.istore_n 3, 1) := by decide +kernel
theorem dX0_factorBehind_10 : decode cX0_factorBehind 10 = .ok (.iload_n 3, 1) := by decide +kernel
theorem dX0_factorBehind_11 : decode cX0_factorBehind 11 = .ok (.iload_n 1, 1) := by decide +kernel
theorem dX0_factorBehind_12 : decode cX0_factorBehind 12 = .ok (.if_icmp .gt 18, 3) := by decide +kernel
theorem dX0_factorBehind_15 : decode cX0_factorBehind 15 = .ok (.iload_n 2, 1) := by decide +kernel
theorem dX0_factorBehind_16 : decode cX0_factorBehind 16 = .ok (.aload_n 0, 1) := by decide +kernel
theorem dX0_factorBehind_17 : decode cX0_factorBehind 17 = .ok (.iload_n 3, 1) := by decide +kernel
theorem dX0_factorBehind_18 : decode cX0_factorBehind 18 = .ok (.iload_n 2, 1) := by decide +kernel
theorem dX0_factorBehind_19 : decode cX0_factorBehind 19 = .ok (.invokevirtual 88, 3) := by decide +kernel
theorem dX0_factorBehind_22 : decode cX0_factorBehind 22 = .ok (.isub, 1) := by decide +kernel
theorem dX0_factorBehind_23 : decode cX0_factorBehind 23 = .ok (.istore_n 2, 1) := by decide +kernel
theorem dX0_factorBehind_24 : decode cX0_factorBehind 24 = .ok (.iinc 3 1, 3) := by decide +kernel
theorem dX0_factorBehind_27 : decode cX0_factorBehind 27 = .ok (.goto (-17), 3) := by decide +kernel
theorem dX0_factorBehind_30 : decode cX0_factorBehind 30 = .ok (.iload_n 2, 1) := by decide +kernel
theorem dX0_factorBehind_31 : decode cX0_factorBehind 31 = .ok (.ireturn, 1) := by decide +kernel
set_option maxRecDepth 20000 in
theorem ggX0_worthAt_X3_firstBehind : GoodIn wsX0_worthAt wsX3_firstBehind := goodIn_r _ [12, 13, 70, 71, 72, 73, 74, 75, 76, 77, 78] (by decide +kernel) (by decide +kernel)
set_option maxRecDepth 20000 in
theorem gX0_worthAt_X3_firstBehind : GoodIn wsX0_worthAt (wsV RX0 19 RX3 yX3_firstBehind wsX3_firstBehind) := goodIn_app (goodIn_of _ (by decide +kernel)) ggX0_worthAt_X3_firstBehind
set_option maxRecDepth 20000 in
theorem ggX0_worthAt_X0_isGone : GoodIn wsX0_worthAt wsX0_isGone := goodIn_r _ [18, 19, 61, 62, 63, 64, 65, 66, 67, 68, 69] (by decide +kernel) (by decide +kernel)
set_option maxRecDepth 20000 in
theorem gX0_worthAt_X0_isGone : GoodIn wsX0_worthAt (wsV RX0 34 RX0 yX0_isGone wsX0_isGone) := goodIn_app (goodIn_of _ (by decide +kernel)) ggX0_worthAt_X0_isGone
set_option maxRecDepth 20000 in
theorem ggX0_worthAt_X1_daysBetween : GoodIn wsX0_worthAt wsX1_daysBetween := goodIn_r _ [23, 24, 25, 22, 26, 27] (by decide +kernel) (by decide +kernel)
set_option maxRecDepth 20000 in
theorem gX0_worthAt_X1_daysBetween : GoodIn wsX0_worthAt (va_wsS RX0 96 yX1_daysBetween wsX1_daysBetween) := goodIn_app (goodIn_of _ (by decide +kernel)) ggX0_worthAt_X1_daysBetween
set_option maxRecDepth 20000 in
theorem ggX0_worthAt_X0_paymentOn : GoodIn wsX0_worthAt wsX0_paymentOn := goodIn_r _ [31, 1, 32, 33, 17, 34, 35, 2, 36, 37, 38, 11, 39, 40, 41, 42, 43, 44, 45, 46, 47, 48, 49, 50, 4, 51, 52, 53, 54, 55, 56, 57, 58, 59, 60, 61, 62, 63, 64, 65, 66, 67, 68, 69, 70, 71, 72, 73, 74, 75, 76, 77, 78] (by decide +kernel) (by decide +kernel)
set_option maxRecDepth 20000 in
theorem gX0_worthAt_X0_paymentOn : GoodIn wsX0_worthAt (wsV RX0 101 RX0 yX0_paymentOn wsX0_paymentOn) := goodIn_app (goodIn_of _ (by decide +kernel)) ggX0_worthAt_X0_paymentOn
set_option maxRecDepth 20000 in
theorem ggX0_worthAt_X0_sunkOn : GoodIn wsX0_worthAt wsX0_sunkOn := goodIn_r _ [54, 1, 4, 55, 56, 57, 58, 59, 60, 61, 62, 63, 64, 65, 66, 67, 68, 69, 70, 71, 72, 73, 74, 75, 76, 77, 78] (by decide +kernel) (by decide +kernel)
set_option maxRecDepth 20000 in
theorem gX0_worthAt_X0_sunkOn : GoodIn wsX0_worthAt (wsV RX0 88 RX0 yX0_sunkOn wsX0_sunkOn) := goodIn_app (goodIn_of _ (by decide +kernel)) ggX0_worthAt_X0_sunkOn
theorem dX0_worthAt_0 : decode cX0_worthAt 0 = .ok (.aload_n 0, 1) := by decide +kernel
theorem dX0_worthAt_1 : decode cX0_worthAt 1 = .ok (.getfield 9, 3) := by decide +kernel
theorem dX0_worthAt_4 : decode cX0_worthAt 4 = .ok (.iload_n 1, 1) := by decide +kernel
theorem dX0_worthAt_5 : decode cX0_worthAt 5 = .ok (.invokevirtual 19, 3) := by decide +kernel
theorem dX0_worthAt_8 : decode cX0_worthAt 8 = .ok (.istore 4, 2) := by decide +kernel
theorem dX0_worthAt_10 : decode cX0_worthAt 10 = .ok (.ldc2_w 52, 3) := by decide +kernel
theorem dX0_worthAt_13 : decode cX0_worthAt 13 = .ok (.aload_n 0, 1) := by decide +kernel
theorem dX0_worthAt_14 : decode cX0_worthAt 14 = .ok (.getfield 9, 3) := by decide +kernel
theorem dX0_worthAt_17 : decode cX0_worthAt 17 = .ok (.getfield 91, 3) := by decide +kernel
theorem dX0_worthAt_20 : decode cX0_worthAt 20 = .ok (.i2l, 1) := by decide +kernel
theorem dX0_worthAt_21 : decode cX0_worthAt 21 = .ok (.lmul, 1) := by decide +kernel
theorem dX0_worthAt_22 : decode cX0_worthAt 22 = .ok (.lstore 5, 2) := by decide +kernel
theorem dX0_worthAt_24 : decode cX0_worthAt 24 = .ok (.aload_n 0, 1) := by decide +kernel
theorem dX0_worthAt_25 : decode cX0_worthAt 25 = .ok (.invokevirtual 34, 3) := by decide +kernel
theorem dX0_worthAt_28 : decode cX0_worthAt 28 = .ok (.ifCond .ne 27, 3) := by decide +kernel
theorem dX0_worthAt_31 : decode cX0_worthAt 31 = .ok (.iload 4, 2) := by decide +kernel
theorem dX0_worthAt_33 : decode cX0_worthAt 33 = .ok (.aload_n 0, 1) := by decide +kernel
theorem dX0_worthAt_34 : decode cX0_worthAt 34 = .ok (.getfield 9, 3) := by decide +kernel
theorem dX0_worthAt_37 : decode cX0_worthAt 37 = .ok (.getfield 66, 3) := by decide +kernel
theorem dX0_worthAt_40 : decode cX0_worthAt 40 = .ok (.arraylength, 1) := by decide +kernel
theorem dX0_worthAt_41 : decode cX0_worthAt 41 = .ok (.if_icmp .ge 14, 3) := by decide +kernel
theorem dX0_worthAt_44 : decode cX0_worthAt 44 = .ok (.lload 5, 2) := by decide +kernel
theorem dX0_worthAt_46 : decode cX0_worthAt 46 = .ok (.lconst 0, 1) := by decide +kernel
theorem dX0_worthAt_47 : decode cX0_worthAt 47 = .ok (.lcmp, 1) := by decide +kernel
theorem dX0_worthAt_48 : decode cX0_worthAt 48 = .ok (.ifCond .le 7, 3) := by decide +kernel
theorem dX0_worthAt_51 : decode cX0_worthAt 51 = .ok (.iload_n 3, 1) := by decide +kernel
theorem dX0_worthAt_52 : decode cX0_worthAt 52 = .ok (.ifCond .ge 5, 3) := by decide +kernel
theorem dX0_worthAt_55 : decode cX0_worthAt 55 = .ok (.lconst 0, 1) := by decide +kernel
theorem dX0_worthAt_56 : decode cX0_worthAt 56 = .ok (.lreturn, 1) := by decide +kernel
theorem dX0_worthAt_57 : decode cX0_worthAt 57 = .ok (.ldc2_w 94, 3) := by decide +kernel
theorem dX0_worthAt_60 : decode cX0_worthAt 60 = .ok (.iload_n 3, 1) := by decide +kernel
theorem dX0_worthAt_61 : decode cX0_worthAt 61 = .ok (.i2l, 1) := by decide +kernel
theorem dX0_worthAt_62 : decode cX0_worthAt 62 = .ok (.iload_n 1, 1) := by decide +kernel
theorem dX0_worthAt_63 : decode cX0_worthAt 63 = .ok (.aload_n 0, 1) := by decide +kernel
theorem dX0_worthAt_64 : decode cX0_worthAt 64 = .ok (.getfield 9, 3) := by decide +kernel
theorem dX0_worthAt_67 : decode cX0_worthAt 67 = .ok (.getfield 66, 3) := by decide +kernel
theorem dX0_worthAt_70 : decode cX0_worthAt 70 = .ok (.iload 4, 2) := by decide +kernel
theorem dX0_worthAt_72 : decode cX0_worthAt 72 = .ok (.iaload, 1) := by decide +kernel
theorem dX0_worthAt_73 : decode cX0_worthAt 73 = .ok (.invokestatic 96, 3) := by decide +kernel
theorem dX0_worthAt_76 : decode cX0_worthAt 76 = .ok (.i2l, 1) := by decide +kernel
theorem dX0_worthAt_77 : decode cX0_worthAt 77 = .ok (.lmul, 1) := by decide +kernel
theorem dX0_worthAt_78 : decode cX0_worthAt 78 = .ok (.ladd, 1) := by decide +kernel
theorem dX0_worthAt_79 : decode cX0_worthAt 79 = .ok (.lstore 7, 2) := by decide +kernel
theorem dX0_worthAt_81 : decode cX0_worthAt 81 = .ok (.lload 7, 2) := by decide +kernel
theorem dX0_worthAt_83 : decode cX0_worthAt 83 = .ok (.lconst 0, 1) := by decide +kernel
theorem dX0_worthAt_84 : decode cX0_worthAt 84 = .ok (.lcmp, 1) := by decide +kernel
theorem dX0_worthAt_85 : decode cX0_worthAt 85 = .ok (.ifCond .gt 7, 3) := by decide +kernel
theorem dX0_worthAt_88 : decode cX0_worthAt 88 = .ok (.lconst 0, 1) := by decide +kernel
theorem dX0_worthAt_89 : decode cX0_worthAt 89 = .ok (.goto 9, 3) := by decide +kernel
theorem dX0_worthAt_92 : decode cX0_worthAt 92 = .ok (.ldc2_w 99, 3) := by decide +kernel
theorem dX0_worthAt_95 : decode cX0_worthAt 95 = .ok (.lload 7, 2) := by decide +kernel
theorem dX0_worthAt_97 : decode cX0_worthAt 97 = .ok (.ldiv, 1) := by decide +kernel
theorem dX0_worthAt_98 : decode cX0_worthAt 98 = .ok (.lstore 9, 2) := by decide +kernel
theorem dX0_worthAt_100 : decode cX0_worthAt 100 = .ok (.lconst 0, 1) := by decide +kernel
theorem dX0_worthAt_101 : decode cX0_worthAt 101 = .ok (.lstore 11, 2) := by decide +kernel
theorem dX0_worthAt_103 : decode cX0_worthAt 103 = .ok (.iload 4, 2) := by decide +kernel
theorem dX0_worthAt_105 : decode cX0_worthAt 105 = .ok (.istore 13, 2) := by decide +kernel
theorem dX0_worthAt_107 : decode cX0_worthAt 107 = .ok (.iload 13, 2) := by decide +kernel
theorem dX0_worthAt_109 : decode cX0_worthAt 109 = .ok (.aload_n 0, 1) := by decide +kernel
theorem dX0_worthAt_110 : decode cX0_worthAt 110 = .ok (.getfield 9, 3) := by decide +kernel
theorem dX0_worthAt_113 : decode cX0_worthAt 113 = .ok (.getfield 66, 3) := by decide +kernel
theorem dX0_worthAt_116 : decode cX0_worthAt 116 = .ok (.arraylength, 1) := by decide +kernel
theorem dX0_worthAt_117 : decode cX0_worthAt 117 = .ok (.if_icmp .ge 51, 3) := by decide +kernel
theorem dX0_worthAt_120 : decode cX0_worthAt 120 = .ok (.lload 11, 2) := by decide +kernel
theorem dX0_worthAt_122 : decode cX0_worthAt 122 = .ok (.aload_n 0, 1) := by decide +kernel
theorem dX0_worthAt_123 : decode cX0_worthAt 123 = .ok (.iload 13, 2) := by decide +kernel
theorem dX0_worthAt_125 : decode cX0_worthAt 125 = .ok (.iload_n 2, 1) := by decide +kernel
theorem dX0_worthAt_126 : decode cX0_worthAt 126 = .ok (.invokevirtual 101, 3) := by decide +kernel
theorem dX0_worthAt_129 : decode cX0_worthAt 129 = .ok (.lload 9, 2) := by decide +kernel
theorem dX0_worthAt_131 : decode cX0_worthAt 131 = .ok (.lmul, 1) := by decide +kernel
theorem dX0_worthAt_132 : decode cX0_worthAt 132 = .ok (.ldc2_w 105, 3) := by decide +kernel
theorem dX0_worthAt_135 : decode cX0_worthAt 135 = .ok (.ldiv, 1) := by decide +kernel
theorem dX0_worthAt_136 : decode cX0_worthAt 136 = .ok (.ladd, 1) := by decide +kernel
theorem dX0_worthAt_137 : decode cX0_worthAt 137 = .ok (.lstore 11, 2) := by decide +kernel
theorem dX0_worthAt_139 : decode cX0_worthAt 139 = .ok (.iload_n 2, 1) := by decide +kernel
theorem dX0_worthAt_140 : decode cX0_worthAt 140 = .ok (.aload_n 0, 1) := by decide +kernel
theorem dX0_worthAt_141 : decode cX0_worthAt 141 = .ok (.iload 13, 2) := by decide +kernel
theorem dX0_worthAt_143 : decode cX0_worthAt 143 = .ok (.iload_n 2, 1) := by decide +kernel
theorem dX0_worthAt_144 : decode cX0_worthAt 144 = .ok (.invokevirtual 88, 3) := by decide +kernel
theorem dX0_worthAt_147 : decode cX0_worthAt 147 = .ok (.isub, 1) := by decide +kernel
theorem dX0_worthAt_148 : decode cX0_worthAt 148 = .ok (.istore_n 2, 1) := by decide +kernel
theorem dX0_worthAt_149 : decode cX0_worthAt 149 = .ok (.lload 9, 2) := by decide +kernel
theorem dX0_worthAt_151 : decode cX0_worthAt 151 = .ok (.lload 5, 2) := by decide +kernel
theorem dX0_worthAt_153 : decode cX0_worthAt 153 = .ok (.lmul, 1) := by decide +kernel
theorem dX0_worthAt_154 : decode cX0_worthAt 154 = .ok (.lload 5, 2) := by decide +kernel
theorem dX0_worthAt_156 : decode cX0_worthAt 156 = .ok (.iload_n 3, 1) := by decide +kernel
theorem dX0_worthAt_157 : decode cX0_worthAt 157 = .ok (.i2l, 1) := by decide +kernel
theorem dX0_worthAt_158 : decode cX0_worthAt 158 = .ok (.ladd, 1) := by decide +kernel
theorem dX0_worthAt_159 : decode cX0_worthAt 159 = .ok (.ldiv, 1) := by decide +kernel
theorem dX0_worthAt_160 : decode cX0_worthAt 160 = .ok (.lstore 9, 2) := by decide +kernel
theorem dX0_worthAt_162 : decode cX0_worthAt 162 = .ok (.iinc 13 1, 3) := by decide +kernel
theorem dX0_worthAt_165 : decode cX0_worthAt 165 = .ok (.goto (-58), 3) := by decide +kernel
theorem dX0_worthAt_168 : decode cX0_worthAt 168 = .ok (.lload 11, 2) := by decide +kernel
theorem dX0_worthAt_170 : decode cX0_worthAt 170 = .ok (.lreturn, 1) := by decide +kernel
set_option maxRecDepth 20000 in
theorem ggX0_greatestRate_X0_worthAt : GoodIn wsX0_greatestRate wsX0_worthAt := goodIn_r _ [5, 6, 7, 8, 9, 10, 11, 12, 13, 14, 15, 16, 17, 18, 19, 20, 21, 4, 22, 23, 24, 25, 26, 27, 28, 29, 30, 31, 32, 33, 34, 35, 36, 37, 38, 39, 40, 41, 42, 43, 44, 45, 46, 47, 48, 49, 50, 51, 52, 53, 54, 55, 56, 57, 58, 59, 60, 61, 62, 63, 64, 65, 66, 67, 68, 69, 70, 71, 72, 73, 74, 75, 76, 77, 78, 79, 80, 81, 82] (by decide +kernel) (by decide +kernel)
set_option maxRecDepth 20000 in
theorem gX0_greatestRate_X0_worthAt : GoodIn wsX0_greatestRate (wsV RX0 107 RX0 yX0_worthAt wsX0_worthAt) := goodIn_app (goodIn_of _ (by decide +kernel)) ggX0_greatestRate_X0_worthAt
theorem dX0_greatestRate_0 : decode cX0_greatestRate 0 = .ok (.iconst (-1), 1) := by decide +kernel
theorem dX0_greatestRate_1 : decode cX0_greatestRate 1 = .ok (.istore 6, 2) := by decide +kernel
theorem dX0_greatestRate_3 : decode cX0_greatestRate 3 = .ok (.sipush 4096, 3) := by decide +kernel
theorem dX0_greatestRate_6 : decode cX0_greatestRate 6 = .ok (.istore 7, 2) := by decide +kernel
theorem dX0_greatestRate_8 : decode cX0_greatestRate 8 = .ok (.iload 7, 2) := by decide +kernel
theorem dX0_greatestRate_10 : decode cX0_greatestRate 10 = .ok (.ifCond .le 45, 3) := by decide +kernel
theorem dX0_greatestRate_13 : decode cX0_greatestRate 13 = .ok (.iload 6, 2) := by decide +kernel
theorem dX0_greatestRate_15 : decode cX0_greatestRate 15 = .ok (.iload 7, 2) := by decide +kernel
theorem dX0_greatestRate_17 : decode cX0_greatestRate 17 = .ok (.iadd, 1) := by decide +kernel
theorem dX0_greatestRate_18 : decode cX0_greatestRate 18 = .ok (.iload 5, 2) := by decide +kernel
theorem dX0_greatestRate_20 : decode cX0_greatestRate 20 = .ok (.if_icmp .gt 26, 3) := by decide +kernel
theorem dX0_greatestRate_23 : decode cX0_greatestRate 23 = .ok (.aload_n 0, 1) := by decide +kernel
theorem dX0_greatestRate_24 : decode cX0_greatestRate 24 = .ok (.iload_n 1, 1) := by decide +kernel
theorem dX0_greatestRate_25 : decode cX0_greatestRate 25 = .ok (.iload_n 2, 1) := by decide +kernel
theorem dX0_greatestRate_26 : decode cX0_greatestRate 26 = .ok (.iload 6, 2) := by decide +kernel
theorem dX0_greatestRate_28 : decode cX0_greatestRate 28 = .ok (.iload 7, 2) := by decide +kernel
theorem dX0_greatestRate_30 : decode cX0_greatestRate 30 = .ok (.iadd, 1) := by decide +kernel
theorem dX0_greatestRate_31 : decode cX0_greatestRate 31 = .ok (.invokevirtual 107, 3) := by decide +kernel
theorem dX0_greatestRate_34 : decode cX0_greatestRate 34 = .ok (.lload_n 3, 1) := by decide +kernel
theorem dX0_greatestRate_35 : decode cX0_greatestRate 35 = .ok (.lcmp, 1) := by decide +kernel
theorem dX0_greatestRate_36 : decode cX0_greatestRate 36 = .ok (.ifCond .lt 10, 3) := by decide +kernel
theorem dX0_greatestRate_39 : decode cX0_greatestRate 39 = .ok (.iload 6, 2) := by decide +kernel
theorem dX0_greatestRate_41 : decode cX0_greatestRate 41 = .ok (.iload 7, 2) := by decide +kernel
theorem dX0_greatestRate_43 : decode cX0_greatestRate 43 = .ok (.iadd, 1) := by decide +kernel
theorem dX0_greatestRate_44 : decode cX0_greatestRate 44 = .ok (.istore 6, 2) := by decide +kernel
theorem dX0_greatestRate_46 : decode cX0_greatestRate 46 = .ok (.iload 7, 2) := by decide +kernel
theorem dX0_greatestRate_48 : decode cX0_greatestRate 48 = .ok (.iconst 2, 1) := by decide +kernel
theorem dX0_greatestRate_49 : decode cX0_greatestRate 49 = .ok (.idiv, 1) := by decide +kernel
theorem dX0_greatestRate_50 : decode cX0_greatestRate 50 = .ok (.istore 7, 2) := by decide +kernel
theorem dX0_greatestRate_52 : decode cX0_greatestRate 52 = .ok (.goto (-44), 3) := by decide +kernel
theorem dX0_greatestRate_55 : decode cX0_greatestRate 55 = .ok (.iload 6, 2) := by decide +kernel
theorem dX0_greatestRate_57 : decode cX0_greatestRate 57 = .ok (.ireturn, 1) := by decide +kernel
set_option maxRecDepth 20000 in
theorem ggX0_yieldAt_X0_isGone : GoodIn wsX0_yieldAt wsX0_isGone := goodIn_r _ [6, 7, 112, 113, 114, 115, 116, 117, 118, 119, 120] (by decide +kernel) (by decide +kernel)
set_option maxRecDepth 20000 in
theorem gX0_yieldAt_X0_isGone : GoodIn wsX0_yieldAt (wsV RX0 34 RX0 yX0_isGone wsX0_isGone) := goodIn_app (goodIn_of _ (by decide +kernel)) ggX0_yieldAt_X0_isGone
set_option maxRecDepth 20000 in
theorem ggX0_yieldAt_X0_fullPrice : GoodIn wsX0_yieldAt wsX0_fullPrice := goodIn_r _ [11, 12, 13, 14, 15, 16, 5, 17, 1, 18, 19, 20, 21, 22, 23, 24, 25, 26, 27, 28, 29, 30, 31, 32, 33, 34, 35, 36, 37, 38, 39, 40, 41, 42, 43, 44, 45, 46, 47, 48, 49, 50, 51, 52, 53, 54, 55, 56, 57, 58, 59, 60, 61, 62, 63, 64, 65, 66, 67, 68, 69, 70, 71, 72, 73, 74, 75, 112, 113, 114, 115, 116, 117, 118, 119, 120, 121, 122, 123, 124, 125, 126, 127, 128, 129] (by decide +kernel) (by decide +kernel)
set_option maxRecDepth 20000 in
theorem gX0_yieldAt_X0_fullPrice : GoodIn wsX0_yieldAt (wsV RX0 111 RX0 yX0_fullPrice wsX0_fullPrice) := goodIn_app (goodIn_of _ (by decide +kernel)) ggX0_yieldAt_X0_fullPrice
set_option maxRecDepth 20000 in
theorem ggX0_yieldAt_X0_greatestRate : GoodIn wsX0_yieldAt wsX0_greatestRate := goodIn_r _ [79, 80, 81, 82, 5, 83, 13, 12, 84, 85, 86, 87, 88, 89, 31, 32, 25, 33, 28, 2, 3, 4, 6, 7, 90, 45, 46, 47, 48, 49, 50, 51, 91, 92, 93, 94, 18, 19, 20, 21, 95, 96, 97, 98, 41, 27, 99, 29, 100, 42, 43, 101, 102, 103, 104, 105, 106, 107, 108, 109, 110, 111, 64, 65, 66, 112, 113, 114, 115, 116, 117, 118, 119, 120, 121, 122, 123, 124, 125, 126, 127, 128, 129] (by decide +kernel) (by decide +kernel)
set_option maxRecDepth 20000 in
theorem gX0_yieldAt_X0_greatestRate : GoodIn wsX0_yieldAt (wsV RX0 114 RX0 yX0_greatestRate wsX0_greatestRate) := goodIn_app (goodIn_of _ (by decide +kernel)) ggX0_yieldAt_X0_greatestRate
theorem dX0_yieldAt_0 : decode cX0_yieldAt 0 = .ok (.aload_n 0, 1) := by decide +kernel
theorem dX0_yieldAt_1 : decode cX0_yieldAt 1 = .ok (.invokevirtual 34, 3) := by decide +kernel
theorem dX0_yieldAt_4 : decode cX0_yieldAt 4 = .ok (.ifCond .eq 7, 3) := by decide +kernel
theorem dX0_yieldAt_7 : decode cX0_yieldAt 7 = .ok (.iconst (-1), 1) := by decide +kernel
theorem dX0_yieldAt_8 : decode cX0_yieldAt 8 = .ok (.goto 21, 3) := by decide +kernel
theorem dX0_yieldAt_11 : decode cX0_yieldAt 11 = .ok (.aload_n 0, 1) := by decide +kernel
theorem dX0_yieldAt_12 : decode cX0_yieldAt 12 = .ok (.iload_n 1, 1) := by decide +kernel
theorem dX0_yieldAt_13 : decode cX0_yieldAt 13 = .ok (.aload_n 0, 1) := by decide +kernel
theorem dX0_yieldAt_14 : decode cX0_yieldAt 14 = .ok (.getfield 15, 3) := by decide +kernel
theorem dX0_yieldAt_17 : decode cX0_yieldAt 17 = .ok (.aload_n 0, 1) := by decide +kernel
theorem dX0_yieldAt_18 : decode cX0_yieldAt 18 = .ok (.iload_n 1, 1) := by decide +kernel
theorem dX0_yieldAt_19 : decode cX0_yieldAt 19 = .ok (.iload_n 2, 1) := by decide +kernel
theorem dX0_yieldAt_20 : decode cX0_yieldAt 20 = .ok (.invokevirtual 111, 3) := by decide +kernel
theorem dX0_yieldAt_23 : decode cX0_yieldAt 23 = .ok (.sipush 5000, 3) := by decide +kernel
theorem dX0_yieldAt_26 : decode cX0_yieldAt 26 = .ok (.invokevirtual 114, 3) := by decide +kernel
theorem dX0_yieldAt_29 : decode cX0_yieldAt 29 = .ok (.ireturn, 1) := by decide +kernel
theorem dX0_isCallDate_0 : decode cX0_isCallDate 0 = .ok (.aload_n 0, 1) := by decide +kernel
theorem dX0_isCallDate_1 : decode cX0_isCallDate 1 = .ok (.getfield 118, 3) := by decide +kernel
theorem dX0_isCallDate_4 : decode cX0_isCallDate 4 = .ok (.ifCond .le 41, 3) := by decide +kernel
theorem dX0_isCallDate_7 : decode cX0_isCallDate 7 = .ok (.iload_n 1, 1) := by decide +kernel
theorem dX0_isCallDate_8 : decode cX0_isCallDate 8 = .ok (.ifCond .lt 37, 3) := by decide +kernel
theorem dX0_isCallDate_11 : decode cX0_isCallDate 11 = .ok (.iload_n 1, 1) := by decide +kernel
theorem dX0_isCallDate_12 : decode cX0_isCallDate 12 = .ok (.aload_n 0, 1) := by decide +kernel
theorem dX0_isCallDate_13 : decode cX0_isCallDate 13 = .ok (.getfield 9, 3) := by decide +kernel
theorem dX0_isCallDate_16 : decode cX0_isCallDate 16 = .ok (.getfield 66, 3) := by decide +kernel
theorem dX0_isCallDate_19 : decode cX0_isCallDate 19 = .ok (.arraylength, 1) := by decide +kernel
theorem dX0_isCallDate_20 : decode cX0_isCallDate 20 = .ok (.iconst 1, 1) := by decide +kernel
theorem dX0_isCallDate_21 : decode cX0_isCallDate 21 = .ok (.isub, 1) := by decide +kernel
theorem dX0_isCallDate_22 : decode cX0_isCallDate 22 = .ok (.if_icmp .ge 23, 3) := by decide +kernel
theorem dX0_isCallDate_25 : decode cX0_isCallDate 25 = .ok (.aload_n 0, 1) := by decide +kernel
theorem dX0_isCallDate_26 : decode cX0_isCallDate 26 = .ok (.getfield 9, 3) := by decide +kernel
theorem dX0_isCallDate_29 : decode cX0_isCallDate 29 = .ok (.getfield 66, 3) := by decide +kernel
theorem dX0_isCallDate_32 : decode cX0_isCallDate 32 = .ok (.iload_n 1, 1) := by decide +kernel
theorem dX0_isCallDate_33 : decode cX0_isCallDate 33 = .ok (.iaload, 1) := by decide +kernel
theorem dX0_isCallDate_34 : decode cX0_isCallDate 34 = .ok (.aload_n 0, 1) := by decide +kernel
theorem dX0_isCallDate_35 : decode cX0_isCallDate 35 = .ok (.getfield 121, 3) := by decide +kernel
theorem dX0_isCallDate_38 : decode cX0_isCallDate 38 = .ok (.if_icmp .lt 7, 3) := by decide +kernel
theorem dX0_isCallDate_41 : decode cX0_isCallDate 41 = .ok (.iconst 1, 1) := by decide +kernel
theorem dX0_isCallDate_42 : decode cX0_isCallDate 42 = .ok (.goto 4, 3) := by decide +kernel
theorem dX0_isCallDate_45 : decode cX0_isCallDate 45 = .ok (.iconst 0, 1) := by decide +kernel
theorem dX0_isCallDate_46 : decode cX0_isCallDate 46 = .ok (.ireturn, 1) := by decide +kernel
set_option maxRecDepth 20000 in
theorem ggX0_callPayment_X0_faceOf : GoodIn wsX0_callPayment wsX0_faceOf := goodIn_r _ [6, 7, 2] (by decide +kernel) (by decide +kernel)
set_option maxRecDepth 20000 in
theorem gX0_callPayment_X0_faceOf : GoodIn wsX0_callPayment (va_wsS RX0 54 yX0_faceOf wsX0_faceOf) := goodIn_app (goodIn_of _ (by decide +kernel)) ggX0_callPayment_X0_faceOf
theorem dX0_callPayment_0 : decode cX0_callPayment 0 = .ok (.iload_n 1, 1) := by decide +kernel
theorem dX0_callPayment_1 : decode cX0_callPayment 1 = .ok (.invokestatic 54, 3) := by decide +kernel
theorem dX0_callPayment_4 : decode cX0_callPayment 4 = .ok (.aload_n 0, 1) := by decide +kernel
theorem dX0_callPayment_5 : decode cX0_callPayment 5 = .ok (.getfield 118, 3) := by decide +kernel
theorem dX0_callPayment_8 : decode cX0_callPayment 8 = .ok (.i2l, 1) := by decide +kernel
theorem dX0_callPayment_9 : decode cX0_callPayment 9 = .ok (.lmul, 1) := by decide +kernel
theorem dX0_callPayment_10 : decode cX0_callPayment 10 = .ok (.ldc2_w 52, 3) := by decide +kernel
theorem dX0_callPayment_13 : decode cX0_callPayment 13 = .ok (.ldiv, 1) := by decide +kernel
theorem dX0_callPayment_14 : decode cX0_callPayment 14 = .ok (.lreturn, 1) := by decide +kernel
set_option maxRecDepth 20000 in
theorem ggX0_firstCall_X0_isCallDate : GoodIn wsX0_firstCall wsX0_isCallDate := goodIn_r _ [8, 9, 2, 3, 10, 11, 12, 13, 14, 15, 16, 17, 18, 19, 20, 21, 22, 23, 24, 25, 26, 27, 28] (by decide +kernel) (by decide +kernel)
set_option maxRecDepth 20000 in
theorem gX0_firstCall_X0_isCallDate : GoodIn wsX0_firstCall (wsV RX0 124 RX0 yX0_isCallDate wsX0_isCallDate) := goodIn_app (goodIn_of _ (by decide +kernel)) ggX0_firstCall_X0_isCallDate
theorem dX0_firstCall_0 : decode cX0_firstCall 0 = .ok (.aload_n 0, 1) := by decide +kernel
theorem dX0_firstCall_1 : decode cX0_firstCall 1 = .ok (.getfield 25, 3) := by decide +kernel
theorem dX0_firstCall_4 : decode cX0_firstCall 4 = .ok (.istore_n 1, 1) := by decide +kernel
theorem dX0_firstCall_5 : decode cX0_firstCall 5 = .ok (.iload_n 1, 1) := by decide +kernel
theorem dX0_firstCall_6 : decode cX0_firstCall 6 = .ok (.aload_n 0, 1) := by decide +kernel
theorem dX0_firstCall_7 : decode cX0_firstCall 7 = .ok (.getfield 9, 3) := by decide +kernel
theorem dX0_firstCall_10 : decode cX0_firstCall 10 = .ok (.getfield 66, 3) := by decide +kernel
theorem dX0_firstCall_13 : decode cX0_firstCall 13 = .ok (.arraylength, 1) := by decide +kernel
theorem dX0_firstCall_14 : decode cX0_firstCall 14 = .ok (.if_icmp .ge 19, 3) := by decide +kernel
theorem dX0_firstCall_17 : decode cX0_firstCall 17 = .ok (.aload_n 0, 1) := by decide +kernel
theorem dX0_firstCall_18 : decode cX0_firstCall 18 = .ok (.iload_n 1, 1) := by decide +kernel
theorem dX0_firstCall_19 : decode cX0_firstCall 19 = .ok (.invokevirtual 124, 3) := by decide +kernel
theorem dX0_firstCall_22 : decode cX0_firstCall 22 = .ok (.ifCond .eq 5, 3) := by decide +kernel
theorem dX0_firstCall_25 : decode cX0_firstCall 25 = .ok (.iload_n 1, 1) := by decide +kernel
theorem dX0_firstCall_26 : decode cX0_firstCall 26 = .ok (.ireturn, 1) := by decide +kernel
theorem dX0_firstCall_27 : decode cX0_firstCall 27 = .ok (.iinc 1 1, 3) := by decide +kernel
theorem dX0_firstCall_30 : decode cX0_firstCall 30 = .ok (.goto (-25), 3) := by decide +kernel
theorem dX0_firstCall_33 : decode cX0_firstCall 33 = .ok (.iconst (-1), 1) := by decide +kernel
theorem dX0_firstCall_34 : decode cX0_firstCall 34 = .ok (.ireturn, 1) := by decide +kernel
set_option maxRecDepth 20000 in
theorem ggX0_rateOfCall_X0_isGone : GoodIn wsX0_rateOfCall wsX0_isGone := goodIn_r _ [7, 8, 89, 90, 91, 92, 93, 94, 95, 96, 97] (by decide +kernel) (by decide +kernel)
set_option maxRecDepth 20000 in
theorem gX0_rateOfCall_X0_isGone : GoodIn wsX0_rateOfCall (wsV RX0 34 RX0 yX0_isGone wsX0_isGone) := goodIn_app (goodIn_of _ (by decide +kernel)) ggX0_rateOfCall_X0_isGone
set_option maxRecDepth 20000 in
theorem ggX0_rateOfCall_X0_firstCall : GoodIn wsX0_rateOfCall wsX0_firstCall := goodIn_r _ [12, 13, 1, 2, 14, 15, 16, 6, 17, 18, 19, 89, 90, 91, 92, 93, 94, 95, 96, 97, 98, 99, 100, 101, 102, 103, 104, 105, 106] (by decide +kernel) (by decide +kernel)
set_option maxRecDepth 20000 in
theorem gX0_rateOfCall_X0_firstCall : GoodIn wsX0_rateOfCall (wsV RX0 127 RX0 yX0_firstCall wsX0_firstCall) := goodIn_app (goodIn_of _ (by decide +kernel)) ggX0_rateOfCall_X0_firstCall
set_option maxRecDepth 20000 in
theorem ggX0_rateOfCall_X0_factorBehind : GoodIn wsX0_rateOfCall wsX0_factorBehind := goodIn_r _ [23, 24, 13, 25, 26, 27, 6, 28, 1, 2, 29, 30, 31, 32, 33, 34, 89, 90, 91, 92, 93, 94, 95, 96, 97, 98, 99, 100, 101, 102, 103, 104, 105, 106] (by decide +kernel) (by decide +kernel)
set_option maxRecDepth 20000 in
theorem gX0_rateOfCall_X0_factorBehind : GoodIn wsX0_rateOfCall (wsV RX0 131 RX0 yX0_factorBehind wsX0_factorBehind) := goodIn_app (goodIn_of _ (by decide +kernel)) ggX0_rateOfCall_X0_factorBehind
set_option maxRecDepth 20000 in
theorem ggX0_rateOfCall_X0_callPayment : GoodIn wsX0_rateOfCall wsX0_callPayment := goodIn_r _ [38, 18, 39, 40, 41, 6, 42, 43, 89, 90, 91, 92, 93, 94, 95, 96, 97] (by decide +kernel) (by decide +kernel)
set_option maxRecDepth 20000 in
theorem gX0_rateOfCall_X0_callPayment : GoodIn wsX0_rateOfCall (wsV RX0 134 RX0 yX0_callPayment wsX0_callPayment) := goodIn_app (goodIn_of _ (by decide +kernel)) ggX0_rateOfCall_X0_callPayment
set_option maxRecDepth 20000 in
theorem ggX0_rateOfCall_X0_greatestRate : GoodIn wsX0_rateOfCall wsX0_greatestRate := goodIn_r _ [47, 48, 49, 50, 6, 51, 1, 39, 52, 2, 53, 54, 55, 56, 57, 58, 59, 60, 61, 3, 4, 5, 7, 8, 62, 63, 64, 65, 66, 67, 68, 69, 70, 71, 72, 73, 40, 41, 42, 43, 74, 75, 76, 77, 78, 79, 80, 81, 82, 83, 84, 85, 86, 87, 88, 25, 26, 27, 28, 29, 30, 31, 32, 33, 34, 89, 90, 91, 92, 93, 94, 95, 96, 97, 98, 99, 100, 101, 102, 103, 104, 105, 106] (by decide +kernel) (by decide +kernel)
set_option maxRecDepth 20000 in
theorem gX0_rateOfCall_X0_greatestRate : GoodIn wsX0_rateOfCall (wsV RX0 114 RX0 yX0_greatestRate wsX0_greatestRate) := goodIn_app (goodIn_of _ (by decide +kernel)) ggX0_rateOfCall_X0_greatestRate
theorem dX0_rateOfCall_0 : decode cX0_rateOfCall 0 = .ok (.aload_n 0, 1) := by decide +kernel
theorem dX0_rateOfCall_1 : decode cX0_rateOfCall 1 = .ok (.invokevirtual 34, 3) := by decide +kernel
theorem dX0_rateOfCall_4 : decode cX0_rateOfCall 4 = .ok (.ifCond .eq 7, 3) := by decide +kernel
theorem dX0_rateOfCall_7 : decode cX0_rateOfCall 7 = .ok (.iconst (-1), 1) := by decide +kernel
theorem dX0_rateOfCall_8 : decode cX0_rateOfCall 8 = .ok (.goto 7, 3) := by decide +kernel
theorem dX0_rateOfCall_11 : decode cX0_rateOfCall 11 = .ok (.aload_n 0, 1) := by decide +kernel
theorem dX0_rateOfCall_12 : decode cX0_rateOfCall 12 = .ok (.invokevirtual 127, 3) := by decide +kernel
theorem dX0_rateOfCall_15 : decode cX0_rateOfCall 15 = .ok (.istore_n 1, 1) := by decide +kernel
theorem dX0_rateOfCall_16 : decode cX0_rateOfCall 16 = .ok (.aload_n 0, 1) := by decide +kernel
theorem dX0_rateOfCall_17 : decode cX0_rateOfCall 17 = .ok (.iload_n 1, 1) := by decide +kernel
theorem dX0_rateOfCall_18 : decode cX0_rateOfCall 18 = .ok (.invokevirtual 131, 3) := by decide +kernel
theorem dX0_rateOfCall_21 : decode cX0_rateOfCall 21 = .ok (.istore_n 2, 1) := by decide +kernel
theorem dX0_rateOfCall_22 : decode cX0_rateOfCall 22 = .ok (.iload_n 1, 1) := by decide +kernel
theorem dX0_rateOfCall_23 : decode cX0_rateOfCall 23 = .ok (.ifCond .lt 19, 3) := by decide +kernel
theorem dX0_rateOfCall_26 : decode cX0_rateOfCall 26 = .ok (.iload_n 1, 1) := by decide +kernel
theorem dX0_rateOfCall_27 : decode cX0_rateOfCall 27 = .ok (.aload_n 0, 1) := by decide +kernel
theorem dX0_rateOfCall_28 : decode cX0_rateOfCall 28 = .ok (.getfield 9, 3) := by decide +kernel
theorem dX0_rateOfCall_31 : decode cX0_rateOfCall 31 = .ok (.getfield 66, 3) := by decide +kernel
theorem dX0_rateOfCall_34 : decode cX0_rateOfCall 34 = .ok (.arraylength, 1) := by decide +kernel
theorem dX0_rateOfCall_35 : decode cX0_rateOfCall 35 = .ok (.if_icmp .ge 7, 3) := by decide +kernel
theorem dX0_rateOfCall_38 : decode cX0_rateOfCall 38 = .ok (.iload_n 2, 1) := by decide +kernel
theorem dX0_rateOfCall_39 : decode cX0_rateOfCall 39 = .ok (.ifCond .ne 5, 3) := by decide +kernel
theorem dX0_rateOfCall_42 : decode cX0_rateOfCall 42 = .ok (.iconst (-1), 1) := by decide +kernel
theorem dX0_rateOfCall_43 : decode cX0_rateOfCall 43 = .ok (.ireturn, 1) := by decide +kernel
theorem dX0_rateOfCall_44 : decode cX0_rateOfCall 44 = .ok (.aload_n 0, 1) := by decide +kernel
theorem dX0_rateOfCall_45 : decode cX0_rateOfCall 45 = .ok (.aload_n 0, 1) := by decide +kernel
theorem dX0_rateOfCall_46 : decode cX0_rateOfCall 46 = .ok (.getfield 9, 3) := by decide +kernel
theorem dX0_rateOfCall_49 : decode cX0_rateOfCall 49 = .ok (.getfield 66, 3) := by decide +kernel
theorem dX0_rateOfCall_52 : decode cX0_rateOfCall 52 = .ok (.iload_n 1, 1) := by decide +kernel
theorem dX0_rateOfCall_53 : decode cX0_rateOfCall 53 = .ok (.iaload, 1) := by decide +kernel
theorem dX0_rateOfCall_54 : decode cX0_rateOfCall 54 = .ok (.iload_n 2, 1) := by decide +kernel
theorem dX0_rateOfCall_55 : decode cX0_rateOfCall 55 = .ok (.aload_n 0, 1) := by decide +kernel
theorem dX0_rateOfCall_56 : decode cX0_rateOfCall 56 = .ok (.iload_n 2, 1) := by decide +kernel
theorem dX0_rateOfCall_57 : decode cX0_rateOfCall 57 = .ok (.invokevirtual 134, 3) := by decide +kernel
theorem dX0_rateOfCall_60 : decode cX0_rateOfCall 60 = .ok (.lconst 1, 1) := by decide +kernel
theorem dX0_rateOfCall_61 : decode cX0_rateOfCall 61 = .ok (.ladd, 1) := by decide +kernel
theorem dX0_rateOfCall_62 : decode cX0_rateOfCall 62 = .ok (.sipush 2000, 3) := by decide +kernel
theorem dX0_rateOfCall_65 : decode cX0_rateOfCall 65 = .ok (.invokevirtual 114, 3) := by decide +kernel
theorem dX0_rateOfCall_68 : decode cX0_rateOfCall 68 = .ok (.ireturn, 1) := by decide +kernel
set_option maxRecDepth 20000 in
theorem ggX0_lookUpTo_X0_isGone : GoodIn wsX0_lookUpTo wsX0_isGone := goodIn_r _ [8, 9, 94, 95, 96, 97, 98, 99, 100, 101, 102] (by decide +kernel) (by decide +kernel)
set_option maxRecDepth 20000 in
theorem gX0_lookUpTo_X0_isGone : GoodIn wsX0_lookUpTo (wsV RX0 34 RX0 yX0_isGone wsX0_isGone) := goodIn_app (goodIn_of _ (by decide +kernel)) ggX0_lookUpTo_X0_isGone
set_option maxRecDepth 20000 in
theorem ggX0_lookUpTo_X0_lookAt : GoodIn wsX0_lookUpTo wsX0_lookAt := goodIn_r _ [13, 14, 15, 2, 1, 16, 17, 18, 3, 19, 20, 21, 22, 7, 23, 24, 25, 26, 27, 28, 29, 30, 31, 32, 33, 34, 35, 36, 37, 38, 39, 40, 41, 42, 43, 44, 45, 46, 47, 48, 9, 49, 50, 51, 52, 53, 54, 55, 56, 57, 58, 59, 60, 61, 62, 63, 64, 65, 66, 67, 68, 69, 70, 71, 72, 73, 74, 75, 76, 77, 4, 5, 6, 8, 78, 79, 80, 81, 82, 83, 84, 85, 86, 87, 88, 89, 90, 91, 92, 93, 112, 113, 114, 115, 94, 95, 96, 97, 98, 99, 100, 101, 102, 103, 104, 105, 106, 107, 108, 109, 110, 111] (by decide +kernel) (by decide +kernel)
set_option maxRecDepth 20000 in
theorem gX0_lookUpTo_X0_lookAt : GoodIn wsX0_lookUpTo (wsV RX0 137 RX0 yX0_lookAt wsX0_lookAt) := goodIn_app (goodIn_of _ (by decide +kernel)) ggX0_lookUpTo_X0_lookAt
theorem dX0_lookUpTo_0 : decode cX0_lookUpTo 0 = .ok (.aload_n 0, 1) := by decide +kernel
theorem dX0_lookUpTo_1 : decode cX0_lookUpTo 1 = .ok (.getfield 25, 3) := by decide +kernel
theorem dX0_lookUpTo_4 : decode cX0_lookUpTo 4 = .ok (.istore 4, 2) := by decide +kernel
theorem dX0_lookUpTo_6 : decode cX0_lookUpTo 6 = .ok (.iload 4, 2) := by decide +kernel
theorem dX0_lookUpTo_8 : decode cX0_lookUpTo 8 = .ok (.ifCond .lt 52, 3) := by decide +kernel
theorem dX0_lookUpTo_11 : decode cX0_lookUpTo 11 = .ok (.iload 4, 2) := by decide +kernel
theorem dX0_lookUpTo_13 : decode cX0_lookUpTo 13 = .ok (.aload_n 0, 1) := by decide +kernel
theorem dX0_lookUpTo_14 : decode cX0_lookUpTo 14 = .ok (.getfield 9, 3) := by decide +kernel
theorem dX0_lookUpTo_17 : decode cX0_lookUpTo 17 = .ok (.getfield 66, 3) := by decide +kernel
theorem dX0_lookUpTo_20 : decode cX0_lookUpTo 20 = .ok (.arraylength, 1) := by decide +kernel
theorem dX0_lookUpTo_21 : decode cX0_lookUpTo 21 = .ok (.if_icmp .ge 39, 3) := by decide +kernel
theorem dX0_lookUpTo_24 : decode cX0_lookUpTo 24 = .ok (.aload_n 0, 1) := by decide +kernel
theorem dX0_lookUpTo_25 : decode cX0_lookUpTo 25 = .ok (.invokevirtual 34, 3) := by decide +kernel
theorem dX0_lookUpTo_28 : decode cX0_lookUpTo 28 = .ok (.ifCond .ne 17, 3) := by decide +kernel
theorem dX0_lookUpTo_31 : decode cX0_lookUpTo 31 = .ok (.aload_n 0, 1) := by decide +kernel
theorem dX0_lookUpTo_32 : decode cX0_lookUpTo 32 = .ok (.getfield 9, 3) := by decide +kernel
theorem dX0_lookUpTo_35 : decode cX0_lookUpTo 35 = .ok (.getfield 66, 3) := by decide +kernel
theorem dX0_lookUpTo_38 : decode cX0_lookUpTo 38 = .ok (.iload 4, 2) := by decide +kernel
theorem dX0_lookUpTo_40 : decode cX0_lookUpTo 40 = .ok (.iaload, 1) := by decide +kernel
theorem dX0_lookUpTo_41 : decode cX0_lookUpTo 41 = .ok (.iload_n 1, 1) := by decide +kernel
theorem dX0_lookUpTo_42 : decode cX0_lookUpTo 42 = .ok (.if_icmp .le 4, 3) := by decide +kernel
theorem dX0_lookUpTo_45 : decode cX0_lookUpTo 45 = .ok (.return_, 1) := by decide +kernel
theorem dX0_lookUpTo_46 : decode cX0_lookUpTo 46 = .ok (.aload_n 0, 1) := by decide +kernel
theorem dX0_lookUpTo_47 : decode cX0_lookUpTo 47 = .ok (.iload 4, 2) := by decide +kernel
theorem dX0_lookUpTo_49 : decode cX0_lookUpTo 49 = .ok (.iload_n 2, 1) := by decide +kernel
theorem dX0_lookUpTo_50 : decode cX0_lookUpTo 50 = .ok (.aload_n 3, 1) := by decide +kernel
theorem dX0_lookUpTo_51 : decode cX0_lookUpTo 51 = .ok (.invokevirtual 137, 3) := by decide +kernel
theorem dX0_lookUpTo_54 : decode cX0_lookUpTo 54 = .ok (.iinc 4 1, 3) := by decide +kernel
theorem dX0_lookUpTo_57 : decode cX0_lookUpTo 57 = .ok (.goto (-51), 3) := by decide +kernel
theorem dX0_lookUpTo_60 : decode cX0_lookUpTo 60 = .ok (.return_, 1) := by decide +kernel
set_option maxRecDepth 20000 in
theorem ggX0_lookAt_X0_face : GoodIn wsX0_lookAt wsX0_face := goodIn_r _ [14, 6, 15, 16, 13, 17, 18, 19, 94, 95, 96, 97, 98, 99, 100, 101, 102] (by decide +kernel) (by decide +kernel)
set_option maxRecDepth 20000 in
theorem gX0_lookAt_X0_face : GoodIn wsX0_lookAt (wsV RX0 58 RX0 yX0_face wsX0_face) := goodIn_app (goodIn_of _ (by decide +kernel)) ggX0_lookAt_X0_face
set_option maxRecDepth 20000 in
theorem ggX0_lookAt_X3_couponFor : GoodIn wsX0_lookAt wsX3_couponFor := goodIn_r _ [24, 25, 26, 27, 28, 29, 30, 31, 103, 104, 105, 106, 107, 108, 109, 110, 111] (by decide +kernel) (by decide +kernel)
set_option maxRecDepth 20000 in
theorem gX0_lookAt_X3_couponFor : GoodIn wsX0_lookAt (wsV RX0 82 RX3 yX3_couponFor wsX3_couponFor) := goodIn_app (goodIn_of _ (by decide +kernel)) ggX0_lookAt_X3_couponFor
set_option maxRecDepth 20000 in
theorem ggX0_lookAt_X0_isEnd : GoodIn wsX0_lookAt wsX0_isEnd := goodIn_r _ [35, 3, 8, 94, 95, 96, 97, 98, 99, 100, 101, 102, 103, 104, 105, 106, 107, 108, 109, 110, 111] (by decide +kernel) (by decide +kernel)
set_option maxRecDepth 20000 in
theorem gX0_lookAt_X0_isEnd : GoodIn wsX0_lookAt (wsV RX0 85 RX0 yX0_isEnd wsX0_isEnd) := goodIn_app (goodIn_of _ (by decide +kernel)) ggX0_lookAt_X0_isEnd
set_option maxRecDepth 20000 in
theorem ggX0_lookAt_X0_leave : GoodIn wsX0_lookAt wsX0_leave := goodIn_r _ [39, 40, 2, 94, 95, 96, 97, 98, 99, 100, 101, 102] (by decide +kernel) (by decide +kernel)
set_option maxRecDepth 20000 in
theorem gX0_lookAt_X0_leave : GoodIn wsX0_lookAt (wsV RX0 153 RX0 yX0_leave wsX0_leave) := goodIn_app (goodIn_of _ (by decide +kernel)) ggX0_lookAt_X0_leave
set_option maxRecDepth 20000 in
theorem ggX0_lookAt_X0_sunkOn : GoodIn wsX0_lookAt wsX0_sunkOn := goodIn_r _ [44, 3, 8, 45, 46, 47, 48, 49, 50, 94, 95, 96, 97, 98, 99, 100, 101, 102, 103, 104, 105, 106, 107, 108, 109, 110, 111] (by decide +kernel) (by decide +kernel)
set_option maxRecDepth 20000 in
theorem gX0_lookAt_X0_sunkOn : GoodIn wsX0_lookAt (wsV RX0 88 RX0 yX0_sunkOn wsX0_sunkOn) := goodIn_app (goodIn_of _ (by decide +kernel)) ggX0_lookAt_X0_sunkOn
set_option maxRecDepth 20000 in
theorem ggX0_lookAt_X0_faceOf : GoodIn wsX0_lookAt wsX0_faceOf := goodIn_r _ [17, 18, 19] (by decide +kernel) (by decide +kernel)
set_option maxRecDepth 20000 in
theorem gX0_lookAt_X0_faceOf : GoodIn wsX0_lookAt (va_wsS RX0 54 yX0_faceOf wsX0_faceOf) := goodIn_app (goodIn_of _ (by decide +kernel)) ggX0_lookAt_X0_faceOf
set_option maxRecDepth 20000 in
theorem ggX0_lookAt_X0_isCallDate : GoodIn wsX0_lookAt wsX0_isCallDate := goodIn_r _ [54, 55, 3, 8, 56, 94, 95, 96, 97, 98, 99, 100, 101, 102, 103, 104, 105, 106, 107, 108, 109, 110, 111] (by decide +kernel) (by decide +kernel)
set_option maxRecDepth 20000 in
theorem gX0_lookAt_X0_isCallDate : GoodIn wsX0_lookAt (wsV RX0 124 RX0 yX0_isCallDate wsX0_isCallDate) := goodIn_app (goodIn_of _ (by decide +kernel)) ggX0_lookAt_X0_isCallDate
set_option maxRecDepth 20000 in
theorem ggX0_lookAt_X0_worthAt : GoodIn wsX0_lookAt wsX0_worthAt := goodIn_r _ [60, 3, 19, 61, 8, 62, 63, 64, 65, 66, 67, 23, 68, 69, 70, 71, 72, 13, 73, 40, 74, 75, 76, 77, 78, 79, 80, 81, 82, 83, 84, 85, 15, 16, 17, 18, 20, 21, 22, 24, 25, 26, 27, 28, 29, 30, 31, 32, 33, 34, 35, 41, 42, 43, 44, 45, 46, 47, 48, 49, 50, 94, 95, 96, 97, 98, 99, 100, 101, 102, 103, 104, 105, 106, 107, 108, 109, 110, 111] (by decide +kernel) (by decide +kernel)
set_option maxRecDepth 20000 in
theorem gX0_lookAt_X0_worthAt : GoodIn wsX0_lookAt (wsV RX0 107 RX0 yX0_worthAt wsX0_worthAt) := goodIn_app (goodIn_of _ (by decide +kernel)) ggX0_lookAt_X0_worthAt
set_option maxRecDepth 20000 in
theorem ggX0_lookAt_X0_callPayment : GoodIn wsX0_lookAt wsX0_callPayment := goodIn_r _ [89, 55, 19, 15, 16, 13, 17, 18, 94, 95, 96, 97, 98, 99, 100, 101, 102] (by decide +kernel) (by decide +kernel)
set_option maxRecDepth 20000 in
theorem gX0_lookAt_X0_callPayment : GoodIn wsX0_lookAt (wsV RX0 134 RX0 yX0_callPayment wsX0_callPayment) := goodIn_app (goodIn_of _ (by decide +kernel)) ggX0_lookAt_X0_callPayment
theorem dX0_lookAt_0 : decode cX0_lookAt 0 = .ok (.aload_n 3, 1) := by decide +kernel
theorem dX0_lookAt_1 : decode cX0_lookAt 1 = .ok (.dup, 1) := by decide +kernel
theorem dX0_lookAt_2 : decode cX0_lookAt 2 = .ok (.getfield 141, 3) := by decide +kernel
theorem dX0_lookAt_5 : decode cX0_lookAt 5 = .ok (.aload_n 0, 1) := by decide +kernel
theorem dX0_lookAt_6 : decode cX0_lookAt 6 = .ok (.getfield 147, 3) := by decide +kernel
theorem dX0_lookAt_9 : decode cX0_lookAt 9 = .ok (.i2l, 1) := by decide +kernel
theorem dX0_lookAt_10 : decode cX0_lookAt 10 = .ok (.aload_n 0, 1) := by decide +kernel
theorem dX0_lookAt_11 : decode cX0_lookAt 11 = .ok (.getfield 9, 3) := by decide +kernel
theorem dX0_lookAt_14 : decode cX0_lookAt 14 = .ok (.iload_n 1, 1) := by decide +kernel
theorem dX0_lookAt_15 : decode cX0_lookAt 15 = .ok (.aload_n 0, 1) := by decide +kernel
theorem dX0_lookAt_16 : decode cX0_lookAt 16 = .ok (.invokevirtual 58, 3) := by decide +kernel
theorem dX0_lookAt_19 : decode cX0_lookAt 19 = .ok (.invokevirtual 82, 3) := by decide +kernel
theorem dX0_lookAt_22 : decode cX0_lookAt 22 = .ok (.lmul, 1) := by decide +kernel
theorem dX0_lookAt_23 : decode cX0_lookAt 23 = .ok (.ladd, 1) := by decide +kernel
theorem dX0_lookAt_24 : decode cX0_lookAt 24 = .ok (.putfield 141, 3) := by decide +kernel
theorem dX0_lookAt_27 : decode cX0_lookAt 27 = .ok (.aload_n 0, 1) := by decide +kernel
theorem dX0_lookAt_28 : decode cX0_lookAt 28 = .ok (.iload_n 1, 1) := by decide +kernel
theorem dX0_lookAt_29 : decode cX0_lookAt 29 = .ok (.iconst 1, 1) := by decide +kernel
theorem dX0_lookAt_30 : decode cX0_lookAt 30 = .ok (.iadd, 1) := by decide +kernel
theorem dX0_lookAt_31 : decode cX0_lookAt 31 = .ok (.putfield 25, 3) := by decide +kernel
theorem dX0_lookAt_34 : decode cX0_lookAt 34 = .ok (.aload_n 0, 1) := by decide +kernel
theorem dX0_lookAt_35 : decode cX0_lookAt 35 = .ok (.iload_n 1, 1) := by decide +kernel
theorem dX0_lookAt_36 : decode cX0_lookAt 36 = .ok (.invokevirtual 85, 3) := by decide +kernel
theorem dX0_lookAt_39 : decode cX0_lookAt 39 = .ok (.ifCond .eq 28, 3) := by decide +kernel
theorem dX0_lookAt_42 : decode cX0_lookAt 42 = .ok (.aload_n 3, 1) := by decide +kernel
theorem dX0_lookAt_43 : decode cX0_lookAt 43 = .ok (.dup, 1) := by decide +kernel
theorem dX0_lookAt_44 : decode cX0_lookAt 44 = .ok (.getfield 150, 3) := by decide +kernel
theorem dX0_lookAt_47 : decode cX0_lookAt 47 = .ok (.aload_n 0, 1) := by decide +kernel
theorem dX0_lookAt_48 : decode cX0_lookAt 48 = .ok (.getfield 147, 3) := by decide +kernel
theorem dX0_lookAt_51 : decode cX0_lookAt 51 = .ok (.i2l, 1) := by decide +kernel
theorem dX0_lookAt_52 : decode cX0_lookAt 52 = .ok (.aload_n 0, 1) := by decide +kernel
theorem dX0_lookAt_53 : decode cX0_lookAt 53 = .ok (.invokevirtual 58, 3) := by decide +kernel
theorem dX0_lookAt_56 : decode cX0_lookAt 56 = .ok (.lmul, 1) := by decide +kernel
theorem dX0_lookAt_57 : decode cX0_lookAt 57 = .ok (.ladd, 1) := by decide +kernel
theorem dX0_lookAt_58 : decode cX0_lookAt 58 = .ok (.putfield 150, 3) := by decide +kernel
theorem dX0_lookAt_61 : decode cX0_lookAt 61 = .ok (.aload_n 0, 1) := by decide +kernel
theorem dX0_lookAt_62 : decode cX0_lookAt 62 = .ok (.iconst 1, 1) := by decide +kernel
theorem dX0_lookAt_63 : decode cX0_lookAt 63 = .ok (.invokevirtual 153, 3) := by decide +kernel
theorem dX0_lookAt_66 : decode cX0_lookAt 66 = .ok (.return_, 1) := by decide +kernel
theorem dX0_lookAt_67 : decode cX0_lookAt 67 = .ok (.aload_n 0, 1) := by decide +kernel
theorem dX0_lookAt_68 : decode cX0_lookAt 68 = .ok (.iload_n 1, 1) := by decide +kernel
theorem dX0_lookAt_69 : decode cX0_lookAt 69 = .ok (.aload_n 0, 1) := by decide +kernel
theorem dX0_lookAt_70 : decode cX0_lookAt 70 = .ok (.getfield 15, 3) := by decide +kernel
theorem dX0_lookAt_73 : decode cX0_lookAt 73 = .ok (.invokevirtual 88, 3) := by decide +kernel
theorem dX0_lookAt_76 : decode cX0_lookAt 76 = .ok (.istore 4, 2) := by decide +kernel
theorem dX0_lookAt_78 : decode cX0_lookAt 78 = .ok (.aload_n 3, 1) := by decide +kernel
theorem dX0_lookAt_79 : decode cX0_lookAt 79 = .ok (.dup, 1) := by decide +kernel
theorem dX0_lookAt_80 : decode cX0_lookAt 80 = .ok (.getfield 157, 3) := by decide +kernel
theorem dX0_lookAt_83 : decode cX0_lookAt 83 = .ok (.aload_n 0, 1) := by decide +kernel
theorem dX0_lookAt_84 : decode cX0_lookAt 84 = .ok (.getfield 147, 3) := by decide +kernel
theorem dX0_lookAt_87 : decode cX0_lookAt 87 = .ok (.i2l, 1) := by decide +kernel
theorem dX0_lookAt_88 : decode cX0_lookAt 88 = .ok (.iload 4, 2) := by decide +kernel
theorem dX0_lookAt_90 : decode cX0_lookAt 90 = .ok (.invokestatic 54, 3) := by decide +kernel
theorem dX0_lookAt_93 : decode cX0_lookAt 93 = .ok (.lmul, 1) := by decide +kernel
theorem dX0_lookAt_94 : decode cX0_lookAt 94 = .ok (.ladd, 1) := by decide +kernel
theorem dX0_lookAt_95 : decode cX0_lookAt 95 = .ok (.putfield 157, 3) := by decide +kernel
theorem dX0_lookAt_98 : decode cX0_lookAt 98 = .ok (.aload_n 0, 1) := by decide +kernel
theorem dX0_lookAt_99 : decode cX0_lookAt 99 = .ok (.dup, 1) := by decide +kernel
theorem dX0_lookAt_100 : decode cX0_lookAt 100 = .ok (.getfield 15, 3) := by decide +kernel
theorem dX0_lookAt_103 : decode cX0_lookAt 103 = .ok (.iload 4, 2) := by decide +kernel
theorem dX0_lookAt_105 : decode cX0_lookAt 105 = .ok (.isub, 1) := by decide +kernel
theorem dX0_lookAt_106 : decode cX0_lookAt 106 = .ok (.putfield 15, 3) := by decide +kernel
theorem dX0_lookAt_109 : decode cX0_lookAt 109 = .ok (.aload_n 0, 1) := by decide +kernel
theorem dX0_lookAt_110 : decode cX0_lookAt 110 = .ok (.getfield 15, 3) := by decide +kernel
theorem dX0_lookAt_113 : decode cX0_lookAt 113 = .ok (.ifCond .ne 11, 3) := by decide +kernel
theorem dX0_lookAt_116 : decode cX0_lookAt 116 = .ok (.aload_n 0, 1) := by decide +kernel
theorem dX0_lookAt_117 : decode cX0_lookAt 117 = .ok (.iconst 1, 1) := by decide +kernel
theorem dX0_lookAt_118 : decode cX0_lookAt 118 = .ok (.invokevirtual 153, 3) := by decide +kernel
theorem dX0_lookAt_121 : decode cX0_lookAt 121 = .ok (.goto 69, 3) := by decide +kernel
theorem dX0_lookAt_124 : decode cX0_lookAt 124 = .ok (.aload_n 0, 1) := by decide +kernel
theorem dX0_lookAt_125 : decode cX0_lookAt 125 = .ok (.iload_n 1, 1) := by decide +kernel
theorem dX0_lookAt_126 : decode cX0_lookAt 126 = .ok (.invokevirtual 124, 3) := by decide +kernel
theorem dX0_lookAt_129 : decode cX0_lookAt 129 = .ok (.ifCond .eq 61, 3) := by decide +kernel
theorem dX0_lookAt_132 : decode cX0_lookAt 132 = .ok (.aload_n 0, 1) := by decide +kernel
theorem dX0_lookAt_133 : decode cX0_lookAt 133 = .ok (.aload_n 0, 1) := by decide +kernel
theorem dX0_lookAt_134 : decode cX0_lookAt 134 = .ok (.getfield 9, 3) := by decide +kernel
theorem dX0_lookAt_137 : decode cX0_lookAt 137 = .ok (.getfield 66, 3) := by decide +kernel
theorem dX0_lookAt_140 : decode cX0_lookAt 140 = .ok (.iload_n 1, 1) := by decide +kernel
theorem dX0_lookAt_141 : decode cX0_lookAt 141 = .ok (.iaload, 1) := by decide +kernel
theorem dX0_lookAt_142 : decode cX0_lookAt 142 = .ok (.aload_n 0, 1) := by decide +kernel
theorem dX0_lookAt_143 : decode cX0_lookAt 143 = .ok (.getfield 15, 3) := by decide +kernel
theorem dX0_lookAt_146 : decode cX0_lookAt 146 = .ok (.iload_n 2, 1) := by decide +kernel
theorem dX0_lookAt_147 : decode cX0_lookAt 147 = .ok (.invokevirtual 107, 3) := by decide +kernel
theorem dX0_lookAt_150 : decode cX0_lookAt 150 = .ok (.aload_n 0, 1) := by decide +kernel
theorem dX0_lookAt_151 : decode cX0_lookAt 151 = .ok (.aload_n 0, 1) := by decide +kernel
theorem dX0_lookAt_152 : decode cX0_lookAt 152 = .ok (.getfield 15, 3) := by decide +kernel
theorem dX0_lookAt_155 : decode cX0_lookAt 155 = .ok (.invokevirtual 134, 3) := by decide +kernel
theorem dX0_lookAt_158 : decode cX0_lookAt 158 = .ok (.lcmp, 1) := by decide +kernel
theorem dX0_lookAt_159 : decode cX0_lookAt 159 = .ok (.ifCond .le 31, 3) := by decide +kernel
theorem dX0_lookAt_162 : decode cX0_lookAt 162 = .ok (.aload_n 3, 1) := by decide +kernel
theorem dX0_lookAt_163 : decode cX0_lookAt 163 = .ok (.dup, 1) := by decide +kernel
theorem dX0_lookAt_164 : decode cX0_lookAt 164 = .ok (.getfield 160, 3) := by decide +kernel
theorem dX0_lookAt_167 : decode cX0_lookAt 167 = .ok (.aload_n 0, 1) := by decide +kernel
theorem dX0_lookAt_168 : decode cX0_lookAt 168 = .ok (.getfield 147, 3) := by decide +kernel
theorem dX0_lookAt_171 : decode cX0_lookAt 171 = .ok (.i2l, 1) := by decide +kernel
theorem dX0_lookAt_172 : decode cX0_lookAt 172 = .ok (.aload_n 0, 1) := by decide +kernel
theorem dX0_lookAt_173 : decode cX0_lookAt 173 = .ok (.aload_n 0, 1) := by decide +kernel
theorem dX0_lookAt_174 : decode cX0_lookAt 174 = .ok (.getfield 15, 3) := by decide +kernel
theorem dX0_lookAt_177 : decode cX0_lookAt 177 = .ok (.invokevirtual 134, 3) := by decide +kernel
theorem dX0_lookAt_180 : decode cX0_lookAt 180 = .ok (.lmul, 1) := by decide +kernel
theorem dX0_lookAt_181 : decode cX0_lookAt 181 = .ok (.ladd, 1) := by decide +kernel
theorem dX0_lookAt_182 : decode cX0_lookAt 182 = .ok (.putfield 160, 3) := by decide +kernel
theorem dX0_lookAt_185 : decode cX0_lookAt 185 = .ok (.aload_n 0, 1) := by decide +kernel
theorem dX0_lookAt_186 : decode cX0_lookAt 186 = .ok (.iconst 2, 1) := by decide +kernel
theorem dX0_lookAt_187 : decode cX0_lookAt 187 = .ok (.invokevirtual 153, 3) := by decide +kernel
theorem dX0_lookAt_190 : decode cX0_lookAt 190 = .ok (.return_, 1) := by decide +kernel
theorem dX0_leave_0 : decode cX0_leave 0 = .ok (.aload_n 0, 1) := by decide +kernel
theorem dX0_leave_1 : decode cX0_leave 1 = .ok (.iload_n 1, 1) := by decide +kernel
theorem dX0_leave_2 : decode cX0_leave 2 = .ok (.putfield 28, 3) := by decide +kernel
theorem dX0_leave_5 : decode cX0_leave 5 = .ok (.aload_n 0, 1) := by decide +kernel
theorem dX0_leave_6 : decode cX0_leave 6 = .ok (.iconst 0, 1) := by decide +kernel
theorem dX0_leave_7 : decode cX0_leave 7 = .ok (.putfield 147, 3) := by decide +kernel
theorem dX0_leave_10 : decode cX0_leave 10 = .ok (.return_, 1) := by decide +kernel
set_option maxRecDepth 20000 in
theorem ggX0_paymentsIn_X3_firstBehind : GoodIn wsX0_paymentsIn wsX3_firstBehind := goodIn_r _ [8, 9, 58, 59, 60, 61, 62, 63, 64, 65, 66] (by decide +kernel) (by decide +kernel)
set_option maxRecDepth 20000 in
theorem gX0_paymentsIn_X3_firstBehind : GoodIn wsX0_paymentsIn (wsV RX0 19 RX3 yX3_firstBehind wsX3_firstBehind) := goodIn_app (goodIn_of _ (by decide +kernel)) ggX0_paymentsIn_X3_firstBehind
set_option maxRecDepth 20000 in
theorem ggX0_paymentsIn_X1_yearOf : GoodIn wsX0_paymentsIn wsX1_yearOf := goodIn_r _ [13] (by decide +kernel) (by decide +kernel)
set_option maxRecDepth 20000 in
theorem gX0_paymentsIn_X1_yearOf : GoodIn wsX0_paymentsIn (va_wsS RX0 45 yX1_yearOf wsX1_yearOf) := goodIn_app (goodIn_of _ (by decide +kernel)) ggX0_paymentsIn_X1_yearOf
set_option maxRecDepth 20000 in
theorem ggX0_paymentsIn_X0_paymentOn : GoodIn wsX0_paymentsIn wsX0_paymentOn := goodIn_r _ [18, 2, 19, 20, 17, 21, 22, 23, 24, 25, 26, 7, 27, 28, 29, 30, 31, 32, 33, 34, 35, 36, 37, 38, 3, 39, 40, 41, 42, 43, 44, 45, 46, 47, 48, 49, 50, 51, 52, 53, 54, 55, 56, 57, 58, 59, 60, 61, 62, 63, 64, 65, 66] (by decide +kernel) (by decide +kernel)
set_option maxRecDepth 20000 in
theorem gX0_paymentsIn_X0_paymentOn : GoodIn wsX0_paymentsIn (wsV RX0 101 RX0 yX0_paymentOn wsX0_paymentOn) := goodIn_app (goodIn_of _ (by decide +kernel)) ggX0_paymentsIn_X0_paymentOn
set_option maxRecDepth 20000 in
theorem ggX0_paymentsIn_X0_sunkOn : GoodIn wsX0_paymentsIn wsX0_sunkOn := goodIn_r _ [42, 2, 3, 43, 44, 45, 46, 47, 48, 49, 50, 51, 52, 53, 54, 55, 56, 57, 58, 59, 60, 61, 62, 63, 64, 65, 66] (by decide +kernel) (by decide +kernel)
set_option maxRecDepth 20000 in
theorem gX0_paymentsIn_X0_sunkOn : GoodIn wsX0_paymentsIn (wsV RX0 88 RX0 yX0_sunkOn wsX0_sunkOn) := goodIn_app (goodIn_of _ (by decide +kernel)) ggX0_paymentsIn_X0_sunkOn
theorem dX0_paymentsIn_0 : decode cX0_paymentsIn 0 = .ok (.lconst 0, 1) := by decide +kernel
theorem dX0_paymentsIn_1 : decode cX0_paymentsIn 1 = .ok (.lstore_n 3, 1) := by decide +kernel
theorem dX0_paymentsIn_2 : decode cX0_paymentsIn 2 = .ok (.aload_n 0, 1) := by decide +kernel
theorem dX0_paymentsIn_3 : decode cX0_paymentsIn 3 = .ok (.getfield 15, 3) := by decide +kernel
theorem dX0_paymentsIn_6 : decode cX0_paymentsIn 6 = .ok (.istore 5, 2) := by decide +kernel
theorem dX0_paymentsIn_8 : decode cX0_paymentsIn 8 = .ok (.aload_n 0, 1) := by decide +kernel
theorem dX0_paymentsIn_9 : decode cX0_paymentsIn 9 = .ok (.getfield 9, 3) := by decide +kernel
theorem dX0_paymentsIn_12 : decode cX0_paymentsIn 12 = .ok (.iload_n 2, 1) := by decide +kernel
theorem dX0_paymentsIn_13 : decode cX0_paymentsIn 13 = .ok (.invokevirtual 19, 3) := by decide +kernel
theorem dX0_paymentsIn_16 : decode cX0_paymentsIn 16 = .ok (.istore 6, 2) := by decide +kernel
theorem dX0_paymentsIn_18 : decode cX0_paymentsIn 18 = .ok (.iload 6, 2) := by decide +kernel
theorem dX0_paymentsIn_20 : decode cX0_paymentsIn 20 = .ok (.aload_n 0, 1) := by decide +kernel
theorem dX0_paymentsIn_21 : decode cX0_paymentsIn 21 = .ok (.getfield 9, 3) := by decide +kernel
theorem dX0_paymentsIn_24 : decode cX0_paymentsIn 24 = .ok (.getfield 66, 3) := by decide +kernel
theorem dX0_paymentsIn_27 : decode cX0_paymentsIn 27 = .ok (.arraylength, 1) := by decide +kernel
theorem dX0_paymentsIn_28 : decode cX0_paymentsIn 28 = .ok (.if_icmp .ge 50, 3) := by decide +kernel
theorem dX0_paymentsIn_31 : decode cX0_paymentsIn 31 = .ok (.aload_n 0, 1) := by decide +kernel
theorem dX0_paymentsIn_32 : decode cX0_paymentsIn 32 = .ok (.getfield 9, 3) := by decide +kernel
theorem dX0_paymentsIn_35 : decode cX0_paymentsIn 35 = .ok (.getfield 66, 3) := by decide +kernel
theorem dX0_paymentsIn_38 : decode cX0_paymentsIn 38 = .ok (.iload 6, 2) := by decide +kernel
theorem dX0_paymentsIn_40 : decode cX0_paymentsIn 40 = .ok (.iaload, 1) := by decide +kernel
theorem dX0_paymentsIn_41 : decode cX0_paymentsIn 41 = .ok (.invokestatic 45, 3) := by decide +kernel
theorem dX0_paymentsIn_44 : decode cX0_paymentsIn 44 = .ok (.iload_n 1, 1) := by decide +kernel
theorem dX0_paymentsIn_45 : decode cX0_paymentsIn 45 = .ok (.if_icmp .ne 14, 3) := by decide +kernel
theorem dX0_paymentsIn_48 : decode cX0_paymentsIn 48 = .ok (.lload_n 3, 1) := by decide +kernel
theorem dX0_paymentsIn_49 : decode cX0_paymentsIn 49 = .ok (.aload_n 0, 1) := by decide +kernel
theorem dX0_paymentsIn_50 : decode cX0_paymentsIn 50 = .ok (.iload 6, 2) := by decide +kernel
theorem dX0_paymentsIn_52 : decode cX0_paymentsIn 52 = .ok (.iload 5, 2) := by decide +kernel
theorem dX0_paymentsIn_54 : decode cX0_paymentsIn 54 = .ok (.invokevirtual 101, 3) := by decide +kernel
theorem dX0_paymentsIn_57 : decode cX0_paymentsIn 57 = .ok (.ladd, 1) := by decide +kernel
theorem dX0_paymentsIn_58 : decode cX0_paymentsIn 58 = .ok (.lstore_n 3, 1) := by decide +kernel
theorem dX0_paymentsIn_59 : decode cX0_paymentsIn 59 = .ok (.iload 5, 2) := by decide +kernel
theorem dX0_paymentsIn_61 : decode cX0_paymentsIn 61 = .ok (.aload_n 0, 1) := by decide +kernel
theorem dX0_paymentsIn_62 : decode cX0_paymentsIn 62 = .ok (.iload 6, 2) := by decide +kernel
theorem dX0_paymentsIn_64 : decode cX0_paymentsIn 64 = .ok (.iload 5, 2) := by decide +kernel
theorem dX0_paymentsIn_66 : decode cX0_paymentsIn 66 = .ok (.invokevirtual 88, 3) := by decide +kernel
theorem dX0_paymentsIn_69 : decode cX0_paymentsIn 69 = .ok (.isub, 1) := by decide +kernel
theorem dX0_paymentsIn_70 : decode cX0_paymentsIn 70 = .ok (.istore 5, 2) := by decide +kernel
theorem dX0_paymentsIn_72 : decode cX0_paymentsIn 72 = .ok (.iinc 6 1, 3) := by decide +kernel
theorem dX0_paymentsIn_75 : decode cX0_paymentsIn 75 = .ok (.goto (-57), 3) := by decide +kernel
theorem dX0_paymentsIn_78 : decode cX0_paymentsIn 78 = .ok (.lload_n 3, 1) := by decide +kernel
theorem dX0_paymentsIn_79 : decode cX0_paymentsIn 79 = .ok (.lreturn, 1) := by decide +kernel
set_option maxRecDepth 20000 in
theorem ggX0_tell_X0_face : GoodIn wsX0_tell wsX0_face := goodIn_r _ [16, 7, 17, 18, 15, 19, 20, 21, 26, 27, 28, 29, 30, 31, 32, 33, 34] (by decide +kernel) (by decide +kernel)
set_option maxRecDepth 20000 in
theorem gX0_tell_X0_face : GoodIn wsX0_tell (wsV RX0 58 RX0 yX0_face wsX0_face) := goodIn_app (goodIn_of _ (by decide +kernel)) ggX0_tell_X0_face
set_option maxRecDepth 20000 in
theorem ggX0_tell_X0_isGone : GoodIn wsX0_tell wsX0_isGone := goodIn_r _ [25, 10, 26, 27, 28, 29, 30, 31, 32, 33, 34] (by decide +kernel) (by decide +kernel)
set_option maxRecDepth 20000 in
theorem gX0_tell_X0_isGone : GoodIn wsX0_tell (wsV RX0 34 RX0 yX0_isGone wsX0_isGone) := goodIn_app (goodIn_of _ (by decide +kernel)) ggX0_tell_X0_isGone
theorem dX0_tell_0 : decode cX0_tell 0 = .ok (.iload_n 1, 1) := by decide +kernel
theorem dX0_tell_1 : decode cX0_tell 1 = .ok (.tableswitch 136 0 9 #[55, 63, 71, 79, 87, 95, 100, 106, 115, 131], 55) := by decide +kernel
theorem dX0_tell_56 : decode cX0_tell 56 = .ok (.aload_n 0, 1) := by decide +kernel
theorem dX0_tell_57 : decode cX0_tell 57 = .ok (.getfield 9, 3) := by decide +kernel
theorem dX0_tell_60 : decode cX0_tell 60 = .ok (.getfield 31, 3) := by decide +kernel
theorem dX0_tell_63 : decode cX0_tell 63 = .ok (.ireturn, 1) := by decide +kernel
theorem dX0_tell_64 : decode cX0_tell 64 = .ok (.aload_n 0, 1) := by decide +kernel
theorem dX0_tell_65 : decode cX0_tell 65 = .ok (.getfield 9, 3) := by decide +kernel
theorem dX0_tell_68 : decode cX0_tell 68 = .ok (.getfield 42, 3) := by decide +kernel
theorem dX0_tell_71 : decode cX0_tell 71 = .ok (.ireturn, 1) := by decide +kernel
theorem dX0_tell_72 : decode cX0_tell 72 = .ok (.aload_n 0, 1) := by decide +kernel
theorem dX0_tell_73 : decode cX0_tell 73 = .ok (.getfield 9, 3) := by decide +kernel
theorem dX0_tell_76 : decode cX0_tell 76 = .ok (.getfield 163, 3) := by decide +kernel
theorem dX0_tell_79 : decode cX0_tell 79 = .ok (.ireturn, 1) := by decide +kernel
theorem dX0_tell_80 : decode cX0_tell 80 = .ok (.aload_n 0, 1) := by decide +kernel
theorem dX0_tell_81 : decode cX0_tell 81 = .ok (.getfield 9, 3) := by decide +kernel
theorem dX0_tell_84 : decode cX0_tell 84 = .ok (.getfield 91, 3) := by decide +kernel
theorem dX0_tell_87 : decode cX0_tell 87 = .ok (.ireturn, 1) := by decide +kernel
theorem dX0_tell_88 : decode cX0_tell 88 = .ok (.aload_n 0, 1) := by decide +kernel
theorem dX0_tell_89 : decode cX0_tell 89 = .ok (.getfield 9, 3) := by decide +kernel
theorem dX0_tell_92 : decode cX0_tell 92 = .ok (.getfield 166, 3) := by decide +kernel
theorem dX0_tell_95 : decode cX0_tell 95 = .ok (.ireturn, 1) := by decide +kernel
theorem dX0_tell_96 : decode cX0_tell 96 = .ok (.aload_n 0, 1) := by decide +kernel
theorem dX0_tell_97 : decode cX0_tell 97 = .ok (.getfield 15, 3) := by decide +kernel
theorem dX0_tell_100 : decode cX0_tell 100 = .ok (.ireturn, 1) := by decide +kernel
theorem dX0_tell_101 : decode cX0_tell 101 = .ok (.aload_n 0, 1) := by decide +kernel
theorem dX0_tell_102 : decode cX0_tell 102 = .ok (.invokevirtual 58, 3) := by decide +kernel
theorem dX0_tell_105 : decode cX0_tell 105 = .ok (.l2i, 1) := by decide +kernel
theorem dX0_tell_106 : decode cX0_tell 106 = .ok (.ireturn, 1) := by decide +kernel
theorem dX0_tell_107 : decode cX0_tell 107 = .ok (.aload_n 0, 1) := by decide +kernel
theorem dX0_tell_108 : decode cX0_tell 108 = .ok (.getfield 9, 3) := by decide +kernel
theorem dX0_tell_111 : decode cX0_tell 111 = .ok (.getfield 66, 3) := by decide +kernel
theorem dX0_tell_114 : decode cX0_tell 114 = .ok (.arraylength, 1) := by decide +kernel
theorem dX0_tell_115 : decode cX0_tell 115 = .ok (.ireturn, 1) := by decide +kernel
theorem dX0_tell_116 : decode cX0_tell 116 = .ok (.aload_n 0, 1) := by decide +kernel
theorem dX0_tell_117 : decode cX0_tell 117 = .ok (.invokevirtual 34, 3) := by decide +kernel
theorem dX0_tell_120 : decode cX0_tell 120 = .ok (.ifCond .eq 7, 3) := by decide +kernel
theorem dX0_tell_123 : decode cX0_tell 123 = .ok (.iconst (-1), 1) := by decide +kernel
theorem dX0_tell_124 : decode cX0_tell 124 = .ok (.goto 7, 3) := by decide +kernel
theorem dX0_tell_127 : decode cX0_tell 127 = .ok (.aload_n 0, 1) := by decide +kernel
theorem dX0_tell_128 : decode cX0_tell 128 = .ok (.getfield 25, 3) := by decide +kernel
theorem dX0_tell_131 : decode cX0_tell 131 = .ok (.ireturn, 1) := by decide +kernel
theorem dX0_tell_132 : decode cX0_tell 132 = .ok (.aload_n 0, 1) := by decide +kernel
theorem dX0_tell_133 : decode cX0_tell 133 = .ok (.getfield 28, 3) := by decide +kernel
theorem dX0_tell_136 : decode cX0_tell 136 = .ok (.ireturn, 1) := by decide +kernel
theorem dX0_tell_137 : decode cX0_tell 137 = .ok (.aload_n 0, 1) := by decide +kernel
theorem dX0_tell_138 : decode cX0_tell 138 = .ok (.getfield 147, 3) := by decide +kernel
theorem dX0_tell_141 : decode cX0_tell 141 = .ok (.ireturn, 1) := by decide +kernel
set_option maxRecDepth 20000 in
theorem ggX0_addTo_X0_tell : GoodIn wsX0_addTo wsX0_tell := goodIn_r _ [9, 2, 10, 11, 12, 13, 14, 15, 3, 16, 17, 18, 19, 20, 21, 8, 22, 23, 24, 25, 4, 26, 27, 28, 29, 30, 95, 96, 97, 98, 99, 100, 101, 102, 103, 104, 105, 106, 107, 108, 109, 110, 111, 112] (by decide +kernel) (by decide +kernel)
set_option maxRecDepth 20000 in
theorem gX0_addTo_X0_tell : GoodIn wsX0_addTo (wsV RX0 171 RX0 yX0_tell wsX0_tell) := goodIn_app (goodIn_of _ (by decide +kernel)) ggX0_addTo_X0_tell
set_option maxRecDepth 20000 in
theorem ggX0_addTo_X0_accruedOn : GoodIn wsX0_addTo wsX0_accruedOn := goodIn_r _ [34, 2, 27, 28, 29, 8, 30, 17, 19, 20, 21, 22, 15, 23, 24, 25, 4, 26, 35, 36, 37, 38, 39, 40, 41, 42, 43, 44, 45, 46, 47, 48, 49, 50, 51, 52, 53, 54, 55, 56, 57, 58, 59, 60, 61, 62, 63, 64, 65, 66, 67, 68, 69, 70, 71, 72, 73, 74, 75, 76, 77, 78, 79, 80, 81, 82, 83, 84, 85, 86, 87, 88, 95, 96, 97, 98, 99, 100, 101, 102, 103, 104, 105, 106, 107, 108, 109, 110, 111, 112] (by decide +kernel) (by decide +kernel)
set_option maxRecDepth 20000 in
theorem gX0_addTo_X0_accruedOn : GoodIn wsX0_addTo (wsV RX0 174 RX0 yX0_accruedOn wsX0_accruedOn) := goodIn_app (goodIn_of _ (by decide +kernel)) ggX0_addTo_X0_accruedOn
set_option maxRecDepth 20000 in
theorem ggX0_addTo_X3_couponFor : GoodIn wsX0_addTo wsX3_couponFor := goodIn_r _ [92, 54, 40, 93, 42, 94, 55, 56, 104, 105, 106, 107, 108, 109, 110, 111, 112] (by decide +kernel) (by decide +kernel)
set_option maxRecDepth 20000 in
theorem gX0_addTo_X3_couponFor : GoodIn wsX0_addTo (wsV RX0 82 RX3 yX3_couponFor wsX3_couponFor) := goodIn_app (goodIn_of _ (by decide +kernel)) ggX0_addTo_X3_couponFor
theorem dX0_addTo_0 : decode cX0_addTo 0 = .ok (.lload_n 1, 1) := by decide +kernel
theorem dX0_addTo_1 : decode cX0_addTo 1 = .ok (.lstore 4, 2) := by decide +kernel
theorem dX0_addTo_3 : decode cX0_addTo 3 = .ok (.iconst 0, 1) := by decide +kernel
theorem dX0_addTo_4 : decode cX0_addTo 4 = .ok (.istore 6, 2) := by decide +kernel
theorem dX0_addTo_6 : decode cX0_addTo 6 = .ok (.iload 6, 2) := by decide +kernel
theorem dX0_addTo_8 : decode cX0_addTo 8 = .ok (.bipush 10, 2) := by decide +kernel
theorem dX0_addTo_10 : decode cX0_addTo 10 = .ok (.if_icmp .gt 25, 3) := by decide +kernel
theorem dX0_addTo_13 : decode cX0_addTo 13 = .ok (.lload 4, 2) := by decide +kernel
theorem dX0_addTo_15 : decode cX0_addTo 15 = .ok (.ldc2_w 169, 3) := by decide +kernel
theorem dX0_addTo_18 : decode cX0_addTo 18 = .ok (.lmul, 1) := by decide +kernel
theorem dX0_addTo_19 : decode cX0_addTo 19 = .ok (.aload_n 0, 1) := by decide +kernel
theorem dX0_addTo_20 : decode cX0_addTo 20 = .ok (.iload 6, 2) := by decide +kernel
theorem dX0_addTo_22 : decode cX0_addTo 22 = .ok (.invokevirtual 171, 3) := by decide +kernel
theorem dX0_addTo_25 : decode cX0_addTo 25 = .ok (.i2l, 1) := by decide +kernel
theorem dX0_addTo_26 : decode cX0_addTo 26 = .ok (.ladd, 1) := by decide +kernel
theorem dX0_addTo_27 : decode cX0_addTo 27 = .ok (.lstore 4, 2) := by decide +kernel
theorem dX0_addTo_29 : decode cX0_addTo 29 = .ok (.iinc 6 1, 3) := by decide +kernel
theorem dX0_addTo_32 : decode cX0_addTo 32 = .ok (.goto (-26), 3) := by decide +kernel
theorem dX0_addTo_35 : decode cX0_addTo 35 = .ok (.lload 4, 2) := by decide +kernel
theorem dX0_addTo_37 : decode cX0_addTo 37 = .ok (.ldc2_w 169, 3) := by decide +kernel
theorem dX0_addTo_40 : decode cX0_addTo 40 = .ok (.lmul, 1) := by decide +kernel
theorem dX0_addTo_41 : decode cX0_addTo 41 = .ok (.aload_n 0, 1) := by decide +kernel
theorem dX0_addTo_42 : decode cX0_addTo 42 = .ok (.iload_n 3, 1) := by decide +kernel
theorem dX0_addTo_43 : decode cX0_addTo 43 = .ok (.invokevirtual 174, 3) := by decide +kernel
theorem dX0_addTo_46 : decode cX0_addTo 46 = .ok (.ladd, 1) := by decide +kernel
theorem dX0_addTo_47 : decode cX0_addTo 47 = .ok (.lstore 4, 2) := by decide +kernel
theorem dX0_addTo_49 : decode cX0_addTo 49 = .ok (.iconst 0, 1) := by decide +kernel
theorem dX0_addTo_50 : decode cX0_addTo 50 = .ok (.istore 6, 2) := by decide +kernel
theorem dX0_addTo_52 : decode cX0_addTo 52 = .ok (.iload 6, 2) := by decide +kernel
theorem dX0_addTo_54 : decode cX0_addTo 54 = .ok (.aload_n 0, 1) := by decide +kernel
theorem dX0_addTo_55 : decode cX0_addTo 55 = .ok (.getfield 9, 3) := by decide +kernel
theorem dX0_addTo_58 : decode cX0_addTo 58 = .ok (.getfield 66, 3) := by decide +kernel
theorem dX0_addTo_61 : decode cX0_addTo 61 = .ok (.arraylength, 1) := by decide +kernel
theorem dX0_addTo_62 : decode cX0_addTo 62 = .ok (.if_icmp .ge 50, 3) := by decide +kernel
theorem dX0_addTo_65 : decode cX0_addTo 65 = .ok (.lload 4, 2) := by decide +kernel
theorem dX0_addTo_67 : decode cX0_addTo 67 = .ok (.ldc2_w 169, 3) := by decide +kernel
theorem dX0_addTo_70 : decode cX0_addTo 70 = .ok (.lmul, 1) := by decide +kernel
theorem dX0_addTo_71 : decode cX0_addTo 71 = .ok (.aload_n 0, 1) := by decide +kernel
theorem dX0_addTo_72 : decode cX0_addTo 72 = .ok (.getfield 9, 3) := by decide +kernel
theorem dX0_addTo_75 : decode cX0_addTo 75 = .ok (.getfield 66, 3) := by decide +kernel
theorem dX0_addTo_78 : decode cX0_addTo 78 = .ok (.iload 6, 2) := by decide +kernel
theorem dX0_addTo_80 : decode cX0_addTo 80 = .ok (.iaload, 1) := by decide +kernel
theorem dX0_addTo_81 : decode cX0_addTo 81 = .ok (.i2l, 1) := by decide +kernel
theorem dX0_addTo_82 : decode cX0_addTo 82 = .ok (.ladd, 1) := by decide +kernel
theorem dX0_addTo_83 : decode cX0_addTo 83 = .ok (.lstore 4, 2) := by decide +kernel
theorem dX0_addTo_85 : decode cX0_addTo 85 = .ok (.lload 4, 2) := by decide +kernel
theorem dX0_addTo_87 : decode cX0_addTo 87 = .ok (.ldc2_w 169, 3) := by decide +kernel
theorem dX0_addTo_90 : decode cX0_addTo 90 = .ok (.lmul, 1) := by decide +kernel
theorem dX0_addTo_91 : decode cX0_addTo 91 = .ok (.aload_n 0, 1) := by decide +kernel
theorem dX0_addTo_92 : decode cX0_addTo 92 = .ok (.getfield 9, 3) := by decide +kernel
theorem dX0_addTo_95 : decode cX0_addTo 95 = .ok (.iload 6, 2) := by decide +kernel
theorem dX0_addTo_97 : decode cX0_addTo 97 = .ok (.ldc2_w 50, 3) := by decide +kernel
theorem dX0_addTo_100 : decode cX0_addTo 100 = .ok (.invokevirtual 82, 3) := by decide +kernel
theorem dX0_addTo_103 : decode cX0_addTo 103 = .ok (.ladd, 1) := by decide +kernel
theorem dX0_addTo_104 : decode cX0_addTo 104 = .ok (.lstore 4, 2) := by decide +kernel
theorem dX0_addTo_106 : decode cX0_addTo 106 = .ok (.iinc 6 1, 3) := by decide +kernel
theorem dX0_addTo_109 : decode cX0_addTo 109 = .ok (.goto (-57), 3) := by decide +kernel
theorem dX0_addTo_112 : decode cX0_addTo 112 = .ok (.lload 4, 2) := by decide +kernel
theorem dX0_addTo_114 : decode cX0_addTo 114 = .ok (.lreturn, 1) := by decide +kernel
theorem dX1_yearOf_0 : decode cX1_yearOf 0 = .ok (.iload_n 0, 1) := by decide +kernel
theorem dX1_yearOf_1 : decode cX1_yearOf 1 = .ok (.sipush 10000, 3) := by decide +kernel
theorem dX1_yearOf_4 : decode cX1_yearOf 4 = .ok (.idiv, 1) := by decide +kernel
theorem dX1_yearOf_5 : decode cX1_yearOf 5 = .ok (.ireturn, 1) := by decide +kernel
theorem dX1_monthOf_0 : decode cX1_monthOf 0 = .ok (.iload_n 0, 1) := by decide +kernel
theorem dX1_monthOf_1 : decode cX1_monthOf 1 = .ok (.bipush 100, 2) := by decide +kernel
theorem dX1_monthOf_3 : decode cX1_monthOf 3 = .ok (.idiv, 1) := by decide +kernel
theorem dX1_monthOf_4 : decode cX1_monthOf 4 = .ok (.bipush 100, 2) := by decide +kernel
theorem dX1_monthOf_6 : decode cX1_monthOf 6 = .ok (.irem, 1) := by decide +kernel
theorem dX1_monthOf_7 : decode cX1_monthOf 7 = .ok (.ireturn, 1) := by decide +kernel
theorem dX1_dayOf_0 : decode cX1_dayOf 0 = .ok (.iload_n 0, 1) := by decide +kernel
theorem dX1_dayOf_1 : decode cX1_dayOf 1 = .ok (.bipush 100, 2) := by decide +kernel
theorem dX1_dayOf_3 : decode cX1_dayOf 3 = .ok (.irem, 1) := by decide +kernel
theorem dX1_dayOf_4 : decode cX1_dayOf 4 = .ok (.ireturn, 1) := by decide +kernel
set_option maxRecDepth 20000 in
theorem ggX1_isDate_X1_monthOf : GoodIn wsX1_isDate wsX1_monthOf := goodIn_r _ [6] (by decide +kernel) (by decide +kernel)
set_option maxRecDepth 20000 in
theorem gX1_isDate_X1_monthOf : GoodIn wsX1_isDate (va_wsS RX1 13 yX1_monthOf wsX1_monthOf) := goodIn_app (goodIn_of _ (by decide +kernel)) ggX1_isDate_X1_monthOf
set_option maxRecDepth 20000 in
theorem ggX1_isDate_X1_dayOf : GoodIn wsX1_isDate wsX1_dayOf := goodIn_r _ [9] (by decide +kernel) (by decide +kernel)
set_option maxRecDepth 20000 in
theorem gX1_isDate_X1_dayOf : GoodIn wsX1_isDate (va_wsS RX1 17 yX1_dayOf wsX1_dayOf) := goodIn_app (goodIn_of _ (by decide +kernel)) ggX1_isDate_X1_dayOf
set_option maxRecDepth 20000 in
theorem ggX1_isDate_X1_yearOf : GoodIn wsX1_isDate wsX1_yearOf := goodIn_r _ [12] (by decide +kernel) (by decide +kernel)
set_option maxRecDepth 20000 in
theorem gX1_isDate_X1_yearOf : GoodIn wsX1_isDate (va_wsS RX1 20 yX1_yearOf wsX1_yearOf) := goodIn_app (goodIn_of _ (by decide +kernel)) ggX1_isDate_X1_yearOf
set_option maxRecDepth 20000 in
theorem ggX1_isDate_X1_monthLength : GoodIn wsX1_isDate wsX1_monthLength := goodIn_r _ [15] (by decide +kernel) (by decide +kernel)
set_option maxRecDepth 20000 in
theorem gX1_isDate_X1_monthLength : GoodIn wsX1_isDate (va_wsS RX1 23 yX1_monthLength wsX1_monthLength) := goodIn_app (goodIn_of _ (by decide +kernel)) ggX1_isDate_X1_monthLength
theorem dX1_isDate_0 : decode cX1_isDate 0 = .ok (.iload_n 0, 1) := by decide +kernel
theorem dX1_isDate_1 : decode cX1_isDate 1 = .ok (.ldc 11, 2) := by decide +kernel
theorem dX1_isDate_3 : decode cX1_isDate 3 = .ok (.if_icmp .lt 9, 3) := by decide +kernel
theorem dX1_isDate_6 : decode cX1_isDate 6 = .ok (.iload_n 0, 1) := by decide +kernel
theorem dX1_isDate_7 : decode cX1_isDate 7 = .ok (.ldc 12, 2) := by decide +kernel
theorem dX1_isDate_9 : decode cX1_isDate 9 = .ok (.if_icmp .le 5, 3) := by decide +kernel
theorem dX1_isDate_12 : decode cX1_isDate 12 = .ok (.iconst 0, 1) := by decide +kernel
theorem dX1_isDate_13 : decode cX1_isDate 13 = .ok (.ireturn, 1) := by decide +kernel
theorem dX1_isDate_14 : decode cX1_isDate 14 = .ok (.iload_n 0, 1) := by decide +kernel
theorem dX1_isDate_15 : decode cX1_isDate 15 = .ok (.invokestatic 13, 3) := by decide +kernel
theorem dX1_isDate_18 : decode cX1_isDate 18 = .ok (.istore_n 1, 1) := by decide +kernel
theorem dX1_isDate_19 : decode cX1_isDate 19 = .ok (.iload_n 0, 1) := by decide +kernel
theorem dX1_isDate_20 : decode cX1_isDate 20 = .ok (.invokestatic 17, 3) := by decide +kernel
theorem dX1_isDate_23 : decode cX1_isDate 23 = .ok (.istore_n 2, 1) := by decide +kernel
theorem dX1_isDate_24 : decode cX1_isDate 24 = .ok (.iload_n 1, 1) := by decide +kernel
theorem dX1_isDate_25 : decode cX1_isDate 25 = .ok (.iconst 1, 1) := by decide +kernel
theorem dX1_isDate_26 : decode cX1_isDate 26 = .ok (.if_icmp .lt 30, 3) := by decide +kernel
theorem dX1_isDate_29 : decode cX1_isDate 29 = .ok (.iload_n 1, 1) := by decide +kernel
theorem dX1_isDate_30 : decode cX1_isDate 30 = .ok (.bipush 12, 2) := by decide +kernel
theorem dX1_isDate_32 : decode cX1_isDate 32 = .ok (.if_icmp .gt 24, 3) := by decide +kernel
theorem dX1_isDate_35 : decode cX1_isDate 35 = .ok (.iload_n 2, 1) := by decide +kernel
theorem dX1_isDate_36 : decode cX1_isDate 36 = .ok (.iconst 1, 1) := by decide +kernel
theorem dX1_isDate_37 : decode cX1_isDate 37 = .ok (.if_icmp .lt 19, 3) := by decide +kernel
theorem dX1_isDate_40 : decode cX1_isDate 40 = .ok (.iload_n 2, 1) := by decide +kernel
theorem dX1_isDate_41 : decode cX1_isDate 41 = .ok (.iload_n 0, 1) := by decide +kernel
theorem dX1_isDate_42 : decode cX1_isDate 42 = .ok (.invokestatic 20, 3) := by decide +kernel
theorem dX1_isDate_45 : decode cX1_isDate 45 = .ok (.iload_n 1, 1) := by decide +kernel
theorem dX1_isDate_46 : decode cX1_isDate 46 = .ok (.invokestatic 23, 3) := by decide +kernel
theorem dX1_isDate_49 : decode cX1_isDate 49 = .ok (.if_icmp .gt 7, 3) := by decide +kernel
theorem dX1_isDate_52 : decode cX1_isDate 52 = .ok (.iconst 1, 1) := by decide +kernel
theorem dX1_isDate_53 : decode cX1_isDate 53 = .ok (.goto 4, 3) := by decide +kernel
theorem dX1_isDate_56 : decode cX1_isDate 56 = .ok (.iconst 0, 1) := by decide +kernel
theorem dX1_isDate_57 : decode cX1_isDate 57 = .ok (.ireturn, 1) := by decide +kernel
theorem dX1_monthLength_0 : decode cX1_monthLength 0 = .ok (.iload_n 1, 1) := by decide +kernel
theorem dX1_monthLength_1 : decode cX1_monthLength 1 = .ok (.iconst 2, 1) := by decide +kernel
theorem dX1_monthLength_2 : decode cX1_monthLength 2 = .ok (.if_icmp .ne 17, 3) := by decide +kernel
theorem dX1_monthLength_5 : decode cX1_monthLength 5 = .ok (.iload_n 0, 1) := by decide +kernel
theorem dX1_monthLength_6 : decode cX1_monthLength 6 = .ok (.iconst 4, 1) := by decide +kernel
theorem dX1_monthLength_7 : decode cX1_monthLength 7 = .ok (.irem, 1) := by decide +kernel
theorem dX1_monthLength_8 : decode cX1_monthLength 8 = .ok (.ifCond .ne 8, 3) := by decide +kernel
theorem dX1_monthLength_11 : decode cX1_monthLength 11 = .ok (.bipush 29, 2) := by decide +kernel
theorem dX1_monthLength_13 : decode cX1_monthLength 13 = .ok (.goto 5, 3) := by decide +kernel
theorem dX1_monthLength_16 : decode cX1_monthLength 16 = .ok (.bipush 28, 2) := by decide +kernel
theorem dX1_monthLength_18 : decode cX1_monthLength 18 = .ok (.ireturn, 1) := by decide +kernel
theorem dX1_monthLength_19 : decode cX1_monthLength 19 = .ok (.iload_n 1, 1) := by decide +kernel
theorem dX1_monthLength_20 : decode cX1_monthLength 20 = .ok (.iconst 4, 1) := by decide +kernel
theorem dX1_monthLength_21 : decode cX1_monthLength 21 = .ok (.if_icmp .eq 21, 3) := by decide +kernel
theorem dX1_monthLength_24 : decode cX1_monthLength 24 = .ok (.iload_n 1, 1) := by decide +kernel
theorem dX1_monthLength_25 : decode cX1_monthLength 25 = .ok (.bipush 6, 2) := by decide +kernel
theorem dX1_monthLength_27 : decode cX1_monthLength 27 = .ok (.if_icmp .eq 15, 3) := by decide +kernel
theorem dX1_monthLength_30 : decode cX1_monthLength 30 = .ok (.iload_n 1, 1) := by decide +kernel
theorem dX1_monthLength_31 : decode cX1_monthLength 31 = .ok (.bipush 9, 2) := by decide +kernel
theorem dX1_monthLength_33 : decode cX1_monthLength 33 = .ok (.if_icmp .eq 9, 3) := by decide +kernel
theorem dX1_monthLength_36 : decode cX1_monthLength 36 = .ok (.iload_n 1, 1) := by decide +kernel
theorem dX1_monthLength_37 : decode cX1_monthLength 37 = .ok (.bipush 11, 2) := by decide +kernel
theorem dX1_monthLength_39 : decode cX1_monthLength 39 = .ok (.if_icmp .ne 8, 3) := by decide +kernel
theorem dX1_monthLength_42 : decode cX1_monthLength 42 = .ok (.bipush 30, 2) := by decide +kernel
theorem dX1_monthLength_44 : decode cX1_monthLength 44 = .ok (.goto 5, 3) := by decide +kernel
theorem dX1_monthLength_47 : decode cX1_monthLength 47 = .ok (.bipush 31, 2) := by decide +kernel
theorem dX1_monthLength_49 : decode cX1_monthLength 49 = .ok (.ireturn, 1) := by decide +kernel
theorem dX1_dayNumber_0 : decode cX1_dayNumber 0 = .ok (.iload_n 0, 1) := by decide +kernel
theorem dX1_dayNumber_1 : decode cX1_dayNumber 1 = .ok (.sipush 10000, 3) := by decide +kernel
theorem dX1_dayNumber_4 : decode cX1_dayNumber 4 = .ok (.idiv, 1) := by decide +kernel
theorem dX1_dayNumber_5 : decode cX1_dayNumber 5 = .ok (.sipush 2016, 3) := by decide +kernel
theorem dX1_dayNumber_8 : decode cX1_dayNumber 8 = .ok (.isub, 1) := by decide +kernel
theorem dX1_dayNumber_9 : decode cX1_dayNumber 9 = .ok (.istore_n 1, 1) := by decide +kernel
theorem dX1_dayNumber_10 : decode cX1_dayNumber 10 = .ok (.iload_n 0, 1) := by decide +kernel
theorem dX1_dayNumber_11 : decode cX1_dayNumber 11 = .ok (.bipush 100, 2) := by decide +kernel
theorem dX1_dayNumber_13 : decode cX1_dayNumber 13 = .ok (.idiv, 1) := by decide +kernel
theorem dX1_dayNumber_14 : decode cX1_dayNumber 14 = .ok (.bipush 100, 2) := by decide +kernel
theorem dX1_dayNumber_16 : decode cX1_dayNumber 16 = .ok (.irem, 1) := by decide +kernel
theorem dX1_dayNumber_17 : decode cX1_dayNumber 17 = .ok (.istore_n 2, 1) := by decide +kernel
theorem dX1_dayNumber_18 : decode cX1_dayNumber 18 = .ok (.iload_n 2, 1) := by decide +kernel
theorem dX1_dayNumber_19 : decode cX1_dayNumber 19 = .ok (.iconst 1, 1) := by decide +kernel
theorem dX1_dayNumber_20 : decode cX1_dayNumber 20 = .ok (.if_icmp .lt 21, 3) := by decide +kernel
theorem dX1_dayNumber_23 : decode cX1_dayNumber 23 = .ok (.iload_n 2, 1) := by decide +kernel
theorem dX1_dayNumber_24 : decode cX1_dayNumber 24 = .ok (.getstatic 27, 3) := by decide +kernel
theorem dX1_dayNumber_27 : decode cX1_dayNumber 27 = .ok (.arraylength, 1) := by decide +kernel
theorem dX1_dayNumber_28 : decode cX1_dayNumber 28 = .ok (.if_icmp .gt 13, 3) := by decide +kernel
theorem dX1_dayNumber_31 : decode cX1_dayNumber 31 = .ok (.getstatic 27, 3) := by decide +kernel
theorem dX1_dayNumber_34 : decode cX1_dayNumber 34 = .ok (.iload_n 2, 1) := by decide +kernel
theorem dX1_dayNumber_35 : decode cX1_dayNumber 35 = .ok (.iconst 1, 1) := by decide +kernel
theorem dX1_dayNumber_36 : decode cX1_dayNumber 36 = .ok (.isub, 1) := by decide +kernel
theorem dX1_dayNumber_37 : decode cX1_dayNumber 37 = .ok (.iaload, 1) := by decide +kernel
theorem dX1_dayNumber_38 : decode cX1_dayNumber 38 = .ok (.goto 4, 3) := by decide +kernel
theorem dX1_dayNumber_41 : decode cX1_dayNumber 41 = .ok (.iconst 0, 1) := by decide +kernel
theorem dX1_dayNumber_42 : decode cX1_dayNumber 42 = .ok (.istore_n 3, 1) := by decide +kernel
theorem dX1_dayNumber_43 : decode cX1_dayNumber 43 = .ok (.iload_n 2, 1) := by decide +kernel
theorem dX1_dayNumber_44 : decode cX1_dayNumber 44 = .ok (.iconst 2, 1) := by decide +kernel
theorem dX1_dayNumber_45 : decode cX1_dayNumber 45 = .ok (.if_icmp .le 13, 3) := by decide +kernel
theorem dX1_dayNumber_48 : decode cX1_dayNumber 48 = .ok (.iload_n 1, 1) := by decide +kernel
theorem dX1_dayNumber_49 : decode cX1_dayNumber 49 = .ok (.iconst 4, 1) := by decide +kernel
theorem dX1_dayNumber_50 : decode cX1_dayNumber 50 = .ok (.irem, 1) := by decide +kernel
theorem dX1_dayNumber_51 : decode cX1_dayNumber 51 = .ok (.ifCond .ne 7, 3) := by decide +kernel
theorem dX1_dayNumber_54 : decode cX1_dayNumber 54 = .ok (.iconst 1, 1) := by decide +kernel
theorem dX1_dayNumber_55 : decode cX1_dayNumber 55 = .ok (.goto 4, 3) := by decide +kernel
theorem dX1_dayNumber_58 : decode cX1_dayNumber 58 = .ok (.iconst 0, 1) := by decide +kernel
theorem dX1_dayNumber_59 : decode cX1_dayNumber 59 = .ok (.istore 4, 2) := by decide +kernel
theorem dX1_dayNumber_61 : decode cX1_dayNumber 61 = .ok (.sipush 365, 3) := by decide +kernel
theorem dX1_dayNumber_64 : decode cX1_dayNumber 64 = .ok (.iload_n 1, 1) := by decide +kernel
theorem dX1_dayNumber_65 : decode cX1_dayNumber 65 = .ok (.imul, 1) := by decide +kernel
theorem dX1_dayNumber_66 : decode cX1_dayNumber 66 = .ok (.iload_n 1, 1) := by decide +kernel
theorem dX1_dayNumber_67 : decode cX1_dayNumber 67 = .ok (.iconst 3, 1) := by decide +kernel
theorem dX1_dayNumber_68 : decode cX1_dayNumber 68 = .ok (.iadd, 1) := by decide +kernel
theorem dX1_dayNumber_69 : decode cX1_dayNumber 69 = .ok (.iconst 4, 1) := by decide +kernel
theorem dX1_dayNumber_70 : decode cX1_dayNumber 70 = .ok (.idiv, 1) := by decide +kernel
theorem dX1_dayNumber_71 : decode cX1_dayNumber 71 = .ok (.iadd, 1) := by decide +kernel
theorem dX1_dayNumber_72 : decode cX1_dayNumber 72 = .ok (.iload_n 3, 1) := by decide +kernel
theorem dX1_dayNumber_73 : decode cX1_dayNumber 73 = .ok (.iadd, 1) := by decide +kernel
theorem dX1_dayNumber_74 : decode cX1_dayNumber 74 = .ok (.iload 4, 2) := by decide +kernel
theorem dX1_dayNumber_76 : decode cX1_dayNumber 76 = .ok (.iadd, 1) := by decide +kernel
theorem dX1_dayNumber_77 : decode cX1_dayNumber 77 = .ok (.iload_n 0, 1) := by decide +kernel
theorem dX1_dayNumber_78 : decode cX1_dayNumber 78 = .ok (.bipush 100, 2) := by decide +kernel
theorem dX1_dayNumber_80 : decode cX1_dayNumber 80 = .ok (.irem, 1) := by decide +kernel
theorem dX1_dayNumber_81 : decode cX1_dayNumber 81 = .ok (.iadd, 1) := by decide +kernel
theorem dX1_dayNumber_82 : decode cX1_dayNumber 82 = .ok (.iconst 1, 1) := by decide +kernel
theorem dX1_dayNumber_83 : decode cX1_dayNumber 83 = .ok (.isub, 1) := by decide +kernel
theorem dX1_dayNumber_84 : decode cX1_dayNumber 84 = .ok (.ireturn, 1) := by decide +kernel
set_option maxRecDepth 20000 in
theorem ggX1_dateOf_X1_monthLength : GoodIn wsX1_dateOf wsX1_monthLength := goodIn_r _ [4] (by decide +kernel) (by decide +kernel)
set_option maxRecDepth 20000 in
theorem gX1_dateOf_X1_monthLength : GoodIn wsX1_dateOf (va_wsS RX1 23 yX1_monthLength wsX1_monthLength) := goodIn_app (goodIn_of _ (by decide +kernel)) ggX1_dateOf_X1_monthLength
theorem dX1_dateOf_0 : decode cX1_dateOf 0 = .ok (.iconst 4, 1) := by decide +kernel
theorem dX1_dateOf_1 : decode cX1_dateOf 1 = .ok (.iload_n 0, 1) := by decide +kernel
theorem dX1_dateOf_2 : decode cX1_dateOf 2 = .ok (.imul, 1) := by decide +kernel
theorem dX1_dateOf_3 : decode cX1_dateOf 3 = .ok (.sipush 1461, 3) := by decide +kernel
theorem dX1_dateOf_6 : decode cX1_dateOf 6 = .ok (.idiv, 1) := by decide +kernel
theorem dX1_dateOf_7 : decode cX1_dateOf 7 = .ok (.istore_n 1, 1) := by decide +kernel
theorem dX1_dateOf_8 : decode cX1_dateOf 8 = .ok (.sipush 2016, 3) := by decide +kernel
theorem dX1_dateOf_11 : decode cX1_dateOf 11 = .ok (.iload_n 1, 1) := by decide +kernel
theorem dX1_dateOf_12 : decode cX1_dateOf 12 = .ok (.iadd, 1) := by decide +kernel
theorem dX1_dateOf_13 : decode cX1_dateOf 13 = .ok (.istore_n 2, 1) := by decide +kernel
theorem dX1_dateOf_14 : decode cX1_dateOf 14 = .ok (.iload_n 0, 1) := by decide +kernel
theorem dX1_dateOf_15 : decode cX1_dateOf 15 = .ok (.sipush 365, 3) := by decide +kernel
theorem dX1_dateOf_18 : decode cX1_dateOf 18 = .ok (.iload_n 1, 1) := by decide +kernel
theorem dX1_dateOf_19 : decode cX1_dateOf 19 = .ok (.imul, 1) := by decide +kernel
theorem dX1_dateOf_20 : decode cX1_dateOf 20 = .ok (.isub, 1) := by decide +kernel
theorem dX1_dateOf_21 : decode cX1_dateOf 21 = .ok (.iload_n 1, 1) := by decide +kernel
theorem dX1_dateOf_22 : decode cX1_dateOf 22 = .ok (.iconst 3, 1) := by decide +kernel
theorem dX1_dateOf_23 : decode cX1_dateOf 23 = .ok (.iadd, 1) := by decide +kernel
theorem dX1_dateOf_24 : decode cX1_dateOf 24 = .ok (.iconst 4, 1) := by decide +kernel
theorem dX1_dateOf_25 : decode cX1_dateOf 25 = .ok (.idiv, 1) := by decide +kernel
theorem dX1_dateOf_26 : decode cX1_dateOf 26 = .ok (.isub, 1) := by decide +kernel
theorem dX1_dateOf_27 : decode cX1_dateOf 27 = .ok (.istore_n 3, 1) := by decide +kernel
theorem dX1_dateOf_28 : decode cX1_dateOf 28 = .ok (.iconst 1, 1) := by decide +kernel
theorem dX1_dateOf_29 : decode cX1_dateOf 29 = .ok (.istore 4, 2) := by decide +kernel
theorem dX1_dateOf_31 : decode cX1_dateOf 31 = .ok (.iload 4, 2) := by decide +kernel
theorem dX1_dateOf_33 : decode cX1_dateOf 33 = .ok (.bipush 12, 2) := by decide +kernel
theorem dX1_dateOf_35 : decode cX1_dateOf 35 = .ok (.if_icmp .ge 28, 3) := by decide +kernel
theorem dX1_dateOf_38 : decode cX1_dateOf 38 = .ok (.iload_n 3, 1) := by decide +kernel
theorem dX1_dateOf_39 : decode cX1_dateOf 39 = .ok (.iload_n 2, 1) := by decide +kernel
theorem dX1_dateOf_40 : decode cX1_dateOf 40 = .ok (.iload 4, 2) := by decide +kernel
theorem dX1_dateOf_42 : decode cX1_dateOf 42 = .ok (.invokestatic 23, 3) := by decide +kernel
theorem dX1_dateOf_45 : decode cX1_dateOf 45 = .ok (.if_icmp .lt 18, 3) := by decide +kernel
theorem dX1_dateOf_48 : decode cX1_dateOf 48 = .ok (.iload_n 3, 1) := by decide +kernel
theorem dX1_dateOf_49 : decode cX1_dateOf 49 = .ok (.iload_n 2, 1) := by decide +kernel
theorem dX1_dateOf_50 : decode cX1_dateOf 50 = .ok (.iload 4, 2) := by decide +kernel
theorem dX1_dateOf_52 : decode cX1_dateOf 52 = .ok (.invokestatic 23, 3) := by decide +kernel
theorem dX1_dateOf_55 : decode cX1_dateOf 55 = .ok (.isub, 1) := by decide +kernel
theorem dX1_dateOf_56 : decode cX1_dateOf 56 = .ok (.istore_n 3, 1) := by decide +kernel
theorem dX1_dateOf_57 : decode cX1_dateOf 57 = .ok (.iinc 4 1, 3) := by decide +kernel
theorem dX1_dateOf_60 : decode cX1_dateOf 60 = .ok (.goto (-29), 3) := by decide +kernel
theorem dX1_dateOf_63 : decode cX1_dateOf 63 = .ok (.sipush 10000, 3) := by decide +kernel
theorem dX1_dateOf_66 : decode cX1_dateOf 66 = .ok (.iload_n 2, 1) := by decide +kernel
theorem dX1_dateOf_67 : decode cX1_dateOf 67 = .ok (.imul, 1) := by decide +kernel
theorem dX1_dateOf_68 : decode cX1_dateOf 68 = .ok (.bipush 100, 2) := by decide +kernel
theorem dX1_dateOf_70 : decode cX1_dateOf 70 = .ok (.iload 4, 2) := by decide +kernel
theorem dX1_dateOf_72 : decode cX1_dateOf 72 = .ok (.imul, 1) := by decide +kernel
theorem dX1_dateOf_73 : decode cX1_dateOf 73 = .ok (.iadd, 1) := by decide +kernel
theorem dX1_dateOf_74 : decode cX1_dateOf 74 = .ok (.iload_n 3, 1) := by decide +kernel
theorem dX1_dateOf_75 : decode cX1_dateOf 75 = .ok (.iadd, 1) := by decide +kernel
theorem dX1_dateOf_76 : decode cX1_dateOf 76 = .ok (.iconst 1, 1) := by decide +kernel
theorem dX1_dateOf_77 : decode cX1_dateOf 77 = .ok (.iadd, 1) := by decide +kernel
theorem dX1_dateOf_78 : decode cX1_dateOf 78 = .ok (.ireturn, 1) := by decide +kernel
theorem dX1_dayOfWeek_0 : decode cX1_dayOfWeek 0 = .ok (.iload_n 0, 1) := by decide +kernel
theorem dX1_dayOfWeek_1 : decode cX1_dayOfWeek 1 = .ok (.iconst 4, 1) := by decide +kernel
theorem dX1_dayOfWeek_2 : decode cX1_dayOfWeek 2 = .ok (.iadd, 1) := by decide +kernel
theorem dX1_dayOfWeek_3 : decode cX1_dayOfWeek 3 = .ok (.bipush 7, 2) := by decide +kernel
theorem dX1_dayOfWeek_5 : decode cX1_dayOfWeek 5 = .ok (.irem, 1) := by decide +kernel
theorem dX1_dayOfWeek_6 : decode cX1_dayOfWeek 6 = .ok (.ireturn, 1) := by decide +kernel
set_option maxRecDepth 20000 in
theorem ggX1_daysBetween_X1_dayNumber : GoodIn wsX1_daysBetween wsX1_dayNumber := goodIn_r _ [4, 5] (by decide +kernel) (by decide +kernel)
set_option maxRecDepth 20000 in
theorem gX1_daysBetween_X1_dayNumber : GoodIn wsX1_daysBetween (va_wsS RX1 31 yX1_dayNumber wsX1_dayNumber) := goodIn_app (goodIn_of _ (by decide +kernel)) ggX1_daysBetween_X1_dayNumber
theorem dX1_daysBetween_0 : decode cX1_daysBetween 0 = .ok (.iload_n 1, 1) := by decide +kernel
theorem dX1_daysBetween_1 : decode cX1_daysBetween 1 = .ok (.invokestatic 31, 3) := by decide +kernel
theorem dX1_daysBetween_4 : decode cX1_daysBetween 4 = .ok (.iload_n 0, 1) := by decide +kernel
theorem dX1_daysBetween_5 : decode cX1_daysBetween 5 = .ok (.invokestatic 31, 3) := by decide +kernel
theorem dX1_daysBetween_8 : decode cX1_daysBetween 8 = .ok (.isub, 1) := by decide +kernel
theorem dX1_daysBetween_9 : decode cX1_daysBetween 9 = .ok (.ireturn, 1) := by decide +kernel
set_option maxRecDepth 20000 in
theorem ggX1_daysOf30_X1_dayOf : GoodIn wsX1_daysOf30 wsX1_dayOf := goodIn_r _ [8] (by decide +kernel) (by decide +kernel)
set_option maxRecDepth 20000 in
theorem gX1_daysOf30_X1_dayOf : GoodIn wsX1_daysOf30 (va_wsS RX1 17 yX1_dayOf wsX1_dayOf) := goodIn_app (goodIn_of _ (by decide +kernel)) ggX1_daysOf30_X1_dayOf
set_option maxRecDepth 20000 in
theorem ggX1_daysOf30_X1_yearOf : GoodIn wsX1_daysOf30 wsX1_yearOf := goodIn_r _ [11] (by decide +kernel) (by decide +kernel)
set_option maxRecDepth 20000 in
theorem gX1_daysOf30_X1_yearOf : GoodIn wsX1_daysOf30 (va_wsS RX1 20 yX1_yearOf wsX1_yearOf) := goodIn_app (goodIn_of _ (by decide +kernel)) ggX1_daysOf30_X1_yearOf
set_option maxRecDepth 20000 in
theorem ggX1_daysOf30_X1_monthOf : GoodIn wsX1_daysOf30 wsX1_monthOf := goodIn_r _ [14] (by decide +kernel) (by decide +kernel)
set_option maxRecDepth 20000 in
theorem gX1_daysOf30_X1_monthOf : GoodIn wsX1_daysOf30 (va_wsS RX1 13 yX1_monthOf wsX1_monthOf) := goodIn_app (goodIn_of _ (by decide +kernel)) ggX1_daysOf30_X1_monthOf
theorem dX1_daysOf30_0 : decode cX1_daysOf30 0 = .ok (.iload_n 0, 1) := by decide +kernel
theorem dX1_daysOf30_1 : decode cX1_daysOf30 1 = .ok (.invokestatic 17, 3) := by decide +kernel
theorem dX1_daysOf30_4 : decode cX1_daysOf30 4 = .ok (.bipush 30, 2) := by decide +kernel
theorem dX1_daysOf30_6 : decode cX1_daysOf30 6 = .ok (.invokestatic 34, 3) := by decide +kernel
theorem dX1_daysOf30_9 : decode cX1_daysOf30 9 = .ok (.istore_n 2, 1) := by decide +kernel
theorem dX1_daysOf30_10 : decode cX1_daysOf30 10 = .ok (.iload_n 2, 1) := by decide +kernel
theorem dX1_daysOf30_11 : decode cX1_daysOf30 11 = .ok (.bipush 30, 2) := by decide +kernel
theorem dX1_daysOf30_13 : decode cX1_daysOf30 13 = .ok (.if_icmp .ne 15, 3) := by decide +kernel
theorem dX1_daysOf30_16 : decode cX1_daysOf30 16 = .ok (.iload_n 1, 1) := by decide +kernel
theorem dX1_daysOf30_17 : decode cX1_daysOf30 17 = .ok (.invokestatic 17, 3) := by decide +kernel
theorem dX1_daysOf30_20 : decode cX1_daysOf30 20 = .ok (.bipush 30, 2) := by decide +kernel
theorem dX1_daysOf30_22 : decode cX1_daysOf30 22 = .ok (.invokestatic 34, 3) := by decide +kernel
theorem dX1_daysOf30_25 : decode cX1_daysOf30 25 = .ok (.goto 7, 3) := by decide +kernel
theorem dX1_daysOf30_28 : decode cX1_daysOf30 28 = .ok (.iload_n 1, 1) := by decide +kernel
theorem dX1_daysOf30_29 : decode cX1_daysOf30 29 = .ok (.invokestatic 17, 3) := by decide +kernel
theorem dX1_daysOf30_32 : decode cX1_daysOf30 32 = .ok (.istore_n 3, 1) := by decide +kernel
theorem dX1_daysOf30_33 : decode cX1_daysOf30 33 = .ok (.sipush 360, 3) := by decide +kernel
theorem dX1_daysOf30_36 : decode cX1_daysOf30 36 = .ok (.iload_n 1, 1) := by decide +kernel
theorem dX1_daysOf30_37 : decode cX1_daysOf30 37 = .ok (.invokestatic 20, 3) := by decide +kernel
theorem dX1_daysOf30_40 : decode cX1_daysOf30 40 = .ok (.iload_n 0, 1) := by decide +kernel
theorem dX1_daysOf30_41 : decode cX1_daysOf30 41 = .ok (.invokestatic 20, 3) := by decide +kernel
theorem dX1_daysOf30_44 : decode cX1_daysOf30 44 = .ok (.isub, 1) := by decide +kernel
theorem dX1_daysOf30_45 : decode cX1_daysOf30 45 = .ok (.imul, 1) := by decide +kernel
theorem dX1_daysOf30_46 : decode cX1_daysOf30 46 = .ok (.bipush 30, 2) := by decide +kernel
theorem dX1_daysOf30_48 : decode cX1_daysOf30 48 = .ok (.iload_n 1, 1) := by decide +kernel
theorem dX1_daysOf30_49 : decode cX1_daysOf30 49 = .ok (.invokestatic 13, 3) := by decide +kernel
theorem dX1_daysOf30_52 : decode cX1_daysOf30 52 = .ok (.iload_n 0, 1) := by decide +kernel
theorem dX1_daysOf30_53 : decode cX1_daysOf30 53 = .ok (.invokestatic 13, 3) := by decide +kernel
theorem dX1_daysOf30_56 : decode cX1_daysOf30 56 = .ok (.isub, 1) := by decide +kernel
theorem dX1_daysOf30_57 : decode cX1_daysOf30 57 = .ok (.imul, 1) := by decide +kernel
theorem dX1_daysOf30_58 : decode cX1_daysOf30 58 = .ok (.iadd, 1) := by decide +kernel
theorem dX1_daysOf30_59 : decode cX1_daysOf30 59 = .ok (.iload_n 3, 1) := by decide +kernel
theorem dX1_daysOf30_60 : decode cX1_daysOf30 60 = .ok (.iadd, 1) := by decide +kernel
theorem dX1_daysOf30_61 : decode cX1_daysOf30 61 = .ok (.iload_n 2, 1) := by decide +kernel
theorem dX1_daysOf30_62 : decode cX1_daysOf30 62 = .ok (.isub, 1) := by decide +kernel
theorem dX1_daysOf30_63 : decode cX1_daysOf30 63 = .ok (.ireturn, 1) := by decide +kernel
set_option maxRecDepth 20000 in
theorem ggX1_monthsBack_X1_yearOf : GoodIn wsX1_monthsBack wsX1_yearOf := goodIn_r _ [8] (by decide +kernel) (by decide +kernel)
set_option maxRecDepth 20000 in
theorem gX1_monthsBack_X1_yearOf : GoodIn wsX1_monthsBack (va_wsS RX1 20 yX1_yearOf wsX1_yearOf) := goodIn_app (goodIn_of _ (by decide +kernel)) ggX1_monthsBack_X1_yearOf
set_option maxRecDepth 20000 in
theorem ggX1_monthsBack_X1_monthOf : GoodIn wsX1_monthsBack wsX1_monthOf := goodIn_r _ [11] (by decide +kernel) (by decide +kernel)
set_option maxRecDepth 20000 in
theorem gX1_monthsBack_X1_monthOf : GoodIn wsX1_monthsBack (va_wsS RX1 13 yX1_monthOf wsX1_monthOf) := goodIn_app (goodIn_of _ (by decide +kernel)) ggX1_monthsBack_X1_monthOf
set_option maxRecDepth 20000 in
theorem ggX1_monthsBack_X1_monthLength : GoodIn wsX1_monthsBack wsX1_monthLength := goodIn_r _ [14] (by decide +kernel) (by decide +kernel)
set_option maxRecDepth 20000 in
theorem gX1_monthsBack_X1_monthLength : GoodIn wsX1_monthsBack (va_wsS RX1 23 yX1_monthLength wsX1_monthLength) := goodIn_app (goodIn_of _ (by decide +kernel)) ggX1_monthsBack_X1_monthLength
set_option maxRecDepth 20000 in
theorem ggX1_monthsBack_X1_dayOf : GoodIn wsX1_monthsBack wsX1_dayOf := goodIn_r _ [17] (by decide +kernel) (by decide +kernel)
set_option maxRecDepth 20000 in
theorem gX1_monthsBack_X1_dayOf : GoodIn wsX1_monthsBack (va_wsS RX1 17 yX1_dayOf wsX1_dayOf) := goodIn_app (goodIn_of _ (by decide +kernel)) ggX1_monthsBack_X1_dayOf
theorem dX1_monthsBack_0 : decode cX1_monthsBack 0 = .ok (.bipush 12, 2) := by decide +kernel
theorem dX1_monthsBack_2 : decode cX1_monthsBack 2 = .ok (.iload_n 0, 1) := by decide +kernel
theorem dX1_monthsBack_3 : decode cX1_monthsBack 3 = .ok (.invokestatic 20, 3) := by decide +kernel
theorem dX1_monthsBack_6 : decode cX1_monthsBack 6 = .ok (.imul, 1) := by decide +kernel
theorem dX1_monthsBack_7 : decode cX1_monthsBack 7 = .ok (.iload_n 0, 1) := by decide +kernel
theorem dX1_monthsBack_8 : decode cX1_monthsBack 8 = .ok (.invokestatic 13, 3) := by decide +kernel
theorem dX1_monthsBack_11 : decode cX1_monthsBack 11 = .ok (.iadd, 1) := by decide +kernel
theorem dX1_monthsBack_12 : decode cX1_monthsBack 12 = .ok (.iconst 1, 1) := by decide +kernel
theorem dX1_monthsBack_13 : decode cX1_monthsBack 13 = .ok (.isub, 1) := by decide +kernel
theorem dX1_monthsBack_14 : decode cX1_monthsBack 14 = .ok (.iload_n 1, 1) := by decide +kernel
theorem dX1_monthsBack_15 : decode cX1_monthsBack 15 = .ok (.isub, 1) := by decide +kernel
theorem dX1_monthsBack_16 : decode cX1_monthsBack 16 = .ok (.istore_n 2, 1) := by decide +kernel
theorem dX1_monthsBack_17 : decode cX1_monthsBack 17 = .ok (.iload_n 2, 1) := by decide +kernel
theorem dX1_monthsBack_18 : decode cX1_monthsBack 18 = .ok (.bipush 12, 2) := by decide +kernel
theorem dX1_monthsBack_20 : decode cX1_monthsBack 20 = .ok (.idiv, 1) := by decide +kernel
theorem dX1_monthsBack_21 : decode cX1_monthsBack 21 = .ok (.istore_n 3, 1) := by decide +kernel
theorem dX1_monthsBack_22 : decode cX1_monthsBack 22 = .ok (.iload_n 2, 1) := by decide +kernel
theorem dX1_monthsBack_23 : decode cX1_monthsBack 23 = .ok (.bipush 12, 2) := by decide +kernel
theorem dX1_monthsBack_25 : decode cX1_monthsBack 25 = .ok (.irem, 1) := by decide +kernel
theorem dX1_monthsBack_26 : decode cX1_monthsBack 26 = .ok (.iconst 1, 1) := by decide +kernel
theorem dX1_monthsBack_27 : decode cX1_monthsBack 27 = .ok (.iadd, 1) := by decide +kernel
theorem dX1_monthsBack_28 : decode cX1_monthsBack 28 = .ok (.istore 4, 2) := by decide +kernel
theorem dX1_monthsBack_30 : decode cX1_monthsBack 30 = .ok (.iload_n 3, 1) := by decide +kernel
theorem dX1_monthsBack_31 : decode cX1_monthsBack 31 = .ok (.iload 4, 2) := by decide +kernel
theorem dX1_monthsBack_33 : decode cX1_monthsBack 33 = .ok (.invokestatic 23, 3) := by decide +kernel
theorem dX1_monthsBack_36 : decode cX1_monthsBack 36 = .ok (.istore 5, 2) := by decide +kernel
theorem dX1_monthsBack_38 : decode cX1_monthsBack 38 = .ok (.iload_n 0, 1) := by decide +kernel
theorem dX1_monthsBack_39 : decode cX1_monthsBack 39 = .ok (.invokestatic 17, 3) := by decide +kernel
theorem dX1_monthsBack_42 : decode cX1_monthsBack 42 = .ok (.iload_n 0, 1) := by decide +kernel
theorem dX1_monthsBack_43 : decode cX1_monthsBack 43 = .ok (.invokestatic 20, 3) := by decide +kernel
theorem dX1_monthsBack_46 : decode cX1_monthsBack 46 = .ok (.iload_n 0, 1) := by decide +kernel
theorem dX1_monthsBack_47 : decode cX1_monthsBack 47 = .ok (.invokestatic 13, 3) := by decide +kernel
theorem dX1_monthsBack_50 : decode cX1_monthsBack 50 = .ok (.invokestatic 23, 3) := by decide +kernel
theorem dX1_monthsBack_53 : decode cX1_monthsBack 53 = .ok (.if_icmp .ne 7, 3) := by decide +kernel
theorem dX1_monthsBack_56 : decode cX1_monthsBack 56 = .ok (.iconst 1, 1) := by decide +kernel
theorem dX1_monthsBack_57 : decode cX1_monthsBack 57 = .ok (.goto 4, 3) := by decide +kernel
theorem dX1_monthsBack_60 : decode cX1_monthsBack 60 = .ok (.iconst 0, 1) := by decide +kernel
theorem dX1_monthsBack_61 : decode cX1_monthsBack 61 = .ok (.istore 6, 2) := by decide +kernel
theorem dX1_monthsBack_63 : decode cX1_monthsBack 63 = .ok (.iload 6, 2) := by decide +kernel
theorem dX1_monthsBack_65 : decode cX1_monthsBack 65 = .ok (.ifCond .eq 8, 3) := by decide +kernel
theorem dX1_monthsBack_68 : decode cX1_monthsBack 68 = .ok (.iload 5, 2) := by decide +kernel
theorem dX1_monthsBack_70 : decode cX1_monthsBack 70 = .ok (.goto 12, 3) := by decide +kernel
theorem dX1_monthsBack_73 : decode cX1_monthsBack 73 = .ok (.iload_n 0, 1) := by decide +kernel
theorem dX1_monthsBack_74 : decode cX1_monthsBack 74 = .ok (.invokestatic 17, 3) := by decide +kernel
theorem dX1_monthsBack_77 : decode cX1_monthsBack 77 = .ok (.iload 5, 2) := by decide +kernel
theorem dX1_monthsBack_79 : decode cX1_monthsBack 79 = .ok (.invokestatic 34, 3) := by decide +kernel
theorem dX1_monthsBack_82 : decode cX1_monthsBack 82 = .ok (.istore 7, 2) := by decide +kernel
theorem dX1_monthsBack_84 : decode cX1_monthsBack 84 = .ok (.sipush 10000, 3) := by decide +kernel
theorem dX1_monthsBack_87 : decode cX1_monthsBack 87 = .ok (.iload_n 3, 1) := by decide +kernel
theorem dX1_monthsBack_88 : decode cX1_monthsBack 88 = .ok (.imul, 1) := by decide +kernel
theorem dX1_monthsBack_89 : decode cX1_monthsBack 89 = .ok (.bipush 100, 2) := by decide +kernel
theorem dX1_monthsBack_91 : decode cX1_monthsBack 91 = .ok (.iload 4, 2) := by decide +kernel
theorem dX1_monthsBack_93 : decode cX1_monthsBack 93 = .ok (.imul, 1) := by decide +kernel
theorem dX1_monthsBack_94 : decode cX1_monthsBack 94 = .ok (.iadd, 1) := by decide +kernel
theorem dX1_monthsBack_95 : decode cX1_monthsBack 95 = .ok (.iload 7, 2) := by decide +kernel
theorem dX1_monthsBack_97 : decode cX1_monthsBack 97 = .ok (.iadd, 1) := by decide +kernel
theorem dX1_monthsBack_98 : decode cX1_monthsBack 98 = .ok (.ireturn, 1) := by decide +kernel
theorem dX2_init_0 : decode cX2_init 0 = .ok (.aload_n 0, 1) := by decide +kernel
theorem dX2_init_1 : decode cX2_init 1 = .ok (.invokespecial 1, 3) := by decide +kernel
theorem dX2_init_4 : decode cX2_init 4 = .ok (.return_, 1) := by decide +kernel
theorem dX2_all_0 : decode cX2_all 0 = .ok (.aload_n 0, 1) := by decide +kernel
theorem dX2_all_1 : decode cX2_all 1 = .ok (.getfield 7, 3) := by decide +kernel
theorem dX2_all_4 : decode cX2_all 4 = .ok (.aload_n 0, 1) := by decide +kernel
theorem dX2_all_5 : decode cX2_all 5 = .ok (.getfield 13, 3) := by decide +kernel
theorem dX2_all_8 : decode cX2_all 8 = .ok (.ladd, 1) := by decide +kernel
theorem dX2_all_9 : decode cX2_all 9 = .ok (.aload_n 0, 1) := by decide +kernel
theorem dX2_all_10 : decode cX2_all 10 = .ok (.getfield 16, 3) := by decide +kernel
theorem dX2_all_13 : decode cX2_all 13 = .ok (.ladd, 1) := by decide +kernel
theorem dX2_all_14 : decode cX2_all 14 = .ok (.aload_n 0, 1) := by decide +kernel
theorem dX2_all_15 : decode cX2_all 15 = .ok (.getfield 19, 3) := by decide +kernel
theorem dX2_all_18 : decode cX2_all 18 = .ok (.ladd, 1) := by decide +kernel
theorem dX2_all_19 : decode cX2_all 19 = .ok (.lreturn, 1) := by decide +kernel
set_option maxRecDepth 20000 in
theorem ggX3_init_X3_dateBack : GoodIn wsX3_init wsX3_dateBack := goodIn_r _ [24, 25, 26, 27, 28, 29, 11, 12, 13, 30, 31, 32, 33, 34, 35, 36, 37, 38, 39, 40, 41] (by decide +kernel) (by decide +kernel)
set_option maxRecDepth 20000 in
theorem gX3_init_X3_dateBack : GoodIn wsX3_init (va_wsS RX3 25 yX3_dateBack wsX3_dateBack) := goodIn_app (goodIn_of _ (by decide +kernel)) ggX3_init_X3_dateBack
set_option maxRecDepth 20000 in
theorem ggX3_init_X3_daysCounted : GoodIn wsX3_init wsX3_daysCounted := goodIn_r _ [45, 8, 46, 47, 27, 48, 29, 11, 12, 13, 39, 40, 41, 30, 31, 32, 33, 34, 35, 49, 50, 51, 52, 53, 54, 55, 63, 64, 65, 66, 67, 68, 69, 70, 71] (by decide +kernel) (by decide +kernel)
set_option maxRecDepth 20000 in
theorem gX3_init_X3_daysCounted : GoodIn wsX3_init (wsV RX3 45 RX3 yX3_daysCounted wsX3_daysCounted) := goodIn_app (goodIn_of _ (by decide +kernel)) ggX3_init_X3_daysCounted
set_option maxRecDepth 20000 in
theorem ggX3_init_X3_yearOfPeriod : GoodIn wsX3_init wsX3_yearOfPeriod := goodIn_r _ [59, 8, 60, 18, 61, 9, 62, 7, 49, 50, 27, 51, 52, 53, 54, 55, 63, 64, 65, 66, 67, 68, 69, 70, 71] (by decide +kernel) (by decide +kernel)
set_option maxRecDepth 20000 in
theorem gX3_init_X3_yearOfPeriod : GoodIn wsX3_init (wsV RX3 53 RX3 yX3_yearOfPeriod wsX3_yearOfPeriod) := goodIn_app (goodIn_of _ (by decide +kernel)) ggX3_init_X3_yearOfPeriod
theorem dX3_init_0 : decode cX3_init 0 = .ok (.aload_n 0, 1) := by decide +kernel
theorem dX3_init_1 : decode cX3_init 1 = .ok (.invokespecial 1, 3) := by decide +kernel
theorem dX3_init_4 : decode cX3_init 4 = .ok (.aload_n 0, 1) := by decide +kernel
theorem dX3_init_5 : decode cX3_init 5 = .ok (.iload_n 1, 1) := by decide +kernel
theorem dX3_init_6 : decode cX3_init 6 = .ok (.putfield 7, 3) := by decide +kernel
theorem dX3_init_9 : decode cX3_init 9 = .ok (.aload_n 0, 1) := by decide +kernel
theorem dX3_init_10 : decode cX3_init 10 = .ok (.iload_n 2, 1) := by decide +kernel
theorem dX3_init_11 : decode cX3_init 11 = .ok (.putfield 13, 3) := by decide +kernel
theorem dX3_init_14 : decode cX3_init 14 = .ok (.aload_n 0, 1) := by decide +kernel
theorem dX3_init_15 : decode cX3_init 15 = .ok (.iload_n 3, 1) := by decide +kernel
theorem dX3_init_16 : decode cX3_init 16 = .ok (.putfield 16, 3) := by decide +kernel
theorem dX3_init_19 : decode cX3_init 19 = .ok (.aload_n 0, 1) := by decide +kernel
theorem dX3_init_20 : decode cX3_init 20 = .ok (.iload 4, 2) := by decide +kernel
theorem dX3_init_22 : decode cX3_init 22 = .ok (.putfield 19, 3) := by decide +kernel
theorem dX3_init_25 : decode cX3_init 25 = .ok (.aload_n 0, 1) := by decide +kernel
theorem dX3_init_26 : decode cX3_init 26 = .ok (.iload 5, 2) := by decide +kernel
theorem dX3_init_28 : decode cX3_init 28 = .ok (.putfield 22, 3) := by decide +kernel
theorem dX3_init_31 : decode cX3_init 31 = .ok (.aload_n 0, 1) := by decide +kernel
theorem dX3_init_32 : decode cX3_init 32 = .ok (.iload_n 2, 1) := by decide +kernel
theorem dX3_init_33 : decode cX3_init 33 = .ok (.iload 6, 2) := by decide +kernel
theorem dX3_init_35 : decode cX3_init 35 = .ok (.iload 4, 2) := by decide +kernel
theorem dX3_init_37 : decode cX3_init 37 = .ok (.invokestatic 25, 3) := by decide +kernel
theorem dX3_init_40 : decode cX3_init 40 = .ok (.putfield 29, 3) := by decide +kernel
theorem dX3_init_43 : decode cX3_init 43 = .ok (.aload_n 0, 1) := by decide +kernel
theorem dX3_init_44 : decode cX3_init 44 = .ok (.iconst 0, 1) := by decide +kernel
theorem dX3_init_45 : decode cX3_init 45 = .ok (.iload 6, 2) := by decide +kernel
theorem dX3_init_47 : decode cX3_init 47 = .ok (.bipush 120, 2) := by decide +kernel
theorem dX3_init_49 : decode cX3_init 49 = .ok (.invokestatic 32, 3) := by decide +kernel
theorem dX3_init_52 : decode cX3_init 52 = .ok (.invokestatic 38, 3) := by decide +kernel
theorem dX3_init_55 : decode cX3_init 55 = .ok (.newarray .int, 2) := by decide +kernel
theorem dX3_init_57 : decode cX3_init 57 = .ok (.putfield 41, 3) := by decide +kernel
theorem dX3_init_60 : decode cX3_init 60 = .ok (.iconst 0, 1) := by decide +kernel
theorem dX3_init_61 : decode cX3_init 61 = .ok (.istore 7, 2) := by decide +kernel
theorem dX3_init_63 : decode cX3_init 63 = .ok (.iload 7, 2) := by decide +kernel
theorem dX3_init_65 : decode cX3_init 65 = .ok (.aload_n 0, 1) := by decide +kernel
theorem dX3_init_66 : decode cX3_init 66 = .ok (.getfield 41, 3) := by decide +kernel
theorem dX3_init_69 : decode cX3_init 69 = .ok (.arraylength, 1) := by decide +kernel
theorem dX3_init_70 : decode cX3_init 70 = .ok (.if_icmp .ge 32, 3) := by decide +kernel
theorem dX3_init_73 : decode cX3_init 73 = .ok (.aload_n 0, 1) := by decide +kernel
theorem dX3_init_74 : decode cX3_init 74 = .ok (.getfield 41, 3) := by decide +kernel
theorem dX3_init_77 : decode cX3_init 77 = .ok (.iload 7, 2) := by decide +kernel
theorem dX3_init_79 : decode cX3_init 79 = .ok (.iload_n 2, 1) := by decide +kernel
theorem dX3_init_80 : decode cX3_init 80 = .ok (.aload_n 0, 1) := by decide +kernel
theorem dX3_init_81 : decode cX3_init 81 = .ok (.getfield 41, 3) := by decide +kernel
theorem dX3_init_84 : decode cX3_init 84 = .ok (.arraylength, 1) := by decide +kernel
theorem dX3_init_85 : decode cX3_init 85 = .ok (.iconst 1, 1) := by decide +kernel
theorem dX3_init_86 : decode cX3_init 86 = .ok (.isub, 1) := by decide +kernel
theorem dX3_init_87 : decode cX3_init 87 = .ok (.iload 7, 2) := by decide +kernel
theorem dX3_init_89 : decode cX3_init 89 = .ok (.isub, 1) := by decide +kernel
theorem dX3_init_90 : decode cX3_init 90 = .ok (.iload 4, 2) := by decide +kernel
theorem dX3_init_92 : decode cX3_init 92 = .ok (.invokestatic 25, 3) := by decide +kernel
theorem dX3_init_95 : decode cX3_init 95 = .ok (.iastore, 1) := by decide +kernel
theorem dX3_init_96 : decode cX3_init 96 = .ok (.iinc 7 1, 3) := by decide +kernel
theorem dX3_init_99 : decode cX3_init 99 = .ok (.goto (-36), 3) := by decide +kernel
theorem dX3_init_102 : decode cX3_init 102 = .ok (.aload_n 0, 1) := by decide +kernel
theorem dX3_init_103 : decode cX3_init 103 = .ok (.aload_n 0, 1) := by decide +kernel
theorem dX3_init_104 : decode cX3_init 104 = .ok (.iload_n 1, 1) := by decide +kernel
theorem dX3_init_105 : decode cX3_init 105 = .ok (.aload_n 0, 1) := by decide +kernel
theorem dX3_init_106 : decode cX3_init 106 = .ok (.getfield 41, 3) := by decide +kernel
theorem dX3_init_109 : decode cX3_init 109 = .ok (.arraylength, 1) := by decide +kernel
theorem dX3_init_110 : decode cX3_init 110 = .ok (.ifCond .le 12, 3) := by decide +kernel
theorem dX3_init_113 : decode cX3_init 113 = .ok (.aload_n 0, 1) := by decide +kernel
theorem dX3_init_114 : decode cX3_init 114 = .ok (.getfield 41, 3) := by decide +kernel
theorem dX3_init_117 : decode cX3_init 117 = .ok (.iconst 0, 1) := by decide +kernel
theorem dX3_init_118 : decode cX3_init 118 = .ok (.iaload, 1) := by decide +kernel
theorem dX3_init_119 : decode cX3_init 119 = .ok (.goto 4, 3) := by decide +kernel
theorem dX3_init_122 : decode cX3_init 122 = .ok (.iload_n 2, 1) := by decide +kernel
theorem dX3_init_123 : decode cX3_init 123 = .ok (.invokevirtual 45, 3) := by decide +kernel
theorem dX3_init_126 : decode cX3_init 126 = .ok (.putfield 49, 3) := by decide +kernel
theorem dX3_init_129 : decode cX3_init 129 = .ok (.aload_n 0, 1) := by decide +kernel
theorem dX3_init_130 : decode cX3_init 130 = .ok (.aload_n 0, 1) := by decide +kernel
theorem dX3_init_131 : decode cX3_init 131 = .ok (.iconst 0, 1) := by decide +kernel
theorem dX3_init_132 : decode cX3_init 132 = .ok (.invokevirtual 53, 3) := by decide +kernel
theorem dX3_init_135 : decode cX3_init 135 = .ok (.putfield 57, 3) := by decide +kernel
theorem dX3_init_138 : decode cX3_init 138 = .ok (.return_, 1) := by decide +kernel
set_option maxRecDepth 20000 in
theorem ggX3_dateBack_X1_monthsBack : GoodIn wsX3_dateBack wsX1_monthsBack := goodIn_r _ [4, 5, 6, 7, 8, 9, 10, 3, 11, 12, 13, 14, 15, 16, 17, 18, 19, 20] (by decide +kernel) (by decide +kernel)
set_option maxRecDepth 20000 in
theorem gX3_dateBack_X1_monthsBack : GoodIn wsX3_dateBack (va_wsS RX3 60 yX1_monthsBack wsX1_monthsBack) := goodIn_app (goodIn_of _ (by decide +kernel)) ggX3_dateBack_X1_monthsBack
theorem dX3_dateBack_0 : decode cX3_dateBack 0 = .ok (.iload_n 2, 1) := by decide +kernel
theorem dX3_dateBack_1 : decode cX3_dateBack 1 = .ok (.ifCond .gt 7, 3) := by decide +kernel
theorem dX3_dateBack_4 : decode cX3_dateBack 4 = .ok (.iload_n 0, 1) := by decide +kernel
theorem dX3_dateBack_5 : decode cX3_dateBack 5 = .ok (.goto 13, 3) := by decide +kernel
theorem dX3_dateBack_8 : decode cX3_dateBack 8 = .ok (.iload_n 0, 1) := by decide +kernel
theorem dX3_dateBack_9 : decode cX3_dateBack 9 = .ok (.iload_n 1, 1) := by decide +kernel
theorem dX3_dateBack_10 : decode cX3_dateBack 10 = .ok (.bipush 12, 2) := by decide +kernel
theorem dX3_dateBack_12 : decode cX3_dateBack 12 = .ok (.iload_n 2, 1) := by decide +kernel
theorem dX3_dateBack_13 : decode cX3_dateBack 13 = .ok (.idiv, 1) := by decide +kernel
theorem dX3_dateBack_14 : decode cX3_dateBack 14 = .ok (.imul, 1) := by decide +kernel
theorem dX3_dateBack_15 : decode cX3_dateBack 15 = .ok (.invokestatic 60, 3) := by decide +kernel
theorem dX3_dateBack_18 : decode cX3_dateBack 18 = .ok (.ireturn, 1) := by decide +kernel
set_option maxRecDepth 20000 in
theorem ggX3_countCoupons_X3_dateBack : GoodIn wsX3_countCoupons wsX3_dateBack := goodIn_r _ [4, 5, 6, 7, 8, 9, 10, 11, 12, 13, 14, 15, 16, 17, 18, 19, 20, 21, 22, 23, 24] (by decide +kernel) (by decide +kernel)
set_option maxRecDepth 20000 in
theorem gX3_countCoupons_X3_dateBack : GoodIn wsX3_countCoupons (va_wsS RX3 25 yX3_dateBack wsX3_dateBack) := goodIn_app (goodIn_of _ (by decide +kernel)) ggX3_countCoupons_X3_dateBack
theorem dX3_countCoupons_0 : decode cX3_countCoupons 0 = .ok (.iconst 0, 1) := by decide +kernel
theorem dX3_countCoupons_1 : decode cX3_countCoupons 1 = .ok (.istore_n 3, 1) := by decide +kernel
theorem dX3_countCoupons_2 : decode cX3_countCoupons 2 = .ok (.iload_n 3, 1) := by decide +kernel
theorem dX3_countCoupons_3 : decode cX3_countCoupons 3 = .ok (.bipush 120, 2) := by decide +kernel
theorem dX3_countCoupons_5 : decode cX3_countCoupons 5 = .ok (.if_icmp .gt 19, 3) := by decide +kernel
theorem dX3_countCoupons_8 : decode cX3_countCoupons 8 = .ok (.iload_n 1, 1) := by decide +kernel
theorem dX3_countCoupons_9 : decode cX3_countCoupons 9 = .ok (.iload_n 3, 1) := by decide +kernel
theorem dX3_countCoupons_10 : decode cX3_countCoupons 10 = .ok (.iload_n 2, 1) := by decide +kernel
theorem dX3_countCoupons_11 : decode cX3_countCoupons 11 = .ok (.invokestatic 25, 3) := by decide +kernel
theorem dX3_countCoupons_14 : decode cX3_countCoupons 14 = .ok (.iload_n 0, 1) := by decide +kernel
theorem dX3_countCoupons_15 : decode cX3_countCoupons 15 = .ok (.if_icmp .le 9, 3) := by decide +kernel
theorem dX3_countCoupons_18 : decode cX3_countCoupons 18 = .ok (.iinc 3 1, 3) := by decide +kernel
theorem dX3_countCoupons_21 : decode cX3_countCoupons 21 = .ok (.goto (-19), 3) := by decide +kernel
theorem dX3_countCoupons_24 : decode cX3_countCoupons 24 = .ok (.iload_n 3, 1) := by decide +kernel
theorem dX3_countCoupons_25 : decode cX3_countCoupons 25 = .ok (.ireturn, 1) := by decide +kernel
theorem dX3_firstBehind_0 : decode cX3_firstBehind 0 = .ok (.iconst 0, 1) := by decide +kernel
theorem dX3_firstBehind_1 : decode cX3_firstBehind 1 = .ok (.istore_n 2, 1) := by decide +kernel
theorem dX3_firstBehind_2 : decode cX3_firstBehind 2 = .ok (.iload_n 2, 1) := by decide +kernel
theorem dX3_firstBehind_3 : decode cX3_firstBehind 3 = .ok (.aload_n 0, 1) := by decide +kernel
theorem dX3_firstBehind_4 : decode cX3_firstBehind 4 = .ok (.getfield 41, 3) := by decide +kernel
theorem dX3_firstBehind_7 : decode cX3_firstBehind 7 = .ok (.arraylength, 1) := by decide +kernel
theorem dX3_firstBehind_8 : decode cX3_firstBehind 8 = .ok (.if_icmp .ge 19, 3) := by decide +kernel
theorem dX3_firstBehind_11 : decode cX3_firstBehind 11 = .ok (.aload_n 0, 1) := by decide +kernel
theorem dX3_firstBehind_12 : decode cX3_firstBehind 12 = .ok (.getfield 41, 3) := by decide +kernel
theorem dX3_firstBehind_15 : decode cX3_firstBehind 15 = .ok (.iload_n 2, 1) := by decide +kernel
theorem dX3_firstBehind_16 : decode cX3_firstBehind 16 = .ok (.iaload, 1) := by decide +kernel
theorem dX3_firstBehind_17 : decode cX3_firstBehind 17 = .ok (.iload_n 1, 1) := by decide +kernel
theorem dX3_firstBehind_18 : decode cX3_firstBehind 18 = .ok (.if_icmp .gt 9, 3) := by decide +kernel
theorem dX3_firstBehind_21 : decode cX3_firstBehind 21 = .ok (.iinc 2 1, 3) := by decide +kernel
theorem dX3_firstBehind_24 : decode cX3_firstBehind 24 = .ok (.goto (-22), 3) := by decide +kernel
theorem dX3_firstBehind_27 : decode cX3_firstBehind 27 = .ok (.iload_n 2, 1) := by decide +kernel
theorem dX3_firstBehind_28 : decode cX3_firstBehind 28 = .ok (.ireturn, 1) := by decide +kernel
theorem dX3_beginOf_0 : decode cX3_beginOf 0 = .ok (.iload_n 1, 1) := by decide +kernel
theorem dX3_beginOf_1 : decode cX3_beginOf 1 = .ok (.iconst 1, 1) := by decide +kernel
theorem dX3_beginOf_2 : decode cX3_beginOf 2 = .ok (.if_icmp .lt 23, 3) := by decide +kernel
theorem dX3_beginOf_5 : decode cX3_beginOf 5 = .ok (.iload_n 1, 1) := by decide +kernel
theorem dX3_beginOf_6 : decode cX3_beginOf 6 = .ok (.aload_n 0, 1) := by decide +kernel
theorem dX3_beginOf_7 : decode cX3_beginOf 7 = .ok (.getfield 41, 3) := by decide +kernel
theorem dX3_beginOf_10 : decode cX3_beginOf 10 = .ok (.arraylength, 1) := by decide +kernel
theorem dX3_beginOf_11 : decode cX3_beginOf 11 = .ok (.if_icmp .gt 14, 3) := by decide +kernel
theorem dX3_beginOf_14 : decode cX3_beginOf 14 = .ok (.aload_n 0, 1) := by decide +kernel
theorem dX3_beginOf_15 : decode cX3_beginOf 15 = .ok (.getfield 41, 3) := by decide +kernel
theorem dX3_beginOf_18 : decode cX3_beginOf 18 = .ok (.iload_n 1, 1) := by decide +kernel
theorem dX3_beginOf_19 : decode cX3_beginOf 19 = .ok (.iconst 1, 1) := by decide +kernel
theorem dX3_beginOf_20 : decode cX3_beginOf 20 = .ok (.isub, 1) := by decide +kernel
theorem dX3_beginOf_21 : decode cX3_beginOf 21 = .ok (.iaload, 1) := by decide +kernel
theorem dX3_beginOf_22 : decode cX3_beginOf 22 = .ok (.goto 7, 3) := by decide +kernel
theorem dX3_beginOf_25 : decode cX3_beginOf 25 = .ok (.aload_n 0, 1) := by decide +kernel
theorem dX3_beginOf_26 : decode cX3_beginOf 26 = .ok (.getfield 7, 3) := by decide +kernel
theorem dX3_beginOf_29 : decode cX3_beginOf 29 = .ok (.ireturn, 1) := by decide +kernel
theorem dX3_couponFor_0 : decode cX3_couponFor 0 = .ok (.iload_n 1, 1) := by decide +kernel
theorem dX3_couponFor_1 : decode cX3_couponFor 1 = .ok (.ifCond .ne 45, 3) := by decide +kernel
theorem dX3_couponFor_4 : decode cX3_couponFor 4 = .ok (.aload_n 0, 1) := by decide +kernel
theorem dX3_couponFor_5 : decode cX3_couponFor 5 = .ok (.getfield 29, 3) := by decide +kernel
theorem dX3_couponFor_8 : decode cX3_couponFor 8 = .ok (.aload_n 0, 1) := by decide +kernel
theorem dX3_couponFor_9 : decode cX3_couponFor 9 = .ok (.getfield 7, 3) := by decide +kernel
theorem dX3_couponFor_12 : decode cX3_couponFor 12 = .ok (.if_icmp .ge 34, 3) := by decide +kernel
theorem dX3_couponFor_15 : decode cX3_couponFor 15 = .ok (.aload_n 0, 1) := by decide +kernel
theorem dX3_couponFor_16 : decode cX3_couponFor 16 = .ok (.getfield 57, 3) := by decide +kernel
theorem dX3_couponFor_19 : decode cX3_couponFor 19 = .ok (.lconst 0, 1) := by decide +kernel
theorem dX3_couponFor_20 : decode cX3_couponFor 20 = .ok (.lcmp, 1) := by decide +kernel
theorem dX3_couponFor_21 : decode cX3_couponFor 21 = .ok (.ifCond .gt 7, 3) := by decide +kernel
theorem dX3_couponFor_24 : decode cX3_couponFor 24 = .ok (.lconst 0, 1) := by decide +kernel
theorem dX3_couponFor_25 : decode cX3_couponFor 25 = .ok (.goto 20, 3) := by decide +kernel
theorem dX3_couponFor_28 : decode cX3_couponFor 28 = .ok (.lload_n 2, 1) := by decide +kernel
theorem dX3_couponFor_29 : decode cX3_couponFor 29 = .ok (.aload_n 0, 1) := by decide +kernel
theorem dX3_couponFor_30 : decode cX3_couponFor 30 = .ok (.getfield 16, 3) := by decide +kernel
theorem dX3_couponFor_33 : decode cX3_couponFor 33 = .ok (.i2l, 1) := by decide +kernel
theorem dX3_couponFor_34 : decode cX3_couponFor 34 = .ok (.lmul, 1) := by decide +kernel
theorem dX3_couponFor_35 : decode cX3_couponFor 35 = .ok (.aload_n 0, 1) := by decide +kernel
theorem dX3_couponFor_36 : decode cX3_couponFor 36 = .ok (.getfield 49, 3) := by decide +kernel
theorem dX3_couponFor_39 : decode cX3_couponFor 39 = .ok (.lmul, 1) := by decide +kernel
theorem dX3_couponFor_40 : decode cX3_couponFor 40 = .ok (.aload_n 0, 1) := by decide +kernel
theorem dX3_couponFor_41 : decode cX3_couponFor 41 = .ok (.getfield 57, 3) := by decide +kernel
theorem dX3_couponFor_44 : decode cX3_couponFor 44 = .ok (.ldiv, 1) := by decide +kernel
theorem dX3_couponFor_45 : decode cX3_couponFor 45 = .ok (.lreturn, 1) := by decide +kernel
theorem dX3_couponFor_46 : decode cX3_couponFor 46 = .ok (.ldc2_w 65, 3) := by decide +kernel
theorem dX3_couponFor_49 : decode cX3_couponFor 49 = .ok (.aload_n 0, 1) := by decide +kernel
theorem dX3_couponFor_50 : decode cX3_couponFor 50 = .ok (.getfield 19, 3) := by decide +kernel
theorem dX3_couponFor_53 : decode cX3_couponFor 53 = .ok (.i2l, 1) := by decide +kernel
theorem dX3_couponFor_54 : decode cX3_couponFor 54 = .ok (.lmul, 1) := by decide +kernel
theorem dX3_couponFor_55 : decode cX3_couponFor 55 = .ok (.lstore 4, 2) := by decide +kernel
theorem dX3_couponFor_57 : decode cX3_couponFor 57 = .ok (.lload 4, 2) := by decide +kernel
theorem dX3_couponFor_59 : decode cX3_couponFor 59 = .ok (.lconst 0, 1) := by decide +kernel
theorem dX3_couponFor_60 : decode cX3_couponFor 60 = .ok (.lcmp, 1) := by decide +kernel
theorem dX3_couponFor_61 : decode cX3_couponFor 61 = .ok (.ifCond .gt 7, 3) := by decide +kernel
theorem dX3_couponFor_64 : decode cX3_couponFor 64 = .ok (.lconst 0, 1) := by decide +kernel
theorem dX3_couponFor_65 : decode cX3_couponFor 65 = .ok (.goto 13, 3) := by decide +kernel
theorem dX3_couponFor_68 : decode cX3_couponFor 68 = .ok (.lload_n 2, 1) := by decide +kernel
theorem dX3_couponFor_69 : decode cX3_couponFor 69 = .ok (.aload_n 0, 1) := by decide +kernel
theorem dX3_couponFor_70 : decode cX3_couponFor 70 = .ok (.getfield 16, 3) := by decide +kernel
theorem dX3_couponFor_73 : decode cX3_couponFor 73 = .ok (.i2l, 1) := by decide +kernel
theorem dX3_couponFor_74 : decode cX3_couponFor 74 = .ok (.lmul, 1) := by decide +kernel
theorem dX3_couponFor_75 : decode cX3_couponFor 75 = .ok (.lload 4, 2) := by decide +kernel
theorem dX3_couponFor_77 : decode cX3_couponFor 77 = .ok (.ldiv, 1) := by decide +kernel
theorem dX3_couponFor_78 : decode cX3_couponFor 78 = .ok (.lreturn, 1) := by decide +kernel
set_option maxRecDepth 20000 in
theorem ggX3_accruedFor_X3_firstBehind : GoodIn wsX3_accruedFor wsX3_firstBehind := goodIn_r _ [8, 2, 51, 52, 53, 54, 55, 56, 57, 58, 59] (by decide +kernel) (by decide +kernel)
set_option maxRecDepth 20000 in
theorem gX3_accruedFor_X3_firstBehind : GoodIn wsX3_accruedFor (wsV RX3 67 RX3 yX3_firstBehind wsX3_firstBehind) := goodIn_app (goodIn_of _ (by decide +kernel)) ggX3_accruedFor_X3_firstBehind
set_option maxRecDepth 20000 in
theorem ggX3_accruedFor_X3_yearOfPeriod : GoodIn wsX3_accruedFor wsX3_yearOfPeriod := goodIn_r _ [12, 13, 14, 2, 15, 16, 17, 18, 19, 20, 21, 22, 23, 24, 25, 26, 51, 52, 53, 54, 55, 56, 57, 58, 59] (by decide +kernel) (by decide +kernel)
set_option maxRecDepth 20000 in
theorem gX3_accruedFor_X3_yearOfPeriod : GoodIn wsX3_accruedFor (wsV RX3 53 RX3 yX3_yearOfPeriod wsX3_yearOfPeriod) := goodIn_app (goodIn_of _ (by decide +kernel)) ggX3_accruedFor_X3_yearOfPeriod
set_option maxRecDepth 20000 in
theorem ggX3_accruedFor_X3_beginOf : GoodIn wsX3_accruedFor wsX3_beginOf := goodIn_r _ [30, 2, 1, 51, 52, 53, 54, 55, 56, 57, 58, 59] (by decide +kernel) (by decide +kernel)
set_option maxRecDepth 20000 in
theorem gX3_accruedFor_X3_beginOf : GoodIn wsX3_accruedFor (wsV RX3 71 RX3 yX3_beginOf wsX3_beginOf) := goodIn_app (goodIn_of _ (by decide +kernel)) ggX3_accruedFor_X3_beginOf
set_option maxRecDepth 20000 in
theorem ggX3_accruedFor_X3_daysCounted : GoodIn wsX3_accruedFor wsX3_daysCounted := goodIn_r _ [34, 13, 35, 36, 21, 37, 38, 39, 40, 41, 42, 43, 44, 45, 46, 47, 48, 49, 50, 19, 20, 22, 23, 24, 25, 26, 51, 52, 53, 54, 55, 56, 57, 58, 59] (by decide +kernel) (by decide +kernel)
set_option maxRecDepth 20000 in
theorem gX3_accruedFor_X3_daysCounted : GoodIn wsX3_accruedFor (wsV RX3 45 RX3 yX3_daysCounted wsX3_daysCounted) := goodIn_app (goodIn_of _ (by decide +kernel)) ggX3_accruedFor_X3_daysCounted
theorem dX3_accruedFor_0 : decode cX3_accruedFor 0 = .ok (.aload_n 0, 1) := by decide +kernel
theorem dX3_accruedFor_1 : decode cX3_accruedFor 1 = .ok (.iload_n 1, 1) := by decide +kernel
theorem dX3_accruedFor_2 : decode cX3_accruedFor 2 = .ok (.invokevirtual 67, 3) := by decide +kernel
theorem dX3_accruedFor_5 : decode cX3_accruedFor 5 = .ok (.istore 4, 2) := by decide +kernel
theorem dX3_accruedFor_7 : decode cX3_accruedFor 7 = .ok (.iload_n 1, 1) := by decide +kernel
theorem dX3_accruedFor_8 : decode cX3_accruedFor 8 = .ok (.aload_n 0, 1) := by decide +kernel
theorem dX3_accruedFor_9 : decode cX3_accruedFor 9 = .ok (.getfield 7, 3) := by decide +kernel
theorem dX3_accruedFor_12 : decode cX3_accruedFor 12 = .ok (.if_icmp .lt 13, 3) := by decide +kernel
theorem dX3_accruedFor_15 : decode cX3_accruedFor 15 = .ok (.iload 4, 2) := by decide +kernel
theorem dX3_accruedFor_17 : decode cX3_accruedFor 17 = .ok (.aload_n 0, 1) := by decide +kernel
theorem dX3_accruedFor_18 : decode cX3_accruedFor 18 = .ok (.getfield 41, 3) := by decide +kernel
theorem dX3_accruedFor_21 : decode cX3_accruedFor 21 = .ok (.arraylength, 1) := by decide +kernel
theorem dX3_accruedFor_22 : decode cX3_accruedFor 22 = .ok (.if_icmp .lt 5, 3) := by decide +kernel
theorem dX3_accruedFor_25 : decode cX3_accruedFor 25 = .ok (.lconst 0, 1) := by decide +kernel
theorem dX3_accruedFor_26 : decode cX3_accruedFor 26 = .ok (.lreturn, 1) := by decide +kernel
theorem dX3_accruedFor_27 : decode cX3_accruedFor 27 = .ok (.aload_n 0, 1) := by decide +kernel
theorem dX3_accruedFor_28 : decode cX3_accruedFor 28 = .ok (.iload 4, 2) := by decide +kernel
theorem dX3_accruedFor_30 : decode cX3_accruedFor 30 = .ok (.invokevirtual 53, 3) := by decide +kernel
theorem dX3_accruedFor_33 : decode cX3_accruedFor 33 = .ok (.lstore 5, 2) := by decide +kernel
theorem dX3_accruedFor_35 : decode cX3_accruedFor 35 = .ok (.lload 5, 2) := by decide +kernel
theorem dX3_accruedFor_37 : decode cX3_accruedFor 37 = .ok (.lconst 0, 1) := by decide +kernel
theorem dX3_accruedFor_38 : decode cX3_accruedFor 38 = .ok (.lcmp, 1) := by decide +kernel
theorem dX3_accruedFor_39 : decode cX3_accruedFor 39 = .ok (.ifCond .gt 7, 3) := by decide +kernel
theorem dX3_accruedFor_42 : decode cX3_accruedFor 42 = .ok (.lconst 0, 1) := by decide +kernel
theorem dX3_accruedFor_43 : decode cX3_accruedFor 43 = .ok (.goto 25, 3) := by decide +kernel
theorem dX3_accruedFor_46 : decode cX3_accruedFor 46 = .ok (.lload_n 2, 1) := by decide +kernel
theorem dX3_accruedFor_47 : decode cX3_accruedFor 47 = .ok (.aload_n 0, 1) := by decide +kernel
theorem dX3_accruedFor_48 : decode cX3_accruedFor 48 = .ok (.getfield 16, 3) := by decide +kernel
theorem dX3_accruedFor_51 : decode cX3_accruedFor 51 = .ok (.i2l, 1) := by decide +kernel
theorem dX3_accruedFor_52 : decode cX3_accruedFor 52 = .ok (.lmul, 1) := by decide +kernel
theorem dX3_accruedFor_53 : decode cX3_accruedFor 53 = .ok (.aload_n 0, 1) := by decide +kernel
theorem dX3_accruedFor_54 : decode cX3_accruedFor 54 = .ok (.aload_n 0, 1) := by decide +kernel
theorem dX3_accruedFor_55 : decode cX3_accruedFor 55 = .ok (.iload 4, 2) := by decide +kernel
theorem dX3_accruedFor_57 : decode cX3_accruedFor 57 = .ok (.invokevirtual 71, 3) := by decide +kernel
theorem dX3_accruedFor_60 : decode cX3_accruedFor 60 = .ok (.iload_n 1, 1) := by decide +kernel
theorem dX3_accruedFor_61 : decode cX3_accruedFor 61 = .ok (.invokevirtual 45, 3) := by decide +kernel
theorem dX3_accruedFor_64 : decode cX3_accruedFor 64 = .ok (.lmul, 1) := by decide +kernel
theorem dX3_accruedFor_65 : decode cX3_accruedFor 65 = .ok (.lload 5, 2) := by decide +kernel
theorem dX3_accruedFor_67 : decode cX3_accruedFor 67 = .ok (.ldiv, 1) := by decide +kernel
theorem dX3_accruedFor_68 : decode cX3_accruedFor 68 = .ok (.lreturn, 1) := by decide +kernel
set_option maxRecDepth 20000 in
theorem ggX3_daysCounted_X1_daysOf30 : GoodIn wsX3_daysCounted wsX1_daysOf30 := goodIn_r _ [5, 6, 7, 8, 9, 10, 11, 4, 12, 13, 14, 15, 16, 17, 18] (by decide +kernel) (by decide +kernel)
set_option maxRecDepth 20000 in
theorem gX3_daysCounted_X1_daysOf30 : GoodIn wsX3_daysCounted (va_wsS RX3 74 yX1_daysOf30 wsX1_daysOf30) := goodIn_app (goodIn_of _ (by decide +kernel)) ggX3_daysCounted_X1_daysOf30
set_option maxRecDepth 20000 in
theorem ggX3_daysCounted_X1_daysBetween : GoodIn wsX3_daysCounted wsX1_daysBetween := goodIn_r _ [21, 22, 23, 4, 24, 25] (by decide +kernel) (by decide +kernel)
set_option maxRecDepth 20000 in
theorem gX3_daysCounted_X1_daysBetween : GoodIn wsX3_daysCounted (va_wsS RX3 77 yX1_daysBetween wsX1_daysBetween) := goodIn_app (goodIn_of _ (by decide +kernel)) ggX3_daysCounted_X1_daysBetween
theorem dX3_daysCounted_0 : decode cX3_daysCounted 0 = .ok (.aload_n 0, 1) := by decide +kernel
theorem dX3_daysCounted_1 : decode cX3_daysCounted 1 = .ok (.getfield 22, 3) := by decide +kernel
theorem dX3_daysCounted_4 : decode cX3_daysCounted 4 = .ok (.ifCond .ne 12, 3) := by decide +kernel
theorem dX3_daysCounted_7 : decode cX3_daysCounted 7 = .ok (.iload_n 1, 1) := by decide +kernel
theorem dX3_daysCounted_8 : decode cX3_daysCounted 8 = .ok (.iload_n 2, 1) := by decide +kernel
theorem dX3_daysCounted_9 : decode cX3_daysCounted 9 = .ok (.invokestatic 74, 3) := by decide +kernel
theorem dX3_daysCounted_12 : decode cX3_daysCounted 12 = .ok (.i2l, 1) := by decide +kernel
theorem dX3_daysCounted_13 : decode cX3_daysCounted 13 = .ok (.goto 9, 3) := by decide +kernel
theorem dX3_daysCounted_16 : decode cX3_daysCounted 16 = .ok (.iload_n 1, 1) := by decide +kernel
theorem dX3_daysCounted_17 : decode cX3_daysCounted 17 = .ok (.iload_n 2, 1) := by decide +kernel
theorem dX3_daysCounted_18 : decode cX3_daysCounted 18 = .ok (.invokestatic 77, 3) := by decide +kernel
theorem dX3_daysCounted_21 : decode cX3_daysCounted 21 = .ok (.i2l, 1) := by decide +kernel
theorem dX3_daysCounted_22 : decode cX3_daysCounted 22 = .ok (.lreturn, 1) := by decide +kernel
set_option maxRecDepth 20000 in
theorem ggX3_yearOfPeriod_X1_daysBetween : GoodIn wsX3_yearOfPeriod wsX1_daysBetween := goodIn_r _ [11, 12, 13, 10, 14, 15] (by decide +kernel) (by decide +kernel)
set_option maxRecDepth 20000 in
theorem gX3_yearOfPeriod_X1_daysBetween : GoodIn wsX3_yearOfPeriod (va_wsS RX3 77 yX1_daysBetween wsX1_daysBetween) := goodIn_app (goodIn_of _ (by decide +kernel)) ggX3_yearOfPeriod_X1_daysBetween
theorem dX3_yearOfPeriod_0 : decode cX3_yearOfPeriod 0 = .ok (.aload_n 0, 1) := by decide +kernel
theorem dX3_yearOfPeriod_1 : decode cX3_yearOfPeriod 1 = .ok (.getfield 22, 3) := by decide +kernel
theorem dX3_yearOfPeriod_4 : decode cX3_yearOfPeriod 4 = .ok (.iconst 2, 1) := by decide +kernel
theorem dX3_yearOfPeriod_5 : decode cX3_yearOfPeriod 5 = .ok (.if_icmp .ne 7, 3) := by decide +kernel
theorem dX3_yearOfPeriod_8 : decode cX3_yearOfPeriod 8 = .ok (.ldc2_w 80, 3) := by decide +kernel
theorem dX3_yearOfPeriod_11 : decode cX3_yearOfPeriod 11 = .ok (.lreturn, 1) := by decide +kernel
theorem dX3_yearOfPeriod_12 : decode cX3_yearOfPeriod 12 = .ok (.aload_n 0, 1) := by decide +kernel
theorem dX3_yearOfPeriod_13 : decode cX3_yearOfPeriod 13 = .ok (.getfield 22, 3) := by decide +kernel
theorem dX3_yearOfPeriod_16 : decode cX3_yearOfPeriod 16 = .ok (.iconst 3, 1) := by decide +kernel
theorem dX3_yearOfPeriod_17 : decode cX3_yearOfPeriod 17 = .ok (.if_icmp .ne 16, 3) := by decide +kernel
theorem dX3_yearOfPeriod_20 : decode cX3_yearOfPeriod 20 = .ok (.iload_n 1, 1) := by decide +kernel
theorem dX3_yearOfPeriod_21 : decode cX3_yearOfPeriod 21 = .ok (.ifCond .lt 12, 3) := by decide +kernel
theorem dX3_yearOfPeriod_24 : decode cX3_yearOfPeriod 24 = .ok (.iload_n 1, 1) := by decide +kernel
theorem dX3_yearOfPeriod_25 : decode cX3_yearOfPeriod 25 = .ok (.aload_n 0, 1) := by decide +kernel
theorem dX3_yearOfPeriod_26 : decode cX3_yearOfPeriod 26 = .ok (.getfield 41, 3) := by decide +kernel
theorem dX3_yearOfPeriod_29 : decode cX3_yearOfPeriod 29 = .ok (.arraylength, 1) := by decide +kernel
theorem dX3_yearOfPeriod_30 : decode cX3_yearOfPeriod 30 = .ok (.if_icmp .lt 7, 3) := by decide +kernel
theorem dX3_yearOfPeriod_33 : decode cX3_yearOfPeriod 33 = .ok (.ldc2_w 82, 3) := by decide +kernel
theorem dX3_yearOfPeriod_36 : decode cX3_yearOfPeriod 36 = .ok (.lreturn, 1) := by decide +kernel
theorem dX3_yearOfPeriod_37 : decode cX3_yearOfPeriod 37 = .ok (.iload_n 1, 1) := by decide +kernel
theorem dX3_yearOfPeriod_38 : decode cX3_yearOfPeriod 38 = .ok (.ifCond .ne 10, 3) := by decide +kernel
theorem dX3_yearOfPeriod_41 : decode cX3_yearOfPeriod 41 = .ok (.aload_n 0, 1) := by decide +kernel
theorem dX3_yearOfPeriod_42 : decode cX3_yearOfPeriod 42 = .ok (.getfield 29, 3) := by decide +kernel
theorem dX3_yearOfPeriod_45 : decode cX3_yearOfPeriod 45 = .ok (.goto 11, 3) := by decide +kernel
theorem dX3_yearOfPeriod_48 : decode cX3_yearOfPeriod 48 = .ok (.aload_n 0, 1) := by decide +kernel
theorem dX3_yearOfPeriod_49 : decode cX3_yearOfPeriod 49 = .ok (.getfield 41, 3) := by decide +kernel
theorem dX3_yearOfPeriod_52 : decode cX3_yearOfPeriod 52 = .ok (.iload_n 1, 1) := by decide +kernel
theorem dX3_yearOfPeriod_53 : decode cX3_yearOfPeriod 53 = .ok (.iconst 1, 1) := by decide +kernel
theorem dX3_yearOfPeriod_54 : decode cX3_yearOfPeriod 54 = .ok (.isub, 1) := by decide +kernel
theorem dX3_yearOfPeriod_55 : decode cX3_yearOfPeriod 55 = .ok (.iaload, 1) := by decide +kernel
theorem dX3_yearOfPeriod_56 : decode cX3_yearOfPeriod 56 = .ok (.istore_n 2, 1) := by decide +kernel
theorem dX3_yearOfPeriod_57 : decode cX3_yearOfPeriod 57 = .ok (.ldc2_w 65, 3) := by decide +kernel
theorem dX3_yearOfPeriod_60 : decode cX3_yearOfPeriod 60 = .ok (.aload_n 0, 1) := by decide +kernel
theorem dX3_yearOfPeriod_61 : decode cX3_yearOfPeriod 61 = .ok (.getfield 19, 3) := by decide +kernel
theorem dX3_yearOfPeriod_64 : decode cX3_yearOfPeriod 64 = .ok (.i2l, 1) := by decide +kernel
theorem dX3_yearOfPeriod_65 : decode cX3_yearOfPeriod 65 = .ok (.lmul, 1) := by decide +kernel
theorem dX3_yearOfPeriod_66 : decode cX3_yearOfPeriod 66 = .ok (.iload_n 2, 1) := by decide +kernel
theorem dX3_yearOfPeriod_67 : decode cX3_yearOfPeriod 67 = .ok (.aload_n 0, 1) := by decide +kernel
theorem dX3_yearOfPeriod_68 : decode cX3_yearOfPeriod 68 = .ok (.getfield 41, 3) := by decide +kernel
theorem dX3_yearOfPeriod_71 : decode cX3_yearOfPeriod 71 = .ok (.iload_n 1, 1) := by decide +kernel
theorem dX3_yearOfPeriod_72 : decode cX3_yearOfPeriod 72 = .ok (.iaload, 1) := by decide +kernel
theorem dX3_yearOfPeriod_73 : decode cX3_yearOfPeriod 73 = .ok (.invokestatic 77, 3) := by decide +kernel
theorem dX3_yearOfPeriod_76 : decode cX3_yearOfPeriod 76 = .ok (.i2l, 1) := by decide +kernel
theorem dX3_yearOfPeriod_77 : decode cX3_yearOfPeriod 77 = .ok (.lmul, 1) := by decide +kernel
theorem dX3_yearOfPeriod_78 : decode cX3_yearOfPeriod 78 = .ok (.lreturn, 1) := by decide +kernel
