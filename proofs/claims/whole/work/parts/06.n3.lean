theorem dX5_append_15 : decode cX5_append 15 = .ok (.bipush 60, 2) := by decide +kernel
theorem dX5_append_17 : decode cX5_append 17 = .ok (.if_icmp .lt 13, 3) := by decide +kernel
theorem dX5_append_20 : decode cX5_append 20 = .ok (.new 48, 3) := by decide +kernel
theorem dX5_append_23 : decode cX5_append 23 = .ok (.dup, 1) := by decide +kernel
theorem dX5_append_24 : decode cX5_append 24 = .ok (.ldc 124, 2) := by decide +kernel
theorem dX5_append_26 : decode cX5_append 26 = .ok (.invokespecial 52, 3) := by decide +kernel
theorem dX5_append_29 : decode cX5_append 29 = .ok (.athrow, 1) := by decide +kernel
theorem dX5_append_30 : decode cX5_append 30 = .ok (.aload_n 0, 1) := by decide +kernel
theorem dX5_append_31 : decode cX5_append 31 = .ok (.getfield 36, 3) := by decide +kernel
theorem dX5_append_34 : decode cX5_append 34 = .ok (.getfield 126, 3) := by decide +kernel
theorem dX5_append_37 : decode cX5_append 37 = .ok (.aload_n 0, 1) := by decide +kernel
theorem dX5_append_38 : decode cX5_append 38 = .ok (.getfield 36, 3) := by decide +kernel
theorem dX5_append_41 : decode cX5_append 41 = .ok (.getfield 121, 3) := by decide +kernel
theorem dX5_append_44 : decode cX5_append 44 = .ok (.iload_n 1, 1) := by decide +kernel
theorem dX5_append_45 : decode cX5_append 45 = .ok (.iastore, 1) := by decide +kernel
theorem dX5_append_46 : decode cX5_append 46 = .ok (.aload_n 0, 1) := by decide +kernel
theorem dX5_append_47 : decode cX5_append 47 = .ok (.getfield 36, 3) := by decide +kernel
theorem dX5_append_50 : decode cX5_append 50 = .ok (.dup, 1) := by decide +kernel
theorem dX5_append_51 : decode cX5_append 51 = .ok (.getfield 121, 3) := by decide +kernel
theorem dX5_append_54 : decode cX5_append 54 = .ok (.iconst 1, 1) := by decide +kernel
theorem dX5_append_55 : decode cX5_append 55 = .ok (.iadd, 1) := by decide +kernel
theorem dX5_append_56 : decode cX5_append 56 = .ok (.putfield 121, 3) := by decide +kernel
theorem dX5_append_59 : decode cX5_append 59 = .ok (.aload_n 0, 1) := by decide +kernel
theorem dX5_append_60 : decode cX5_append 60 = .ok (.getfield 36, 3) := by decide +kernel
theorem dX5_append_63 : decode cX5_append 63 = .ok (.getfield 121, 3) := by decide +kernel
theorem dX5_append_66 : decode cX5_append 66 = .ok (.ireturn, 1) := by decide +kernel
theorem dX5_clearBuffer_0 : decode cX5_clearBuffer 0 = .ok (.aload_n 0, 1) := by decide +kernel
theorem dX5_clearBuffer_1 : decode cX5_clearBuffer 1 = .ok (.getfield 36, 3) := by decide +kernel
theorem dX5_clearBuffer_4 : decode cX5_clearBuffer 4 = .ok (.getfield 121, 3) := by decide +kernel
theorem dX5_clearBuffer_7 : decode cX5_clearBuffer 7 = .ok (.istore_n 1, 1) := by decide +kernel
theorem dX5_clearBuffer_8 : decode cX5_clearBuffer 8 = .ok (.aload_n 0, 1) := by decide +kernel
theorem dX5_clearBuffer_9 : decode cX5_clearBuffer 9 = .ok (.getfield 36, 3) := by decide +kernel
theorem dX5_clearBuffer_12 : decode cX5_clearBuffer 12 = .ok (.iconst 0, 1) := by decide +kernel
theorem dX5_clearBuffer_13 : decode cX5_clearBuffer 13 = .ok (.putfield 121, 3) := by decide +kernel
theorem dX5_clearBuffer_16 : decode cX5_clearBuffer 16 = .ok (.iload_n 1, 1) := by decide +kernel
theorem dX5_clearBuffer_17 : decode cX5_clearBuffer 17 = .ok (.ireturn, 1) := by decide +kernel
set_option maxRecDepth 20000 in
theorem ggX5_firstError_X0_errorIndex : GoodIn wsX5_firstError wsX0_errorIndex := goodIn_r _ [6, 7, 8, 9, 10, 11, 5, 12, 13, 14, 15, 16, 17, 18, 19, 20, 21, 22, 23, 24, 25, 26, 27, 28, 29, 30, 31, 32, 33, 34, 35, 36, 37, 38, 39, 40, 41, 47, 48, 49, 50, 51, 52] (by decide +kernel) (by decide +kernel)
set_option maxRecDepth 20000 in
theorem gX5_firstError_X0_errorIndex : GoodIn wsX5_firstError (wsV RX5 129 RX0 yX0_errorIndex wsX0_errorIndex) := goodIn_app (goodIn_of _ (by decide +kernel)) ggX5_firstError_X0_errorIndex
theorem dX5_firstError_0 : decode cX5_firstError 0 = .ok (.aload_n 0, 1) := by decide +kernel
theorem dX5_firstError_1 : decode cX5_firstError 1 = .ok (.getfield 36, 3) := by decide +kernel
theorem dX5_firstError_4 : decode cX5_firstError 4 = .ok (.invokevirtual 129, 3) := by decide +kernel
theorem dX5_firstError_7 : decode cX5_firstError 7 = .ok (.ireturn, 1) := by decide +kernel
set_option maxRecDepth 20000 in
theorem ggX5_read_X0_isBoard : GoodIn wsX5_read wsX0_isBoard := goodIn_r _ [11, 12, 13, 14, 15, 16, 17, 10, 18, 19, 20, 21, 22, 23, 24, 25, 26, 27, 28, 29, 30, 31, 32, 33, 34, 35, 36, 37, 38, 39, 40, 41, 42, 43, 44, 45, 46, 47, 48, 49, 50, 147, 148, 149, 150, 151, 152] (by decide +kernel) (by decide +kernel)
set_option maxRecDepth 20000 in
theorem gX5_read_X0_isBoard : GoodIn wsX5_read (wsV RX5 132 RX0 yX0_isBoard wsX0_isBoard) := goodIn_app (goodIn_of _ (by decide +kernel)) ggX5_read_X0_isBoard
set_option maxRecDepth 20000 in
theorem ggX5_read_X1_save : GoodIn wsX5_read wsX1_save := goodIn_r _ [55, 56, 57, 58, 59, 60, 61, 62, 63, 54, 64, 65, 66, 67, 68, 69, 70, 71, 72, 73, 74, 75, 76, 77, 78, 79, 80, 81, 82, 83, 84, 85, 86, 87, 88, 89, 90, 91, 92, 93, 94, 95, 96, 97, 98, 99, 100, 101, 102, 103, 104, 105, 106, 107, 108, 109, 110, 111, 112, 113, 153, 154, 155, 156, 157, 158, 159, 160, 161, 162, 163, 164, 165, 166, 167, 168] (by decide +kernel) (by decide +kernel)
set_option maxRecDepth 20000 in
theorem gX5_read_X1_save : GoodIn wsX5_read (wsV RX5 55 RX1 yX1_save wsX1_save) := goodIn_app (goodIn_of _ (by decide +kernel)) ggX5_read_X1_save
set_option maxRecDepth 20000 in
theorem ggX5_read_X5_addPartsOfText : GoodIn wsX5_read wsX5_addPartsOfText := goodIn_r _ [118, 3, 6, 119, 120, 21, 22, 10, 23, 13, 121, 122, 123, 117, 124, 125, 5, 126, 127, 128, 129, 130, 131, 60, 132, 95, 77, 80, 87, 88, 89, 76, 90, 86, 85, 133, 134, 135, 136, 96, 78, 137, 138, 139, 140, 141, 25, 26, 27, 28, 29, 30, 31, 32, 33, 34, 35, 36, 14, 37, 38, 39, 40, 41, 42, 43, 44, 45, 46, 47, 48, 49, 50, 20, 142, 143, 144, 145, 146, 147, 148, 149, 150, 151, 152, 155, 156, 157, 158, 159, 160, 161, 162, 163, 164, 165, 166, 167, 168] (by decide +kernel) (by decide +kernel)
set_option maxRecDepth 20000 in
theorem gX5_read_X5_addPartsOfText : GoodIn wsX5_read (wsV RX5 141 RX5 yX5_addPartsOfText wsX5_addPartsOfText) := goodIn_app (goodIn_of _ (by decide +kernel)) ggX5_read_X5_addPartsOfText
theorem dX5_read_0 : decode cX5_read 0 = .ok (.aload_n 0, 1) := by decide +kernel
theorem dX5_read_1 : decode cX5_read 1 = .ok (.getfield 36, 3) := by decide +kernel
theorem dX5_read_4 : decode cX5_read 4 = .ok (.invokevirtual 132, 3) := by decide +kernel
theorem dX5_read_7 : decode cX5_read 7 = .ok (.ifCond .ne 13, 3) := by decide +kernel
theorem dX5_read_10 : decode cX5_read 10 = .ok (.new 136, 3) := by decide +kernel
theorem dX5_read_13 : decode cX5_read 13 = .ok (.dup, 1) := by decide +kernel
theorem dX5_read_14 : decode cX5_read 14 = .ok (.ldc 138, 2) := by decide +kernel
theorem dX5_read_16 : decode cX5_read 16 = .ok (.invokespecial 140, 3) := by decide +kernel
theorem dX5_read_19 : decode cX5_read 19 = .ok (.athrow, 1) := by decide +kernel
theorem dX5_read_20 : decode cX5_read 20 = .ok (.aload_n 0, 1) := by decide +kernel
theorem dX5_read_21 : decode cX5_read 21 = .ok (.getfield 29, 3) := by decide +kernel
theorem dX5_read_24 : decode cX5_read 24 = .ok (.aload_n 0, 1) := by decide +kernel
theorem dX5_read_25 : decode cX5_read 25 = .ok (.getfield 10, 3) := by decide +kernel
theorem dX5_read_28 : decode cX5_read 28 = .ok (.invokevirtual 55, 3) := by decide +kernel
theorem dX5_read_31 : decode cX5_read 31 = .ok (.aload_n 0, 1) := by decide +kernel
theorem dX5_read_32 : decode cX5_read 32 = .ok (.invokevirtual 141, 3) := by decide +kernel
theorem dX5_read_35 : decode cX5_read 35 = .ok (.istore_n 1, 1) := by decide +kernel
theorem dX5_read_36 : decode cX5_read 36 = .ok (.aload_n 0, 1) := by decide +kernel
theorem dX5_read_37 : decode cX5_read 37 = .ok (.getfield 36, 3) := by decide +kernel
theorem dX5_read_40 : decode cX5_read 40 = .ok (.iconst 0, 1) := by decide +kernel
theorem dX5_read_41 : decode cX5_read 41 = .ok (.putfield 121, 3) := by decide +kernel
theorem dX5_read_44 : decode cX5_read 44 = .ok (.iload_n 1, 1) := by decide +kernel
theorem dX5_read_45 : decode cX5_read 45 = .ok (.ireturn, 1) := by decide +kernel
set_option maxRecDepth 20000 in
theorem ggX5_undo_X1_restore : GoodIn wsX5_undo wsX1_restore := goodIn_r _ [10, 11, 12, 13, 14, 15, 16, 17, 18, 19, 20, 21, 22, 23, 24, 25, 26, 27, 28, 29, 30, 31, 32, 33, 34, 35, 36, 37, 38, 39, 40, 41, 42, 43, 44, 50, 51, 52, 53, 54, 55, 56, 57, 58, 59, 60, 61, 62, 63, 64, 65] (by decide +kernel) (by decide +kernel)
set_option maxRecDepth 20000 in
theorem gX5_undo_X1_restore : GoodIn wsX5_undo (wsV RX5 144 RX1 yX1_restore wsX1_restore) := goodIn_app (goodIn_of _ (by decide +kernel)) ggX5_undo_X1_restore
theorem dX5_undo_0 : decode cX5_undo 0 = .ok (.aload_n 0, 1) := by decide +kernel
theorem dX5_undo_1 : decode cX5_undo 1 = .ok (.getfield 29, 3) := by decide +kernel
theorem dX5_undo_4 : decode cX5_undo 4 = .ok (.aload_n 0, 1) := by decide +kernel
theorem dX5_undo_5 : decode cX5_undo 5 = .ok (.getfield 10, 3) := by decide +kernel
theorem dX5_undo_8 : decode cX5_undo 8 = .ok (.invokevirtual 144, 3) := by decide +kernel
theorem dX5_undo_11 : decode cX5_undo 11 = .ok (.ifCond .ne 13, 3) := by decide +kernel
theorem dX5_undo_14 : decode cX5_undo 14 = .ok (.new 48, 3) := by decide +kernel
theorem dX5_undo_17 : decode cX5_undo 17 = .ok (.dup, 1) := by decide +kernel
theorem dX5_undo_18 : decode cX5_undo 18 = .ok (.ldc 148, 2) := by decide +kernel
theorem dX5_undo_20 : decode cX5_undo 20 = .ok (.invokespecial 52, 3) := by decide +kernel
theorem dX5_undo_23 : decode cX5_undo 23 = .ok (.athrow, 1) := by decide +kernel
theorem dX5_undo_24 : decode cX5_undo 24 = .ok (.aload_n 0, 1) := by decide +kernel
theorem dX5_undo_25 : decode cX5_undo 25 = .ok (.getfield 29, 3) := by decide +kernel
theorem dX5_undo_28 : decode cX5_undo 28 = .ok (.getfield 150, 3) := by decide +kernel
theorem dX5_undo_31 : decode cX5_undo 31 = .ok (.ireturn, 1) := by decide +kernel
set_option maxRecDepth 20000 in
theorem ggX5_feeder_X5_checkFeeder : GoodIn wsX5_feeder wsX5_checkFeeder := goodIn_ca (goodIn_r _ [8, 9, 10, 1, 11, 29, 30, 31, 32, 33, 34, 35, 36, 37, 38, 39, 40, 41, 42, 43, 44, 45] (by decide +kernel) (by decide +kernel)) (goodIn_sub (fun _ h => List.mem_cons_of_mem _ (List.mem_append_left _ (List.mem_append_right _ h))) (by decide +kernel))
set_option maxRecDepth 20000 in
theorem gX5_feeder_X5_checkFeeder : GoodIn wsX5_feeder (wsV RX5 72 RX5 yX5_checkFeeder wsX5_checkFeeder) := goodIn_app (goodIn_of _ (by decide +kernel)) ggX5_feeder_X5_checkFeeder
set_option maxRecDepth 20000 in
theorem ggX5_feeder_X5_checkRange : GoodIn wsX5_feeder wsX5_checkRange := goodIn_ca (goodIn_r _ [14, 15, 16] (by decide +kernel) (by decide +kernel)) (goodIn_sub (fun _ h => List.mem_cons_of_mem _ (List.mem_append_right _ h)) (by decide +kernel))
set_option maxRecDepth 20000 in
theorem gX5_feeder_X5_checkRange : GoodIn wsX5_feeder (va_wsS RX5 40 yX5_checkRange wsX5_checkRange) := goodIn_app (goodIn_of _ (by decide +kernel)) ggX5_feeder_X5_checkRange
set_option maxRecDepth 20000 in
theorem ggX5_feeder_X3_sum : GoodIn wsX5_feeder wsX3_sum := goodIn_r _ [21, 22, 23, 24, 20, 25, 26, 27, 46, 47] (by decide +kernel) (by decide +kernel)
set_option maxRecDepth 20000 in
theorem gX5_feeder_X3_sum : GoodIn wsX5_feeder (wsV RX5 156 RX3 yX3_sum wsX3_sum) := goodIn_app (goodIn_of _ (by decide +kernel)) ggX5_feeder_X3_sum
set_option maxRecDepth 20000 in
theorem ggX5_feeder_X3_at : GoodIn wsX5_feeder wsX3_at := goodIn_r _ [25, 26, 27, 46, 47] (by decide +kernel) (by decide +kernel)
set_option maxRecDepth 20000 in
theorem gX5_feeder_X3_at : GoodIn wsX5_feeder (wsV RX5 80 RX3 yX3_at wsX3_at) := goodIn_app (goodIn_of _ (by decide +kernel)) ggX5_feeder_X3_at
theorem dX5_feeder_0 : decode cX5_feeder 0 = .ok (.aload_n 0, 1) := by decide +kernel
theorem dX5_feeder_1 : decode cX5_feeder 1 = .ok (.iload_n 1, 1) := by decide +kernel
theorem dX5_feeder_2 : decode cX5_feeder 2 = .ok (.invokevirtual 72, 3) := by decide +kernel
theorem dX5_feeder_5 : decode cX5_feeder 5 = .ok (.iload_n 2, 1) := by decide +kernel
theorem dX5_feeder_6 : decode cX5_feeder 6 = .ok (.iconst 0, 1) := by decide +kernel
theorem dX5_feeder_7 : decode cX5_feeder 7 = .ok (.bipush 8, 2) := by decide +kernel
theorem dX5_feeder_9 : decode cX5_feeder 9 = .ok (.invokestatic 40, 3) := by decide +kernel
theorem dX5_feeder_12 : decode cX5_feeder 12 = .ok (.iload_n 2, 1) := by decide +kernel
theorem dX5_feeder_13 : decode cX5_feeder 13 = .ok (.bipush 8, 2) := by decide +kernel
theorem dX5_feeder_15 : decode cX5_feeder 15 = .ok (.if_icmp .ne 18, 3) := by decide +kernel
theorem dX5_feeder_18 : decode cX5_feeder 18 = .ok (.aload_n 0, 1) := by decide +kernel
theorem dX5_feeder_19 : decode cX5_feeder 19 = .ok (.getfield 10, 3) := by decide +kernel
theorem dX5_feeder_22 : decode cX5_feeder 22 = .ok (.getfield 153, 3) := by decide +kernel
theorem dX5_feeder_25 : decode cX5_feeder 25 = .ok (.iconst 4, 1) := by decide +kernel
theorem dX5_feeder_26 : decode cX5_feeder 26 = .ok (.iload_n 1, 1) := by decide +kernel
theorem dX5_feeder_27 : decode cX5_feeder 27 = .ok (.invokevirtual 156, 3) := by decide +kernel
theorem dX5_feeder_30 : decode cX5_feeder 30 = .ok (.goto 15, 3) := by decide +kernel
theorem dX5_feeder_33 : decode cX5_feeder 33 = .ok (.aload_n 0, 1) := by decide +kernel
theorem dX5_feeder_34 : decode cX5_feeder 34 = .ok (.getfield 10, 3) := by decide +kernel
theorem dX5_feeder_37 : decode cX5_feeder 37 = .ok (.getfield 76, 3) := by decide +kernel
theorem dX5_feeder_40 : decode cX5_feeder 40 = .ok (.iload_n 1, 1) := by decide +kernel
theorem dX5_feeder_41 : decode cX5_feeder 41 = .ok (.iload_n 2, 1) := by decide +kernel
theorem dX5_feeder_42 : decode cX5_feeder 42 = .ok (.invokevirtual 80, 3) := by decide +kernel
theorem dX5_feeder_45 : decode cX5_feeder 45 = .ok (.ireturn, 1) := by decide +kernel
set_option maxRecDepth 20000 in
theorem ggX5_place_X5_checkRange : GoodIn wsX5_place wsX5_checkRange := goodIn_ca (goodIn_r _ [9, 10, 11] (by decide +kernel) (by decide +kernel)) (goodIn_sub (fun _ h => List.mem_cons_of_mem _ (List.mem_append_right _ h)) (by decide +kernel))
set_option maxRecDepth 20000 in
theorem gX5_place_X5_checkRange : GoodIn wsX5_place (va_wsS RX5 40 yX5_checkRange wsX5_checkRange) := goodIn_app (goodIn_of _ (by decide +kernel)) ggX5_place_X5_checkRange
set_option maxRecDepth 20000 in
theorem ggX5_place_X3_at : GoodIn wsX5_place wsX3_at := goodIn_r _ [16, 17, 18, 36, 37] (by decide +kernel) (by decide +kernel)
set_option maxRecDepth 20000 in
theorem gX5_place_X3_at : GoodIn wsX5_place (wsV RX5 80 RX3 yX3_at wsX3_at) := goodIn_app (goodIn_of _ (by decide +kernel)) ggX5_place_X3_at
theorem dX5_place_0 : decode cX5_place 0 = .ok (.iload_n 1, 1) := by decide +kernel
theorem dX5_place_1 : decode cX5_place 1 = .ok (.ifCond .lt 14, 3) := by decide +kernel
theorem dX5_place_4 : decode cX5_place 4 = .ok (.iload_n 1, 1) := by decide +kernel
theorem dX5_place_5 : decode cX5_place 5 = .ok (.aload_n 0, 1) := by decide +kernel
theorem dX5_place_6 : decode cX5_place 6 = .ok (.getfield 10, 3) := by decide +kernel
theorem dX5_place_9 : decode cX5_place 9 = .ok (.getfield 63, 3) := by decide +kernel
theorem dX5_place_12 : decode cX5_place 12 = .ok (.if_icmp .lt 13, 3) := by decide +kernel
theorem dX5_place_15 : decode cX5_place 15 = .ok (.new 159, 3) := by decide +kernel
theorem dX5_place_18 : decode cX5_place 18 = .ok (.dup, 1) := by decide +kernel
theorem dX5_place_19 : decode cX5_place 19 = .ok (.ldc 161, 2) := by decide +kernel
theorem dX5_place_21 : decode cX5_place 21 = .ok (.invokespecial 163, 3) := by decide +kernel
theorem dX5_place_24 : decode cX5_place 24 = .ok (.athrow, 1) := by decide +kernel
theorem dX5_place_25 : decode cX5_place 25 = .ok (.iload_n 2, 1) := by decide +kernel
theorem dX5_place_26 : decode cX5_place 26 = .ok (.iconst 0, 1) := by decide +kernel
theorem dX5_place_27 : decode cX5_place 27 = .ok (.iconst 4, 1) := by decide +kernel
theorem dX5_place_28 : decode cX5_place 28 = .ok (.invokestatic 40, 3) := by decide +kernel
theorem dX5_place_31 : decode cX5_place 31 = .ok (.aload_n 0, 1) := by decide +kernel
theorem dX5_place_32 : decode cX5_place 32 = .ok (.getfield 10, 3) := by decide +kernel
theorem dX5_place_35 : decode cX5_place 35 = .ok (.getfield 164, 3) := by decide +kernel
theorem dX5_place_38 : decode cX5_place 38 = .ok (.iload_n 1, 1) := by decide +kernel
theorem dX5_place_39 : decode cX5_place 39 = .ok (.iload_n 2, 1) := by decide +kernel
theorem dX5_place_40 : decode cX5_place 40 = .ok (.invokevirtual 80, 3) := by decide +kernel
theorem dX5_place_43 : decode cX5_place 43 = .ok (.ireturn, 1) := by decide +kernel
set_option maxRecDepth 20000 in
theorem ggX5_nozzle_X5_checkNozzle : GoodIn wsX5_nozzle wsX5_checkNozzle := goodIn_ca (goodIn_r _ [6, 7, 8] (by decide +kernel) (by decide +kernel)) (goodIn_sub (fun _ h => List.mem_cons_of_mem _ (List.mem_append_left _ (List.mem_append_right _ h))) (by decide +kernel))
set_option maxRecDepth 20000 in
theorem gX5_nozzle_X5_checkNozzle : GoodIn wsX5_nozzle (va_wsS RX5 90 yX5_checkNozzle wsX5_checkNozzle) := goodIn_app (goodIn_of _ (by decide +kernel)) ggX5_nozzle_X5_checkNozzle
set_option maxRecDepth 20000 in
theorem ggX5_nozzle_X5_checkRange : GoodIn wsX5_nozzle wsX5_checkRange := goodIn_ca (goodIn_r _ [11, 12, 13] (by decide +kernel) (by decide +kernel)) (goodIn_sub (fun _ h => List.mem_cons_of_mem _ (List.mem_append_right _ h)) (by decide +kernel))
set_option maxRecDepth 20000 in
theorem gX5_nozzle_X5_checkRange : GoodIn wsX5_nozzle (va_wsS RX5 40 yX5_checkRange wsX5_checkRange) := goodIn_app (goodIn_of _ (by decide +kernel)) ggX5_nozzle_X5_checkRange
set_option maxRecDepth 20000 in
theorem ggX5_nozzle_X3_at : GoodIn wsX5_nozzle wsX3_at := goodIn_r _ [18, 19, 20, 38, 39] (by decide +kernel) (by decide +kernel)
set_option maxRecDepth 20000 in
theorem gX5_nozzle_X3_at : GoodIn wsX5_nozzle (wsV RX5 80 RX3 yX3_at wsX3_at) := goodIn_app (goodIn_of _ (by decide +kernel)) ggX5_nozzle_X3_at
theorem dX5_nozzle_0 : decode cX5_nozzle 0 = .ok (.iload_n 1, 1) := by decide +kernel
theorem dX5_nozzle_1 : decode cX5_nozzle 1 = .ok (.invokestatic 90, 3) := by decide +kernel
theorem dX5_nozzle_4 : decode cX5_nozzle 4 = .ok (.iload_n 2, 1) := by decide +kernel
theorem dX5_nozzle_5 : decode cX5_nozzle 5 = .ok (.iconst 0, 1) := by decide +kernel
theorem dX5_nozzle_6 : decode cX5_nozzle 6 = .ok (.iconst 4, 1) := by decide +kernel
theorem dX5_nozzle_7 : decode cX5_nozzle 7 = .ok (.invokestatic 40, 3) := by decide +kernel
theorem dX5_nozzle_10 : decode cX5_nozzle 10 = .ok (.aload_n 0, 1) := by decide +kernel
theorem dX5_nozzle_11 : decode cX5_nozzle 11 = .ok (.getfield 10, 3) := by decide +kernel
theorem dX5_nozzle_14 : decode cX5_nozzle 14 = .ok (.getfield 93, 3) := by decide +kernel
theorem dX5_nozzle_17 : decode cX5_nozzle 17 = .ok (.iload_n 1, 1) := by decide +kernel
theorem dX5_nozzle_18 : decode cX5_nozzle 18 = .ok (.iload_n 2, 1) := by decide +kernel
theorem dX5_nozzle_19 : decode cX5_nozzle 19 = .ok (.invokevirtual 80, 3) := by decide +kernel
theorem dX5_nozzle_22 : decode cX5_nozzle 22 = .ok (.ireturn, 1) := by decide +kernel
set_option maxRecDepth 20000 in
theorem ggX5_trust_X5_checkNozzle : GoodIn wsX5_trust wsX5_checkNozzle := goodIn_ca (goodIn_r _ [6, 7, 8] (by decide +kernel) (by decide +kernel)) (goodIn_sub (fun _ h => List.mem_cons_of_mem _ (List.mem_append_right _ h)) (by decide +kernel))
set_option maxRecDepth 20000 in
theorem gX5_trust_X5_checkNozzle : GoodIn wsX5_trust (va_wsS RX5 90 yX5_checkNozzle wsX5_checkNozzle) := goodIn_app (goodIn_of _ (by decide +kernel)) ggX5_trust_X5_checkNozzle
set_option maxRecDepth 20000 in
theorem ggX5_trust_X5_checkFeeder : GoodIn wsX5_trust wsX5_checkFeeder := goodIn_ca (goodIn_r _ [12, 7, 8, 1, 13, 21, 22, 23, 24, 25, 26, 27, 28, 29, 30, 31, 32, 33, 34, 35, 36, 37] (by decide +kernel) (by decide +kernel)) (goodIn_sub (fun _ h => List.mem_cons_of_mem _ (List.mem_append_right _ h)) (by decide +kernel))
set_option maxRecDepth 20000 in
theorem gX5_trust_X5_checkFeeder : GoodIn wsX5_trust (wsV RX5 72 RX5 yX5_checkFeeder wsX5_checkFeeder) := goodIn_app (goodIn_of _ (by decide +kernel)) ggX5_trust_X5_checkFeeder
set_option maxRecDepth 20000 in
theorem ggX5_trust_X3_at : GoodIn wsX5_trust wsX3_at := goodIn_r _ [18, 19, 20, 38, 39] (by decide +kernel) (by decide +kernel)
set_option maxRecDepth 20000 in
theorem gX5_trust_X3_at : GoodIn wsX5_trust (wsV RX5 80 RX3 yX3_at wsX3_at) := goodIn_app (goodIn_of _ (by decide +kernel)) ggX5_trust_X3_at
theorem dX5_trust_0 : decode cX5_trust 0 = .ok (.iload_n 1, 1) := by decide +kernel
theorem dX5_trust_1 : decode cX5_trust 1 = .ok (.invokestatic 90, 3) := by decide +kernel
theorem dX5_trust_4 : decode cX5_trust 4 = .ok (.aload_n 0, 1) := by decide +kernel
theorem dX5_trust_5 : decode cX5_trust 5 = .ok (.iload_n 2, 1) := by decide +kernel
theorem dX5_trust_6 : decode cX5_trust 6 = .ok (.invokevirtual 72, 3) := by decide +kernel
theorem dX5_trust_9 : decode cX5_trust 9 = .ok (.aload_n 0, 1) := by decide +kernel
theorem dX5_trust_10 : decode cX5_trust 10 = .ok (.getfield 10, 3) := by decide +kernel
theorem dX5_trust_13 : decode cX5_trust 13 = .ok (.getfield 153, 3) := by decide +kernel
theorem dX5_trust_16 : decode cX5_trust 16 = .ok (.iload_n 1, 1) := by decide +kernel
theorem dX5_trust_17 : decode cX5_trust 17 = .ok (.iload_n 2, 1) := by decide +kernel
theorem dX5_trust_18 : decode cX5_trust 18 = .ok (.invokevirtual 80, 3) := by decide +kernel
theorem dX5_trust_21 : decode cX5_trust 21 = .ok (.ireturn, 1) := by decide +kernel
set_option maxRecDepth 20000 in
theorem ggX5_count_X2_placesWith : GoodIn wsX5_count wsX2_placesWith := goodIn_r _ [19, 20, 21, 22, 23, 24, 25, 26, 27, 28, 45, 46, 47, 48, 49, 50, 51, 52, 53, 54, 55, 56, 59, 60] (by decide +kernel) (by decide +kernel)
set_option maxRecDepth 20000 in
theorem gX5_count_X2_placesWith : GoodIn wsX5_count (wsV RX5 96 RX2 yX2_placesWith wsX2_placesWith) := goodIn_app (goodIn_of _ (by decide +kernel)) ggX5_count_X2_placesWith
set_option maxRecDepth 20000 in
theorem ggX5_count_X2_misses : GoodIn wsX5_count wsX2_misses := goodIn_r _ [32, 33, 34, 35, 36, 25, 37, 38, 23, 24, 26, 27, 28, 45, 46, 47, 48, 49, 50, 51, 52, 53, 54, 55, 56, 59, 60] (by decide +kernel) (by decide +kernel)
set_option maxRecDepth 20000 in
theorem gX5_count_X2_misses : GoodIn wsX5_count (wsV RX5 179 RX2 yX2_misses wsX2_misses) := goodIn_app (goodIn_of _ (by decide +kernel)) ggX5_count_X2_misses
set_option maxRecDepth 20000 in
theorem ggX5_count_X3_sum : GoodIn wsX5_count wsX3_sum := goodIn_r _ [37, 38, 23, 24, 25, 26, 27, 28, 59, 60] (by decide +kernel) (by decide +kernel)
set_option maxRecDepth 20000 in
theorem gX5_count_X3_sum : GoodIn wsX5_count (wsV RX5 156 RX3 yX3_sum wsX3_sum) := goodIn_app (goodIn_of _ (by decide +kernel)) ggX5_count_X3_sum
theorem dX5_count_0 : decode cX5_count 0 = .ok (.iload_n 1, 1) := by decide +kernel
theorem dX5_count_1 : decode cX5_count 1 = .ok (.tableswitch 202 0 13 #[71, 79, 87, 95, 103, 111, 119, 128, 137, 146, 154, 167, 175, 194], 71) := by decide +kernel
theorem dX5_count_72 : decode cX5_count 72 = .ok (.aload_n 0, 1) := by decide +kernel
theorem dX5_count_73 : decode cX5_count 73 = .ok (.getfield 10, 3) := by decide +kernel
theorem dX5_count_76 : decode cX5_count 76 = .ok (.getfield 44, 3) := by decide +kernel
theorem dX5_count_79 : decode cX5_count 79 = .ok (.ireturn, 1) := by decide +kernel
theorem dX5_count_80 : decode cX5_count 80 = .ok (.aload_n 0, 1) := by decide +kernel
theorem dX5_count_81 : decode cX5_count 81 = .ok (.getfield 10, 3) := by decide +kernel
theorem dX5_count_84 : decode cX5_count 84 = .ok (.getfield 63, 3) := by decide +kernel
theorem dX5_count_87 : decode cX5_count 87 = .ok (.ireturn, 1) := by decide +kernel
theorem dX5_count_88 : decode cX5_count 88 = .ok (.aload_n 0, 1) := by decide +kernel
theorem dX5_count_89 : decode cX5_count 89 = .ok (.getfield 10, 3) := by decide +kernel
theorem dX5_count_92 : decode cX5_count 92 = .ok (.getfield 167, 3) := by decide +kernel
theorem dX5_count_95 : decode cX5_count 95 = .ok (.ireturn, 1) := by decide +kernel
theorem dX5_count_96 : decode cX5_count 96 = .ok (.aload_n 0, 1) := by decide +kernel
theorem dX5_count_97 : decode cX5_count 97 = .ok (.getfield 10, 3) := by decide +kernel
theorem dX5_count_100 : decode cX5_count 100 = .ok (.getfield 170, 3) := by decide +kernel
theorem dX5_count_103 : decode cX5_count 103 = .ok (.ireturn, 1) := by decide +kernel
theorem dX5_count_104 : decode cX5_count 104 = .ok (.aload_n 0, 1) := by decide +kernel
theorem dX5_count_105 : decode cX5_count 105 = .ok (.getfield 10, 3) := by decide +kernel
theorem dX5_count_108 : decode cX5_count 108 = .ok (.getfield 173, 3) := by decide +kernel
theorem dX5_count_111 : decode cX5_count 111 = .ok (.ireturn, 1) := by decide +kernel
theorem dX5_count_112 : decode cX5_count 112 = .ok (.aload_n 0, 1) := by decide +kernel
theorem dX5_count_113 : decode cX5_count 113 = .ok (.getfield 10, 3) := by decide +kernel
theorem dX5_count_116 : decode cX5_count 116 = .ok (.getfield 176, 3) := by decide +kernel
theorem dX5_count_119 : decode cX5_count 119 = .ok (.ireturn, 1) := by decide +kernel
theorem dX5_count_120 : decode cX5_count 120 = .ok (.aload_n 0, 1) := by decide +kernel
theorem dX5_count_121 : decode cX5_count 121 = .ok (.getfield 10, 3) := by decide +kernel
theorem dX5_count_124 : decode cX5_count 124 = .ok (.iconst 0, 1) := by decide +kernel
theorem dX5_count_125 : decode cX5_count 125 = .ok (.invokevirtual 96, 3) := by decide +kernel
theorem dX5_count_128 : decode cX5_count 128 = .ok (.ireturn, 1) := by decide +kernel
theorem dX5_count_129 : decode cX5_count 129 = .ok (.aload_n 0, 1) := by decide +kernel
theorem dX5_count_130 : decode cX5_count 130 = .ok (.getfield 10, 3) := by decide +kernel
theorem dX5_count_133 : decode cX5_count 133 = .ok (.iconst 1, 1) := by decide +kernel
theorem dX5_count_134 : decode cX5_count 134 = .ok (.invokevirtual 96, 3) := by decide +kernel
theorem dX5_count_137 : decode cX5_count 137 = .ok (.ireturn, 1) := by decide +kernel
theorem dX5_count_138 : decode cX5_count 138 = .ok (.aload_n 0, 1) := by decide +kernel
theorem dX5_count_139 : decode cX5_count 139 = .ok (.getfield 10, 3) := by decide +kernel
theorem dX5_count_142 : decode cX5_count 142 = .ok (.iconst 2, 1) := by decide +kernel
theorem dX5_count_143 : decode cX5_count 143 = .ok (.invokevirtual 96, 3) := by decide +kernel
theorem dX5_count_146 : decode cX5_count 146 = .ok (.ireturn, 1) := by decide +kernel
theorem dX5_count_147 : decode cX5_count 147 = .ok (.aload_n 0, 1) := by decide +kernel
theorem dX5_count_148 : decode cX5_count 148 = .ok (.getfield 10, 3) := by decide +kernel
theorem dX5_count_151 : decode cX5_count 151 = .ok (.invokevirtual 179, 3) := by decide +kernel
theorem dX5_count_154 : decode cX5_count 154 = .ok (.ireturn, 1) := by decide +kernel
theorem dX5_count_155 : decode cX5_count 155 = .ok (.aload_n 0, 1) := by decide +kernel
theorem dX5_count_156 : decode cX5_count 156 = .ok (.getfield 10, 3) := by decide +kernel
theorem dX5_count_159 : decode cX5_count 159 = .ok (.getfield 93, 3) := by decide +kernel
theorem dX5_count_162 : decode cX5_count 162 = .ok (.iconst 4, 1) := by decide +kernel
theorem dX5_count_163 : decode cX5_count 163 = .ok (.iconst 4, 1) := by decide +kernel
theorem dX5_count_164 : decode cX5_count 164 = .ok (.invokevirtual 156, 3) := by decide +kernel
theorem dX5_count_167 : decode cX5_count 167 = .ok (.ireturn, 1) := by decide +kernel
theorem dX5_count_168 : decode cX5_count 168 = .ok (.aload_n 0, 1) := by decide +kernel
theorem dX5_count_169 : decode cX5_count 169 = .ok (.getfield 10, 3) := by decide +kernel
theorem dX5_count_172 : decode cX5_count 172 = .ok (.getfield 182, 3) := by decide +kernel
theorem dX5_count_175 : decode cX5_count 175 = .ok (.ireturn, 1) := by decide +kernel
theorem dX5_count_176 : decode cX5_count 176 = .ok (.aload_n 0, 1) := by decide +kernel
theorem dX5_count_177 : decode cX5_count 177 = .ok (.getfield 10, 3) := by decide +kernel
theorem dX5_count_180 : decode cX5_count 180 = .ok (.getfield 76, 3) := by decide +kernel
theorem dX5_count_183 : decode cX5_count 183 = .ok (.aload_n 0, 1) := by decide +kernel
theorem dX5_count_184 : decode cX5_count 184 = .ok (.getfield 10, 3) := by decide +kernel
theorem dX5_count_187 : decode cX5_count 187 = .ok (.getfield 44, 3) := by decide +kernel
theorem dX5_count_190 : decode cX5_count 190 = .ok (.iconst 2, 1) := by decide +kernel
theorem dX5_count_191 : decode cX5_count 191 = .ok (.invokevirtual 156, 3) := by decide +kernel
theorem dX5_count_194 : decode cX5_count 194 = .ok (.ireturn, 1) := by decide +kernel
theorem dX5_count_195 : decode cX5_count 195 = .ok (.aload_n 0, 1) := by decide +kernel
theorem dX5_count_196 : decode cX5_count 196 = .ok (.getfield 29, 3) := by decide +kernel
theorem dX5_count_199 : decode cX5_count 199 = .ok (.getfield 150, 3) := by decide +kernel
theorem dX5_count_202 : decode cX5_count 202 = .ok (.ireturn, 1) := by decide +kernel
theorem dX5_count_203 : decode cX5_count 203 = .ok (.new 136, 3) := by decide +kernel
theorem dX5_count_206 : decode cX5_count 206 = .ok (.dup, 1) := by decide +kernel
theorem dX5_count_207 : decode cX5_count 207 = .ok (.ldc 185, 2) := by decide +kernel
theorem dX5_count_209 : decode cX5_count 209 = .ok (.invokespecial 140, 3) := by decide +kernel
theorem dX5_count_212 : decode cX5_count 212 = .ok (.athrow, 1) := by decide +kernel
set_option maxRecDepth 20000 in
theorem ggX5_setting_X5_checkSetting : GoodIn wsX5_setting wsX5_checkSetting := goodIn_ca (goodIn_r _ [6, 7, 8] (by decide +kernel) (by decide +kernel)) (goodIn_sub (fun _ h => List.mem_cons_of_mem _ (List.mem_append_right _ h)) (by decide +kernel))
set_option maxRecDepth 20000 in
theorem gX5_setting_X5_checkSetting : GoodIn wsX5_setting (va_wsS RX5 103 yX5_checkSetting wsX5_checkSetting) := goodIn_app (goodIn_of _ (by decide +kernel)) ggX5_setting_X5_checkSetting
theorem dX5_setting_0 : decode cX5_setting 0 = .ok (.iload_n 1, 1) := by decide +kernel
theorem dX5_setting_1 : decode cX5_setting 1 = .ok (.invokestatic 103, 3) := by decide +kernel
theorem dX5_setting_4 : decode cX5_setting 4 = .ok (.aload_n 0, 1) := by decide +kernel
theorem dX5_setting_5 : decode cX5_setting 5 = .ok (.getfield 10, 3) := by decide +kernel
theorem dX5_setting_8 : decode cX5_setting 8 = .ok (.getfield 110, 3) := by decide +kernel
theorem dX5_setting_11 : decode cX5_setting 11 = .ok (.iload_n 1, 1) := by decide +kernel
theorem dX5_setting_12 : decode cX5_setting 12 = .ok (.iaload, 1) := by decide +kernel
theorem dX5_setting_13 : decode cX5_setting 13 = .ok (.ireturn, 1) := by decide +kernel
set_option maxRecDepth 20000 in
theorem ggX5_ifToured_X5_checkRange : GoodIn wsX5_ifToured wsX5_checkRange := goodIn_ca (goodIn_r _ [8, 9, 10] (by decide +kernel) (by decide +kernel)) (goodIn_sub (fun _ h => List.mem_cons_of_mem _ (List.mem_append_right _ h)) (by decide +kernel))
set_option maxRecDepth 20000 in
theorem gX5_ifToured_X5_checkRange : GoodIn wsX5_ifToured (va_wsS RX5 40 yX5_checkRange wsX5_checkRange) := goodIn_app (goodIn_of _ (by decide +kernel)) ggX5_ifToured_X5_checkRange
set_option maxRecDepth 20000 in
theorem ggX5_ifToured_X2_copyFrom : GoodIn wsX5_ifToured wsX2_copyFrom := goodIn_r _ [15, 16, 17, 18, 19, 20, 21, 22, 23, 24, 25, 26, 27, 28, 29, 30, 31, 32, 33, 34, 35, 36, 37, 38, 39, 40, 41, 42, 162, 163, 164, 165, 166, 167, 168, 169, 170, 171, 172, 173, 174, 175] (by decide +kernel) (by decide +kernel)
set_option maxRecDepth 20000 in
theorem gX5_ifToured_X2_copyFrom : GoodIn wsX5_ifToured (wsV RX5 187 RX2 yX2_copyFrom wsX2_copyFrom) := goodIn_app (goodIn_of _ (by decide +kernel)) ggX5_ifToured_X2_copyFrom
set_option maxRecDepth 20000 in
theorem ggX5_ifToured_X4_make : GoodIn wsX5_ifToured wsX4_make := goodIn_r _ [47, 48, 49, 50, 51, 46, 52, 53, 54, 55, 56, 57, 14, 58, 16, 28, 59, 60, 61, 35, 62, 63, 37, 64, 65, 66, 67, 68, 69, 70, 71, 72, 73, 74, 75, 76, 77, 78, 79, 80, 81, 82, 83, 84, 31, 20, 85, 86, 40, 87, 88, 89, 90, 91, 92, 93, 94, 95, 96, 18, 97, 98, 99, 100, 101, 102, 103, 104, 105, 106, 107, 108, 109, 110, 19, 111, 112, 113, 114, 115, 116, 117, 23, 118, 119, 120, 121, 122, 123, 124, 125, 126, 39, 41, 127, 128, 129, 130, 131, 132, 133, 134, 135, 136, 137, 138, 139, 140, 141, 142, 143, 144, 162, 163, 164, 165, 166, 167, 168, 169, 170, 171, 172, 173, 176, 177, 178, 174, 175] (by decide +kernel) (by decide +kernel)
set_option maxRecDepth 20000 in
theorem gX5_ifToured_X4_make : GoodIn wsX5_ifToured (wsV RX5 113 RX4 yX4_make wsX4_make) := goodIn_app (goodIn_of _ (by decide +kernel)) ggX5_ifToured_X4_make
set_option maxRecDepth 20000 in
theorem ggX5_ifToured_X2_misses : GoodIn wsX5_ifToured wsX2_misses := goodIn_r _ [148, 30, 149, 150, 151, 35, 152, 101, 60, 61, 62, 63, 37, 162, 163, 164, 165, 166, 167, 168, 169, 170, 171, 172, 173, 174, 175] (by decide +kernel) (by decide +kernel)
set_option maxRecDepth 20000 in
theorem gX5_ifToured_X2_misses : GoodIn wsX5_ifToured (wsV RX5 179 RX2 yX2_misses wsX2_misses) := goodIn_app (goodIn_of _ (by decide +kernel)) ggX5_ifToured_X2_misses
set_option maxRecDepth 20000 in
theorem ggX5_ifToured_X2_placesWith : GoodIn wsX5_ifToured wsX2_placesWith := goodIn_r _ [156, 17, 29, 59, 60, 61, 35, 62, 63, 37, 162, 163, 164, 165, 166, 167, 168, 169, 170, 171, 172, 173, 174, 175] (by decide +kernel) (by decide +kernel)
set_option maxRecDepth 20000 in
theorem gX5_ifToured_X2_placesWith : GoodIn wsX5_ifToured (wsV RX5 96 RX2 yX2_placesWith wsX2_placesWith) := goodIn_app (goodIn_of _ (by decide +kernel)) ggX5_ifToured_X2_placesWith
theorem dX5_ifToured_0 : decode cX5_ifToured 0 = .ok (.iload_n 1, 1) := by decide +kernel
theorem dX5_ifToured_1 : decode cX5_ifToured 1 = .ok (.iconst 1, 1) := by decide +kernel
theorem dX5_ifToured_2 : decode cX5_ifToured 2 = .ok (.bipush 20, 2) := by decide +kernel
theorem dX5_ifToured_4 : decode cX5_ifToured 4 = .ok (.invokestatic 40, 3) := by decide +kernel
theorem dX5_ifToured_7 : decode cX5_ifToured 7 = .ok (.iload_n 2, 1) := by decide +kernel
theorem dX5_ifToured_8 : decode cX5_ifToured 8 = .ok (.iconst 0, 1) := by decide +kernel
theorem dX5_ifToured_9 : decode cX5_ifToured 9 = .ok (.iconst 3, 1) := by decide +kernel
theorem dX5_ifToured_10 : decode cX5_ifToured 10 = .ok (.invokestatic 40, 3) := by decide +kernel
theorem dX5_ifToured_13 : decode cX5_ifToured 13 = .ok (.aload_n 0, 1) := by decide +kernel
theorem dX5_ifToured_14 : decode cX5_ifToured 14 = .ok (.getfield 16, 3) := by decide +kernel
theorem dX5_ifToured_17 : decode cX5_ifToured 17 = .ok (.aload_n 0, 1) := by decide +kernel
theorem dX5_ifToured_18 : decode cX5_ifToured 18 = .ok (.getfield 10, 3) := by decide +kernel
theorem dX5_ifToured_21 : decode cX5_ifToured 21 = .ok (.invokevirtual 187, 3) := by decide +kernel
theorem dX5_ifToured_24 : decode cX5_ifToured 24 = .ok (.aload_n 0, 1) := by decide +kernel
theorem dX5_ifToured_25 : decode cX5_ifToured 25 = .ok (.getfield 22, 3) := by decide +kernel
theorem dX5_ifToured_28 : decode cX5_ifToured 28 = .ok (.aload_n 0, 1) := by decide +kernel
theorem dX5_ifToured_29 : decode cX5_ifToured 29 = .ok (.getfield 16, 3) := by decide +kernel
theorem dX5_ifToured_32 : decode cX5_ifToured 32 = .ok (.iload_n 1, 1) := by decide +kernel
theorem dX5_ifToured_33 : decode cX5_ifToured 33 = .ok (.invokevirtual 113, 3) := by decide +kernel
theorem dX5_ifToured_36 : decode cX5_ifToured 36 = .ok (.istore_n 3, 1) := by decide +kernel
theorem dX5_ifToured_37 : decode cX5_ifToured 37 = .ok (.iload_n 2, 1) := by decide +kernel
theorem dX5_ifToured_38 : decode cX5_ifToured 38 = .ok (.tableswitch 60 0 2 #[26, 28, 44], 26) := by decide +kernel
theorem dX5_ifToured_64 : decode cX5_ifToured 64 = .ok (.iload_n 3, 1) := by decide +kernel
theorem dX5_ifToured_65 : decode cX5_ifToured 65 = .ok (.ireturn, 1) := by decide +kernel
theorem dX5_ifToured_66 : decode cX5_ifToured 66 = .ok (.aload_n 0, 1) := by decide +kernel
theorem dX5_ifToured_67 : decode cX5_ifToured 67 = .ok (.getfield 16, 3) := by decide +kernel
theorem dX5_ifToured_70 : decode cX5_ifToured 70 = .ok (.invokevirtual 179, 3) := by decide +kernel
theorem dX5_ifToured_73 : decode cX5_ifToured 73 = .ok (.aload_n 0, 1) := by decide +kernel
theorem dX5_ifToured_74 : decode cX5_ifToured 74 = .ok (.getfield 10, 3) := by decide +kernel
theorem dX5_ifToured_77 : decode cX5_ifToured 77 = .ok (.invokevirtual 179, 3) := by decide +kernel
theorem dX5_ifToured_80 : decode cX5_ifToured 80 = .ok (.isub, 1) := by decide +kernel
theorem dX5_ifToured_81 : decode cX5_ifToured 81 = .ok (.ireturn, 1) := by decide +kernel
theorem dX5_ifToured_82 : decode cX5_ifToured 82 = .ok (.aload_n 0, 1) := by decide +kernel
theorem dX5_ifToured_83 : decode cX5_ifToured 83 = .ok (.getfield 16, 3) := by decide +kernel
theorem dX5_ifToured_86 : decode cX5_ifToured 86 = .ok (.getfield 167, 3) := by decide +kernel
theorem dX5_ifToured_89 : decode cX5_ifToured 89 = .ok (.aload_n 0, 1) := by decide +kernel
theorem dX5_ifToured_90 : decode cX5_ifToured 90 = .ok (.getfield 10, 3) := by decide +kernel
theorem dX5_ifToured_93 : decode cX5_ifToured 93 = .ok (.getfield 167, 3) := by decide +kernel
theorem dX5_ifToured_96 : decode cX5_ifToured 96 = .ok (.isub, 1) := by decide +kernel
theorem dX5_ifToured_97 : decode cX5_ifToured 97 = .ok (.ireturn, 1) := by decide +kernel
theorem dX5_ifToured_98 : decode cX5_ifToured 98 = .ok (.aload_n 0, 1) := by decide +kernel
theorem dX5_ifToured_99 : decode cX5_ifToured 99 = .ok (.getfield 16, 3) := by decide +kernel
theorem dX5_ifToured_102 : decode cX5_ifToured 102 = .ok (.iconst 1, 1) := by decide +kernel
theorem dX5_ifToured_103 : decode cX5_ifToured 103 = .ok (.invokevirtual 96, 3) := by decide +kernel
theorem dX5_ifToured_106 : decode cX5_ifToured 106 = .ok (.ireturn, 1) := by decide +kernel
set_option maxRecDepth 20000 in
theorem ggX5_choice_X5_checkNozzle : GoodIn wsX5_choice wsX5_checkNozzle := goodIn_ca (goodIn_r _ [5, 6, 7] (by decide +kernel) (by decide +kernel)) (goodIn_sub (fun _ h => List.mem_cons_of_mem _ (List.mem_append_left _ (List.mem_append_right _ h))) (by decide +kernel))
set_option maxRecDepth 20000 in
theorem gX5_choice_X5_checkNozzle : GoodIn wsX5_choice (va_wsS RX5 90 yX5_checkNozzle wsX5_checkNozzle) := goodIn_app (goodIn_of _ (by decide +kernel)) ggX5_choice_X5_checkNozzle
set_option maxRecDepth 20000 in
theorem ggX5_choice_X5_checkRange : GoodIn wsX5_choice wsX5_checkRange := goodIn_ca (goodIn_r _ [10, 11, 12] (by decide +kernel) (by decide +kernel)) (goodIn_sub (fun _ h => List.mem_cons_of_mem _ (List.mem_append_right _ h)) (by decide +kernel))
set_option maxRecDepth 20000 in
theorem gX5_choice_X5_checkRange : GoodIn wsX5_choice (va_wsS RX5 40 yX5_checkRange wsX5_checkRange) := goodIn_app (goodIn_of _ (by decide +kernel)) ggX5_choice_X5_checkRange
set_option maxRecDepth 20000 in
theorem ggX5_choice_X2_favorite : GoodIn wsX5_choice wsX2_favorite := goodIn_r _ [17, 18, 19, 20, 21, 22, 23, 24, 25, 26, 27, 28, 29, 16, 30, 31, 32, 33, 34, 35, 36, 42, 43, 44, 45, 46, 47, 48, 49, 50, 51, 52, 53, 54, 55] (by decide +kernel) (by decide +kernel)
set_option maxRecDepth 20000 in
theorem gX5_choice_X2_favorite : GoodIn wsX5_choice (wsV RX5 190 RX2 yX2_favorite wsX2_favorite) := goodIn_app (goodIn_of _ (by decide +kernel)) ggX5_choice_X2_favorite
theorem dX5_choice_0 : decode cX5_choice 0 = .ok (.iload_n 1, 1) := by decide +kernel
theorem dX5_choice_1 : decode cX5_choice 1 = .ok (.invokestatic 90, 3) := by decide +kernel
theorem dX5_choice_4 : decode cX5_choice 4 = .ok (.iload_n 2, 1) := by decide +kernel
theorem dX5_choice_5 : decode cX5_choice 5 = .ok (.iconst 0, 1) := by decide +kernel
theorem dX5_choice_6 : decode cX5_choice 6 = .ok (.iconst 5, 1) := by decide +kernel
theorem dX5_choice_7 : decode cX5_choice 7 = .ok (.invokestatic 40, 3) := by decide +kernel
theorem dX5_choice_10 : decode cX5_choice 10 = .ok (.aload_n 0, 1) := by decide +kernel
theorem dX5_choice_11 : decode cX5_choice 11 = .ok (.getfield 10, 3) := by decide +kernel
theorem dX5_choice_14 : decode cX5_choice 14 = .ok (.iload_n 1, 1) := by decide +kernel
theorem dX5_choice_15 : decode cX5_choice 15 = .ok (.iload_n 2, 1) := by decide +kernel
theorem dX5_choice_16 : decode cX5_choice 16 = .ok (.invokevirtual 190, 3) := by decide +kernel
theorem dX5_choice_19 : decode cX5_choice 19 = .ok (.ireturn, 1) := by decide +kernel
set_option maxRecDepth 20000 in
theorem ggX5_aim_X5_checkNozzle : GoodIn wsX5_aim wsX5_checkNozzle := goodIn_ca (goodIn_r _ [7, 8, 9] (by decide +kernel) (by decide +kernel)) (goodIn_sub (fun _ h => List.mem_cons_of_mem _ (List.mem_append_right _ h)) (by decide +kernel))
set_option maxRecDepth 20000 in
theorem gX5_aim_X5_checkNozzle : GoodIn wsX5_aim (va_wsS RX5 90 yX5_checkNozzle wsX5_checkNozzle) := goodIn_app (goodIn_of _ (by decide +kernel)) ggX5_aim_X5_checkNozzle
set_option maxRecDepth 20000 in
theorem ggX5_aim_X4_chooseAims : GoodIn wsX5_aim wsX4_chooseAims := goodIn_r _ [14, 15, 16, 17, 18, 19, 20, 21, 22, 23, 24, 25, 26, 27, 28, 29, 30, 31, 32, 33, 13, 34, 35, 36, 45, 46, 47, 48, 49, 50, 51, 52, 53, 54, 55, 56, 42, 43, 44, 57, 58] (by decide +kernel) (by decide +kernel)
set_option maxRecDepth 20000 in
theorem gX5_aim_X4_chooseAims : GoodIn wsX5_aim (wsV RX5 193 RX4 yX4_chooseAims wsX4_chooseAims) := goodIn_app (goodIn_of _ (by decide +kernel)) ggX5_aim_X4_chooseAims
theorem dX5_aim_0 : decode cX5_aim 0 = .ok (.iload_n 1, 1) := by decide +kernel
theorem dX5_aim_1 : decode cX5_aim 1 = .ok (.invokestatic 90, 3) := by decide +kernel
theorem dX5_aim_4 : decode cX5_aim 4 = .ok (.aload_n 0, 1) := by decide +kernel
theorem dX5_aim_5 : decode cX5_aim 5 = .ok (.getfield 22, 3) := by decide +kernel
theorem dX5_aim_8 : decode cX5_aim 8 = .ok (.aload_n 0, 1) := by decide +kernel
theorem dX5_aim_9 : decode cX5_aim 9 = .ok (.getfield 10, 3) := by decide +kernel
theorem dX5_aim_12 : decode cX5_aim 12 = .ok (.invokevirtual 193, 3) := by decide +kernel
theorem dX5_aim_15 : decode cX5_aim 15 = .ok (.aload_n 0, 1) := by decide +kernel
theorem dX5_aim_16 : decode cX5_aim 16 = .ok (.getfield 22, 3) := by decide +kernel
theorem dX5_aim_19 : decode cX5_aim 19 = .ok (.getfield 196, 3) := by decide +kernel
theorem dX5_aim_22 : decode cX5_aim 22 = .ok (.iload_n 1, 1) := by decide +kernel
theorem dX5_aim_23 : decode cX5_aim 23 = .ok (.iaload, 1) := by decide +kernel
theorem dX5_aim_24 : decode cX5_aim 24 = .ok (.ireturn, 1) := by decide +kernel
set_option maxRecDepth 20000 in
theorem ggX5_needed_X2_copyFrom : GoodIn wsX5_needed wsX2_copyFrom := goodIn_r _ [8, 9, 10, 11, 12, 13, 14, 15, 16, 17, 18, 19, 20, 21, 22, 23, 24, 25, 26, 27, 28, 29, 30, 31, 32, 33, 34, 35, 160, 161, 162, 163, 164, 165, 166, 167, 168, 169, 170, 171, 172, 173] (by decide +kernel) (by decide +kernel)
set_option maxRecDepth 20000 in
theorem gX5_needed_X2_copyFrom : GoodIn wsX5_needed (wsV RX5 187 RX2 yX2_copyFrom wsX2_copyFrom) := goodIn_app (goodIn_of _ (by decide +kernel)) ggX5_needed_X2_copyFrom
set_option maxRecDepth 20000 in
theorem ggX5_needed_X2_allRight : GoodIn wsX5_needed wsX2_allRight := goodIn_r _ [39, 10, 40, 41, 42, 7, 43, 22, 44, 45, 46, 28, 47, 48, 30, 160, 161, 162, 163, 164, 165, 166, 167, 168, 169, 170, 171, 172, 173] (by decide +kernel) (by decide +kernel)
set_option maxRecDepth 20000 in
theorem gX5_needed_X2_allRight : GoodIn wsX5_needed (wsV RX5 199 RX2 yX2_allRight wsX2_allRight) := goodIn_app (goodIn_of _ (by decide +kernel)) ggX5_needed_X2_allRight
set_option maxRecDepth 20000 in
theorem ggX5_needed_X4_make : GoodIn wsX5_needed wsX4_make := goodIn_r _ [53, 54, 55, 56, 57, 52, 58, 59, 60, 61, 62, 63, 7, 64, 9, 21, 44, 45, 46, 28, 47, 48, 30, 65, 66, 67, 68, 69, 70, 71, 72, 73, 74, 75, 76, 77, 78, 79, 80, 81, 82, 83, 84, 85, 24, 13, 86, 87, 33, 88, 89, 90, 91, 92, 93, 94, 95, 96, 97, 11, 98, 99, 100, 101, 102, 103, 104, 105, 106, 107, 108, 109, 110, 111, 12, 112, 113, 114, 115, 116, 117, 118, 16, 119, 120, 121, 122, 123, 124, 125, 126, 127, 32, 34, 128, 129, 130, 131, 132, 133, 134, 135, 136, 137, 138, 139, 140, 141, 142, 143, 144, 145, 160, 161, 162, 163, 164, 165, 166, 167, 168, 169, 170, 171, 174, 175, 176, 172, 173] (by decide +kernel) (by decide +kernel)
set_option maxRecDepth 20000 in
theorem gX5_needed_X4_make : GoodIn wsX5_needed (wsV RX5 113 RX4 yX4_make wsX4_make) := goodIn_app (goodIn_of _ (by decide +kernel)) ggX5_needed_X4_make
set_option maxRecDepth 20000 in
theorem ggX5_needed_X2_takeOffWrong : GoodIn wsX5_needed wsX2_takeOffWrong := goodIn_r _ [149, 10, 22, 15, 11, 44, 45, 46, 28, 47, 48, 30, 150, 116, 117, 7, 118, 24, 16, 119, 120, 33, 121, 122, 104, 105, 106, 151, 152, 153, 154, 160, 161, 162, 163, 164, 165, 166, 167, 168, 169, 170, 171, 172, 173] (by decide +kernel) (by decide +kernel)
set_option maxRecDepth 20000 in
theorem gX5_needed_X2_takeOffWrong : GoodIn wsX5_needed (wsV RX5 117 RX2 yX2_takeOffWrong wsX2_takeOffWrong) := goodIn_app (goodIn_of _ (by decide +kernel)) ggX5_needed_X2_takeOffWrong
theorem dX5_needed_0 : decode cX5_needed 0 = .ok (.aload_n 0, 1) := by decide +kernel
theorem dX5_needed_1 : decode cX5_needed 1 = .ok (.getfield 16, 3) := by decide +kernel
theorem dX5_needed_4 : decode cX5_needed 4 = .ok (.aload_n 0, 1) := by decide +kernel
theorem dX5_needed_5 : decode cX5_needed 5 = .ok (.getfield 10, 3) := by decide +kernel
theorem dX5_needed_8 : decode cX5_needed 8 = .ok (.invokevirtual 187, 3) := by decide +kernel
theorem dX5_needed_11 : decode cX5_needed 11 = .ok (.iconst 0, 1) := by decide +kernel
theorem dX5_needed_12 : decode cX5_needed 12 = .ok (.istore_n 1, 1) := by decide +kernel
theorem dX5_needed_13 : decode cX5_needed 13 = .ok (.iload_n 1, 1) := by decide +kernel
theorem dX5_needed_14 : decode cX5_needed 14 = .ok (.bipush 40, 2) := by decide +kernel
theorem dX5_needed_16 : decode cX5_needed 16 = .ok (.if_icmp .ge 40, 3) := by decide +kernel
theorem dX5_needed_19 : decode cX5_needed 19 = .ok (.aload_n 0, 1) := by decide +kernel
theorem dX5_needed_20 : decode cX5_needed 20 = .ok (.getfield 16, 3) := by decide +kernel
theorem dX5_needed_23 : decode cX5_needed 23 = .ok (.invokevirtual 199, 3) := by decide +kernel
theorem dX5_needed_26 : decode cX5_needed 26 = .ok (.ifCond .ne 30, 3) := by decide +kernel
theorem dX5_needed_29 : decode cX5_needed 29 = .ok (.aload_n 0, 1) := by decide +kernel
theorem dX5_needed_30 : decode cX5_needed 30 = .ok (.getfield 22, 3) := by decide +kernel
theorem dX5_needed_33 : decode cX5_needed 33 = .ok (.aload_n 0, 1) := by decide +kernel
theorem dX5_needed_34 : decode cX5_needed 34 = .ok (.getfield 16, 3) := by decide +kernel
theorem dX5_needed_37 : decode cX5_needed 37 = .ok (.iconst 1, 1) := by decide +kernel
theorem dX5_needed_38 : decode cX5_needed 38 = .ok (.invokevirtual 113, 3) := by decide +kernel
theorem dX5_needed_41 : decode cX5_needed 41 = .ok (.pop, 1) := by decide +kernel
theorem dX5_needed_42 : decode cX5_needed 42 = .ok (.aload_n 0, 1) := by decide +kernel
theorem dX5_needed_43 : decode cX5_needed 43 = .ok (.getfield 16, 3) := by decide +kernel
theorem dX5_needed_46 : decode cX5_needed 46 = .ok (.invokevirtual 117, 3) := by decide +kernel
theorem dX5_needed_49 : decode cX5_needed 49 = .ok (.pop, 1) := by decide +kernel
theorem dX5_needed_50 : decode cX5_needed 50 = .ok (.iinc 1 1, 3) := by decide +kernel
theorem dX5_needed_53 : decode cX5_needed 53 = .ok (.goto (-40), 3) := by decide +kernel
theorem dX5_needed_56 : decode cX5_needed 56 = .ok (.aload_n 0, 1) := by decide +kernel
theorem dX5_needed_57 : decode cX5_needed 57 = .ok (.getfield 16, 3) := by decide +kernel
theorem dX5_needed_60 : decode cX5_needed 60 = .ok (.invokevirtual 199, 3) := by decide +kernel
theorem dX5_needed_63 : decode cX5_needed 63 = .ok (.ifCond .eq 7, 3) := by decide +kernel
theorem dX5_needed_66 : decode cX5_needed 66 = .ok (.iload_n 1, 1) := by decide +kernel
theorem dX5_needed_67 : decode cX5_needed 67 = .ok (.goto 4, 3) := by decide +kernel
theorem dX5_needed_70 : decode cX5_needed 70 = .ok (.iconst (-1), 1) := by decide +kernel
theorem dX5_needed_71 : decode cX5_needed 71 = .ok (.ireturn, 1) := by decide +kernel
set_option maxRecDepth 20000 in
theorem ggX5_rumored_X2_trustSpread : GoodIn wsX5_rumored wsX2_trustSpread := goodIn_r _ [7, 8, 9, 10, 11, 12, 13, 14, 15, 16, 17, 18, 19, 20, 21, 22, 28, 29, 30, 31, 32, 33, 34, 35, 36, 37, 38, 39, 40, 41] (by decide +kernel) (by decide +kernel)
set_option maxRecDepth 20000 in
theorem gX5_rumored_X2_trustSpread : GoodIn wsX5_rumored (wsV RX5 202 RX2 yX2_trustSpread wsX2_trustSpread) := goodIn_app (goodIn_of _ (by decide +kernel)) ggX5_rumored_X2_trustSpread
theorem dX5_rumored_0 : decode cX5_rumored 0 = .ok (.iconst (-1), 1) := by decide +kernel
theorem dX5_rumored_1 : decode cX5_rumored 1 = .ok (.istore_n 1, 1) := by decide +kernel
theorem dX5_rumored_2 : decode cX5_rumored 2 = .ok (.iconst (-1), 1) := by decide +kernel
theorem dX5_rumored_3 : decode cX5_rumored 3 = .ok (.istore_n 2, 1) := by decide +kernel
theorem dX5_rumored_4 : decode cX5_rumored 4 = .ok (.iconst 0, 1) := by decide +kernel
theorem dX5_rumored_5 : decode cX5_rumored 5 = .ok (.istore_n 3, 1) := by decide +kernel
theorem dX5_rumored_6 : decode cX5_rumored 6 = .ok (.iload_n 3, 1) := by decide +kernel
theorem dX5_rumored_7 : decode cX5_rumored 7 = .ok (.aload_n 0, 1) := by decide +kernel
theorem dX5_rumored_8 : decode cX5_rumored 8 = .ok (.getfield 10, 3) := by decide +kernel
theorem dX5_rumored_11 : decode cX5_rumored 11 = .ok (.getfield 44, 3) := by decide +kernel
theorem dX5_rumored_14 : decode cX5_rumored 14 = .ok (.if_icmp .ge 30, 3) := by decide +kernel
theorem dX5_rumored_17 : decode cX5_rumored 17 = .ok (.aload_n 0, 1) := by decide +kernel
theorem dX5_rumored_18 : decode cX5_rumored 18 = .ok (.getfield 10, 3) := by decide +kernel
theorem dX5_rumored_21 : decode cX5_rumored 21 = .ok (.iload_n 3, 1) := by decide +kernel
theorem dX5_rumored_22 : decode cX5_rumored 22 = .ok (.invokevirtual 202, 3) := by decide +kernel
theorem dX5_rumored_25 : decode cX5_rumored 25 = .ok (.istore 4, 2) := by decide +kernel
theorem dX5_rumored_27 : decode cX5_rumored 27 = .ok (.iload 4, 2) := by decide +kernel
theorem dX5_rumored_29 : decode cX5_rumored 29 = .ok (.iload_n 2, 1) := by decide +kernel
theorem dX5_rumored_30 : decode cX5_rumored 30 = .ok (.if_icmp .le 8, 3) := by decide +kernel
theorem dX5_rumored_33 : decode cX5_rumored 33 = .ok (.iload 4, 2) := by decide +kernel
theorem dX5_rumored_35 : decode cX5_rumored 35 = .ok (.istore_n 2, 1) := by decide +kernel
theorem dX5_rumored_36 : decode cX5_rumored 36 = .ok (.iload_n 3, 1) := by decide +kernel
theorem dX5_rumored_37 : decode cX5_rumored 37 = .ok (.istore_n 1, 1) := by decide +kernel
theorem dX5_rumored_38 : decode cX5_rumored 38 = .ok (.iinc 3 1, 3) := by decide +kernel
theorem dX5_rumored_41 : decode cX5_rumored 41 = .ok (.goto (-35), 3) := by decide +kernel
theorem dX5_rumored_44 : decode cX5_rumored 44 = .ok (.iload_n 1, 1) := by decide +kernel
theorem dX5_rumored_45 : decode cX5_rumored 45 = .ok (.ireturn, 1) := by decide +kernel
set_option maxRecDepth 20000 in
theorem ggX5_missShare_X3_sum : GoodIn wsX5_missShare wsX3_sum := goodIn_r _ [7, 8, 9, 10, 6, 11, 12, 13, 38, 39] (by decide +kernel) (by decide +kernel)
set_option maxRecDepth 20000 in
theorem gX5_missShare_X3_sum : GoodIn wsX5_missShare (wsV RX5 156 RX3 yX3_sum wsX3_sum) := goodIn_app (goodIn_of _ (by decide +kernel)) ggX5_missShare_X3_sum
set_option maxRecDepth 20000 in
theorem ggX5_missShare_X2_misses : GoodIn wsX5_missShare wsX2_misses := goodIn_r _ [18, 19, 20, 4, 5, 6, 7, 8, 9, 10, 11, 12, 13, 26, 27, 28, 29, 30, 31, 32, 33, 34, 35, 36, 37, 38, 39] (by decide +kernel) (by decide +kernel)
set_option maxRecDepth 20000 in
theorem gX5_missShare_X2_misses : GoodIn wsX5_missShare (wsV RX5 179 RX2 yX2_misses wsX2_misses) := goodIn_app (goodIn_of _ (by decide +kernel)) ggX5_missShare_X2_misses
theorem dX5_missShare_0 : decode cX5_missShare 0 = .ok (.aload_n 0, 1) := by decide +kernel
theorem dX5_missShare_1 : decode cX5_missShare 1 = .ok (.getfield 10, 3) := by decide +kernel
theorem dX5_missShare_4 : decode cX5_missShare 4 = .ok (.getfield 93, 3) := by decide +kernel
theorem dX5_missShare_7 : decode cX5_missShare 7 = .ok (.iconst 4, 1) := by decide +kernel
theorem dX5_missShare_8 : decode cX5_missShare 8 = .ok (.iconst 1, 1) := by decide +kernel
theorem dX5_missShare_9 : decode cX5_missShare 9 = .ok (.invokevirtual 156, 3) := by decide +kernel
theorem dX5_missShare_12 : decode cX5_missShare 12 = .ok (.istore_n 1, 1) := by decide +kernel
theorem dX5_missShare_13 : decode cX5_missShare 13 = .ok (.iload_n 1, 1) := by decide +kernel
theorem dX5_missShare_14 : decode cX5_missShare 14 = .ok (.ifCond .le 17, 3) := by decide +kernel
theorem dX5_missShare_17 : decode cX5_missShare 17 = .ok (.aload_n 0, 1) := by decide +kernel
theorem dX5_missShare_18 : decode cX5_missShare 18 = .ok (.getfield 10, 3) := by decide +kernel
theorem dX5_missShare_21 : decode cX5_missShare 21 = .ok (.invokevirtual 179, 3) := by decide +kernel
theorem dX5_missShare_24 : decode cX5_missShare 24 = .ok (.i2d, 1) := by decide +kernel
theorem dX5_missShare_25 : decode cX5_missShare 25 = .ok (.iload_n 1, 1) := by decide +kernel
theorem dX5_missShare_26 : decode cX5_missShare 26 = .ok (.i2d, 1) := by decide +kernel
theorem dX5_missShare_27 : decode cX5_missShare 27 = .ok (.ddiv, 1) := by decide +kernel
theorem dX5_missShare_28 : decode cX5_missShare 28 = .ok (.goto 4, 3) := by decide +kernel
theorem dX5_missShare_31 : decode cX5_missShare 31 = .ok (.dconst 0, 1) := by decide +kernel
theorem dX5_missShare_32 : decode cX5_missShare 32 = .ok (.dreturn, 1) := by decide +kernel
set_option maxRecDepth 20000 in
theorem ggX5_digest_X5_count : GoodIn wsX5_digest wsX5_count := goodIn_ca (goodIn_r _ [11, 12, 13, 2, 14, 15, 16, 17, 18, 19, 20, 21, 22, 23, 24, 25, 26, 27, 28, 29, 30, 31, 32, 33, 34, 35, 36, 37, 38, 39, 40, 41, 42, 43, 44, 45, 46, 47, 48, 49, 252, 253, 254, 255, 256, 257, 258, 259, 260, 261, 262, 263, 264, 265, 266, 267, 268, 275, 276, 277, 278] (by decide +kernel) (by decide +kernel)) (goodIn_sub (fun _ h => List.mem_cons_of_mem _ (List.mem_append_left _ (List.mem_append_right _ h))) (by decide +kernel))
set_option maxRecDepth 20000 in
theorem gX5_digest_X5_count : GoodIn wsX5_digest (wsV RX5 207 RX5 yX5_count wsX5_count) := goodIn_app (goodIn_of _ (by decide +kernel)) ggX5_digest_X5_count
set_option maxRecDepth 20000 in
theorem ggX5_digest_X5_mix : GoodIn wsX5_digest wsX5_mix := goodIn_r _ [52, 53] (by decide +kernel) (by decide +kernel)
set_option maxRecDepth 20000 in
theorem gX5_digest_X5_mix : GoodIn wsX5_digest (va_wsS RX5 210 yX5_mix wsX5_mix) := goodIn_app (goodIn_of _ (by decide +kernel)) ggX5_digest_X5_mix
set_option maxRecDepth 20000 in
theorem ggX5_digest_X5_mixFeedersAndPlaces : GoodIn wsX5_digest wsX5_mixFeedersAndPlaces := goodIn_ca (goodIn_ca (goodIn_r _ [57, 2, 14, 15, 58, 59, 60, 61, 10, 62, 63, 22, 64, 65, 66, 67, 68, 69, 70, 71, 72, 12, 13, 49, 45, 46, 35, 47, 48, 33, 34, 36, 37, 38, 73, 50, 51, 52, 53, 252, 253, 254, 255, 256, 257, 258, 259, 260, 261, 262, 263, 264, 265, 266, 267, 268, 277, 278] (by decide +kernel) (by decide +kernel)) (goodIn_sub (fun _ h => List.mem_cons_of_mem _ (List.mem_append_right _ h)) (by decide +kernel))) (goodIn_sub (fun _ h => List.mem_cons_of_mem _ (List.mem_append_left _ (List.mem_append_right _ h))) (by decide +kernel))
set_option maxRecDepth 20000 in
theorem gX5_digest_X5_mixFeedersAndPlaces : GoodIn wsX5_digest (wsV RX5 214 RX5 yX5_mixFeedersAndPlaces wsX5_mixFeedersAndPlaces) := goodIn_app (goodIn_of _ (by decide +kernel)) ggX5_digest_X5_mixFeedersAndPlaces
set_option maxRecDepth 20000 in
theorem ggX5_digest_X5_mixNozzle : GoodIn wsX5_digest wsX5_mixNozzle := goodIn_ca (goodIn_r _ [77, 2, 20, 14, 63, 73, 33, 34, 35, 36, 37, 38, 50, 51, 10, 52, 53, 78, 79, 80, 28, 81, 82, 83, 32, 84, 85, 86, 87, 88, 89, 90, 91, 92, 93, 94, 95, 96, 97, 98, 99, 100, 101, 102, 68, 69, 103, 104, 105, 106, 107, 108, 109, 110, 111, 112, 113, 114, 115, 116, 117, 118, 119, 252, 253, 254, 255, 256, 257, 258, 259, 260, 261, 262, 263, 264, 265, 266, 267, 268, 277, 278, 279, 280, 281] (by decide +kernel) (by decide +kernel)) (goodIn_sub (fun _ h => List.mem_cons_of_mem _ (List.mem_append_right _ h)) (by decide +kernel))
set_option maxRecDepth 20000 in
theorem gX5_digest_X5_mixNozzle : GoodIn wsX5_digest (wsV RX5 218 RX5 yX5_mixNozzle wsX5_mixNozzle) := goodIn_app (goodIn_of _ (by decide +kernel)) ggX5_digest_X5_mixNozzle
set_option maxRecDepth 20000 in
theorem ggX5_digest_X5_ifToured : GoodIn wsX5_digest wsX5_ifToured := goodIn_ca (goodIn_r _ [123, 124, 2, 98, 16, 70, 71, 10, 72, 12, 13, 125, 126, 127, 28, 128, 82, 30, 129, 130, 89, 131, 132, 133, 134, 135, 136, 137, 83, 31, 43, 88, 138, 139, 140, 35, 141, 38, 142, 143, 92, 144, 145, 146, 147, 148, 106, 149, 150, 151, 104, 105, 107, 108, 109, 110, 111, 112, 113, 32, 33, 34, 36, 37, 114, 115, 116, 117, 118, 119, 152, 153, 154, 155, 156, 157, 158, 159, 79, 80, 81, 84, 85, 86, 87, 90, 91, 93, 160, 161, 162, 163, 164, 165, 166, 167, 168, 169, 170, 171, 172, 48, 173, 174, 175, 176, 177, 178, 179, 180, 181, 182, 183, 184, 185, 186, 187, 188, 189, 190, 191, 192, 193, 194, 195, 196, 197, 198, 199, 200, 201, 202, 203, 204, 205, 206, 207, 208, 209, 210, 211, 212, 213, 214, 215, 39, 40, 41, 42, 44, 45, 46, 47, 25, 26, 27, 29, 252, 253, 254, 255, 256, 257, 258, 259, 260, 261, 262, 263, 264, 265, 266, 267, 268, 277, 278, 279, 280, 281] (by decide +kernel) (by decide +kernel)) (goodIn_sub (fun _ h => List.mem_cons_of_mem _ (List.mem_append_left _ (List.mem_append_right _ h))) (by decide +kernel))
set_option maxRecDepth 20000 in
theorem gX5_digest_X5_ifToured : GoodIn wsX5_digest (wsV RX5 222 RX5 yX5_ifToured wsX5_ifToured) := goodIn_app (goodIn_of _ (by decide +kernel)) ggX5_digest_X5_ifToured
set_option maxRecDepth 20000 in
theorem ggX5_digest_X5_needed : GoodIn wsX5_digest wsX5_needed := goodIn_r _ [219, 124, 2, 98, 125, 126, 127, 28, 128, 82, 30, 129, 130, 89, 131, 132, 133, 134, 135, 136, 137, 83, 31, 43, 88, 138, 139, 140, 35, 141, 38, 142, 143, 92, 144, 145, 220, 221, 222, 223, 224, 26, 27, 29, 32, 33, 34, 36, 37, 146, 147, 148, 106, 149, 150, 151, 104, 105, 107, 108, 109, 110, 111, 112, 113, 114, 115, 116, 117, 118, 119, 152, 153, 154, 155, 156, 157, 158, 159, 79, 80, 81, 84, 85, 86, 87, 90, 91, 93, 160, 161, 162, 163, 164, 165, 166, 167, 168, 169, 170, 171, 172, 48, 173, 174, 175, 176, 177, 178, 179, 180, 181, 182, 183, 184, 185, 186, 187, 188, 189, 190, 191, 192, 193, 194, 195, 196, 197, 198, 199, 200, 201, 202, 203, 204, 205, 206, 207, 208, 209, 210, 211, 212, 213, 214, 215, 225, 226, 227, 228, 229, 230, 231, 232, 233, 252, 253, 254, 255, 256, 257, 258, 259, 260, 261, 262, 263, 264, 265, 266, 267, 268, 277, 278, 279, 280, 281] (by decide +kernel) (by decide +kernel)
set_option maxRecDepth 20000 in
theorem gX5_digest_X5_needed : GoodIn wsX5_digest (wsV RX5 225 RX5 yX5_needed wsX5_needed) := goodIn_app (goodIn_of _ (by decide +kernel)) ggX5_digest_X5_needed
set_option maxRecDepth 20000 in
theorem ggX5_digest_X5_rumored : GoodIn wsX5_digest wsX5_rumored := goodIn_r _ [237, 2, 14, 238, 239, 240, 28, 241, 88, 197, 143, 92, 144, 189, 190, 191, 32, 33, 34, 35, 36, 37, 38, 252, 253, 254, 255, 256, 257, 258, 259, 260, 261, 262, 263, 264, 265, 266, 267, 268, 277, 278] (by decide +kernel) (by decide +kernel)
set_option maxRecDepth 20000 in
theorem gX5_digest_X5_rumored : GoodIn wsX5_digest (wsV RX5 228 RX5 yX5_rumored wsX5_rumored) := goodIn_app (goodIn_of _ (by decide +kernel)) ggX5_digest_X5_rumored
set_option maxRecDepth 20000 in
theorem ggX5_digest_X5_missShare : GoodIn wsX5_digest wsX5_missShare := goodIn_r _ [245, 2, 20, 49, 45, 46, 35, 47, 48, 33, 34, 36, 37, 38, 39, 40, 41, 28, 42, 43, 44, 252, 253, 254, 255, 256, 257, 258, 259, 260, 261, 262, 263, 264, 265, 266, 267, 268, 277, 278] (by decide +kernel) (by decide +kernel)
set_option maxRecDepth 20000 in
theorem gX5_digest_X5_missShare : GoodIn wsX5_digest (wsV RX5 231 RX5 yX5_missShare wsX5_missShare) := goodIn_app (goodIn_of _ (by decide +kernel)) ggX5_digest_X5_missShare
set_option maxRecDepth 20000 in
theorem ggX5_digest_X5_bitsOfShare : GoodIn wsX5_digest wsX5_bitsOfShare := goodIn_r _ [248, 249, 250, 251] (by decide +kernel) (by decide +kernel)
set_option maxRecDepth 20000 in
theorem gX5_digest_X5_bitsOfShare : GoodIn wsX5_digest (va_wsS RX5 235 yX5_bitsOfShare wsX5_bitsOfShare) := goodIn_app (goodIn_of _ (by decide +kernel)) ggX5_digest_X5_bitsOfShare
theorem dX5_digest_0 : decode cX5_digest 0 = .ok (.ldc2_w 205, 3) := by decide +kernel
theorem dX5_digest_3 : decode cX5_digest 3 = .ok (.lstore_n 1, 1) := by decide +kernel
theorem dX5_digest_4 : decode cX5_digest 4 = .ok (.iconst 0, 1) := by decide +kernel
theorem dX5_digest_5 : decode cX5_digest 5 = .ok (.istore_n 3, 1) := by decide +kernel
theorem dX5_digest_6 : decode cX5_digest 6 = .ok (.iload_n 3, 1) := by decide +kernel
theorem dX5_digest_7 : decode cX5_digest 7 = .ok (.bipush 13, 2) := by decide +kernel
theorem dX5_digest_9 : decode cX5_digest 9 = .ok (.if_icmp .gt 20, 3) := by decide +kernel
theorem dX5_digest_12 : decode cX5_digest 12 = .ok (.lload_n 1, 1) := by decide +kernel
theorem dX5_digest_13 : decode cX5_digest 13 = .ok (.aload_n 0, 1) := by decide +kernel
theorem dX5_digest_14 : decode cX5_digest 14 = .ok (.iload_n 3, 1) := by decide +kernel
theorem dX5_digest_15 : decode cX5_digest 15 = .ok (.invokevirtual 207, 3) := by decide +kernel
theorem dX5_digest_18 : decode cX5_digest 18 = .ok (.i2l, 1) := by decide +kernel
theorem dX5_digest_19 : decode cX5_digest 19 = .ok (.invokestatic 210, 3) := by decide +kernel
theorem dX5_digest_22 : decode cX5_digest 22 = .ok (.lstore_n 1, 1) := by decide +kernel
theorem dX5_digest_23 : decode cX5_digest 23 = .ok (.iinc 3 1, 3) := by decide +kernel
theorem dX5_digest_26 : decode cX5_digest 26 = .ok (.goto (-20), 3) := by decide +kernel
theorem dX5_digest_29 : decode cX5_digest 29 = .ok (.iconst 0, 1) := by decide +kernel
theorem dX5_digest_30 : decode cX5_digest 30 = .ok (.istore_n 3, 1) := by decide +kernel
theorem dX5_digest_31 : decode cX5_digest 31 = .ok (.iload_n 3, 1) := by decide +kernel
theorem dX5_digest_32 : decode cX5_digest 32 = .ok (.iconst 5, 1) := by decide +kernel
theorem dX5_digest_33 : decode cX5_digest 33 = .ok (.if_icmp .ge 24, 3) := by decide +kernel
theorem dX5_digest_36 : decode cX5_digest 36 = .ok (.lload_n 1, 1) := by decide +kernel
theorem dX5_digest_37 : decode cX5_digest 37 = .ok (.aload_n 0, 1) := by decide +kernel
theorem dX5_digest_38 : decode cX5_digest 38 = .ok (.getfield 10, 3) := by decide +kernel
theorem dX5_digest_41 : decode cX5_digest 41 = .ok (.getfield 110, 3) := by decide +kernel
theorem dX5_digest_44 : decode cX5_digest 44 = .ok (.iload_n 3, 1) := by decide +kernel
theorem dX5_digest_45 : decode cX5_digest 45 = .ok (.iaload, 1) := by decide +kernel
theorem dX5_digest_46 : decode cX5_digest 46 = .ok (.i2l, 1) := by decide +kernel
theorem dX5_digest_47 : decode cX5_digest 47 = .ok (.invokestatic 210, 3) := by decide +kernel
theorem dX5_digest_50 : decode cX5_digest 50 = .ok (.lstore_n 1, 1) := by decide +kernel
theorem dX5_digest_51 : decode cX5_digest 51 = .ok (.iinc 3 1, 3) := by decide +kernel
theorem dX5_digest_54 : decode cX5_digest 54 = .ok (.goto (-23), 3) := by decide +kernel
theorem dX5_digest_57 : decode cX5_digest 57 = .ok (.aload_n 0, 1) := by decide +kernel
theorem dX5_digest_58 : decode cX5_digest 58 = .ok (.lload_n 1, 1) := by decide +kernel
theorem dX5_digest_59 : decode cX5_digest 59 = .ok (.invokevirtual 214, 3) := by decide +kernel
theorem dX5_digest_62 : decode cX5_digest 62 = .ok (.lstore_n 1, 1) := by decide +kernel
theorem dX5_digest_63 : decode cX5_digest 63 = .ok (.iconst 0, 1) := by decide +kernel
theorem dX5_digest_64 : decode cX5_digest 64 = .ok (.istore_n 3, 1) := by decide +kernel
theorem dX5_digest_65 : decode cX5_digest 65 = .ok (.iload_n 3, 1) := by decide +kernel
theorem dX5_digest_66 : decode cX5_digest 66 = .ok (.iconst 4, 1) := by decide +kernel
theorem dX5_digest_67 : decode cX5_digest 67 = .ok (.if_icmp .ge 16, 3) := by decide +kernel
theorem dX5_digest_70 : decode cX5_digest 70 = .ok (.aload_n 0, 1) := by decide +kernel
theorem dX5_digest_71 : decode cX5_digest 71 = .ok (.lload_n 1, 1) := by decide +kernel
theorem dX5_digest_72 : decode cX5_digest 72 = .ok (.iload_n 3, 1) := by decide +kernel
theorem dX5_digest_73 : decode cX5_digest 73 = .ok (.invokevirtual 218, 3) := by decide +kernel
theorem dX5_digest_76 : decode cX5_digest 76 = .ok (.lstore_n 1, 1) := by decide +kernel
theorem dX5_digest_77 : decode cX5_digest 77 = .ok (.iinc 3 1, 3) := by decide +kernel
theorem dX5_digest_80 : decode cX5_digest 80 = .ok (.goto (-15), 3) := by decide +kernel
theorem dX5_digest_83 : decode cX5_digest 83 = .ok (.iconst 0, 1) := by decide +kernel
theorem dX5_digest_84 : decode cX5_digest 84 = .ok (.istore_n 3, 1) := by decide +kernel
theorem dX5_digest_85 : decode cX5_digest 85 = .ok (.iload_n 3, 1) := by decide +kernel
theorem dX5_digest_86 : decode cX5_digest 86 = .ok (.iconst 3, 1) := by decide +kernel
theorem dX5_digest_87 : decode cX5_digest 87 = .ok (.if_icmp .gt 21, 3) := by decide +kernel
theorem dX5_digest_90 : decode cX5_digest 90 = .ok (.lload_n 1, 1) := by decide +kernel
theorem dX5_digest_91 : decode cX5_digest 91 = .ok (.aload_n 0, 1) := by decide +kernel
theorem dX5_digest_92 : decode cX5_digest 92 = .ok (.iconst 3, 1) := by decide +kernel
theorem dX5_digest_93 : decode cX5_digest 93 = .ok (.iload_n 3, 1) := by decide +kernel
theorem dX5_digest_94 : decode cX5_digest 94 = .ok (.invokevirtual 222, 3) := by decide +kernel
theorem dX5_digest_97 : decode cX5_digest 97 = .ok (.i2l, 1) := by decide +kernel
theorem dX5_digest_98 : decode cX5_digest 98 = .ok (.invokestatic 210, 3) := by decide +kernel
theorem dX5_digest_101 : decode cX5_digest 101 = .ok (.lstore_n 1, 1) := by decide +kernel
theorem dX5_digest_102 : decode cX5_digest 102 = .ok (.iinc 3 1, 3) := by decide +kernel
theorem dX5_digest_105 : decode cX5_digest 105 = .ok (.goto (-20), 3) := by decide +kernel
theorem dX5_digest_108 : decode cX5_digest 108 = .ok (.lload_n 1, 1) := by decide +kernel
theorem dX5_digest_109 : decode cX5_digest 109 = .ok (.aload_n 0, 1) := by decide +kernel
theorem dX5_digest_110 : decode cX5_digest 110 = .ok (.invokevirtual 225, 3) := by decide +kernel
theorem dX5_digest_113 : decode cX5_digest 113 = .ok (.i2l, 1) := by decide +kernel
theorem dX5_digest_114 : decode cX5_digest 114 = .ok (.invokestatic 210, 3) := by decide +kernel
theorem dX5_digest_117 : decode cX5_digest 117 = .ok (.lstore_n 1, 1) := by decide +kernel
theorem dX5_digest_118 : decode cX5_digest 118 = .ok (.lload_n 1, 1) := by decide +kernel
theorem dX5_digest_119 : decode cX5_digest 119 = .ok (.aload_n 0, 1) := by decide +kernel
theorem dX5_digest_120 : decode cX5_digest 120 = .ok (.invokevirtual 228, 3) := by decide +kernel
theorem dX5_digest_123 : decode cX5_digest 123 = .ok (.i2l, 1) := by decide +kernel
theorem dX5_digest_124 : decode cX5_digest 124 = .ok (.invokestatic 210, 3) := by decide +kernel
theorem dX5_digest_127 : decode cX5_digest 127 = .ok (.lstore_n 1, 1) := by decide +kernel
theorem dX5_digest_128 : decode cX5_digest 128 = .ok (.lload_n 1, 1) := by decide +kernel
theorem dX5_digest_129 : decode cX5_digest 129 = .ok (.aload_n 0, 1) := by decide +kernel
theorem dX5_digest_130 : decode cX5_digest 130 = .ok (.invokevirtual 231, 3) := by decide +kernel
theorem dX5_digest_133 : decode cX5_digest 133 = .ok (.invokestatic 235, 3) := by decide +kernel
theorem dX5_digest_136 : decode cX5_digest 136 = .ok (.invokestatic 210, 3) := by decide +kernel
theorem dX5_digest_139 : decode cX5_digest 139 = .ok (.lstore_n 1, 1) := by decide +kernel
theorem dX5_digest_140 : decode cX5_digest 140 = .ok (.lload_n 1, 1) := by decide +kernel
theorem dX5_digest_141 : decode cX5_digest 141 = .ok (.aload_n 0, 1) := by decide +kernel
theorem dX5_digest_142 : decode cX5_digest 142 = .ok (.getfield 36, 3) := by decide +kernel
theorem dX5_digest_145 : decode cX5_digest 145 = .ok (.getfield 121, 3) := by decide +kernel
theorem dX5_digest_148 : decode cX5_digest 148 = .ok (.i2l, 1) := by decide +kernel
theorem dX5_digest_149 : decode cX5_digest 149 = .ok (.invokestatic 210, 3) := by decide +kernel
theorem dX5_digest_152 : decode cX5_digest 152 = .ok (.lstore_n 1, 1) := by decide +kernel
theorem dX5_digest_153 : decode cX5_digest 153 = .ok (.iconst 0, 1) := by decide +kernel
theorem dX5_digest_154 : decode cX5_digest 154 = .ok (.istore_n 3, 1) := by decide +kernel
theorem dX5_digest_155 : decode cX5_digest 155 = .ok (.iload_n 3, 1) := by decide +kernel
theorem dX5_digest_156 : decode cX5_digest 156 = .ok (.aload_n 0, 1) := by decide +kernel
theorem dX5_digest_157 : decode cX5_digest 157 = .ok (.getfield 36, 3) := by decide +kernel
theorem dX5_digest_160 : decode cX5_digest 160 = .ok (.getfield 121, 3) := by decide +kernel
theorem dX5_digest_163 : decode cX5_digest 163 = .ok (.if_icmp .ge 24, 3) := by decide +kernel
theorem dX5_digest_166 : decode cX5_digest 166 = .ok (.lload_n 1, 1) := by decide +kernel
theorem dX5_digest_167 : decode cX5_digest 167 = .ok (.aload_n 0, 1) := by decide +kernel
theorem dX5_digest_168 : decode cX5_digest 168 = .ok (.getfield 36, 3) := by decide +kernel
theorem dX5_digest_171 : decode cX5_digest 171 = .ok (.getfield 126, 3) := by decide +kernel
theorem dX5_digest_174 : decode cX5_digest 174 = .ok (.iload_n 3, 1) := by decide +kernel
theorem dX5_digest_175 : decode cX5_digest 175 = .ok (.iaload, 1) := by decide +kernel
theorem dX5_digest_176 : decode cX5_digest 176 = .ok (.i2l, 1) := by decide +kernel
theorem dX5_digest_177 : decode cX5_digest 177 = .ok (.invokestatic 210, 3) := by decide +kernel
theorem dX5_digest_180 : decode cX5_digest 180 = .ok (.lstore_n 1, 1) := by decide +kernel
theorem dX5_digest_181 : decode cX5_digest 181 = .ok (.iinc 3 1, 3) := by decide +kernel
theorem dX5_digest_184 : decode cX5_digest 184 = .ok (.goto (-29), 3) := by decide +kernel
theorem dX5_digest_187 : decode cX5_digest 187 = .ok (.lload_n 1, 1) := by decide +kernel
theorem dX5_digest_188 : decode cX5_digest 188 = .ok (.lreturn, 1) := by decide +kernel
set_option maxRecDepth 20000 in
theorem ggX5_mixFeedersAndPlaces_X5_feeder : GoodIn wsX5_mixFeedersAndPlaces wsX5_feeder := goodIn_ca (goodIn_ca (goodIn_r _ [9, 1, 10, 11, 12, 13, 14, 8, 15, 16, 17, 2, 18, 19, 20, 21, 22, 23, 24, 25, 26, 27, 28, 29, 30, 31, 32, 33, 34, 39, 40, 41, 42, 43, 44, 45, 46, 47, 48, 49, 50, 51, 52, 53, 54, 55, 56, 57] (by decide +kernel) (by decide +kernel)) (goodIn_sub (fun _ h => List.mem_cons_of_mem _ (List.mem_append_left _ (List.mem_append_right _ h))) (by decide +kernel))) (goodIn_sub (fun _ h => List.mem_cons_of_mem _ (List.mem_append_right _ h)) (by decide +kernel))
set_option maxRecDepth 20000 in
theorem gX5_mixFeedersAndPlaces_X5_feeder : GoodIn wsX5_mixFeedersAndPlaces (wsV RX5 239 RX5 yX5_feeder wsX5_feeder) := goodIn_app (goodIn_of _ (by decide +kernel)) ggX5_mixFeedersAndPlaces_X5_feeder
set_option maxRecDepth 20000 in
theorem ggX5_mixFeedersAndPlaces_X5_mix : GoodIn wsX5_mixFeedersAndPlaces wsX5_mix := goodIn_r _ [37, 38] (by decide +kernel) (by decide +kernel)
set_option maxRecDepth 20000 in
theorem gX5_mixFeedersAndPlaces_X5_mix : GoodIn wsX5_mixFeedersAndPlaces (va_wsS RX5 210 yX5_mix wsX5_mix) := goodIn_app (goodIn_of _ (by decide +kernel)) ggX5_mixFeedersAndPlaces_X5_mix
set_option maxRecDepth 20000 in
theorem ggX5_mixFeedersAndPlaces_X3_at : GoodIn wsX5_mixFeedersAndPlaces wsX3_at := goodIn_r _ [31, 32, 33, 56, 57] (by decide +kernel) (by decide +kernel)
set_option maxRecDepth 20000 in
theorem gX5_mixFeedersAndPlaces_X3_at : GoodIn wsX5_mixFeedersAndPlaces (wsV RX5 80 RX3 yX3_at wsX3_at) := goodIn_app (goodIn_of _ (by decide +kernel)) ggX5_mixFeedersAndPlaces_X3_at
theorem dX5_mixFeedersAndPlaces_0 : decode cX5_mixFeedersAndPlaces 0 = .ok (.lload_n 1, 1) := by decide +kernel
theorem dX5_mixFeedersAndPlaces_1 : decode cX5_mixFeedersAndPlaces 1 = .ok (.lstore_n 3, 1) := by decide +kernel
theorem dX5_mixFeedersAndPlaces_2 : decode cX5_mixFeedersAndPlaces 2 = .ok (.iconst 0, 1) := by decide +kernel
theorem dX5_mixFeedersAndPlaces_3 : decode cX5_mixFeedersAndPlaces 3 = .ok (.istore 5, 2) := by decide +kernel
theorem dX5_mixFeedersAndPlaces_5 : decode cX5_mixFeedersAndPlaces 5 = .ok (.iload 5, 2) := by decide +kernel
theorem dX5_mixFeedersAndPlaces_7 : decode cX5_mixFeedersAndPlaces 7 = .ok (.aload_n 0, 1) := by decide +kernel
theorem dX5_mixFeedersAndPlaces_8 : decode cX5_mixFeedersAndPlaces 8 = .ok (.getfield 10, 3) := by decide +kernel
theorem dX5_mixFeedersAndPlaces_11 : decode cX5_mixFeedersAndPlaces 11 = .ok (.getfield 44, 3) := by decide +kernel
theorem dX5_mixFeedersAndPlaces_14 : decode cX5_mixFeedersAndPlaces 14 = .ok (.if_icmp .ge 39, 3) := by decide +kernel
theorem dX5_mixFeedersAndPlaces_17 : decode cX5_mixFeedersAndPlaces 17 = .ok (.iconst 0, 1) := by decide +kernel
theorem dX5_mixFeedersAndPlaces_18 : decode cX5_mixFeedersAndPlaces 18 = .ok (.istore 6, 2) := by decide +kernel
theorem dX5_mixFeedersAndPlaces_20 : decode cX5_mixFeedersAndPlaces 20 = .ok (.iload 6, 2) := by decide +kernel
theorem dX5_mixFeedersAndPlaces_22 : decode cX5_mixFeedersAndPlaces 22 = .ok (.bipush 8, 2) := by decide +kernel
theorem dX5_mixFeedersAndPlaces_24 : decode cX5_mixFeedersAndPlaces 24 = .ok (.if_icmp .gt 23, 3) := by decide +kernel
theorem dX5_mixFeedersAndPlaces_27 : decode cX5_mixFeedersAndPlaces 27 = .ok (.lload_n 3, 1) := by decide +kernel
theorem dX5_mixFeedersAndPlaces_28 : decode cX5_mixFeedersAndPlaces 28 = .ok (.aload_n 0, 1) := by decide +kernel
theorem dX5_mixFeedersAndPlaces_29 : decode cX5_mixFeedersAndPlaces 29 = .ok (.iload 5, 2) := by decide +kernel
theorem dX5_mixFeedersAndPlaces_31 : decode cX5_mixFeedersAndPlaces 31 = .ok (.iload 6, 2) := by decide +kernel
theorem dX5_mixFeedersAndPlaces_33 : decode cX5_mixFeedersAndPlaces 33 = .ok (.invokevirtual 239, 3) := by decide +kernel
theorem dX5_mixFeedersAndPlaces_36 : decode cX5_mixFeedersAndPlaces 36 = .ok (.i2l, 1) := by decide +kernel
theorem dX5_mixFeedersAndPlaces_37 : decode cX5_mixFeedersAndPlaces 37 = .ok (.invokestatic 210, 3) := by decide +kernel
theorem dX5_mixFeedersAndPlaces_40 : decode cX5_mixFeedersAndPlaces 40 = .ok (.lstore_n 3, 1) := by decide +kernel
theorem dX5_mixFeedersAndPlaces_41 : decode cX5_mixFeedersAndPlaces 41 = .ok (.iinc 6 1, 3) := by decide +kernel
theorem dX5_mixFeedersAndPlaces_44 : decode cX5_mixFeedersAndPlaces 44 = .ok (.goto (-24), 3) := by decide +kernel
theorem dX5_mixFeedersAndPlaces_47 : decode cX5_mixFeedersAndPlaces 47 = .ok (.iinc 5 1, 3) := by decide +kernel
theorem dX5_mixFeedersAndPlaces_50 : decode cX5_mixFeedersAndPlaces 50 = .ok (.goto (-45), 3) := by decide +kernel
theorem dX5_mixFeedersAndPlaces_53 : decode cX5_mixFeedersAndPlaces 53 = .ok (.iconst 0, 1) := by decide +kernel
theorem dX5_mixFeedersAndPlaces_54 : decode cX5_mixFeedersAndPlaces 54 = .ok (.istore 5, 2) := by decide +kernel
theorem dX5_mixFeedersAndPlaces_56 : decode cX5_mixFeedersAndPlaces 56 = .ok (.iload 5, 2) := by decide +kernel
theorem dX5_mixFeedersAndPlaces_58 : decode cX5_mixFeedersAndPlaces 58 = .ok (.aload_n 0, 1) := by decide +kernel
theorem dX5_mixFeedersAndPlaces_59 : decode cX5_mixFeedersAndPlaces 59 = .ok (.getfield 10, 3) := by decide +kernel
theorem dX5_mixFeedersAndPlaces_62 : decode cX5_mixFeedersAndPlaces 62 = .ok (.getfield 63, 3) := by decide +kernel
theorem dX5_mixFeedersAndPlaces_65 : decode cX5_mixFeedersAndPlaces 65 = .ok (.if_icmp .ge 44, 3) := by decide +kernel
theorem dX5_mixFeedersAndPlaces_68 : decode cX5_mixFeedersAndPlaces 68 = .ok (.iconst 0, 1) := by decide +kernel
theorem dX5_mixFeedersAndPlaces_69 : decode cX5_mixFeedersAndPlaces 69 = .ok (.istore 6, 2) := by decide +kernel
theorem dX5_mixFeedersAndPlaces_71 : decode cX5_mixFeedersAndPlaces 71 = .ok (.iload 6, 2) := by decide +kernel
theorem dX5_mixFeedersAndPlaces_73 : decode cX5_mixFeedersAndPlaces 73 = .ok (.iconst 5, 1) := by decide +kernel
theorem dX5_mixFeedersAndPlaces_74 : decode cX5_mixFeedersAndPlaces 74 = .ok (.if_icmp .ge 29, 3) := by decide +kernel
theorem dX5_mixFeedersAndPlaces_77 : decode cX5_mixFeedersAndPlaces 77 = .ok (.lload_n 3, 1) := by decide +kernel
theorem dX5_mixFeedersAndPlaces_78 : decode cX5_mixFeedersAndPlaces 78 = .ok (.aload_n 0, 1) := by decide +kernel
theorem dX5_mixFeedersAndPlaces_79 : decode cX5_mixFeedersAndPlaces 79 = .ok (.getfield 10, 3) := by decide +kernel
theorem dX5_mixFeedersAndPlaces_82 : decode cX5_mixFeedersAndPlaces 82 = .ok (.getfield 164, 3) := by decide +kernel
theorem dX5_mixFeedersAndPlaces_85 : decode cX5_mixFeedersAndPlaces 85 = .ok (.iload 5, 2) := by decide +kernel
theorem dX5_mixFeedersAndPlaces_87 : decode cX5_mixFeedersAndPlaces 87 = .ok (.iload 6, 2) := by decide +kernel
theorem dX5_mixFeedersAndPlaces_89 : decode cX5_mixFeedersAndPlaces 89 = .ok (.invokevirtual 80, 3) := by decide +kernel
theorem dX5_mixFeedersAndPlaces_92 : decode cX5_mixFeedersAndPlaces 92 = .ok (.i2l, 1) := by decide +kernel
theorem dX5_mixFeedersAndPlaces_93 : decode cX5_mixFeedersAndPlaces 93 = .ok (.invokestatic 210, 3) := by decide +kernel
theorem dX5_mixFeedersAndPlaces_96 : decode cX5_mixFeedersAndPlaces 96 = .ok (.lstore_n 3, 1) := by decide +kernel
theorem dX5_mixFeedersAndPlaces_97 : decode cX5_mixFeedersAndPlaces 97 = .ok (.iinc 6 1, 3) := by decide +kernel
theorem dX5_mixFeedersAndPlaces_100 : decode cX5_mixFeedersAndPlaces 100 = .ok (.goto (-29), 3) := by decide +kernel
theorem dX5_mixFeedersAndPlaces_103 : decode cX5_mixFeedersAndPlaces 103 = .ok (.iinc 5 1, 3) := by decide +kernel
theorem dX5_mixFeedersAndPlaces_106 : decode cX5_mixFeedersAndPlaces 106 = .ok (.goto (-50), 3) := by decide +kernel
theorem dX5_mixFeedersAndPlaces_109 : decode cX5_mixFeedersAndPlaces 109 = .ok (.lload_n 3, 1) := by decide +kernel
theorem dX5_mixFeedersAndPlaces_110 : decode cX5_mixFeedersAndPlaces 110 = .ok (.lreturn, 1) := by decide +kernel
set_option maxRecDepth 20000 in
theorem ggX5_mixNozzle_X3_at : GoodIn wsX5_mixNozzle wsX3_at := goodIn_r _ [9, 10, 11, 80, 81] (by decide +kernel) (by decide +kernel)
set_option maxRecDepth 20000 in
theorem gX5_mixNozzle_X3_at : GoodIn wsX5_mixNozzle (wsV RX5 80 RX3 yX3_at wsX3_at) := goodIn_app (goodIn_of _ (by decide +kernel)) ggX5_mixNozzle_X3_at
set_option maxRecDepth 20000 in
theorem ggX5_mixNozzle_X5_mix : GoodIn wsX5_mixNozzle wsX5_mix := goodIn_r _ [15, 16] (by decide +kernel) (by decide +kernel)
set_option maxRecDepth 20000 in
theorem gX5_mixNozzle_X5_mix : GoodIn wsX5_mixNozzle (va_wsS RX5 210 yX5_mix wsX5_mix) := goodIn_app (goodIn_of _ (by decide +kernel)) ggX5_mixNozzle_X5_mix
set_option maxRecDepth 20000 in
theorem ggX5_mixNozzle_X2_favorite : GoodIn wsX5_mixNozzle wsX2_favorite := goodIn_r _ [21, 22, 23, 24, 6, 7, 8, 9, 10, 11, 25, 26, 27, 20, 28, 29, 30, 31, 32, 33, 34, 68, 69, 70, 71, 72, 73, 74, 75, 76, 77, 78, 79, 80, 81] (by decide +kernel) (by decide +kernel)
set_option maxRecDepth 20000 in
theorem gX5_mixNozzle_X2_favorite : GoodIn wsX5_mixNozzle (wsV RX5 190 RX2 yX2_favorite wsX2_favorite) := goodIn_app (goodIn_of _ (by decide +kernel)) ggX5_mixNozzle_X2_favorite
set_option maxRecDepth 20000 in
theorem ggX5_mixNozzle_X5_aim : GoodIn wsX5_mixNozzle wsX5_aim := goodIn_ca (goodIn_r _ [38, 39, 1, 40, 41, 42, 14, 43, 44, 45, 46, 47, 48, 49, 50, 51, 52, 53, 54, 55, 20, 56, 22, 23, 24, 6, 7, 8, 9, 10, 11, 57, 58, 59, 60, 61, 62, 63, 64, 65, 66, 67, 82, 83, 84, 68, 69, 70, 71, 72, 73, 74, 75, 76, 77, 78, 79, 80, 81] (by decide +kernel) (by decide +kernel)) (goodIn_sub (fun _ h => List.mem_cons_of_mem _ (List.mem_append_right _ h)) (by decide +kernel))
set_option maxRecDepth 20000 in
theorem gX5_mixNozzle_X5_aim : GoodIn wsX5_mixNozzle (wsV RX5 242 RX5 yX5_aim wsX5_aim) := goodIn_app (goodIn_of _ (by decide +kernel)) ggX5_mixNozzle_X5_aim
theorem dX5_mixNozzle_0 : decode cX5_mixNozzle 0 = .ok (.lload_n 1, 1) := by decide +kernel
theorem dX5_mixNozzle_1 : decode cX5_mixNozzle 1 = .ok (.lstore 4, 2) := by decide +kernel
theorem dX5_mixNozzle_3 : decode cX5_mixNozzle 3 = .ok (.iconst 0, 1) := by decide +kernel
theorem dX5_mixNozzle_4 : decode cX5_mixNozzle 4 = .ok (.istore 6, 2) := by decide +kernel
theorem dX5_mixNozzle_6 : decode cX5_mixNozzle 6 = .ok (.iload 6, 2) := by decide +kernel
theorem dX5_mixNozzle_8 : decode cX5_mixNozzle 8 = .ok (.iconst 5, 1) := by decide +kernel
theorem dX5_mixNozzle_9 : decode cX5_mixNozzle 9 = .ok (.if_icmp .ge 30, 3) := by decide +kernel
theorem dX5_mixNozzle_12 : decode cX5_mixNozzle 12 = .ok (.lload 4, 2) := by decide +kernel
theorem dX5_mixNozzle_14 : decode cX5_mixNozzle 14 = .ok (.aload_n 0, 1) := by decide +kernel
theorem dX5_mixNozzle_15 : decode cX5_mixNozzle 15 = .ok (.getfield 10, 3) := by decide +kernel
theorem dX5_mixNozzle_18 : decode cX5_mixNozzle 18 = .ok (.getfield 93, 3) := by decide +kernel
theorem dX5_mixNozzle_21 : decode cX5_mixNozzle 21 = .ok (.iload_n 3, 1) := by decide +kernel
theorem dX5_mixNozzle_22 : decode cX5_mixNozzle 22 = .ok (.iload 6, 2) := by decide +kernel
theorem dX5_mixNozzle_24 : decode cX5_mixNozzle 24 = .ok (.invokevirtual 80, 3) := by decide +kernel
theorem dX5_mixNozzle_27 : decode cX5_mixNozzle 27 = .ok (.i2l, 1) := by decide +kernel
theorem dX5_mixNozzle_28 : decode cX5_mixNozzle 28 = .ok (.invokestatic 210, 3) := by decide +kernel
theorem dX5_mixNozzle_31 : decode cX5_mixNozzle 31 = .ok (.lstore 4, 2) := by decide +kernel
theorem dX5_mixNozzle_33 : decode cX5_mixNozzle 33 = .ok (.iinc 6 1, 3) := by decide +kernel
theorem dX5_mixNozzle_36 : decode cX5_mixNozzle 36 = .ok (.goto (-30), 3) := by decide +kernel
theorem dX5_mixNozzle_39 : decode cX5_mixNozzle 39 = .ok (.iconst 0, 1) := by decide +kernel
theorem dX5_mixNozzle_40 : decode cX5_mixNozzle 40 = .ok (.istore 6, 2) := by decide +kernel
theorem dX5_mixNozzle_42 : decode cX5_mixNozzle 42 = .ok (.iload 6, 2) := by decide +kernel
theorem dX5_mixNozzle_44 : decode cX5_mixNozzle 44 = .ok (.aload_n 0, 1) := by decide +kernel
theorem dX5_mixNozzle_45 : decode cX5_mixNozzle 45 = .ok (.getfield 10, 3) := by decide +kernel
theorem dX5_mixNozzle_48 : decode cX5_mixNozzle 48 = .ok (.getfield 44, 3) := by decide +kernel
theorem dX5_mixNozzle_51 : decode cX5_mixNozzle 51 = .ok (.if_icmp .ge 30, 3) := by decide +kernel
theorem dX5_mixNozzle_54 : decode cX5_mixNozzle 54 = .ok (.lload 4, 2) := by decide +kernel
theorem dX5_mixNozzle_56 : decode cX5_mixNozzle 56 = .ok (.aload_n 0, 1) := by decide +kernel
theorem dX5_mixNozzle_57 : decode cX5_mixNozzle 57 = .ok (.getfield 10, 3) := by decide +kernel
theorem dX5_mixNozzle_60 : decode cX5_mixNozzle 60 = .ok (.getfield 153, 3) := by decide +kernel
theorem dX5_mixNozzle_63 : decode cX5_mixNozzle 63 = .ok (.iload_n 3, 1) := by decide +kernel
theorem dX5_mixNozzle_64 : decode cX5_mixNozzle 64 = .ok (.iload 6, 2) := by decide +kernel
theorem dX5_mixNozzle_66 : decode cX5_mixNozzle 66 = .ok (.invokevirtual 80, 3) := by decide +kernel
theorem dX5_mixNozzle_69 : decode cX5_mixNozzle 69 = .ok (.i2l, 1) := by decide +kernel
theorem dX5_mixNozzle_70 : decode cX5_mixNozzle 70 = .ok (.invokestatic 210, 3) := by decide +kernel
theorem dX5_mixNozzle_73 : decode cX5_mixNozzle 73 = .ok (.lstore 4, 2) := by decide +kernel
theorem dX5_mixNozzle_75 : decode cX5_mixNozzle 75 = .ok (.iinc 6 1, 3) := by decide +kernel
theorem dX5_mixNozzle_78 : decode cX5_mixNozzle 78 = .ok (.goto (-36), 3) := by decide +kernel
theorem dX5_mixNozzle_81 : decode cX5_mixNozzle 81 = .ok (.iconst 0, 1) := by decide +kernel
theorem dX5_mixNozzle_82 : decode cX5_mixNozzle 82 = .ok (.istore 6, 2) := by decide +kernel
theorem dX5_mixNozzle_84 : decode cX5_mixNozzle 84 = .ok (.iload 6, 2) := by decide +kernel
theorem dX5_mixNozzle_86 : decode cX5_mixNozzle 86 = .ok (.iconst 5, 1) := by decide +kernel
theorem dX5_mixNozzle_87 : decode cX5_mixNozzle 87 = .ok (.if_icmp .gt 27, 3) := by decide +kernel
theorem dX5_mixNozzle_90 : decode cX5_mixNozzle 90 = .ok (.lload 4, 2) := by decide +kernel
theorem dX5_mixNozzle_92 : decode cX5_mixNozzle 92 = .ok (.aload_n 0, 1) := by decide +kernel
theorem dX5_mixNozzle_93 : decode cX5_mixNozzle 93 = .ok (.getfield 10, 3) := by decide +kernel
theorem dX5_mixNozzle_96 : decode cX5_mixNozzle 96 = .ok (.iload_n 3, 1) := by decide +kernel
theorem dX5_mixNozzle_97 : decode cX5_mixNozzle 97 = .ok (.iload 6, 2) := by decide +kernel
theorem dX5_mixNozzle_99 : decode cX5_mixNozzle 99 = .ok (.invokevirtual 190, 3) := by decide +kernel
theorem dX5_mixNozzle_102 : decode cX5_mixNozzle 102 = .ok (.i2l, 1) := by decide +kernel
theorem dX5_mixNozzle_103 : decode cX5_mixNozzle 103 = .ok (.invokestatic 210, 3) := by decide +kernel
theorem dX5_mixNozzle_106 : decode cX5_mixNozzle 106 = .ok (.lstore 4, 2) := by decide +kernel
theorem dX5_mixNozzle_108 : decode cX5_mixNozzle 108 = .ok (.iinc 6 1, 3) := by decide +kernel
theorem dX5_mixNozzle_111 : decode cX5_mixNozzle 111 = .ok (.goto (-27), 3) := by decide +kernel
theorem dX5_mixNozzle_114 : decode cX5_mixNozzle 114 = .ok (.lload 4, 2) := by decide +kernel
theorem dX5_mixNozzle_116 : decode cX5_mixNozzle 116 = .ok (.aload_n 0, 1) := by decide +kernel
theorem dX5_mixNozzle_117 : decode cX5_mixNozzle 117 = .ok (.iload_n 3, 1) := by decide +kernel
theorem dX5_mixNozzle_118 : decode cX5_mixNozzle 118 = .ok (.invokevirtual 242, 3) := by decide +kernel
theorem dX5_mixNozzle_121 : decode cX5_mixNozzle 121 = .ok (.i2l, 1) := by decide +kernel
theorem dX5_mixNozzle_122 : decode cX5_mixNozzle 122 = .ok (.invokestatic 210, 3) := by decide +kernel
theorem dX5_mixNozzle_125 : decode cX5_mixNozzle 125 = .ok (.lreturn, 1) := by decide +kernel
theorem dX5_mix_0 : decode cX5_mix 0 = .ok (.ldc2_w 245, 3) := by decide +kernel
theorem dX5_mix_3 : decode cX5_mix 3 = .ok (.lload_n 0, 1) := by decide +kernel
theorem dX5_mix_4 : decode cX5_mix 4 = .ok (.lmul, 1) := by decide +kernel
theorem dX5_mix_5 : decode cX5_mix 5 = .ok (.lload_n 2, 1) := by decide +kernel
theorem dX5_mix_6 : decode cX5_mix 6 = .ok (.ladd, 1) := by decide +kernel
theorem dX5_mix_7 : decode cX5_mix 7 = .ok (.lreturn, 1) := by decide +kernel
theorem dX5_bitsOfShare_0 : decode cX5_bitsOfShare 0 = .ok (.dload_n 0, 1) := by decide +kernel
theorem dX5_bitsOfShare_1 : decode cX5_bitsOfShare 1 = .ok (.dconst 0, 1) := by decide +kernel
theorem dX5_bitsOfShare_2 : decode cX5_bitsOfShare 2 = .ok (.dcmp .g, 1) := by decide +kernel
theorem dX5_bitsOfShare_3 : decode cX5_bitsOfShare 3 = .ok (.ifCond .gt 5, 3) := by decide +kernel
theorem dX5_bitsOfShare_6 : decode cX5_bitsOfShare 6 = .ok (.lconst 0, 1) := by decide +kernel
theorem dX5_bitsOfShare_7 : decode cX5_bitsOfShare 7 = .ok (.lreturn, 1) := by decide +kernel
theorem dX5_bitsOfShare_8 : decode cX5_bitsOfShare 8 = .ok (.dload_n 0, 1) := by decide +kernel
theorem dX5_bitsOfShare_9 : decode cX5_bitsOfShare 9 = .ok (.dstore_n 2, 1) := by decide +kernel
theorem dX5_bitsOfShare_10 : decode cX5_bitsOfShare 10 = .ok (.ldc2_w 247, 3) := by decide +kernel
theorem dX5_bitsOfShare_13 : decode cX5_bitsOfShare 13 = .ok (.lstore 4, 2) := by decide +kernel
theorem dX5_bitsOfShare_15 : decode cX5_bitsOfShare 15 = .ok (.iconst 0, 1) := by decide +kernel
theorem dX5_bitsOfShare_16 : decode cX5_bitsOfShare 16 = .ok (.istore 6, 2) := by decide +kernel
theorem dX5_bitsOfShare_18 : decode cX5_bitsOfShare 18 = .ok (.iload 6, 2) := by decide +kernel
theorem dX5_bitsOfShare_20 : decode cX5_bitsOfShare 20 = .ok (.sipush 1000, 3) := by decide +kernel
theorem dX5_bitsOfShare_23 : decode cX5_bitsOfShare 23 = .ok (.if_icmp .ge 27, 3) := by decide +kernel
theorem dX5_bitsOfShare_26 : decode cX5_bitsOfShare 26 = .ok (.dload_n 2, 1) := by decide +kernel
theorem dX5_bitsOfShare_27 : decode cX5_bitsOfShare 27 = .ok (.dconst 1, 1) := by decide +kernel
theorem dX5_bitsOfShare_28 : decode cX5_bitsOfShare 28 = .ok (.dcmp .g, 1) := by decide +kernel
theorem dX5_bitsOfShare_29 : decode cX5_bitsOfShare 29 = .ok (.ifCond .ge 21, 3) := by decide +kernel
theorem dX5_bitsOfShare_32 : decode cX5_bitsOfShare 32 = .ok (.dload_n 2, 1) := by decide +kernel
theorem dX5_bitsOfShare_33 : decode cX5_bitsOfShare 33 = .ok (.ldc2_w 249, 3) := by decide +kernel
theorem dX5_bitsOfShare_36 : decode cX5_bitsOfShare 36 = .ok (.dmul, 1) := by decide +kernel
theorem dX5_bitsOfShare_37 : decode cX5_bitsOfShare 37 = .ok (.dstore_n 2, 1) := by decide +kernel
theorem dX5_bitsOfShare_38 : decode cX5_bitsOfShare 38 = .ok (.lload 4, 2) := by decide +kernel
theorem dX5_bitsOfShare_40 : decode cX5_bitsOfShare 40 = .ok (.lconst 1, 1) := by decide +kernel
theorem dX5_bitsOfShare_41 : decode cX5_bitsOfShare 41 = .ok (.lsub, 1) := by decide +kernel
theorem dX5_bitsOfShare_42 : decode cX5_bitsOfShare 42 = .ok (.lstore 4, 2) := by decide +kernel
theorem dX5_bitsOfShare_44 : decode cX5_bitsOfShare 44 = .ok (.iinc 6 1, 3) := by decide +kernel
theorem dX5_bitsOfShare_47 : decode cX5_bitsOfShare 47 = .ok (.goto (-29), 3) := by decide +kernel
theorem dX5_bitsOfShare_50 : decode cX5_bitsOfShare 50 = .ok (.ldc2_w 251, 3) := by decide +kernel
theorem dX5_bitsOfShare_53 : decode cX5_bitsOfShare 53 = .ok (.lstore 6, 2) := by decide +kernel
theorem dX5_bitsOfShare_55 : decode cX5_bitsOfShare 55 = .ok (.lload 4, 2) := by decide +kernel
theorem dX5_bitsOfShare_57 : decode cX5_bitsOfShare 57 = .ok (.bipush 52, 2) := by decide +kernel
theorem dX5_bitsOfShare_59 : decode cX5_bitsOfShare 59 = .ok (.lshl, 1) := by decide +kernel
theorem dX5_bitsOfShare_60 : decode cX5_bitsOfShare 60 = .ok (.dload_n 2, 1) := by decide +kernel
theorem dX5_bitsOfShare_61 : decode cX5_bitsOfShare 61 = .ok (.lload 6, 2) := by decide +kernel
theorem dX5_bitsOfShare_63 : decode cX5_bitsOfShare 63 = .ok (.l2d, 1) := by decide +kernel
theorem dX5_bitsOfShare_64 : decode cX5_bitsOfShare 64 = .ok (.dmul, 1) := by decide +kernel
theorem dX5_bitsOfShare_65 : decode cX5_bitsOfShare 65 = .ok (.d2l, 1) := by decide +kernel
theorem dX5_bitsOfShare_66 : decode cX5_bitsOfShare 66 = .ok (.lload 6, 2) := by decide +kernel
theorem dX5_bitsOfShare_68 : decode cX5_bitsOfShare 68 = .ok (.lsub, 1) := by decide +kernel
theorem dX5_bitsOfShare_69 : decode cX5_bitsOfShare 69 = .ok (.ladd, 1) := by decide +kernel
theorem dX5_bitsOfShare_70 : decode cX5_bitsOfShare 70 = .ok (.lreturn, 1) := by decide +kernel
set_option maxRecDepth 20000 in
theorem ggX5_addPartsOfText_X0_startReading : GoodIn wsX5_addPartsOfText wsX0_startReading := goodIn_r _ [8, 9, 79, 80, 81, 82, 83, 84] (by decide +kernel) (by decide +kernel)
set_option maxRecDepth 20000 in
theorem gX5_addPartsOfText_X0_startReading : GoodIn wsX5_addPartsOfText (wsV RX5 253 RX0 yX0_startReading wsX0_startReading) := goodIn_app (goodIn_of _ (by decide +kernel)) ggX5_addPartsOfText_X0_startReading
set_option maxRecDepth 20000 in
theorem ggX5_addPartsOfText_X5_addPartOfText : GoodIn wsX5_addPartsOfText wsX5_addPartOfText := goodIn_r _ [14, 1, 15, 16, 17, 18, 19, 20, 21, 22, 23, 24, 25, 26, 27, 28, 29, 30, 31, 32, 33, 34, 35, 36, 37, 38, 39, 40, 41, 42, 43, 44, 74, 75, 76, 77, 78, 79, 80, 81, 82, 83, 84, 85, 86, 87, 88, 89, 90, 91, 92, 93, 94, 95, 96, 97, 98] (by decide +kernel) (by decide +kernel)
set_option maxRecDepth 20000 in
theorem gX5_addPartsOfText_X5_addPartOfText : GoodIn wsX5_addPartsOfText (wsV RX5 256 RX5 yX5_addPartOfText wsX5_addPartOfText) := goodIn_app (goodIn_of _ (by decide +kernel)) ggX5_addPartsOfText_X5_addPartOfText
set_option maxRecDepth 20000 in
theorem ggX5_addPartsOfText_X0_accept : GoodIn wsX5_addPartsOfText wsX0_accept := goodIn_r _ [48, 9, 49, 50, 51, 7, 52, 53, 54, 55, 56, 57, 58, 59, 60, 61, 62, 63, 64, 65, 66, 67, 68, 69, 70, 71, 72, 73, 5, 6, 8, 79, 80, 81, 82, 83, 84] (by decide +kernel) (by decide +kernel)
set_option maxRecDepth 20000 in
theorem gX5_addPartsOfText_X0_accept : GoodIn wsX5_addPartsOfText (wsV RX5 259 RX0 yX0_accept wsX0_accept) := goodIn_app (goodIn_of _ (by decide +kernel)) ggX5_addPartsOfText_X0_accept
theorem dX5_addPartsOfText_0 : decode cX5_addPartsOfText 0 = .ok (.iconst 0, 1) := by decide +kernel
theorem dX5_addPartsOfText_1 : decode cX5_addPartsOfText 1 = .ok (.istore_n 1, 1) := by decide +kernel
theorem dX5_addPartsOfText_2 : decode cX5_addPartsOfText 2 = .ok (.aload_n 0, 1) := by decide +kernel
theorem dX5_addPartsOfText_3 : decode cX5_addPartsOfText 3 = .ok (.getfield 36, 3) := by decide +kernel
theorem dX5_addPartsOfText_6 : decode cX5_addPartsOfText 6 = .ok (.invokevirtual 253, 3) := by decide +kernel
theorem dX5_addPartsOfText_9 : decode cX5_addPartsOfText 9 = .ok (.iconst 0, 1) := by decide +kernel
theorem dX5_addPartsOfText_10 : decode cX5_addPartsOfText 10 = .ok (.istore_n 2, 1) := by decide +kernel
theorem dX5_addPartsOfText_11 : decode cX5_addPartsOfText 11 = .ok (.iload_n 2, 1) := by decide +kernel
theorem dX5_addPartsOfText_12 : decode cX5_addPartsOfText 12 = .ok (.aload_n 0, 1) := by decide +kernel
theorem dX5_addPartsOfText_13 : decode cX5_addPartsOfText 13 = .ok (.getfield 36, 3) := by decide +kernel
theorem dX5_addPartsOfText_16 : decode cX5_addPartsOfText 16 = .ok (.getfield 121, 3) := by decide +kernel
theorem dX5_addPartsOfText_19 : decode cX5_addPartsOfText 19 = .ok (.if_icmp .gt 88, 3) := by decide +kernel
theorem dX5_addPartsOfText_22 : decode cX5_addPartsOfText 22 = .ok (.iload_n 2, 1) := by decide +kernel
theorem dX5_addPartsOfText_23 : decode cX5_addPartsOfText 23 = .ok (.aload_n 0, 1) := by decide +kernel
theorem dX5_addPartsOfText_24 : decode cX5_addPartsOfText 24 = .ok (.getfield 36, 3) := by decide +kernel
theorem dX5_addPartsOfText_27 : decode cX5_addPartsOfText 27 = .ok (.getfield 121, 3) := by decide +kernel
theorem dX5_addPartsOfText_30 : decode cX5_addPartsOfText 30 = .ok (.if_icmp .eq 17, 3) := by decide +kernel
theorem dX5_addPartsOfText_33 : decode cX5_addPartsOfText 33 = .ok (.aload_n 0, 1) := by decide +kernel
theorem dX5_addPartsOfText_34 : decode cX5_addPartsOfText 34 = .ok (.getfield 36, 3) := by decide +kernel
theorem dX5_addPartsOfText_37 : decode cX5_addPartsOfText 37 = .ok (.getfield 126, 3) := by decide +kernel
theorem dX5_addPartsOfText_40 : decode cX5_addPartsOfText 40 = .ok (.iload_n 2, 1) := by decide +kernel
theorem dX5_addPartsOfText_41 : decode cX5_addPartsOfText 41 = .ok (.iaload, 1) := by decide +kernel
theorem dX5_addPartsOfText_42 : decode cX5_addPartsOfText 42 = .ok (.bipush 59, 2) := by decide +kernel
theorem dX5_addPartsOfText_44 : decode cX5_addPartsOfText 44 = .ok (.if_icmp .ne 7, 3) := by decide +kernel
theorem dX5_addPartsOfText_47 : decode cX5_addPartsOfText 47 = .ok (.iconst 1, 1) := by decide +kernel
theorem dX5_addPartsOfText_48 : decode cX5_addPartsOfText 48 = .ok (.goto 4, 3) := by decide +kernel
theorem dX5_addPartsOfText_51 : decode cX5_addPartsOfText 51 = .ok (.iconst 0, 1) := by decide +kernel
theorem dX5_addPartsOfText_52 : decode cX5_addPartsOfText 52 = .ok (.istore_n 3, 1) := by decide +kernel
theorem dX5_addPartsOfText_53 : decode cX5_addPartsOfText 53 = .ok (.iload_n 3, 1) := by decide +kernel
theorem dX5_addPartsOfText_54 : decode cX5_addPartsOfText 54 = .ok (.ifCond .eq 12, 3) := by decide +kernel
theorem dX5_addPartsOfText_57 : decode cX5_addPartsOfText 57 = .ok (.aload_n 0, 1) := by decide +kernel
theorem dX5_addPartsOfText_58 : decode cX5_addPartsOfText 58 = .ok (.invokevirtual 256, 3) := by decide +kernel
theorem dX5_addPartsOfText_61 : decode cX5_addPartsOfText 61 = .ok (.ifCond .ne 5, 3) := by decide +kernel
theorem dX5_addPartsOfText_64 : decode cX5_addPartsOfText 64 = .ok (.iload_n 1, 1) := by decide +kernel
theorem dX5_addPartsOfText_65 : decode cX5_addPartsOfText 65 = .ok (.ireturn, 1) := by decide +kernel
theorem dX5_addPartsOfText_66 : decode cX5_addPartsOfText 66 = .ok (.iload_n 3, 1) := by decide +kernel
theorem dX5_addPartsOfText_67 : decode cX5_addPartsOfText 67 = .ok (.ifCond .eq 6, 3) := by decide +kernel
theorem dX5_addPartsOfText_70 : decode cX5_addPartsOfText 70 = .ok (.iinc 1 1, 3) := by decide +kernel
theorem dX5_addPartsOfText_73 : decode cX5_addPartsOfText 73 = .ok (.iload_n 2, 1) := by decide +kernel
theorem dX5_addPartsOfText_74 : decode cX5_addPartsOfText 74 = .ok (.aload_n 0, 1) := by decide +kernel
theorem dX5_addPartsOfText_75 : decode cX5_addPartsOfText 75 = .ok (.getfield 36, 3) := by decide +kernel
theorem dX5_addPartsOfText_78 : decode cX5_addPartsOfText 78 = .ok (.getfield 121, 3) := by decide +kernel
theorem dX5_addPartsOfText_81 : decode cX5_addPartsOfText 81 = .ok (.if_icmp .ge 20, 3) := by decide +kernel
theorem dX5_addPartsOfText_84 : decode cX5_addPartsOfText 84 = .ok (.aload_n 0, 1) := by decide +kernel
theorem dX5_addPartsOfText_85 : decode cX5_addPartsOfText 85 = .ok (.getfield 36, 3) := by decide +kernel
theorem dX5_addPartsOfText_88 : decode cX5_addPartsOfText 88 = .ok (.aload_n 0, 1) := by decide +kernel
theorem dX5_addPartsOfText_89 : decode cX5_addPartsOfText 89 = .ok (.getfield 36, 3) := by decide +kernel
theorem dX5_addPartsOfText_92 : decode cX5_addPartsOfText 92 = .ok (.getfield 126, 3) := by decide +kernel
theorem dX5_addPartsOfText_95 : decode cX5_addPartsOfText 95 = .ok (.iload_n 2, 1) := by decide +kernel
theorem dX5_addPartsOfText_96 : decode cX5_addPartsOfText 96 = .ok (.iaload, 1) := by decide +kernel
theorem dX5_addPartsOfText_97 : decode cX5_addPartsOfText 97 = .ok (.invokevirtual 259, 3) := by decide +kernel
theorem dX5_addPartsOfText_100 : decode cX5_addPartsOfText 100 = .ok (.pop, 1) := by decide +kernel
theorem dX5_addPartsOfText_101 : decode cX5_addPartsOfText 101 = .ok (.iinc 2 1, 3) := by decide +kernel
theorem dX5_addPartsOfText_104 : decode cX5_addPartsOfText 104 = .ok (.goto (-93), 3) := by decide +kernel
theorem dX5_addPartsOfText_107 : decode cX5_addPartsOfText 107 = .ok (.iload_n 1, 1) := by decide +kernel
theorem dX5_addPartsOfText_108 : decode cX5_addPartsOfText 108 = .ok (.ireturn, 1) := by decide +kernel
set_option maxRecDepth 20000 in
theorem ggX5_addPartOfText_X2_newFeeder : GoodIn wsX5_addPartOfText wsX2_newFeeder := goodIn_r _ [11, 12, 13, 14, 15, 16, 17, 18, 19, 20, 21, 43, 44, 45, 46, 47, 48, 49, 50, 51, 52, 53, 54, 55, 56] (by decide +kernel) (by decide +kernel)
set_option maxRecDepth 20000 in
theorem gX5_addPartOfText_X2_newFeeder : GoodIn wsX5_addPartOfText (wsV RX5 59 RX2 yX2_newFeeder wsX2_newFeeder) := goodIn_app (goodIn_of _ (by decide +kernel)) ggX5_addPartOfText_X2_newFeeder
set_option maxRecDepth 20000 in
theorem ggX5_addPartOfText_X2_newPlace : GoodIn wsX5_addPartOfText wsX2_newPlace := goodIn_r _ [25, 26, 27, 15, 16, 17, 18, 19, 20, 21, 28, 29, 30, 10, 31, 43, 44, 45, 46, 47, 48, 49, 50, 51, 52, 53, 54, 55, 56] (by decide +kernel) (by decide +kernel)
set_option maxRecDepth 20000 in
theorem gX5_addPartOfText_X2_newPlace : GoodIn wsX5_addPartOfText (wsV RX5 68 RX2 yX2_newPlace wsX2_newPlace) := goodIn_app (goodIn_of _ (by decide +kernel)) ggX5_addPartOfText_X2_newPlace
theorem dX5_addPartOfText_0 : decode cX5_addPartOfText 0 = .ok (.aload_n 0, 1) := by decide +kernel
theorem dX5_addPartOfText_1 : decode cX5_addPartOfText 1 = .ok (.getfield 36, 3) := by decide +kernel
theorem dX5_addPartOfText_4 : decode cX5_addPartOfText 4 = .ok (.getfield 263, 3) := by decide +kernel
theorem dX5_addPartOfText_7 : decode cX5_addPartOfText 7 = .ok (.ifCond .eq 54, 3) := by decide +kernel
theorem dX5_addPartOfText_10 : decode cX5_addPartOfText 10 = .ok (.aload_n 0, 1) := by decide +kernel
theorem dX5_addPartOfText_11 : decode cX5_addPartOfText 11 = .ok (.getfield 10, 3) := by decide +kernel
theorem dX5_addPartOfText_14 : decode cX5_addPartOfText 14 = .ok (.getfield 44, 3) := by decide +kernel
theorem dX5_addPartOfText_17 : decode cX5_addPartOfText 17 = .ok (.bipush 8, 2) := by decide +kernel
theorem dX5_addPartOfText_19 : decode cX5_addPartOfText 19 = .ok (.if_icmp .ge 42, 3) := by decide +kernel
theorem dX5_addPartOfText_22 : decode cX5_addPartOfText 22 = .ok (.aload_n 0, 1) := by decide +kernel
theorem dX5_addPartOfText_23 : decode cX5_addPartOfText 23 = .ok (.getfield 10, 3) := by decide +kernel
theorem dX5_addPartOfText_26 : decode cX5_addPartOfText 26 = .ok (.aload_n 0, 1) := by decide +kernel
theorem dX5_addPartOfText_27 : decode cX5_addPartOfText 27 = .ok (.getfield 36, 3) := by decide +kernel
theorem dX5_addPartOfText_30 : decode cX5_addPartOfText 30 = .ok (.getfield 267, 3) := by decide +kernel
theorem dX5_addPartOfText_33 : decode cX5_addPartOfText 33 = .ok (.iconst 0, 1) := by decide +kernel
theorem dX5_addPartOfText_34 : decode cX5_addPartOfText 34 = .ok (.iaload, 1) := by decide +kernel
theorem dX5_addPartOfText_35 : decode cX5_addPartOfText 35 = .ok (.aload_n 0, 1) := by decide +kernel
theorem dX5_addPartOfText_36 : decode cX5_addPartOfText 36 = .ok (.getfield 36, 3) := by decide +kernel
theorem dX5_addPartOfText_39 : decode cX5_addPartOfText 39 = .ok (.getfield 267, 3) := by decide +kernel
theorem dX5_addPartOfText_42 : decode cX5_addPartOfText 42 = .ok (.iconst 1, 1) := by decide +kernel
theorem dX5_addPartOfText_43 : decode cX5_addPartOfText 43 = .ok (.iaload, 1) := by decide +kernel
theorem dX5_addPartOfText_44 : decode cX5_addPartOfText 44 = .ok (.aload_n 0, 1) := by decide +kernel
theorem dX5_addPartOfText_45 : decode cX5_addPartOfText 45 = .ok (.getfield 36, 3) := by decide +kernel
theorem dX5_addPartOfText_48 : decode cX5_addPartOfText 48 = .ok (.getfield 267, 3) := by decide +kernel
theorem dX5_addPartOfText_51 : decode cX5_addPartOfText 51 = .ok (.iconst 2, 1) := by decide +kernel
theorem dX5_addPartOfText_52 : decode cX5_addPartOfText 52 = .ok (.iaload, 1) := by decide +kernel
theorem dX5_addPartOfText_53 : decode cX5_addPartOfText 53 = .ok (.iconst 0, 1) := by decide +kernel
theorem dX5_addPartOfText_54 : decode cX5_addPartOfText 54 = .ok (.iconst 0, 1) := by decide +kernel
theorem dX5_addPartOfText_55 : decode cX5_addPartOfText 55 = .ok (.invokevirtual 59, 3) := by decide +kernel
theorem dX5_addPartOfText_58 : decode cX5_addPartOfText 58 = .ok (.pop, 1) := by decide +kernel
theorem dX5_addPartOfText_59 : decode cX5_addPartOfText 59 = .ok (.iconst 1, 1) := by decide +kernel
theorem dX5_addPartOfText_60 : decode cX5_addPartOfText 60 = .ok (.ireturn, 1) := by decide +kernel
theorem dX5_addPartOfText_61 : decode cX5_addPartOfText 61 = .ok (.aload_n 0, 1) := by decide +kernel
theorem dX5_addPartOfText_62 : decode cX5_addPartOfText 62 = .ok (.getfield 36, 3) := by decide +kernel
theorem dX5_addPartOfText_65 : decode cX5_addPartOfText 65 = .ok (.getfield 263, 3) := by decide +kernel
theorem dX5_addPartOfText_68 : decode cX5_addPartOfText 68 = .ok (.ifCond .ne 43, 3) := by decide +kernel
theorem dX5_addPartOfText_71 : decode cX5_addPartOfText 71 = .ok (.aload_n 0, 1) := by decide +kernel
theorem dX5_addPartOfText_72 : decode cX5_addPartOfText 72 = .ok (.getfield 10, 3) := by decide +kernel
theorem dX5_addPartOfText_75 : decode cX5_addPartOfText 75 = .ok (.getfield 63, 3) := by decide +kernel
theorem dX5_addPartOfText_78 : decode cX5_addPartOfText 78 = .ok (.bipush 24, 2) := by decide +kernel
theorem dX5_addPartOfText_80 : decode cX5_addPartOfText 80 = .ok (.if_icmp .ge 31, 3) := by decide +kernel
theorem dX5_addPartOfText_83 : decode cX5_addPartOfText 83 = .ok (.aload_n 0, 1) := by decide +kernel
theorem dX5_addPartOfText_84 : decode cX5_addPartOfText 84 = .ok (.getfield 10, 3) := by decide +kernel
theorem dX5_addPartOfText_87 : decode cX5_addPartOfText 87 = .ok (.aload_n 0, 1) := by decide +kernel
theorem dX5_addPartOfText_88 : decode cX5_addPartOfText 88 = .ok (.getfield 36, 3) := by decide +kernel
theorem dX5_addPartOfText_91 : decode cX5_addPartOfText 91 = .ok (.getfield 267, 3) := by decide +kernel
theorem dX5_addPartOfText_94 : decode cX5_addPartOfText 94 = .ok (.iconst 0, 1) := by decide +kernel
theorem dX5_addPartOfText_95 : decode cX5_addPartOfText 95 = .ok (.iaload, 1) := by decide +kernel
theorem dX5_addPartOfText_96 : decode cX5_addPartOfText 96 = .ok (.aload_n 0, 1) := by decide +kernel
theorem dX5_addPartOfText_97 : decode cX5_addPartOfText 97 = .ok (.getfield 36, 3) := by decide +kernel
theorem dX5_addPartOfText_100 : decode cX5_addPartOfText 100 = .ok (.getfield 267, 3) := by decide +kernel
theorem dX5_addPartOfText_103 : decode cX5_addPartOfText 103 = .ok (.iconst 1, 1) := by decide +kernel
theorem dX5_addPartOfText_104 : decode cX5_addPartOfText 104 = .ok (.iaload, 1) := by decide +kernel
theorem dX5_addPartOfText_105 : decode cX5_addPartOfText 105 = .ok (.invokevirtual 68, 3) := by decide +kernel
theorem dX5_addPartOfText_108 : decode cX5_addPartOfText 108 = .ok (.pop, 1) := by decide +kernel
theorem dX5_addPartOfText_109 : decode cX5_addPartOfText 109 = .ok (.iconst 1, 1) := by decide +kernel
theorem dX5_addPartOfText_110 : decode cX5_addPartOfText 110 = .ok (.ireturn, 1) := by decide +kernel
theorem dX5_addPartOfText_111 : decode cX5_addPartOfText 111 = .ok (.iconst 0, 1) := by decide +kernel
theorem dX5_addPartOfText_112 : decode cX5_addPartOfText 112 = .ok (.ireturn, 1) := by decide +kernel
theorem dX5_checkFeeder_0 : decode cX5_checkFeeder 0 = .ok (.iload_n 1, 1) := by decide +kernel
theorem dX5_checkFeeder_1 : decode cX5_checkFeeder 1 = .ok (.ifCond .lt 14, 3) := by decide +kernel
theorem dX5_checkFeeder_4 : decode cX5_checkFeeder 4 = .ok (.iload_n 1, 1) := by decide +kernel
theorem dX5_checkFeeder_5 : decode cX5_checkFeeder 5 = .ok (.aload_n 0, 1) := by decide +kernel
