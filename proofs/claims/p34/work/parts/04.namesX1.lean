set_option maxRecDepth 20000 in
theorem ggX1_init_X0_init : GoodIn wsX1_init wsX0_init := goodIn_r _ [10, 11, 2, 3, 12, 13, 14, 15, 16, 17, 18, 19, 20, 21, 22, 23, 24, 25, 26, 27, 28, 29, 30, 31, 32, 33, 34, 35, 36, 37, 38, 39, 40, 41] (by decide +kernel) (by decide +kernel)
set_option maxRecDepth 20000 in
theorem gX1_init_X0_init_n9 : GoodIn wsX1_init (wsX0_init) := ggX1_init_X0_init
theorem dX1_init_0 : decode cX1_init 0 = .ok (.aload_n 0, 1) := by decide +kernel
theorem dX1_init_1 : decode cX1_init 1 = .ok (.invokespecial 1, 3) := by decide +kernel
theorem dX1_init_4 : decode cX1_init 4 = .ok (.aload_n 0, 1) := by decide +kernel
theorem dX1_init_5 : decode cX1_init 5 = .ok (.new 7, 3) := by decide +kernel
theorem dX1_init_8 : decode cX1_init 8 = .ok (.dup, 1) := by decide +kernel
theorem dX1_init_9 : decode cX1_init 9 = .ok (.invokespecial 9, 3) := by decide +kernel
theorem dX1_init_12 : decode cX1_init 12 = .ok (.putfield 10, 3) := by decide +kernel
theorem dX1_init_15 : decode cX1_init 15 = .ok (.aload_n 0, 1) := by decide +kernel
theorem dX1_init_16 : decode cX1_init 16 = .ok (.new 7, 3) := by decide +kernel
theorem dX1_init_19 : decode cX1_init 19 = .ok (.dup, 1) := by decide +kernel
theorem dX1_init_20 : decode cX1_init 20 = .ok (.invokespecial 9, 3) := by decide +kernel
theorem dX1_init_23 : decode cX1_init 23 = .ok (.putfield 16, 3) := by decide +kernel
theorem dX1_init_26 : decode cX1_init 26 = .ok (.return_, 1) := by decide +kernel
set_option maxRecDepth 20000 in
theorem ggX1_addGate_X1_checkNumber : GoodIn wsX1_addGate wsX1_checkNumber := goodIn_ca (goodIn_r _ [10, 1, 2] (by decide +kernel) (by decide +kernel)) (goodIn_sub (fun _ h => List.mem_cons_of_mem _ (List.mem_append_left _ (List.mem_append_right _ h))) (by decide +kernel))
set_option maxRecDepth 20000 in
theorem gX1_addGate_X1_checkNumber : GoodIn wsX1_addGate (va_wsS RX1 19 yX1_checkNumber wsX1_checkNumber) := goodIn_app (goodIn_of _ (by decide +kernel)) ggX1_addGate_X1_checkNumber
set_option maxRecDepth 20000 in
theorem ggX1_addGate_X0_openGate : GoodIn wsX1_addGate wsX0_openGate := goodIn_r _ [15, 16, 17, 18, 21, 22, 23, 24, 25, 26, 27, 28, 29, 30, 31, 32, 33, 34, 35, 36, 37] (by decide +kernel) (by decide +kernel)
set_option maxRecDepth 20000 in
theorem gX1_addGate_X0_openGate : GoodIn wsX1_addGate (wsV RX1 39 RX0 yX0_openGate wsX0_openGate) := goodIn_app (goodIn_of _ (by decide +kernel)) ggX1_addGate_X0_openGate
theorem dX1_addGate_0 : decode cX1_addGate 0 = .ok (.iload_n 1, 1) := by decide +kernel
theorem dX1_addGate_1 : decode cX1_addGate 1 = .ok (.bipush 9, 2) := by decide +kernel
theorem dX1_addGate_3 : decode cX1_addGate 3 = .ok (.invokestatic 19, 3) := by decide +kernel
theorem dX1_addGate_6 : decode cX1_addGate 6 = .ok (.iload_n 2, 1) := by decide +kernel
theorem dX1_addGate_7 : decode cX1_addGate 7 = .ok (.ifCond .eq 18, 3) := by decide +kernel
theorem dX1_addGate_10 : decode cX1_addGate 10 = .ok (.iload_n 2, 1) := by decide +kernel
theorem dX1_addGate_11 : decode cX1_addGate 11 = .ok (.iconst 1, 1) := by decide +kernel
theorem dX1_addGate_12 : decode cX1_addGate 12 = .ok (.if_icmp .eq 13, 3) := by decide +kernel
theorem dX1_addGate_15 : decode cX1_addGate 15 = .ok (.new 23, 3) := by decide +kernel
theorem dX1_addGate_18 : decode cX1_addGate 18 = .ok (.dup, 1) := by decide +kernel
theorem dX1_addGate_19 : decode cX1_addGate 19 = .ok (.ldc 25, 2) := by decide +kernel
theorem dX1_addGate_21 : decode cX1_addGate 21 = .ok (.invokespecial 27, 3) := by decide +kernel
theorem dX1_addGate_24 : decode cX1_addGate 24 = .ok (.athrow, 1) := by decide +kernel
theorem dX1_addGate_25 : decode cX1_addGate 25 = .ok (.aload_n 0, 1) := by decide +kernel
theorem dX1_addGate_26 : decode cX1_addGate 26 = .ok (.getfield 10, 3) := by decide +kernel
theorem dX1_addGate_29 : decode cX1_addGate 29 = .ok (.getfield 30, 3) := by decide +kernel
theorem dX1_addGate_32 : decode cX1_addGate 32 = .ok (.iconst 4, 1) := by decide +kernel
theorem dX1_addGate_33 : decode cX1_addGate 33 = .ok (.if_icmp .lt 13, 3) := by decide +kernel
theorem dX1_addGate_36 : decode cX1_addGate 36 = .ok (.new 34, 3) := by decide +kernel
theorem dX1_addGate_39 : decode cX1_addGate 39 = .ok (.dup, 1) := by decide +kernel
theorem dX1_addGate_40 : decode cX1_addGate 40 = .ok (.ldc 36, 2) := by decide +kernel
theorem dX1_addGate_42 : decode cX1_addGate 42 = .ok (.invokespecial 38, 3) := by decide +kernel
theorem dX1_addGate_45 : decode cX1_addGate 45 = .ok (.athrow, 1) := by decide +kernel
theorem dX1_addGate_46 : decode cX1_addGate 46 = .ok (.aload_n 0, 1) := by decide +kernel
theorem dX1_addGate_47 : decode cX1_addGate 47 = .ok (.getfield 10, 3) := by decide +kernel
theorem dX1_addGate_50 : decode cX1_addGate 50 = .ok (.iload_n 1, 1) := by decide +kernel
theorem dX1_addGate_51 : decode cX1_addGate 51 = .ok (.iload_n 2, 1) := by decide +kernel
theorem dX1_addGate_52 : decode cX1_addGate 52 = .ok (.invokevirtual 39, 3) := by decide +kernel
theorem dX1_addGate_55 : decode cX1_addGate 55 = .ok (.ireturn, 1) := by decide +kernel
set_option maxRecDepth 20000 in
theorem ggX1_addGoat_X1_checkNumber : GoodIn wsX1_addGoat wsX1_checkNumber := goodIn_ca (goodIn_r _ [8, 9, 10] (by decide +kernel) (by decide +kernel)) (goodIn_sub (fun _ h => List.mem_cons_of_mem _ (List.mem_append_right _ h)) (by decide +kernel))
set_option maxRecDepth 20000 in
theorem gX1_addGoat_X1_checkNumber : GoodIn wsX1_addGoat (va_wsS RX1 19 yX1_checkNumber wsX1_checkNumber) := goodIn_app (goodIn_of _ (by decide +kernel)) ggX1_addGoat_X1_checkNumber
set_option maxRecDepth 20000 in
theorem ggX1_addGoat_X0_bringGoat : GoodIn wsX1_addGoat wsX0_bringGoat := goodIn_r _ [15, 16, 17, 18, 19, 20, 14, 21, 22, 23, 24, 25, 28, 29, 30, 31, 32, 33, 34, 35, 36, 37, 38, 39, 40, 41, 42, 43, 44] (by decide +kernel) (by decide +kernel)
set_option maxRecDepth 20000 in
theorem gX1_addGoat_X0_bringGoat : GoodIn wsX1_addGoat (wsV RX1 48 RX0 yX0_bringGoat wsX0_bringGoat) := goodIn_app (goodIn_of _ (by decide +kernel)) ggX1_addGoat_X0_bringGoat
theorem dX1_addGoat_0 : decode cX1_addGoat 0 = .ok (.iload_n 1, 1) := by decide +kernel
theorem dX1_addGoat_1 : decode cX1_addGoat 1 = .ok (.bipush 9, 2) := by decide +kernel
theorem dX1_addGoat_3 : decode cX1_addGoat 3 = .ok (.invokestatic 19, 3) := by decide +kernel
theorem dX1_addGoat_6 : decode cX1_addGoat 6 = .ok (.aload_n 0, 1) := by decide +kernel
theorem dX1_addGoat_7 : decode cX1_addGoat 7 = .ok (.getfield 10, 3) := by decide +kernel
theorem dX1_addGoat_10 : decode cX1_addGoat 10 = .ok (.getfield 43, 3) := by decide +kernel
theorem dX1_addGoat_13 : decode cX1_addGoat 13 = .ok (.bipush 12, 2) := by decide +kernel
theorem dX1_addGoat_15 : decode cX1_addGoat 15 = .ok (.if_icmp .lt 13, 3) := by decide +kernel
theorem dX1_addGoat_18 : decode cX1_addGoat 18 = .ok (.new 34, 3) := by decide +kernel
theorem dX1_addGoat_21 : decode cX1_addGoat 21 = .ok (.dup, 1) := by decide +kernel
theorem dX1_addGoat_22 : decode cX1_addGoat 22 = .ok (.ldc 46, 2) := by decide +kernel
theorem dX1_addGoat_24 : decode cX1_addGoat 24 = .ok (.invokespecial 38, 3) := by decide +kernel
theorem dX1_addGoat_27 : decode cX1_addGoat 27 = .ok (.athrow, 1) := by decide +kernel
theorem dX1_addGoat_28 : decode cX1_addGoat 28 = .ok (.aload_n 0, 1) := by decide +kernel
theorem dX1_addGoat_29 : decode cX1_addGoat 29 = .ok (.getfield 10, 3) := by decide +kernel
theorem dX1_addGoat_32 : decode cX1_addGoat 32 = .ok (.iload_n 1, 1) := by decide +kernel
theorem dX1_addGoat_33 : decode cX1_addGoat 33 = .ok (.invokevirtual 48, 3) := by decide +kernel
theorem dX1_addGoat_36 : decode cX1_addGoat 36 = .ok (.ireturn, 1) := by decide +kernel
set_option maxRecDepth 20000 in
theorem ggX1_ask_X1_checkGoat : GoodIn wsX1_ask wsX1_checkGoat := goodIn_ca (goodIn_r _ [7, 8, 9, 1, 10, 49, 50, 51, 52, 53, 54, 55, 56, 57, 58, 59, 60, 61, 62, 63, 64, 65, 66, 67] (by decide +kernel) (by decide +kernel)) (goodIn_sub (fun _ h => List.mem_cons_of_mem _ (List.mem_append_left _ (List.mem_append_left _ (List.mem_append_right _ h)))) (by decide +kernel))
set_option maxRecDepth 20000 in
theorem gX1_ask_X1_checkGoat : GoodIn wsX1_ask (wsV RX1 52 RX1 yX1_checkGoat wsX1_checkGoat) := goodIn_app (goodIn_of _ (by decide +kernel)) ggX1_ask_X1_checkGoat
set_option maxRecDepth 20000 in
theorem ggX1_ask_X1_checkGate : GoodIn wsX1_ask wsX1_checkGate := goodIn_ca (goodIn_r _ [14, 8, 9, 1, 15, 49, 50, 51, 52, 53, 54, 55, 56, 57, 58, 59, 60, 61, 62, 63, 64, 65, 66, 67] (by decide +kernel) (by decide +kernel)) (goodIn_sub (fun _ h => List.mem_cons_of_mem _ (List.mem_append_left _ (List.mem_append_left _ (List.mem_append_right _ h)))) (by decide +kernel))
set_option maxRecDepth 20000 in
theorem gX1_ask_X1_checkGate : GoodIn wsX1_ask (wsV RX1 56 RX1 yX1_checkGate wsX1_checkGate) := goodIn_app (goodIn_of _ (by decide +kernel)) ggX1_ask_X1_checkGate
set_option maxRecDepth 20000 in
theorem ggX1_ask_X1_checkNumber : GoodIn wsX1_ask wsX1_checkNumber := goodIn_ca (goodIn_r _ [18, 19, 20] (by decide +kernel) (by decide +kernel)) (goodIn_sub (fun _ h => List.mem_cons_of_mem _ (List.mem_append_left _ (List.mem_append_right _ h))) (by decide +kernel))
set_option maxRecDepth 20000 in
theorem gX1_ask_X1_checkNumber : GoodIn wsX1_ask (va_wsS RX1 19 yX1_checkNumber wsX1_checkNumber) := goodIn_app (goodIn_of _ (by decide +kernel)) ggX1_ask_X1_checkNumber
set_option maxRecDepth 20000 in
theorem ggX1_ask_X1_checkIdle : GoodIn wsX1_ask wsX1_checkIdle := goodIn_ca (goodIn_r _ [24, 25, 26, 1, 27, 49, 50, 51, 52, 53, 54, 55, 56, 57, 58, 59, 60, 61, 62, 63, 64, 65, 66, 67] (by decide +kernel) (by decide +kernel)) (goodIn_sub (fun _ h => List.mem_cons_of_mem _ (List.mem_append_right _ h)) (by decide +kernel))
set_option maxRecDepth 20000 in
theorem gX1_ask_X1_checkIdle : GoodIn wsX1_ask (wsV RX1 63 RX1 yX1_checkIdle wsX1_checkIdle) := goodIn_app (goodIn_of _ (by decide +kernel)) ggX1_ask_X1_checkIdle
set_option maxRecDepth 20000 in
theorem ggX1_ask_X0_lineUp : GoodIn wsX1_ask wsX0_lineUp := goodIn_r _ [32, 33, 34, 35, 36, 37, 38, 39, 51, 52, 53, 54, 55, 56, 57, 58, 59, 60, 61, 62, 63, 64, 65, 66, 67] (by decide +kernel) (by decide +kernel)
set_option maxRecDepth 20000 in
theorem gX1_ask_X0_lineUp : GoodIn wsX1_ask (wsV RX1 66 RX0 yX0_lineUp wsX0_lineUp) := goodIn_app (goodIn_of _ (by decide +kernel)) ggX1_ask_X0_lineUp
set_option maxRecDepth 20000 in
theorem ggX1_ask_X0_countWaitingAt : GoodIn wsX1_ask wsX0_countWaitingAt := goodIn_r _ [43, 44, 45, 46, 47, 31, 48, 33, 34, 51, 52, 53, 54, 55, 56, 57, 58, 59, 60, 61, 62, 63, 64, 65, 66, 67] (by decide +kernel) (by decide +kernel)
set_option maxRecDepth 20000 in
theorem gX1_ask_X0_countWaitingAt : GoodIn wsX1_ask (wsV RX1 70 RX0 yX0_countWaitingAt wsX0_countWaitingAt) := goodIn_app (goodIn_of _ (by decide +kernel)) ggX1_ask_X0_countWaitingAt
theorem dX1_ask_0 : decode cX1_ask 0 = .ok (.aload_n 0, 1) := by decide +kernel
theorem dX1_ask_1 : decode cX1_ask 1 = .ok (.iload_n 1, 1) := by decide +kernel
theorem dX1_ask_2 : decode cX1_ask 2 = .ok (.invokevirtual 52, 3) := by decide +kernel
theorem dX1_ask_5 : decode cX1_ask 5 = .ok (.aload_n 0, 1) := by decide +kernel
theorem dX1_ask_6 : decode cX1_ask 6 = .ok (.iload_n 2, 1) := by decide +kernel
theorem dX1_ask_7 : decode cX1_ask 7 = .ok (.invokevirtual 56, 3) := by decide +kernel
theorem dX1_ask_10 : decode cX1_ask 10 = .ok (.iload_n 3, 1) := by decide +kernel
theorem dX1_ask_11 : decode cX1_ask 11 = .ok (.aload_n 0, 1) := by decide +kernel
theorem dX1_ask_12 : decode cX1_ask 12 = .ok (.getfield 10, 3) := by decide +kernel
theorem dX1_ask_15 : decode cX1_ask 15 = .ok (.getfield 59, 3) := by decide +kernel
theorem dX1_ask_18 : decode cX1_ask 18 = .ok (.iload_n 2, 1) := by decide +kernel
theorem dX1_ask_19 : decode cX1_ask 19 = .ok (.iaload, 1) := by decide +kernel
theorem dX1_ask_20 : decode cX1_ask 20 = .ok (.invokestatic 19, 3) := by decide +kernel
theorem dX1_ask_23 : decode cX1_ask 23 = .ok (.iload 4, 2) := by decide +kernel
theorem dX1_ask_25 : decode cX1_ask 25 = .ok (.bipush 30, 2) := by decide +kernel
theorem dX1_ask_27 : decode cX1_ask 27 = .ok (.invokestatic 19, 3) := by decide +kernel
theorem dX1_ask_30 : decode cX1_ask 30 = .ok (.iload 5, 2) := by decide +kernel
theorem dX1_ask_32 : decode cX1_ask 32 = .ok (.bipush 60, 2) := by decide +kernel
theorem dX1_ask_34 : decode cX1_ask 34 = .ok (.invokestatic 19, 3) := by decide +kernel
theorem dX1_ask_37 : decode cX1_ask 37 = .ok (.aload_n 0, 1) := by decide +kernel
theorem dX1_ask_38 : decode cX1_ask 38 = .ok (.iload_n 1, 1) := by decide +kernel
theorem dX1_ask_39 : decode cX1_ask 39 = .ok (.invokevirtual 63, 3) := by decide +kernel
theorem dX1_ask_42 : decode cX1_ask 42 = .ok (.aload_n 0, 1) := by decide +kernel
theorem dX1_ask_43 : decode cX1_ask 43 = .ok (.getfield 10, 3) := by decide +kernel
theorem dX1_ask_46 : decode cX1_ask 46 = .ok (.iload_n 1, 1) := by decide +kernel
theorem dX1_ask_47 : decode cX1_ask 47 = .ok (.iload_n 2, 1) := by decide +kernel
theorem dX1_ask_48 : decode cX1_ask 48 = .ok (.iload_n 3, 1) := by decide +kernel
theorem dX1_ask_49 : decode cX1_ask 49 = .ok (.iload 4, 2) := by decide +kernel
theorem dX1_ask_51 : decode cX1_ask 51 = .ok (.iload 5, 2) := by decide +kernel
theorem dX1_ask_53 : decode cX1_ask 53 = .ok (.invokevirtual 66, 3) := by decide +kernel
theorem dX1_ask_56 : decode cX1_ask 56 = .ok (.aload_n 0, 1) := by decide +kernel
theorem dX1_ask_57 : decode cX1_ask 57 = .ok (.getfield 10, 3) := by decide +kernel
theorem dX1_ask_60 : decode cX1_ask 60 = .ok (.iload_n 2, 1) := by decide +kernel
theorem dX1_ask_61 : decode cX1_ask 61 = .ok (.invokevirtual 70, 3) := by decide +kernel
theorem dX1_ask_64 : decode cX1_ask 64 = .ok (.ireturn, 1) := by decide +kernel
set_option maxRecDepth 20000 in
theorem ggX1_barge_X1_checkGoat : GoodIn wsX1_barge wsX1_checkGoat := goodIn_ca (goodIn_r _ [9, 10, 11, 3, 12, 44, 45, 46, 47, 48, 49, 50, 51, 52, 53, 54, 55, 56, 57, 58, 59, 60, 61, 62] (by decide +kernel) (by decide +kernel)) (goodIn_sub (fun _ h => List.mem_cons_of_mem _ (List.mem_append_left _ (List.mem_append_right _ h))) (by decide +kernel))
set_option maxRecDepth 20000 in
theorem gX1_barge_X1_checkGoat : GoodIn wsX1_barge (wsV RX1 52 RX1 yX1_checkGoat wsX1_checkGoat) := goodIn_app (goodIn_of _ (by decide +kernel)) ggX1_barge_X1_checkGoat
set_option maxRecDepth 20000 in
theorem ggX1_barge_X1_checkGate : GoodIn wsX1_barge wsX1_checkGate := goodIn_ca (goodIn_r _ [16, 10, 11, 3, 17, 44, 45, 46, 47, 48, 49, 50, 51, 52, 53, 54, 55, 56, 57, 58, 59, 60, 61, 62] (by decide +kernel) (by decide +kernel)) (goodIn_sub (fun _ h => List.mem_cons_of_mem _ (List.mem_append_left _ (List.mem_append_right _ h))) (by decide +kernel))
set_option maxRecDepth 20000 in
theorem gX1_barge_X1_checkGate : GoodIn wsX1_barge (wsV RX1 56 RX1 yX1_checkGate wsX1_checkGate) := goodIn_app (goodIn_of _ (by decide +kernel)) ggX1_barge_X1_checkGate
set_option maxRecDepth 20000 in
theorem ggX1_barge_X1_checkNumber : GoodIn wsX1_barge wsX1_checkNumber := goodIn_ca (goodIn_r _ [20, 21, 22] (by decide +kernel) (by decide +kernel)) (goodIn_sub (fun _ h => List.mem_cons_of_mem _ (List.mem_append_right _ h)) (by decide +kernel))
set_option maxRecDepth 20000 in
theorem gX1_barge_X1_checkNumber : GoodIn wsX1_barge (va_wsS RX1 19 yX1_checkNumber wsX1_checkNumber) := goodIn_app (goodIn_of _ (by decide +kernel)) ggX1_barge_X1_checkNumber
set_option maxRecDepth 20000 in
theorem ggX1_barge_X1_checkIdle : GoodIn wsX1_barge wsX1_checkIdle := goodIn_ca (goodIn_r _ [26, 1, 2, 3, 27, 44, 45, 46, 47, 48, 49, 50, 51, 52, 53, 54, 55, 56, 57, 58, 59, 60, 61, 62] (by decide +kernel) (by decide +kernel)) (goodIn_sub (fun _ h => List.mem_cons_of_mem _ (List.mem_append_left _ (List.mem_append_left _ (List.mem_append_right _ h)))) (by decide +kernel))
set_option maxRecDepth 20000 in
theorem gX1_barge_X1_checkIdle : GoodIn wsX1_barge (wsV RX1 63 RX1 yX1_checkIdle wsX1_checkIdle) := goodIn_app (goodIn_of _ (by decide +kernel)) ggX1_barge_X1_checkIdle
set_option maxRecDepth 20000 in
theorem ggX1_barge_X0_freePermits : GoodIn wsX1_barge wsX0_freePermits := goodIn_r _ [32, 33, 34, 35, 36, 37, 46, 47, 48, 49, 50, 51, 52, 53, 54, 55, 56, 57, 58, 59, 60, 61, 62] (by decide +kernel) (by decide +kernel)
set_option maxRecDepth 20000 in
theorem gX1_barge_X0_freePermits : GoodIn wsX1_barge (wsV RX1 73 RX0 yX0_freePermits wsX0_freePermits) := goodIn_app (goodIn_of _ (by decide +kernel)) ggX1_barge_X0_freePermits
set_option maxRecDepth 20000 in
theorem ggX1_barge_X0_enter : GoodIn wsX1_barge wsX0_enter := goodIn_r _ [41, 35, 36, 37, 42, 43, 46, 47, 48, 49, 50, 51, 52, 53, 54, 55, 56, 57, 58, 59, 60, 61, 62] (by decide +kernel) (by decide +kernel)
set_option maxRecDepth 20000 in
theorem gX1_barge_X0_enter : GoodIn wsX1_barge (wsV RX1 78 RX0 yX0_enter wsX0_enter) := goodIn_app (goodIn_of _ (by decide +kernel)) ggX1_barge_X0_enter
theorem dX1_barge_0 : decode cX1_barge 0 = .ok (.aload_n 0, 1) := by decide +kernel
theorem dX1_barge_1 : decode cX1_barge 1 = .ok (.iload_n 1, 1) := by decide +kernel
theorem dX1_barge_2 : decode cX1_barge 2 = .ok (.invokevirtual 52, 3) := by decide +kernel
theorem dX1_barge_5 : decode cX1_barge 5 = .ok (.aload_n 0, 1) := by decide +kernel
theorem dX1_barge_6 : decode cX1_barge 6 = .ok (.iload_n 2, 1) := by decide +kernel
theorem dX1_barge_7 : decode cX1_barge 7 = .ok (.invokevirtual 56, 3) := by decide +kernel
theorem dX1_barge_10 : decode cX1_barge 10 = .ok (.iload_n 3, 1) := by decide +kernel
theorem dX1_barge_11 : decode cX1_barge 11 = .ok (.aload_n 0, 1) := by decide +kernel
theorem dX1_barge_12 : decode cX1_barge 12 = .ok (.getfield 10, 3) := by decide +kernel
theorem dX1_barge_15 : decode cX1_barge 15 = .ok (.getfield 59, 3) := by decide +kernel
theorem dX1_barge_18 : decode cX1_barge 18 = .ok (.iload_n 2, 1) := by decide +kernel
theorem dX1_barge_19 : decode cX1_barge 19 = .ok (.iaload, 1) := by decide +kernel
theorem dX1_barge_20 : decode cX1_barge 20 = .ok (.invokestatic 19, 3) := by decide +kernel
theorem dX1_barge_23 : decode cX1_barge 23 = .ok (.iload 4, 2) := by decide +kernel
theorem dX1_barge_25 : decode cX1_barge 25 = .ok (.bipush 30, 2) := by decide +kernel
theorem dX1_barge_27 : decode cX1_barge 27 = .ok (.invokestatic 19, 3) := by decide +kernel
theorem dX1_barge_30 : decode cX1_barge 30 = .ok (.aload_n 0, 1) := by decide +kernel
theorem dX1_barge_31 : decode cX1_barge 31 = .ok (.iload_n 1, 1) := by decide +kernel
theorem dX1_barge_32 : decode cX1_barge 32 = .ok (.invokevirtual 63, 3) := by decide +kernel
theorem dX1_barge_35 : decode cX1_barge 35 = .ok (.aload_n 0, 1) := by decide +kernel
theorem dX1_barge_36 : decode cX1_barge 36 = .ok (.getfield 10, 3) := by decide +kernel
theorem dX1_barge_39 : decode cX1_barge 39 = .ok (.iload_n 2, 1) := by decide +kernel
theorem dX1_barge_40 : decode cX1_barge 40 = .ok (.invokevirtual 73, 3) := by decide +kernel
theorem dX1_barge_43 : decode cX1_barge 43 = .ok (.iload_n 3, 1) := by decide +kernel
theorem dX1_barge_44 : decode cX1_barge 44 = .ok (.if_icmp .ge 13, 3) := by decide +kernel
theorem dX1_barge_47 : decode cX1_barge 47 = .ok (.new 34, 3) := by decide +kernel
theorem dX1_barge_50 : decode cX1_barge 50 = .ok (.dup, 1) := by decide +kernel
theorem dX1_barge_51 : decode cX1_barge 51 = .ok (.ldc 76, 2) := by decide +kernel
theorem dX1_barge_53 : decode cX1_barge 53 = .ok (.invokespecial 38, 3) := by decide +kernel
theorem dX1_barge_56 : decode cX1_barge 56 = .ok (.athrow, 1) := by decide +kernel
theorem dX1_barge_57 : decode cX1_barge 57 = .ok (.aload_n 0, 1) := by decide +kernel
theorem dX1_barge_58 : decode cX1_barge 58 = .ok (.getfield 10, 3) := by decide +kernel
theorem dX1_barge_61 : decode cX1_barge 61 = .ok (.iload_n 1, 1) := by decide +kernel
theorem dX1_barge_62 : decode cX1_barge 62 = .ok (.iload_n 2, 1) := by decide +kernel
theorem dX1_barge_63 : decode cX1_barge 63 = .ok (.iload_n 3, 1) := by decide +kernel
theorem dX1_barge_64 : decode cX1_barge 64 = .ok (.iload 4, 2) := by decide +kernel
theorem dX1_barge_66 : decode cX1_barge 66 = .ok (.invokevirtual 78, 3) := by decide +kernel
theorem dX1_barge_69 : decode cX1_barge 69 = .ok (.aload_n 0, 1) := by decide +kernel
theorem dX1_barge_70 : decode cX1_barge 70 = .ok (.getfield 10, 3) := by decide +kernel
theorem dX1_barge_73 : decode cX1_barge 73 = .ok (.iload_n 2, 1) := by decide +kernel
theorem dX1_barge_74 : decode cX1_barge 74 = .ok (.invokevirtual 73, 3) := by decide +kernel
theorem dX1_barge_77 : decode cX1_barge 77 = .ok (.ireturn, 1) := by decide +kernel
set_option maxRecDepth 20000 in
theorem ggX1_callBack_X1_checkGoat : GoodIn wsX1_callBack wsX1_checkGoat := goodIn_ca (goodIn_r _ [9, 10, 11, 3, 12, 27, 28, 29, 30, 31, 32, 33, 34, 35, 36, 37, 38, 39, 40, 41, 42, 43, 44, 45] (by decide +kernel) (by decide +kernel)) (goodIn_sub (fun _ h => List.mem_cons_of_mem _ (List.mem_append_right _ h)) (by decide +kernel))
set_option maxRecDepth 20000 in
theorem gX1_callBack_X1_checkGoat : GoodIn wsX1_callBack (wsV RX1 52 RX1 yX1_checkGoat wsX1_checkGoat) := goodIn_app (goodIn_of _ (by decide +kernel)) ggX1_callBack_X1_checkGoat
set_option maxRecDepth 20000 in
theorem ggX1_callBack_X0_held : GoodIn wsX1_callBack wsX0_held := goodIn_r _ [17, 18, 19, 29, 30, 31, 32, 33, 34, 35, 36, 37, 38, 39, 40, 41, 42, 43, 44, 45] (by decide +kernel) (by decide +kernel)
set_option maxRecDepth 20000 in
theorem gX1_callBack_X0_held : GoodIn wsX1_callBack (wsV RX1 87 RX0 yX0_held wsX0_held) := goodIn_app (goodIn_of _ (by decide +kernel)) ggX1_callBack_X0_held
set_option maxRecDepth 20000 in
theorem ggX1_callBack_X0_rest : GoodIn wsX1_callBack wsX0_rest := goodIn_r _ [23, 18, 24, 25, 26, 29, 30, 31, 32, 33, 34, 35, 36, 37, 38, 39, 40, 41, 42, 43, 44, 45] (by decide +kernel) (by decide +kernel)
set_option maxRecDepth 20000 in
theorem gX1_callBack_X0_rest : GoodIn wsX1_callBack (wsV RX1 90 RX0 yX0_rest wsX0_rest) := goodIn_app (goodIn_of _ (by decide +kernel)) ggX1_callBack_X0_rest
theorem dX1_callBack_0 : decode cX1_callBack 0 = .ok (.aload_n 0, 1) := by decide +kernel
theorem dX1_callBack_1 : decode cX1_callBack 1 = .ok (.iload_n 1, 1) := by decide +kernel
theorem dX1_callBack_2 : decode cX1_callBack 2 = .ok (.invokevirtual 52, 3) := by decide +kernel
theorem dX1_callBack_5 : decode cX1_callBack 5 = .ok (.aload_n 0, 1) := by decide +kernel
theorem dX1_callBack_6 : decode cX1_callBack 6 = .ok (.getfield 10, 3) := by decide +kernel
theorem dX1_callBack_9 : decode cX1_callBack 9 = .ok (.getfield 82, 3) := by decide +kernel
theorem dX1_callBack_12 : decode cX1_callBack 12 = .ok (.iload_n 1, 1) := by decide +kernel
theorem dX1_callBack_13 : decode cX1_callBack 13 = .ok (.iaload, 1) := by decide +kernel
theorem dX1_callBack_14 : decode cX1_callBack 14 = .ok (.ifCond .ne 13, 3) := by decide +kernel
theorem dX1_callBack_17 : decode cX1_callBack 17 = .ok (.new 34, 3) := by decide +kernel
theorem dX1_callBack_20 : decode cX1_callBack 20 = .ok (.dup, 1) := by decide +kernel
theorem dX1_callBack_21 : decode cX1_callBack 21 = .ok (.ldc 85, 2) := by decide +kernel
theorem dX1_callBack_23 : decode cX1_callBack 23 = .ok (.invokespecial 38, 3) := by decide +kernel
theorem dX1_callBack_26 : decode cX1_callBack 26 = .ok (.athrow, 1) := by decide +kernel
theorem dX1_callBack_27 : decode cX1_callBack 27 = .ok (.aload_n 0, 1) := by decide +kernel
theorem dX1_callBack_28 : decode cX1_callBack 28 = .ok (.getfield 10, 3) := by decide +kernel
theorem dX1_callBack_31 : decode cX1_callBack 31 = .ok (.iload_n 1, 1) := by decide +kernel
theorem dX1_callBack_32 : decode cX1_callBack 32 = .ok (.invokevirtual 87, 3) := by decide +kernel
theorem dX1_callBack_35 : decode cX1_callBack 35 = .ok (.istore_n 2, 1) := by decide +kernel
theorem dX1_callBack_36 : decode cX1_callBack 36 = .ok (.aload_n 0, 1) := by decide +kernel
theorem dX1_callBack_37 : decode cX1_callBack 37 = .ok (.getfield 10, 3) := by decide +kernel
theorem dX1_callBack_40 : decode cX1_callBack 40 = .ok (.iload_n 1, 1) := by decide +kernel
theorem dX1_callBack_41 : decode cX1_callBack 41 = .ok (.invokevirtual 90, 3) := by decide +kernel
theorem dX1_callBack_44 : decode cX1_callBack 44 = .ok (.iload_n 2, 1) := by decide +kernel
theorem dX1_callBack_45 : decode cX1_callBack 45 = .ok (.ireturn, 1) := by decide +kernel
set_option maxRecDepth 20000 in
theorem ggX1_pass_X1_checkNumber : GoodIn wsX1_pass wsX1_checkNumber := goodIn_ca (goodIn_r _ [6, 7, 8] (by decide +kernel) (by decide +kernel)) (goodIn_sub (fun _ h => List.mem_cons_of_mem _ (List.mem_append_right _ h)) (by decide +kernel))
set_option maxRecDepth 20000 in
theorem gX1_pass_X1_checkNumber : GoodIn wsX1_pass (va_wsS RX1 19 yX1_checkNumber wsX1_checkNumber) := goodIn_app (goodIn_of _ (by decide +kernel)) ggX1_pass_X1_checkNumber
set_option maxRecDepth 20000 in
theorem ggX1_pass_X0_liveAMinute : GoodIn wsX1_pass wsX0_liveAMinute := goodIn_r _ [13, 14, 15, 16, 17, 18, 12, 19, 20, 21, 22, 23, 24, 25, 26, 27, 28, 29, 30, 31, 32, 33, 34, 35, 36, 37, 38, 39, 40, 41, 42, 43, 44, 45, 46, 47, 48, 49, 50, 51, 52, 53, 54, 55, 56, 57, 58, 59, 60, 61, 62, 63, 64, 65, 68, 69, 70, 71, 72, 73, 74, 75, 76, 77, 78, 79, 80, 81, 82, 83, 84] (by decide +kernel) (by decide +kernel)
set_option maxRecDepth 20000 in
theorem gX1_pass_X0_liveAMinute : GoodIn wsX1_pass (wsV RX1 96 RX0 yX0_liveAMinute wsX0_liveAMinute) := goodIn_app (goodIn_of _ (by decide +kernel)) ggX1_pass_X0_liveAMinute
theorem dX1_pass_0 : decode cX1_pass 0 = .ok (.iload_n 1, 1) := by decide +kernel
theorem dX1_pass_1 : decode cX1_pass 1 = .ok (.bipush 60, 2) := by decide +kernel
theorem dX1_pass_3 : decode cX1_pass 3 = .ok (.invokestatic 19, 3) := by decide +kernel
theorem dX1_pass_6 : decode cX1_pass 6 = .ok (.aload_n 0, 1) := by decide +kernel
theorem dX1_pass_7 : decode cX1_pass 7 = .ok (.getfield 10, 3) := by decide +kernel
theorem dX1_pass_10 : decode cX1_pass 10 = .ok (.getfield 93, 3) := by decide +kernel
theorem dX1_pass_13 : decode cX1_pass 13 = .ok (.istore_n 2, 1) := by decide +kernel
theorem dX1_pass_14 : decode cX1_pass 14 = .ok (.iconst 0, 1) := by decide +kernel
theorem dX1_pass_15 : decode cX1_pass 15 = .ok (.istore_n 3, 1) := by decide +kernel
theorem dX1_pass_16 : decode cX1_pass 16 = .ok (.iload_n 3, 1) := by decide +kernel
theorem dX1_pass_17 : decode cX1_pass 17 = .ok (.iload_n 1, 1) := by decide +kernel
theorem dX1_pass_18 : decode cX1_pass 18 = .ok (.if_icmp .ge 16, 3) := by decide +kernel
theorem dX1_pass_21 : decode cX1_pass 21 = .ok (.aload_n 0, 1) := by decide +kernel
theorem dX1_pass_22 : decode cX1_pass 22 = .ok (.getfield 10, 3) := by decide +kernel
theorem dX1_pass_25 : decode cX1_pass 25 = .ok (.invokevirtual 96, 3) := by decide +kernel
theorem dX1_pass_28 : decode cX1_pass 28 = .ok (.iinc 3 1, 3) := by decide +kernel
theorem dX1_pass_31 : decode cX1_pass 31 = .ok (.goto (-15), 3) := by decide +kernel
theorem dX1_pass_34 : decode cX1_pass 34 = .ok (.aload_n 0, 1) := by decide +kernel
theorem dX1_pass_35 : decode cX1_pass 35 = .ok (.getfield 10, 3) := by decide +kernel
theorem dX1_pass_38 : decode cX1_pass 38 = .ok (.getfield 93, 3) := by decide +kernel
theorem dX1_pass_41 : decode cX1_pass 41 = .ok (.iload_n 2, 1) := by decide +kernel
theorem dX1_pass_42 : decode cX1_pass 42 = .ok (.isub, 1) := by decide +kernel
theorem dX1_pass_43 : decode cX1_pass 43 = .ok (.ireturn, 1) := by decide +kernel
theorem dX1_minute_0 : decode cX1_minute 0 = .ok (.aload_n 0, 1) := by decide +kernel
theorem dX1_minute_1 : decode cX1_minute 1 = .ok (.getfield 10, 3) := by decide +kernel
theorem dX1_minute_4 : decode cX1_minute 4 = .ok (.getfield 99, 3) := by decide +kernel
theorem dX1_minute_7 : decode cX1_minute 7 = .ok (.ireturn, 1) := by decide +kernel
theorem dX1_gates_0 : decode cX1_gates 0 = .ok (.aload_n 0, 1) := by decide +kernel
theorem dX1_gates_1 : decode cX1_gates 1 = .ok (.getfield 10, 3) := by decide +kernel
theorem dX1_gates_4 : decode cX1_gates 4 = .ok (.getfield 30, 3) := by decide +kernel
theorem dX1_gates_7 : decode cX1_gates 7 = .ok (.ireturn, 1) := by decide +kernel
theorem dX1_goats_0 : decode cX1_goats 0 = .ok (.aload_n 0, 1) := by decide +kernel
theorem dX1_goats_1 : decode cX1_goats 1 = .ok (.getfield 10, 3) := by decide +kernel
theorem dX1_goats_4 : decode cX1_goats 4 = .ok (.getfield 43, 3) := by decide +kernel
theorem dX1_goats_7 : decode cX1_goats 7 = .ok (.ireturn, 1) := by decide +kernel
set_option maxRecDepth 20000 in
theorem ggX1_waiting_X0_countInState : GoodIn wsX1_waiting wsX0_countInState := goodIn_r _ [6, 7, 8, 11, 12, 13, 14, 15, 16, 17, 18, 19, 20, 21, 22, 23, 24, 25, 26, 27] (by decide +kernel) (by decide +kernel)
set_option maxRecDepth 20000 in
theorem gX1_waiting_X0_countInState : GoodIn wsX1_waiting (wsV RX1 102 RX0 yX0_countInState wsX0_countInState) := goodIn_app (goodIn_of _ (by decide +kernel)) ggX1_waiting_X0_countInState
theorem dX1_waiting_0 : decode cX1_waiting 0 = .ok (.aload_n 0, 1) := by decide +kernel
theorem dX1_waiting_1 : decode cX1_waiting 1 = .ok (.getfield 10, 3) := by decide +kernel
theorem dX1_waiting_4 : decode cX1_waiting 4 = .ok (.iconst 1, 1) := by decide +kernel
theorem dX1_waiting_5 : decode cX1_waiting 5 = .ok (.invokevirtual 102, 3) := by decide +kernel
theorem dX1_waiting_8 : decode cX1_waiting 8 = .ok (.ireturn, 1) := by decide +kernel
set_option maxRecDepth 20000 in
theorem ggX1_inside_X0_countInState : GoodIn wsX1_inside wsX0_countInState := goodIn_r _ [6, 7, 8, 11, 12, 13, 14, 15, 16, 17, 18, 19, 20, 21, 22, 23, 24, 25, 26, 27] (by decide +kernel) (by decide +kernel)
set_option maxRecDepth 20000 in
theorem gX1_inside_X0_countInState : GoodIn wsX1_inside (wsV RX1 102 RX0 yX0_countInState wsX0_countInState) := goodIn_app (goodIn_of _ (by decide +kernel)) ggX1_inside_X0_countInState
theorem dX1_inside_0 : decode cX1_inside 0 = .ok (.aload_n 0, 1) := by decide +kernel
theorem dX1_inside_1 : decode cX1_inside 1 = .ok (.getfield 10, 3) := by decide +kernel
theorem dX1_inside_4 : decode cX1_inside 4 = .ok (.iconst 2, 1) := by decide +kernel
theorem dX1_inside_5 : decode cX1_inside 5 = .ok (.invokevirtual 102, 3) := by decide +kernel
theorem dX1_inside_8 : decode cX1_inside 8 = .ok (.ireturn, 1) := by decide +kernel
set_option maxRecDepth 20000 in
theorem ggX1_starving_X0_countStarving : GoodIn wsX1_starving wsX0_countStarving := goodIn_r _ [6, 7, 8, 9, 12, 13, 14, 15, 16, 17, 18, 19, 20, 21, 22, 23, 24, 25, 26, 27, 28] (by decide +kernel) (by decide +kernel)
set_option maxRecDepth 20000 in
theorem gX1_starving_X0_countStarving : GoodIn wsX1_starving (wsV RX1 105 RX0 yX0_countStarving wsX0_countStarving) := goodIn_app (goodIn_of _ (by decide +kernel)) ggX1_starving_X0_countStarving
theorem dX1_starving_0 : decode cX1_starving 0 = .ok (.aload_n 0, 1) := by decide +kernel
theorem dX1_starving_1 : decode cX1_starving 1 = .ok (.getfield 10, 3) := by decide +kernel
theorem dX1_starving_4 : decode cX1_starving 4 = .ok (.invokevirtual 105, 3) := by decide +kernel
theorem dX1_starving_7 : decode cX1_starving 7 = .ok (.ireturn, 1) := by decide +kernel
theorem dX1_letIn_0 : decode cX1_letIn 0 = .ok (.aload_n 0, 1) := by decide +kernel
theorem dX1_letIn_1 : decode cX1_letIn 1 = .ok (.getfield 10, 3) := by decide +kernel
theorem dX1_letIn_4 : decode cX1_letIn 4 = .ok (.getfield 93, 3) := by decide +kernel
theorem dX1_letIn_7 : decode cX1_letIn 7 = .ok (.ireturn, 1) := by decide +kernel
set_option maxRecDepth 20000 in
theorem ggX1_givenUp_X0_givenUpInAll : GoodIn wsX1_givenUp wsX0_givenUpInAll := goodIn_r _ [6, 7, 8, 11, 12, 13, 14, 15, 16, 17, 18, 19, 20, 21, 22, 23, 24, 25, 26, 27] (by decide +kernel) (by decide +kernel)
set_option maxRecDepth 20000 in
theorem gX1_givenUp_X0_givenUpInAll : GoodIn wsX1_givenUp (wsV RX1 109 RX0 yX0_givenUpInAll wsX0_givenUpInAll) := goodIn_app (goodIn_of _ (by decide +kernel)) ggX1_givenUp_X0_givenUpInAll
theorem dX1_givenUp_0 : decode cX1_givenUp 0 = .ok (.aload_n 0, 1) := by decide +kernel
theorem dX1_givenUp_1 : decode cX1_givenUp 1 = .ok (.getfield 10, 3) := by decide +kernel
theorem dX1_givenUp_4 : decode cX1_givenUp 4 = .ok (.invokevirtual 109, 3) := by decide +kernel
theorem dX1_givenUp_7 : decode cX1_givenUp 7 = .ok (.ireturn, 1) := by decide +kernel
set_option maxRecDepth 20000 in
theorem ggX1_permitsOf_X1_checkGate : GoodIn wsX1_permitsOf wsX1_checkGate := goodIn_ca (goodIn_r _ [7, 8, 9, 1, 10, 11, 12, 13, 14, 15, 16, 17, 18, 19, 20, 21, 22, 23, 24, 25, 26, 27, 28, 29] (by decide +kernel) (by decide +kernel)) (goodIn_sub (fun _ h => List.mem_cons_of_mem _ (List.mem_append_right _ h)) (by decide +kernel))
set_option maxRecDepth 20000 in
theorem gX1_permitsOf_X1_checkGate : GoodIn wsX1_permitsOf (wsV RX1 56 RX1 yX1_checkGate wsX1_checkGate) := goodIn_app (goodIn_of _ (by decide +kernel)) ggX1_permitsOf_X1_checkGate
theorem dX1_permitsOf_0 : decode cX1_permitsOf 0 = .ok (.aload_n 0, 1) := by decide +kernel
theorem dX1_permitsOf_1 : decode cX1_permitsOf 1 = .ok (.iload_n 1, 1) := by decide +kernel
theorem dX1_permitsOf_2 : decode cX1_permitsOf 2 = .ok (.invokevirtual 56, 3) := by decide +kernel
theorem dX1_permitsOf_5 : decode cX1_permitsOf 5 = .ok (.aload_n 0, 1) := by decide +kernel
theorem dX1_permitsOf_6 : decode cX1_permitsOf 6 = .ok (.getfield 10, 3) := by decide +kernel
theorem dX1_permitsOf_9 : decode cX1_permitsOf 9 = .ok (.getfield 59, 3) := by decide +kernel
theorem dX1_permitsOf_12 : decode cX1_permitsOf 12 = .ok (.iload_n 1, 1) := by decide +kernel
theorem dX1_permitsOf_13 : decode cX1_permitsOf 13 = .ok (.iaload, 1) := by decide +kernel
theorem dX1_permitsOf_14 : decode cX1_permitsOf 14 = .ok (.ireturn, 1) := by decide +kernel
set_option maxRecDepth 20000 in
theorem ggX1_freeOf_X1_checkGate : GoodIn wsX1_freeOf wsX1_checkGate := goodIn_ca (goodIn_r _ [6, 7, 8, 1, 9, 20, 21, 22, 23, 24, 25, 26, 27, 28, 29, 30, 31, 32, 33, 34, 35, 36, 37, 38] (by decide +kernel) (by decide +kernel)) (goodIn_sub (fun _ h => List.mem_cons_of_mem _ (List.mem_append_right _ h)) (by decide +kernel))
set_option maxRecDepth 20000 in
theorem gX1_freeOf_X1_checkGate : GoodIn wsX1_freeOf (wsV RX1 56 RX1 yX1_checkGate wsX1_checkGate) := goodIn_app (goodIn_of _ (by decide +kernel)) ggX1_freeOf_X1_checkGate
set_option maxRecDepth 20000 in
theorem ggX1_freeOf_X0_freePermits : GoodIn wsX1_freeOf wsX0_freePermits := goodIn_r _ [14, 15, 16, 17, 18, 19, 22, 23, 24, 25, 26, 27, 28, 29, 30, 31, 32, 33, 34, 35, 36, 37, 38] (by decide +kernel) (by decide +kernel)
set_option maxRecDepth 20000 in
theorem gX1_freeOf_X0_freePermits : GoodIn wsX1_freeOf (wsV RX1 73 RX0 yX0_freePermits wsX0_freePermits) := goodIn_app (goodIn_of _ (by decide +kernel)) ggX1_freeOf_X0_freePermits
theorem dX1_freeOf_0 : decode cX1_freeOf 0 = .ok (.aload_n 0, 1) := by decide +kernel
theorem dX1_freeOf_1 : decode cX1_freeOf 1 = .ok (.iload_n 1, 1) := by decide +kernel
theorem dX1_freeOf_2 : decode cX1_freeOf 2 = .ok (.invokevirtual 56, 3) := by decide +kernel
theorem dX1_freeOf_5 : decode cX1_freeOf 5 = .ok (.aload_n 0, 1) := by decide +kernel
theorem dX1_freeOf_6 : decode cX1_freeOf 6 = .ok (.getfield 10, 3) := by decide +kernel
theorem dX1_freeOf_9 : decode cX1_freeOf 9 = .ok (.iload_n 1, 1) := by decide +kernel
theorem dX1_freeOf_10 : decode cX1_freeOf 10 = .ok (.invokevirtual 73, 3) := by decide +kernel
theorem dX1_freeOf_13 : decode cX1_freeOf 13 = .ok (.ireturn, 1) := by decide +kernel
set_option maxRecDepth 20000 in
theorem ggX1_waitingAt_X1_checkGate : GoodIn wsX1_waitingAt wsX1_checkGate := goodIn_ca (goodIn_r _ [6, 7, 8, 1, 9, 22, 23, 24, 25, 26, 27, 28, 29, 30, 31, 32, 33, 34, 35, 36, 37, 38, 39, 40] (by decide +kernel) (by decide +kernel)) (goodIn_sub (fun _ h => List.mem_cons_of_mem _ (List.mem_append_right _ h)) (by decide +kernel))
set_option maxRecDepth 20000 in
theorem gX1_waitingAt_X1_checkGate : GoodIn wsX1_waitingAt (wsV RX1 56 RX1 yX1_checkGate wsX1_checkGate) := goodIn_app (goodIn_of _ (by decide +kernel)) ggX1_waitingAt_X1_checkGate
set_option maxRecDepth 20000 in
theorem ggX1_waitingAt_X0_countWaitingAt : GoodIn wsX1_waitingAt wsX0_countWaitingAt := goodIn_r _ [14, 15, 16, 17, 18, 13, 19, 20, 21, 24, 25, 26, 27, 28, 29, 30, 31, 32, 33, 34, 35, 36, 37, 38, 39, 40] (by decide +kernel) (by decide +kernel)
set_option maxRecDepth 20000 in
theorem gX1_waitingAt_X0_countWaitingAt : GoodIn wsX1_waitingAt (wsV RX1 70 RX0 yX0_countWaitingAt wsX0_countWaitingAt) := goodIn_app (goodIn_of _ (by decide +kernel)) ggX1_waitingAt_X0_countWaitingAt
theorem dX1_waitingAt_0 : decode cX1_waitingAt 0 = .ok (.aload_n 0, 1) := by decide +kernel
theorem dX1_waitingAt_1 : decode cX1_waitingAt 1 = .ok (.iload_n 1, 1) := by decide +kernel
theorem dX1_waitingAt_2 : decode cX1_waitingAt 2 = .ok (.invokevirtual 56, 3) := by decide +kernel
theorem dX1_waitingAt_5 : decode cX1_waitingAt 5 = .ok (.aload_n 0, 1) := by decide +kernel
theorem dX1_waitingAt_6 : decode cX1_waitingAt 6 = .ok (.getfield 10, 3) := by decide +kernel
theorem dX1_waitingAt_9 : decode cX1_waitingAt 9 = .ok (.iload_n 1, 1) := by decide +kernel
theorem dX1_waitingAt_10 : decode cX1_waitingAt 10 = .ok (.invokevirtual 70, 3) := by decide +kernel
theorem dX1_waitingAt_13 : decode cX1_waitingAt 13 = .ok (.ireturn, 1) := by decide +kernel
set_option maxRecDepth 20000 in
theorem ggX1_nextAt_X1_checkGate : GoodIn wsX1_nextAt wsX1_checkGate := goodIn_ca (goodIn_r _ [6, 7, 8, 1, 9, 36, 37, 38, 39, 40, 41, 42, 43, 44, 45, 46, 47, 48, 49, 50, 51, 52, 53, 54] (by decide +kernel) (by decide +kernel)) (goodIn_sub (fun _ h => List.mem_cons_of_mem _ (List.mem_append_right _ h)) (by decide +kernel))
set_option maxRecDepth 20000 in
theorem gX1_nextAt_X1_checkGate : GoodIn wsX1_nextAt (wsV RX1 56 RX1 yX1_checkGate wsX1_checkGate) := goodIn_app (goodIn_of _ (by decide +kernel)) ggX1_nextAt_X1_checkGate
set_option maxRecDepth 20000 in
theorem ggX1_nextAt_X0_firstIn : GoodIn wsX1_nextAt wsX0_firstIn := goodIn_r _ [14, 15, 16, 17, 18, 19, 20, 21, 13, 22, 23, 24, 25, 26, 27, 28, 29, 30, 31, 32, 33, 34, 35, 38, 39, 40, 41, 42, 43, 44, 45, 46, 47, 48, 49, 50, 51, 52, 53, 54] (by decide +kernel) (by decide +kernel)
set_option maxRecDepth 20000 in
theorem gX1_nextAt_X0_firstIn : GoodIn wsX1_nextAt (wsV RX1 112 RX0 yX0_firstIn wsX0_firstIn) := goodIn_app (goodIn_of _ (by decide +kernel)) ggX1_nextAt_X0_firstIn
theorem dX1_nextAt_0 : decode cX1_nextAt 0 = .ok (.aload_n 0, 1) := by decide +kernel
theorem dX1_nextAt_1 : decode cX1_nextAt 1 = .ok (.iload_n 1, 1) := by decide +kernel
theorem dX1_nextAt_2 : decode cX1_nextAt 2 = .ok (.invokevirtual 56, 3) := by decide +kernel
theorem dX1_nextAt_5 : decode cX1_nextAt 5 = .ok (.aload_n 0, 1) := by decide +kernel
theorem dX1_nextAt_6 : decode cX1_nextAt 6 = .ok (.getfield 10, 3) := by decide +kernel
theorem dX1_nextAt_9 : decode cX1_nextAt 9 = .ok (.iload_n 1, 1) := by decide +kernel
theorem dX1_nextAt_10 : decode cX1_nextAt 10 = .ok (.invokevirtual 112, 3) := by decide +kernel
theorem dX1_nextAt_13 : decode cX1_nextAt 13 = .ok (.ireturn, 1) := by decide +kernel
set_option maxRecDepth 20000 in
theorem ggX1_stateOf_X1_checkGoat : GoodIn wsX1_stateOf wsX1_checkGoat := goodIn_ca (goodIn_r _ [7, 8, 9, 1, 10, 11, 12, 13, 14, 15, 16, 17, 18, 19, 20, 21, 22, 23, 24, 25, 26, 27, 28, 29] (by decide +kernel) (by decide +kernel)) (goodIn_sub (fun _ h => List.mem_cons_of_mem _ (List.mem_append_right _ h)) (by decide +kernel))
set_option maxRecDepth 20000 in
theorem gX1_stateOf_X1_checkGoat : GoodIn wsX1_stateOf (wsV RX1 52 RX1 yX1_checkGoat wsX1_checkGoat) := goodIn_app (goodIn_of _ (by decide +kernel)) ggX1_stateOf_X1_checkGoat
theorem dX1_stateOf_0 : decode cX1_stateOf 0 = .ok (.aload_n 0, 1) := by decide +kernel
theorem dX1_stateOf_1 : decode cX1_stateOf 1 = .ok (.iload_n 1, 1) := by decide +kernel
theorem dX1_stateOf_2 : decode cX1_stateOf 2 = .ok (.invokevirtual 52, 3) := by decide +kernel
theorem dX1_stateOf_5 : decode cX1_stateOf 5 = .ok (.aload_n 0, 1) := by decide +kernel
theorem dX1_stateOf_6 : decode cX1_stateOf 6 = .ok (.getfield 10, 3) := by decide +kernel
theorem dX1_stateOf_9 : decode cX1_stateOf 9 = .ok (.getfield 82, 3) := by decide +kernel
theorem dX1_stateOf_12 : decode cX1_stateOf 12 = .ok (.iload_n 1, 1) := by decide +kernel
theorem dX1_stateOf_13 : decode cX1_stateOf 13 = .ok (.iaload, 1) := by decide +kernel
theorem dX1_stateOf_14 : decode cX1_stateOf 14 = .ok (.ireturn, 1) := by decide +kernel
set_option maxRecDepth 20000 in
theorem ggX1_gateOf_X1_checkGoat : GoodIn wsX1_gateOf wsX1_checkGoat := goodIn_ca (goodIn_r _ [7, 8, 9, 1, 10, 11, 12, 13, 14, 15, 16, 17, 18, 19, 20, 21, 22, 23, 24, 25, 26, 27, 28, 29] (by decide +kernel) (by decide +kernel)) (goodIn_sub (fun _ h => List.mem_cons_of_mem _ (List.mem_append_right _ h)) (by decide +kernel))
set_option maxRecDepth 20000 in
theorem gX1_gateOf_X1_checkGoat : GoodIn wsX1_gateOf (wsV RX1 52 RX1 yX1_checkGoat wsX1_checkGoat) := goodIn_app (goodIn_of _ (by decide +kernel)) ggX1_gateOf_X1_checkGoat
theorem dX1_gateOf_0 : decode cX1_gateOf 0 = .ok (.aload_n 0, 1) := by decide +kernel
theorem dX1_gateOf_1 : decode cX1_gateOf 1 = .ok (.iload_n 1, 1) := by decide +kernel
theorem dX1_gateOf_2 : decode cX1_gateOf 2 = .ok (.invokevirtual 52, 3) := by decide +kernel
theorem dX1_gateOf_5 : decode cX1_gateOf 5 = .ok (.aload_n 0, 1) := by decide +kernel
theorem dX1_gateOf_6 : decode cX1_gateOf 6 = .ok (.getfield 10, 3) := by decide +kernel
theorem dX1_gateOf_9 : decode cX1_gateOf 9 = .ok (.getfield 115, 3) := by decide +kernel
theorem dX1_gateOf_12 : decode cX1_gateOf 12 = .ok (.iload_n 1, 1) := by decide +kernel
theorem dX1_gateOf_13 : decode cX1_gateOf 13 = .ok (.iaload, 1) := by decide +kernel
theorem dX1_gateOf_14 : decode cX1_gateOf 14 = .ok (.ireturn, 1) := by decide +kernel
set_option maxRecDepth 20000 in
theorem ggX1_holds_X1_checkGoat : GoodIn wsX1_holds wsX1_checkGoat := goodIn_ca (goodIn_r _ [6, 7, 8, 1, 9, 17, 18, 19, 20, 21, 22, 23, 24, 25, 26, 27, 28, 29, 30, 31, 32, 33, 34, 35] (by decide +kernel) (by decide +kernel)) (goodIn_sub (fun _ h => List.mem_cons_of_mem _ (List.mem_append_right _ h)) (by decide +kernel))
set_option maxRecDepth 20000 in
theorem gX1_holds_X1_checkGoat : GoodIn wsX1_holds (wsV RX1 52 RX1 yX1_checkGoat wsX1_checkGoat) := goodIn_app (goodIn_of _ (by decide +kernel)) ggX1_holds_X1_checkGoat
set_option maxRecDepth 20000 in
theorem ggX1_holds_X0_held : GoodIn wsX1_holds wsX0_held := goodIn_r _ [14, 15, 16, 19, 20, 21, 22, 23, 24, 25, 26, 27, 28, 29, 30, 31, 32, 33, 34, 35] (by decide +kernel) (by decide +kernel)
set_option maxRecDepth 20000 in
theorem gX1_holds_X0_held : GoodIn wsX1_holds (wsV RX1 87 RX0 yX0_held wsX0_held) := goodIn_app (goodIn_of _ (by decide +kernel)) ggX1_holds_X0_held
theorem dX1_holds_0 : decode cX1_holds 0 = .ok (.aload_n 0, 1) := by decide +kernel
theorem dX1_holds_1 : decode cX1_holds 1 = .ok (.iload_n 1, 1) := by decide +kernel
theorem dX1_holds_2 : decode cX1_holds 2 = .ok (.invokevirtual 52, 3) := by decide +kernel
theorem dX1_holds_5 : decode cX1_holds 5 = .ok (.aload_n 0, 1) := by decide +kernel
theorem dX1_holds_6 : decode cX1_holds 6 = .ok (.getfield 10, 3) := by decide +kernel
theorem dX1_holds_9 : decode cX1_holds 9 = .ok (.iload_n 1, 1) := by decide +kernel
theorem dX1_holds_10 : decode cX1_holds 10 = .ok (.invokevirtual 87, 3) := by decide +kernel
theorem dX1_holds_13 : decode cX1_holds 13 = .ok (.ireturn, 1) := by decide +kernel
set_option maxRecDepth 20000 in
theorem ggX1_seemingHorns_X1_checkGoat : GoodIn wsX1_seemingHorns wsX1_checkGoat := goodIn_ca (goodIn_r _ [6, 7, 8, 1, 9, 17, 18, 19, 20, 21, 22, 23, 24, 25, 26, 27, 28, 29, 30, 31, 32, 33, 34, 35] (by decide +kernel) (by decide +kernel)) (goodIn_sub (fun _ h => List.mem_cons_of_mem _ (List.mem_append_right _ h)) (by decide +kernel))
set_option maxRecDepth 20000 in
theorem gX1_seemingHorns_X1_checkGoat : GoodIn wsX1_seemingHorns (wsV RX1 52 RX1 yX1_checkGoat wsX1_checkGoat) := goodIn_app (goodIn_of _ (by decide +kernel)) ggX1_seemingHorns_X1_checkGoat
set_option maxRecDepth 20000 in
theorem ggX1_seemingHorns_X0_seeming : GoodIn wsX1_seemingHorns wsX0_seeming := goodIn_r _ [14, 15, 16, 19, 20, 21, 22, 23, 24, 25, 26, 27, 28, 29, 30, 31, 32, 33, 34, 35] (by decide +kernel) (by decide +kernel)
set_option maxRecDepth 20000 in
theorem gX1_seemingHorns_X0_seeming : GoodIn wsX1_seemingHorns (wsV RX1 118 RX0 yX0_seeming wsX0_seeming) := goodIn_app (goodIn_of _ (by decide +kernel)) ggX1_seemingHorns_X0_seeming
theorem dX1_seemingHorns_0 : decode cX1_seemingHorns 0 = .ok (.aload_n 0, 1) := by decide +kernel
theorem dX1_seemingHorns_1 : decode cX1_seemingHorns 1 = .ok (.iload_n 1, 1) := by decide +kernel
theorem dX1_seemingHorns_2 : decode cX1_seemingHorns 2 = .ok (.invokevirtual 52, 3) := by decide +kernel
theorem dX1_seemingHorns_5 : decode cX1_seemingHorns 5 = .ok (.aload_n 0, 1) := by decide +kernel
theorem dX1_seemingHorns_6 : decode cX1_seemingHorns 6 = .ok (.getfield 10, 3) := by decide +kernel
theorem dX1_seemingHorns_9 : decode cX1_seemingHorns 9 = .ok (.iload_n 1, 1) := by decide +kernel
theorem dX1_seemingHorns_10 : decode cX1_seemingHorns 10 = .ok (.invokevirtual 118, 3) := by decide +kernel
theorem dX1_seemingHorns_13 : decode cX1_seemingHorns 13 = .ok (.ireturn, 1) := by decide +kernel
set_option maxRecDepth 20000 in
theorem ggX1_minutesLeft_X1_checkGoat : GoodIn wsX1_minutesLeft wsX1_checkGoat := goodIn_ca (goodIn_r _ [7, 8, 9, 1, 10, 11, 12, 13, 14, 15, 16, 17, 18, 19, 20, 21, 22, 23, 24, 25, 26, 27, 28, 29] (by decide +kernel) (by decide +kernel)) (goodIn_sub (fun _ h => List.mem_cons_of_mem _ (List.mem_append_right _ h)) (by decide +kernel))
set_option maxRecDepth 20000 in
theorem gX1_minutesLeft_X1_checkGoat : GoodIn wsX1_minutesLeft (wsV RX1 52 RX1 yX1_checkGoat wsX1_checkGoat) := goodIn_app (goodIn_of _ (by decide +kernel)) ggX1_minutesLeft_X1_checkGoat
theorem dX1_minutesLeft_0 : decode cX1_minutesLeft 0 = .ok (.aload_n 0, 1) := by decide +kernel
theorem dX1_minutesLeft_1 : decode cX1_minutesLeft 1 = .ok (.iload_n 1, 1) := by decide +kernel
theorem dX1_minutesLeft_2 : decode cX1_minutesLeft 2 = .ok (.invokevirtual 52, 3) := by decide +kernel
theorem dX1_minutesLeft_5 : decode cX1_minutesLeft 5 = .ok (.aload_n 0, 1) := by decide +kernel
theorem dX1_minutesLeft_6 : decode cX1_minutesLeft 6 = .ok (.getfield 10, 3) := by decide +kernel
theorem dX1_minutesLeft_9 : decode cX1_minutesLeft 9 = .ok (.getfield 121, 3) := by decide +kernel
theorem dX1_minutesLeft_12 : decode cX1_minutesLeft 12 = .ok (.iload_n 1, 1) := by decide +kernel
theorem dX1_minutesLeft_13 : decode cX1_minutesLeft 13 = .ok (.iaload, 1) := by decide +kernel
theorem dX1_minutesLeft_14 : decode cX1_minutesLeft 14 = .ok (.ireturn, 1) := by decide +kernel
set_option maxRecDepth 20000 in
theorem ggX1_waitedOf_X1_checkGoat : GoodIn wsX1_waitedOf wsX1_checkGoat := goodIn_ca (goodIn_r _ [7, 8, 9, 1, 10, 11, 12, 13, 14, 15, 16, 17, 18, 19, 20, 21, 22, 23, 24, 25, 26, 27, 28, 29] (by decide +kernel) (by decide +kernel)) (goodIn_sub (fun _ h => List.mem_cons_of_mem _ (List.mem_append_right _ h)) (by decide +kernel))
set_option maxRecDepth 20000 in
theorem gX1_waitedOf_X1_checkGoat : GoodIn wsX1_waitedOf (wsV RX1 52 RX1 yX1_checkGoat wsX1_checkGoat) := goodIn_app (goodIn_of _ (by decide +kernel)) ggX1_waitedOf_X1_checkGoat
theorem dX1_waitedOf_0 : decode cX1_waitedOf 0 = .ok (.aload_n 0, 1) := by decide +kernel
theorem dX1_waitedOf_1 : decode cX1_waitedOf 1 = .ok (.iload_n 1, 1) := by decide +kernel
theorem dX1_waitedOf_2 : decode cX1_waitedOf 2 = .ok (.invokevirtual 52, 3) := by decide +kernel
theorem dX1_waitedOf_5 : decode cX1_waitedOf 5 = .ok (.aload_n 0, 1) := by decide +kernel
theorem dX1_waitedOf_6 : decode cX1_waitedOf 6 = .ok (.getfield 10, 3) := by decide +kernel
theorem dX1_waitedOf_9 : decode cX1_waitedOf 9 = .ok (.getfield 124, 3) := by decide +kernel
theorem dX1_waitedOf_12 : decode cX1_waitedOf 12 = .ok (.iload_n 1, 1) := by decide +kernel
theorem dX1_waitedOf_13 : decode cX1_waitedOf 13 = .ok (.iaload, 1) := by decide +kernel
theorem dX1_waitedOf_14 : decode cX1_waitedOf 14 = .ok (.ireturn, 1) := by decide +kernel
set_option maxRecDepth 20000 in
theorem ggX1_placeInLine_X1_checkGoat : GoodIn wsX1_placeInLine wsX1_checkGoat := goodIn_ca (goodIn_r _ [7, 8, 9, 1, 10, 24, 25, 26, 27, 28, 29, 30, 31, 32, 33, 34, 35, 36, 37, 38, 39, 40, 41, 42] (by decide +kernel) (by decide +kernel)) (goodIn_sub (fun _ h => List.mem_cons_of_mem _ (List.mem_append_right _ h)) (by decide +kernel))
set_option maxRecDepth 20000 in
theorem gX1_placeInLine_X1_checkGoat : GoodIn wsX1_placeInLine (wsV RX1 52 RX1 yX1_checkGoat wsX1_checkGoat) := goodIn_app (goodIn_of _ (by decide +kernel)) ggX1_placeInLine_X1_checkGoat
set_option maxRecDepth 20000 in
theorem ggX1_placeInLine_X0_countAheadOf : GoodIn wsX1_placeInLine wsX0_countAheadOf := goodIn_r _ [15, 16, 17, 18, 19, 20, 21, 14, 22, 23, 26, 27, 28, 29, 30, 31, 32, 33, 34, 35, 36, 37, 38, 39, 40, 41, 42] (by decide +kernel) (by decide +kernel)
set_option maxRecDepth 20000 in
theorem gX1_placeInLine_X0_countAheadOf : GoodIn wsX1_placeInLine (wsV RX1 127 RX0 yX0_countAheadOf wsX0_countAheadOf) := goodIn_app (goodIn_of _ (by decide +kernel)) ggX1_placeInLine_X0_countAheadOf
theorem dX1_placeInLine_0 : decode cX1_placeInLine 0 = .ok (.aload_n 0, 1) := by decide +kernel
theorem dX1_placeInLine_1 : decode cX1_placeInLine 1 = .ok (.iload_n 1, 1) := by decide +kernel
theorem dX1_placeInLine_2 : decode cX1_placeInLine 2 = .ok (.invokevirtual 52, 3) := by decide +kernel
theorem dX1_placeInLine_5 : decode cX1_placeInLine 5 = .ok (.aload_n 0, 1) := by decide +kernel
theorem dX1_placeInLine_6 : decode cX1_placeInLine 6 = .ok (.getfield 10, 3) := by decide +kernel
theorem dX1_placeInLine_9 : decode cX1_placeInLine 9 = .ok (.getfield 82, 3) := by decide +kernel
theorem dX1_placeInLine_12 : decode cX1_placeInLine 12 = .ok (.iload_n 1, 1) := by decide +kernel
theorem dX1_placeInLine_13 : decode cX1_placeInLine 13 = .ok (.iaload, 1) := by decide +kernel
theorem dX1_placeInLine_14 : decode cX1_placeInLine 14 = .ok (.iconst 1, 1) := by decide +kernel
theorem dX1_placeInLine_15 : decode cX1_placeInLine 15 = .ok (.if_icmp .ne 14, 3) := by decide +kernel
theorem dX1_placeInLine_18 : decode cX1_placeInLine 18 = .ok (.aload_n 0, 1) := by decide +kernel
theorem dX1_placeInLine_19 : decode cX1_placeInLine 19 = .ok (.getfield 10, 3) := by decide +kernel
theorem dX1_placeInLine_22 : decode cX1_placeInLine 22 = .ok (.iload_n 1, 1) := by decide +kernel
theorem dX1_placeInLine_23 : decode cX1_placeInLine 23 = .ok (.invokevirtual 127, 3) := by decide +kernel
theorem dX1_placeInLine_26 : decode cX1_placeInLine 26 = .ok (.goto 4, 3) := by decide +kernel
theorem dX1_placeInLine_29 : decode cX1_placeInLine 29 = .ok (.iconst (-1), 1) := by decide +kernel
theorem dX1_placeInLine_30 : decode cX1_placeInLine 30 = .ok (.ireturn, 1) := by decide +kernel
set_option maxRecDepth 20000 in
theorem ggX1_minutesUntilIn_X1_checkGoat : GoodIn wsX1_minutesUntilIn wsX1_checkGoat := goodIn_ca (goodIn_r _ [8, 9, 10, 2, 11, 74, 75, 76, 77, 78, 79, 80, 81, 82, 83, 84, 85, 86, 87, 88, 89, 90, 91, 92] (by decide +kernel) (by decide +kernel)) (goodIn_sub (fun _ h => List.mem_cons_of_mem _ (List.mem_append_right _ h)) (by decide +kernel))
set_option maxRecDepth 20000 in
theorem gX1_minutesUntilIn_X1_checkGoat : GoodIn wsX1_minutesUntilIn (wsV RX1 52 RX1 yX1_checkGoat wsX1_checkGoat) := goodIn_app (goodIn_of _ (by decide +kernel)) ggX1_minutesUntilIn_X1_checkGoat
set_option maxRecDepth 20000 in
theorem ggX1_minutesUntilIn_X0_become : GoodIn wsX1_minutesUntilIn wsX0_become := goodIn_r _ [16, 17, 18, 19, 20, 21, 22, 23, 24, 25, 26, 27, 28, 29, 30, 31, 32, 33, 76, 77, 78, 79, 80, 81, 82, 83, 84, 85, 86, 87, 88, 89, 90, 91, 92] (by decide +kernel) (by decide +kernel)
set_option maxRecDepth 20000 in
theorem gX1_minutesUntilIn_X0_become : GoodIn wsX1_minutesUntilIn (wsV RX1 130 RX0 yX0_become wsX0_become) := goodIn_app (goodIn_of _ (by decide +kernel)) ggX1_minutesUntilIn_X0_become
set_option maxRecDepth 20000 in
theorem ggX1_minutesUntilIn_X0_liveAMinute : GoodIn wsX1_minutesUntilIn wsX0_liveAMinute := goodIn_r _ [37, 18, 17, 38, 39, 40, 15, 41, 19, 26, 30, 42, 43, 44, 45, 27, 32, 46, 47, 48, 49, 28, 29, 21, 50, 51, 52, 53, 23, 31, 54, 55, 56, 57, 22, 58, 59, 60, 61, 62, 63, 64, 65, 25, 66, 67, 68, 69, 70, 71, 72, 73, 33, 24, 76, 77, 78, 79, 80, 81, 82, 83, 84, 85, 86, 87, 88, 89, 90, 91, 92] (by decide +kernel) (by decide +kernel)
set_option maxRecDepth 20000 in
theorem gX1_minutesUntilIn_X0_liveAMinute : GoodIn wsX1_minutesUntilIn (wsV RX1 96 RX0 yX0_liveAMinute wsX0_liveAMinute) := goodIn_app (goodIn_of _ (by decide +kernel)) ggX1_minutesUntilIn_X0_liveAMinute
theorem dX1_minutesUntilIn_0 : decode cX1_minutesUntilIn 0 = .ok (.aload_n 0, 1) := by decide +kernel
theorem dX1_minutesUntilIn_1 : decode cX1_minutesUntilIn 1 = .ok (.iload_n 1, 1) := by decide +kernel
theorem dX1_minutesUntilIn_2 : decode cX1_minutesUntilIn 2 = .ok (.invokevirtual 52, 3) := by decide +kernel
theorem dX1_minutesUntilIn_5 : decode cX1_minutesUntilIn 5 = .ok (.aload_n 0, 1) := by decide +kernel
theorem dX1_minutesUntilIn_6 : decode cX1_minutesUntilIn 6 = .ok (.getfield 16, 3) := by decide +kernel
theorem dX1_minutesUntilIn_9 : decode cX1_minutesUntilIn 9 = .ok (.aload_n 0, 1) := by decide +kernel
theorem dX1_minutesUntilIn_10 : decode cX1_minutesUntilIn 10 = .ok (.getfield 10, 3) := by decide +kernel
theorem dX1_minutesUntilIn_13 : decode cX1_minutesUntilIn 13 = .ok (.invokevirtual 130, 3) := by decide +kernel
theorem dX1_minutesUntilIn_16 : decode cX1_minutesUntilIn 16 = .ok (.iconst 0, 1) := by decide +kernel
theorem dX1_minutesUntilIn_17 : decode cX1_minutesUntilIn 17 = .ok (.istore_n 2, 1) := by decide +kernel
theorem dX1_minutesUntilIn_18 : decode cX1_minutesUntilIn 18 = .ok (.iload_n 2, 1) := by decide +kernel
theorem dX1_minutesUntilIn_19 : decode cX1_minutesUntilIn 19 = .ok (.bipush 60, 2) := by decide +kernel
theorem dX1_minutesUntilIn_21 : decode cX1_minutesUntilIn 21 = .ok (.if_icmp .ge 29, 3) := by decide +kernel
theorem dX1_minutesUntilIn_24 : decode cX1_minutesUntilIn 24 = .ok (.aload_n 0, 1) := by decide +kernel
theorem dX1_minutesUntilIn_25 : decode cX1_minutesUntilIn 25 = .ok (.getfield 16, 3) := by decide +kernel
theorem dX1_minutesUntilIn_28 : decode cX1_minutesUntilIn 28 = .ok (.getfield 82, 3) := by decide +kernel
theorem dX1_minutesUntilIn_31 : decode cX1_minutesUntilIn 31 = .ok (.iload_n 1, 1) := by decide +kernel
theorem dX1_minutesUntilIn_32 : decode cX1_minutesUntilIn 32 = .ok (.iaload, 1) := by decide +kernel
theorem dX1_minutesUntilIn_33 : decode cX1_minutesUntilIn 33 = .ok (.iconst 1, 1) := by decide +kernel
theorem dX1_minutesUntilIn_34 : decode cX1_minutesUntilIn 34 = .ok (.if_icmp .ne 16, 3) := by decide +kernel
theorem dX1_minutesUntilIn_37 : decode cX1_minutesUntilIn 37 = .ok (.aload_n 0, 1) := by decide +kernel
theorem dX1_minutesUntilIn_38 : decode cX1_minutesUntilIn 38 = .ok (.getfield 16, 3) := by decide +kernel
theorem dX1_minutesUntilIn_41 : decode cX1_minutesUntilIn 41 = .ok (.invokevirtual 96, 3) := by decide +kernel
theorem dX1_minutesUntilIn_44 : decode cX1_minutesUntilIn 44 = .ok (.iinc 2 1, 3) := by decide +kernel
theorem dX1_minutesUntilIn_47 : decode cX1_minutesUntilIn 47 = .ok (.goto (-29), 3) := by decide +kernel
theorem dX1_minutesUntilIn_50 : decode cX1_minutesUntilIn 50 = .ok (.iload_n 2, 1) := by decide +kernel
theorem dX1_minutesUntilIn_51 : decode cX1_minutesUntilIn 51 = .ok (.ifCond .le 20, 3) := by decide +kernel
theorem dX1_minutesUntilIn_54 : decode cX1_minutesUntilIn 54 = .ok (.aload_n 0, 1) := by decide +kernel
theorem dX1_minutesUntilIn_55 : decode cX1_minutesUntilIn 55 = .ok (.getfield 16, 3) := by decide +kernel
theorem dX1_minutesUntilIn_58 : decode cX1_minutesUntilIn 58 = .ok (.getfield 82, 3) := by decide +kernel
theorem dX1_minutesUntilIn_61 : decode cX1_minutesUntilIn 61 = .ok (.iload_n 1, 1) := by decide +kernel
theorem dX1_minutesUntilIn_62 : decode cX1_minutesUntilIn 62 = .ok (.iaload, 1) := by decide +kernel
theorem dX1_minutesUntilIn_63 : decode cX1_minutesUntilIn 63 = .ok (.iconst 2, 1) := by decide +kernel
theorem dX1_minutesUntilIn_64 : decode cX1_minutesUntilIn 64 = .ok (.if_icmp .ne 7, 3) := by decide +kernel
theorem dX1_minutesUntilIn_67 : decode cX1_minutesUntilIn 67 = .ok (.iload_n 2, 1) := by decide +kernel
theorem dX1_minutesUntilIn_68 : decode cX1_minutesUntilIn 68 = .ok (.goto 4, 3) := by decide +kernel
theorem dX1_minutesUntilIn_71 : decode cX1_minutesUntilIn 71 = .ok (.iconst (-1), 1) := by decide +kernel
theorem dX1_minutesUntilIn_72 : decode cX1_minutesUntilIn 72 = .ok (.ireturn, 1) := by decide +kernel
set_option maxRecDepth 20000 in
theorem ggX1_givingUpIn_X1_checkNumber : GoodIn wsX1_givingUpIn wsX1_checkNumber := goodIn_ca (goodIn_r _ [6, 7, 8] (by decide +kernel) (by decide +kernel)) (goodIn_sub (fun _ h => List.mem_cons_of_mem _ (List.mem_append_right _ h)) (by decide +kernel))
set_option maxRecDepth 20000 in
theorem gX1_givingUpIn_X1_checkNumber : GoodIn wsX1_givingUpIn (va_wsS RX1 19 yX1_checkNumber wsX1_checkNumber) := goodIn_app (goodIn_of _ (by decide +kernel)) ggX1_givingUpIn_X1_checkNumber
set_option maxRecDepth 20000 in
theorem ggX1_givingUpIn_X0_become : GoodIn wsX1_givingUpIn wsX0_become := goodIn_r _ [13, 14, 15, 16, 17, 18, 19, 20, 21, 22, 23, 24, 25, 26, 27, 28, 29, 30, 77, 78, 79, 80, 81, 82, 83, 84, 85, 86, 87, 88, 89, 90, 91, 92, 93] (by decide +kernel) (by decide +kernel)
set_option maxRecDepth 20000 in
theorem gX1_givingUpIn_X0_become : GoodIn wsX1_givingUpIn (wsV RX1 130 RX0 yX0_become wsX0_become) := goodIn_app (goodIn_of _ (by decide +kernel)) ggX1_givingUpIn_X0_become
set_option maxRecDepth 20000 in
theorem ggX1_givingUpIn_X0_liveAMinute : GoodIn wsX1_givingUpIn wsX0_liveAMinute := goodIn_r _ [34, 15, 14, 35, 36, 37, 12, 38, 16, 23, 27, 39, 40, 41, 42, 24, 29, 43, 44, 45, 46, 25, 26, 18, 47, 48, 49, 50, 20, 28, 51, 52, 53, 54, 19, 55, 56, 57, 58, 59, 60, 61, 62, 22, 63, 64, 65, 66, 67, 68, 69, 70, 30, 21, 77, 78, 79, 80, 81, 82, 83, 84, 85, 86, 87, 88, 89, 90, 91, 92, 93] (by decide +kernel) (by decide +kernel)
set_option maxRecDepth 20000 in
theorem gX1_givingUpIn_X0_liveAMinute : GoodIn wsX1_givingUpIn (wsV RX1 96 RX0 yX0_liveAMinute wsX0_liveAMinute) := goodIn_app (goodIn_of _ (by decide +kernel)) ggX1_givingUpIn_X0_liveAMinute
set_option maxRecDepth 20000 in
theorem ggX1_givingUpIn_X0_givenUpInAll : GoodIn wsX1_givingUpIn wsX0_givenUpInAll := goodIn_r _ [74, 15, 21, 77, 78, 79, 80, 81, 82, 83, 84, 85, 86, 87, 88, 89, 90, 91, 92, 93] (by decide +kernel) (by decide +kernel)
set_option maxRecDepth 20000 in
theorem gX1_givingUpIn_X0_givenUpInAll : GoodIn wsX1_givingUpIn (wsV RX1 109 RX0 yX0_givenUpInAll wsX0_givenUpInAll) := goodIn_app (goodIn_of _ (by decide +kernel)) ggX1_givingUpIn_X0_givenUpInAll
theorem dX1_givingUpIn_0 : decode cX1_givingUpIn 0 = .ok (.iload_n 1, 1) := by decide +kernel
theorem dX1_givingUpIn_1 : decode cX1_givingUpIn 1 = .ok (.bipush 60, 2) := by decide +kernel
theorem dX1_givingUpIn_3 : decode cX1_givingUpIn 3 = .ok (.invokestatic 19, 3) := by decide +kernel
theorem dX1_givingUpIn_6 : decode cX1_givingUpIn 6 = .ok (.aload_n 0, 1) := by decide +kernel
theorem dX1_givingUpIn_7 : decode cX1_givingUpIn 7 = .ok (.getfield 16, 3) := by decide +kernel
theorem dX1_givingUpIn_10 : decode cX1_givingUpIn 10 = .ok (.aload_n 0, 1) := by decide +kernel
theorem dX1_givingUpIn_11 : decode cX1_givingUpIn 11 = .ok (.getfield 10, 3) := by decide +kernel
theorem dX1_givingUpIn_14 : decode cX1_givingUpIn 14 = .ok (.invokevirtual 130, 3) := by decide +kernel
theorem dX1_givingUpIn_17 : decode cX1_givingUpIn 17 = .ok (.iconst 0, 1) := by decide +kernel
theorem dX1_givingUpIn_18 : decode cX1_givingUpIn 18 = .ok (.istore_n 2, 1) := by decide +kernel
theorem dX1_givingUpIn_19 : decode cX1_givingUpIn 19 = .ok (.iload_n 2, 1) := by decide +kernel
theorem dX1_givingUpIn_20 : decode cX1_givingUpIn 20 = .ok (.iload_n 1, 1) := by decide +kernel
theorem dX1_givingUpIn_21 : decode cX1_givingUpIn 21 = .ok (.if_icmp .ge 16, 3) := by decide +kernel
theorem dX1_givingUpIn_24 : decode cX1_givingUpIn 24 = .ok (.aload_n 0, 1) := by decide +kernel
theorem dX1_givingUpIn_25 : decode cX1_givingUpIn 25 = .ok (.getfield 16, 3) := by decide +kernel
theorem dX1_givingUpIn_28 : decode cX1_givingUpIn 28 = .ok (.invokevirtual 96, 3) := by decide +kernel
theorem dX1_givingUpIn_31 : decode cX1_givingUpIn 31 = .ok (.iinc 2 1, 3) := by decide +kernel
theorem dX1_givingUpIn_34 : decode cX1_givingUpIn 34 = .ok (.goto (-15), 3) := by decide +kernel
theorem dX1_givingUpIn_37 : decode cX1_givingUpIn 37 = .ok (.aload_n 0, 1) := by decide +kernel
theorem dX1_givingUpIn_38 : decode cX1_givingUpIn 38 = .ok (.getfield 16, 3) := by decide +kernel
theorem dX1_givingUpIn_41 : decode cX1_givingUpIn 41 = .ok (.invokevirtual 109, 3) := by decide +kernel
theorem dX1_givingUpIn_44 : decode cX1_givingUpIn 44 = .ok (.aload_n 0, 1) := by decide +kernel
theorem dX1_givingUpIn_45 : decode cX1_givingUpIn 45 = .ok (.getfield 10, 3) := by decide +kernel
theorem dX1_givingUpIn_48 : decode cX1_givingUpIn 48 = .ok (.invokevirtual 109, 3) := by decide +kernel
theorem dX1_givingUpIn_51 : decode cX1_givingUpIn 51 = .ok (.isub, 1) := by decide +kernel
theorem dX1_givingUpIn_52 : decode cX1_givingUpIn 52 = .ok (.ireturn, 1) := by decide +kernel
set_option maxRecDepth 20000 in
theorem ggX1_permitsWanted_X1_checkGate : GoodIn wsX1_permitsWanted wsX1_checkGate := goodIn_ca (goodIn_r _ [8, 9, 10, 1, 11, 84, 85, 86, 87, 88, 89, 90, 91, 92, 93, 94, 95, 96, 97, 98, 99, 100, 101, 102] (by decide +kernel) (by decide +kernel)) (goodIn_sub (fun _ h => List.mem_cons_of_mem _ (List.mem_append_right _ h)) (by decide +kernel))
set_option maxRecDepth 20000 in
theorem gX1_permitsWanted_X1_checkGate : GoodIn wsX1_permitsWanted (wsV RX1 56 RX1 yX1_checkGate wsX1_checkGate) := goodIn_app (goodIn_of _ (by decide +kernel)) ggX1_permitsWanted_X1_checkGate
set_option maxRecDepth 20000 in
theorem ggX1_permitsWanted_X1_givingUpWith : GoodIn wsX1_permitsWanted wsX1_givingUpWith := goodIn_r _ [15, 16, 1, 2, 3, 17, 18, 19, 20, 21, 22, 23, 24, 25, 26, 27, 28, 29, 30, 31, 32, 33, 34, 35, 36, 37, 38, 39, 40, 41, 42, 43, 44, 45, 46, 47, 48, 49, 50, 51, 52, 53, 54, 55, 56, 57, 58, 59, 60, 61, 62, 63, 64, 65, 66, 67, 68, 69, 70, 71, 72, 73, 74, 75, 76, 77, 78, 79, 80, 81, 82, 83, 84, 85, 86, 87, 88, 89, 90, 91, 92, 93, 94, 95, 96, 97, 98, 99, 100, 101, 102] (by decide +kernel) (by decide +kernel)
set_option maxRecDepth 20000 in
theorem gX1_permitsWanted_X1_givingUpWith : GoodIn wsX1_permitsWanted (wsV RX1 137 RX1 yX1_givingUpWith wsX1_givingUpWith) := goodIn_app (goodIn_of _ (by decide +kernel)) ggX1_permitsWanted_X1_givingUpWith
theorem dX1_permitsWanted_0 : decode cX1_permitsWanted 0 = .ok (.aload_n 0, 1) := by decide +kernel
theorem dX1_permitsWanted_1 : decode cX1_permitsWanted 1 = .ok (.iload_n 1, 1) := by decide +kernel
theorem dX1_permitsWanted_2 : decode cX1_permitsWanted 2 = .ok (.invokevirtual 56, 3) := by decide +kernel
theorem dX1_permitsWanted_5 : decode cX1_permitsWanted 5 = .ok (.iconst 0, 1) := by decide +kernel
theorem dX1_permitsWanted_6 : decode cX1_permitsWanted 6 = .ok (.istore_n 2, 1) := by decide +kernel
theorem dX1_permitsWanted_7 : decode cX1_permitsWanted 7 = .ok (.iload_n 2, 1) := by decide +kernel
theorem dX1_permitsWanted_8 : decode cX1_permitsWanted 8 = .ok (.bipush 9, 2) := by decide +kernel
theorem dX1_permitsWanted_10 : decode cX1_permitsWanted 10 = .ok (.if_icmp .gt 39, 3) := by decide +kernel
theorem dX1_permitsWanted_13 : decode cX1_permitsWanted 13 = .ok (.aload_n 0, 1) := by decide +kernel
theorem dX1_permitsWanted_14 : decode cX1_permitsWanted 14 = .ok (.iload_n 1, 1) := by decide +kernel
theorem dX1_permitsWanted_15 : decode cX1_permitsWanted 15 = .ok (.aload_n 0, 1) := by decide +kernel
theorem dX1_permitsWanted_16 : decode cX1_permitsWanted 16 = .ok (.getfield 10, 3) := by decide +kernel
theorem dX1_permitsWanted_19 : decode cX1_permitsWanted 19 = .ok (.getfield 59, 3) := by decide +kernel
theorem dX1_permitsWanted_22 : decode cX1_permitsWanted 22 = .ok (.iload_n 1, 1) := by decide +kernel
theorem dX1_permitsWanted_23 : decode cX1_permitsWanted 23 = .ok (.iaload, 1) := by decide +kernel
theorem dX1_permitsWanted_24 : decode cX1_permitsWanted 24 = .ok (.iload_n 2, 1) := by decide +kernel
theorem dX1_permitsWanted_25 : decode cX1_permitsWanted 25 = .ok (.iadd, 1) := by decide +kernel
theorem dX1_permitsWanted_26 : decode cX1_permitsWanted 26 = .ok (.aload_n 0, 1) := by decide +kernel
theorem dX1_permitsWanted_27 : decode cX1_permitsWanted 27 = .ok (.getfield 10, 3) := by decide +kernel
theorem dX1_permitsWanted_30 : decode cX1_permitsWanted 30 = .ok (.getfield 134, 3) := by decide +kernel
theorem dX1_permitsWanted_33 : decode cX1_permitsWanted 33 = .ok (.iload_n 1, 1) := by decide +kernel
theorem dX1_permitsWanted_34 : decode cX1_permitsWanted 34 = .ok (.iaload, 1) := by decide +kernel
theorem dX1_permitsWanted_35 : decode cX1_permitsWanted 35 = .ok (.invokevirtual 137, 3) := by decide +kernel
theorem dX1_permitsWanted_38 : decode cX1_permitsWanted 38 = .ok (.ifCond .ne 5, 3) := by decide +kernel
theorem dX1_permitsWanted_41 : decode cX1_permitsWanted 41 = .ok (.iload_n 2, 1) := by decide +kernel
theorem dX1_permitsWanted_42 : decode cX1_permitsWanted 42 = .ok (.ireturn, 1) := by decide +kernel
theorem dX1_permitsWanted_43 : decode cX1_permitsWanted 43 = .ok (.iinc 2 1, 3) := by decide +kernel
theorem dX1_permitsWanted_46 : decode cX1_permitsWanted 46 = .ok (.goto (-39), 3) := by decide +kernel
theorem dX1_permitsWanted_49 : decode cX1_permitsWanted 49 = .ok (.iconst (-1), 1) := by decide +kernel
theorem dX1_permitsWanted_50 : decode cX1_permitsWanted 50 = .ok (.ireturn, 1) := by decide +kernel
set_option maxRecDepth 20000 in
theorem ggX1_bestOrder_X1_checkGate : GoodIn wsX1_bestOrder wsX1_checkGate := goodIn_ca (goodIn_r _ [7, 8, 9, 1, 10, 84, 85, 86, 87, 88, 89, 90, 91, 92, 93, 94, 95, 96, 97, 98, 99, 100, 101, 102] (by decide +kernel) (by decide +kernel)) (goodIn_sub (fun _ h => List.mem_cons_of_mem _ (List.mem_append_right _ h)) (by decide +kernel))
set_option maxRecDepth 20000 in
theorem gX1_bestOrder_X1_checkGate : GoodIn wsX1_bestOrder (wsV RX1 56 RX1 yX1_checkGate wsX1_checkGate) := goodIn_app (goodIn_of _ (by decide +kernel)) ggX1_bestOrder_X1_checkGate
set_option maxRecDepth 20000 in
theorem ggX1_bestOrder_X1_givingUpWith : GoodIn wsX1_bestOrder wsX1_givingUpWith := goodIn_r _ [14, 15, 1, 2, 16, 17, 18, 19, 20, 21, 22, 23, 24, 25, 26, 27, 28, 29, 30, 31, 32, 33, 34, 35, 36, 37, 38, 39, 40, 41, 42, 43, 44, 45, 46, 47, 48, 49, 50, 51, 52, 53, 54, 55, 56, 57, 58, 59, 60, 61, 62, 63, 64, 65, 66, 67, 68, 69, 70, 71, 72, 73, 74, 75, 76, 77, 78, 79, 80, 81, 82, 83, 84, 85, 86, 87, 88, 89, 90, 91, 92, 93, 94, 95, 96, 97, 98, 99, 100, 101, 102] (by decide +kernel) (by decide +kernel)
set_option maxRecDepth 20000 in
theorem gX1_bestOrder_X1_givingUpWith : GoodIn wsX1_bestOrder (wsV RX1 137 RX1 yX1_givingUpWith wsX1_givingUpWith) := goodIn_app (goodIn_of _ (by decide +kernel)) ggX1_bestOrder_X1_givingUpWith
theorem dX1_bestOrder_0 : decode cX1_bestOrder 0 = .ok (.aload_n 0, 1) := by decide +kernel
theorem dX1_bestOrder_1 : decode cX1_bestOrder 1 = .ok (.iload_n 1, 1) := by decide +kernel
theorem dX1_bestOrder_2 : decode cX1_bestOrder 2 = .ok (.invokevirtual 56, 3) := by decide +kernel
theorem dX1_bestOrder_5 : decode cX1_bestOrder 5 = .ok (.aload_n 0, 1) := by decide +kernel
theorem dX1_bestOrder_6 : decode cX1_bestOrder 6 = .ok (.iload_n 1, 1) := by decide +kernel
theorem dX1_bestOrder_7 : decode cX1_bestOrder 7 = .ok (.aload_n 0, 1) := by decide +kernel
theorem dX1_bestOrder_8 : decode cX1_bestOrder 8 = .ok (.getfield 10, 3) := by decide +kernel
theorem dX1_bestOrder_11 : decode cX1_bestOrder 11 = .ok (.getfield 59, 3) := by decide +kernel
theorem dX1_bestOrder_14 : decode cX1_bestOrder 14 = .ok (.iload_n 1, 1) := by decide +kernel
theorem dX1_bestOrder_15 : decode cX1_bestOrder 15 = .ok (.iaload, 1) := by decide +kernel
theorem dX1_bestOrder_16 : decode cX1_bestOrder 16 = .ok (.iconst 0, 1) := by decide +kernel
theorem dX1_bestOrder_17 : decode cX1_bestOrder 17 = .ok (.invokevirtual 137, 3) := by decide +kernel
theorem dX1_bestOrder_20 : decode cX1_bestOrder 20 = .ok (.istore_n 2, 1) := by decide +kernel
theorem dX1_bestOrder_21 : decode cX1_bestOrder 21 = .ok (.aload_n 0, 1) := by decide +kernel
theorem dX1_bestOrder_22 : decode cX1_bestOrder 22 = .ok (.iload_n 1, 1) := by decide +kernel
theorem dX1_bestOrder_23 : decode cX1_bestOrder 23 = .ok (.aload_n 0, 1) := by decide +kernel
theorem dX1_bestOrder_24 : decode cX1_bestOrder 24 = .ok (.getfield 10, 3) := by decide +kernel
theorem dX1_bestOrder_27 : decode cX1_bestOrder 27 = .ok (.getfield 59, 3) := by decide +kernel
theorem dX1_bestOrder_30 : decode cX1_bestOrder 30 = .ok (.iload_n 1, 1) := by decide +kernel
theorem dX1_bestOrder_31 : decode cX1_bestOrder 31 = .ok (.iaload, 1) := by decide +kernel
theorem dX1_bestOrder_32 : decode cX1_bestOrder 32 = .ok (.iconst 1, 1) := by decide +kernel
theorem dX1_bestOrder_33 : decode cX1_bestOrder 33 = .ok (.invokevirtual 137, 3) := by decide +kernel
theorem dX1_bestOrder_36 : decode cX1_bestOrder 36 = .ok (.istore_n 3, 1) := by decide +kernel
theorem dX1_bestOrder_37 : decode cX1_bestOrder 37 = .ok (.iload_n 3, 1) := by decide +kernel
theorem dX1_bestOrder_38 : decode cX1_bestOrder 38 = .ok (.iload_n 2, 1) := by decide +kernel
theorem dX1_bestOrder_39 : decode cX1_bestOrder 39 = .ok (.if_icmp .ge 7, 3) := by decide +kernel
theorem dX1_bestOrder_42 : decode cX1_bestOrder 42 = .ok (.iconst 1, 1) := by decide +kernel
theorem dX1_bestOrder_43 : decode cX1_bestOrder 43 = .ok (.goto 4, 3) := by decide +kernel
theorem dX1_bestOrder_46 : decode cX1_bestOrder 46 = .ok (.iconst 0, 1) := by decide +kernel
theorem dX1_bestOrder_47 : decode cX1_bestOrder 47 = .ok (.ireturn, 1) := by decide +kernel
set_option maxRecDepth 20000 in
theorem ggX1_meanWaited_X0_sumOfWaited : GoodIn wsX1_meanWaited wsX0_sumOfWaited := goodIn_r _ [7, 8, 9, 12, 13, 14, 15, 16, 17, 18, 19, 20, 21, 22, 23, 24, 25, 26, 27, 28] (by decide +kernel) (by decide +kernel)
set_option maxRecDepth 20000 in
theorem gX1_meanWaited_X0_sumOfWaited : GoodIn wsX1_meanWaited (wsV RX1 141 RX0 yX0_sumOfWaited wsX0_sumOfWaited) := goodIn_app (goodIn_of _ (by decide +kernel)) ggX1_meanWaited_X0_sumOfWaited
theorem dX1_meanWaited_0 : decode cX1_meanWaited 0 = .ok (.aload_n 0, 1) := by decide +kernel
theorem dX1_meanWaited_1 : decode cX1_meanWaited 1 = .ok (.getfield 10, 3) := by decide +kernel
theorem dX1_meanWaited_4 : decode cX1_meanWaited 4 = .ok (.getfield 43, 3) := by decide +kernel
theorem dX1_meanWaited_7 : decode cX1_meanWaited 7 = .ok (.ifCond .ne 5, 3) := by decide +kernel
theorem dX1_meanWaited_10 : decode cX1_meanWaited 10 = .ok (.dconst 0, 1) := by decide +kernel
theorem dX1_meanWaited_11 : decode cX1_meanWaited 11 = .ok (.dreturn, 1) := by decide +kernel
theorem dX1_meanWaited_12 : decode cX1_meanWaited 12 = .ok (.aload_n 0, 1) := by decide +kernel
theorem dX1_meanWaited_13 : decode cX1_meanWaited 13 = .ok (.getfield 10, 3) := by decide +kernel
theorem dX1_meanWaited_16 : decode cX1_meanWaited 16 = .ok (.invokevirtual 141, 3) := by decide +kernel
theorem dX1_meanWaited_19 : decode cX1_meanWaited 19 = .ok (.i2d, 1) := by decide +kernel
theorem dX1_meanWaited_20 : decode cX1_meanWaited 20 = .ok (.aload_n 0, 1) := by decide +kernel
theorem dX1_meanWaited_21 : decode cX1_meanWaited 21 = .ok (.getfield 10, 3) := by decide +kernel
theorem dX1_meanWaited_24 : decode cX1_meanWaited 24 = .ok (.getfield 43, 3) := by decide +kernel
theorem dX1_meanWaited_27 : decode cX1_meanWaited 27 = .ok (.i2d, 1) := by decide +kernel
theorem dX1_meanWaited_28 : decode cX1_meanWaited 28 = .ok (.ddiv, 1) := by decide +kernel
theorem dX1_meanWaited_29 : decode cX1_meanWaited 29 = .ok (.dreturn, 1) := by decide +kernel
set_option maxRecDepth 20000 in
theorem ggX1_digest_X1_minute : GoodIn wsX1_digest wsX1_minute := goodIn_r _ [10, 3, 11, 208, 209, 210, 211, 212, 213, 214, 215, 216, 217, 218, 219, 220, 221, 222, 223, 224, 225, 226] (by decide +kernel) (by decide +kernel)
set_option maxRecDepth 20000 in
theorem gX1_digest_X1_minute : GoodIn wsX1_digest (wsV RX1 148 RX1 yX1_minute wsX1_minute) := goodIn_app (goodIn_of _ (by decide +kernel)) ggX1_digest_X1_minute
set_option maxRecDepth 20000 in
theorem ggX1_digest_X1_gates : GoodIn wsX1_digest wsX1_gates := goodIn_r _ [15, 3, 4, 208, 209, 210, 211, 212, 213, 214, 215, 216, 217, 218, 219, 220, 221, 222, 223, 224, 225, 226] (by decide +kernel) (by decide +kernel)
set_option maxRecDepth 20000 in
theorem gX1_digest_X1_gates : GoodIn wsX1_digest (wsV RX1 150 RX1 yX1_gates wsX1_gates) := goodIn_app (goodIn_of _ (by decide +kernel)) ggX1_digest_X1_gates
set_option maxRecDepth 20000 in
theorem ggX1_digest_X1_goats : GoodIn wsX1_digest wsX1_goats := goodIn_r _ [19, 3, 5, 208, 209, 210, 211, 212, 213, 214, 215, 216, 217, 218, 219, 220, 221, 222, 223, 224, 225, 226] (by decide +kernel) (by decide +kernel)
set_option maxRecDepth 20000 in
theorem gX1_digest_X1_goats : GoodIn wsX1_digest (wsV RX1 153 RX1 yX1_goats wsX1_goats) := goodIn_app (goodIn_of _ (by decide +kernel)) ggX1_digest_X1_goats
set_option maxRecDepth 20000 in
theorem ggX1_digest_X1_waiting : GoodIn wsX1_digest wsX1_waiting := goodIn_r _ [23, 3, 24, 25, 26, 27, 28, 29, 30, 208, 209, 210, 211, 212, 213, 214, 215, 216, 217, 218, 219, 220, 221, 222, 223, 224, 225, 226] (by decide +kernel) (by decide +kernel)
set_option maxRecDepth 20000 in
theorem gX1_digest_X1_waiting : GoodIn wsX1_digest (wsV RX1 156 RX1 yX1_waiting wsX1_waiting) := goodIn_app (goodIn_of _ (by decide +kernel)) ggX1_digest_X1_waiting
set_option maxRecDepth 20000 in
theorem ggX1_digest_X1_inside : GoodIn wsX1_digest wsX1_inside := goodIn_r _ [34, 3, 24, 25, 26, 27, 28, 29, 30, 208, 209, 210, 211, 212, 213, 214, 215, 216, 217, 218, 219, 220, 221, 222, 223, 224, 225, 226] (by decide +kernel) (by decide +kernel)
set_option maxRecDepth 20000 in
theorem gX1_digest_X1_inside : GoodIn wsX1_digest (wsV RX1 159 RX1 yX1_inside wsX1_inside) := goodIn_app (goodIn_of _ (by decide +kernel)) ggX1_digest_X1_inside
set_option maxRecDepth 20000 in
theorem ggX1_digest_X1_starving : GoodIn wsX1_digest wsX1_starving := goodIn_r _ [38, 3, 39, 40, 41, 27, 42, 29, 30, 43, 208, 209, 210, 211, 212, 213, 214, 215, 216, 217, 218, 219, 220, 221, 222, 223, 224, 225, 226] (by decide +kernel) (by decide +kernel)
set_option maxRecDepth 20000 in
theorem gX1_digest_X1_starving : GoodIn wsX1_digest (wsV RX1 162 RX1 yX1_starving wsX1_starving) := goodIn_app (goodIn_of _ (by decide +kernel)) ggX1_digest_X1_starving
set_option maxRecDepth 20000 in
theorem ggX1_digest_X1_letIn : GoodIn wsX1_digest wsX1_letIn := goodIn_r _ [47, 3, 48, 208, 209, 210, 211, 212, 213, 214, 215, 216, 217, 218, 219, 220, 221, 222, 223, 224, 225, 226] (by decide +kernel) (by decide +kernel)
set_option maxRecDepth 20000 in
theorem gX1_digest_X1_letIn : GoodIn wsX1_digest (wsV RX1 165 RX1 yX1_letIn wsX1_letIn) := goodIn_app (goodIn_of _ (by decide +kernel)) ggX1_digest_X1_letIn
set_option maxRecDepth 20000 in
theorem ggX1_digest_X1_givenUp : GoodIn wsX1_digest wsX1_givenUp := goodIn_r _ [52, 3, 53, 54, 55, 27, 56, 57, 58, 208, 209, 210, 211, 212, 213, 214, 215, 216, 217, 218, 219, 220, 221, 222, 223, 224, 225, 226] (by decide +kernel) (by decide +kernel)
set_option maxRecDepth 20000 in
theorem gX1_digest_X1_givenUp : GoodIn wsX1_digest (wsV RX1 168 RX1 yX1_givenUp wsX1_givenUp) := goodIn_app (goodIn_of _ (by decide +kernel)) ggX1_digest_X1_givenUp
set_option maxRecDepth 20000 in
theorem ggX1_digest_X1_permitsOf : GoodIn wsX1_digest wsX1_permitsOf := goodIn_ca (goodIn_r _ [62, 3, 63, 64, 65, 66, 9, 67, 68, 69, 4, 208, 209, 210, 211, 212, 213, 214, 215, 216, 217, 218, 219, 220, 221, 222, 223, 224, 225, 226] (by decide +kernel) (by decide +kernel)) (goodIn_sub (fun _ h => List.mem_cons_of_mem _ (List.mem_append_right _ h)) (by decide +kernel))
set_option maxRecDepth 20000 in
theorem gX1_digest_X1_permitsOf : GoodIn wsX1_digest (wsV RX1 171 RX1 yX1_permitsOf wsX1_permitsOf) := goodIn_app (goodIn_of _ (by decide +kernel)) ggX1_digest_X1_permitsOf
set_option maxRecDepth 20000 in
theorem ggX1_digest_X1_freeOf : GoodIn wsX1_digest wsX1_freeOf := goodIn_ca (goodIn_r _ [73, 3, 64, 65, 66, 9, 67, 68, 69, 4, 74, 75, 76, 27, 77, 78, 29, 30, 79, 80, 208, 209, 210, 211, 212, 213, 214, 215, 216, 217, 218, 219, 220, 221, 222, 223, 224, 225, 226] (by decide +kernel) (by decide +kernel)) (goodIn_sub (fun _ h => List.mem_cons_of_mem _ (List.mem_append_right _ h)) (by decide +kernel))
set_option maxRecDepth 20000 in
theorem gX1_digest_X1_freeOf : GoodIn wsX1_digest (wsV RX1 174 RX1 yX1_freeOf wsX1_freeOf) := goodIn_app (goodIn_of _ (by decide +kernel)) ggX1_digest_X1_freeOf
set_option maxRecDepth 20000 in
theorem ggX1_digest_X1_waitingAt : GoodIn wsX1_digest wsX1_waitingAt := goodIn_ca (goodIn_r _ [84, 3, 64, 65, 66, 9, 67, 68, 69, 4, 85, 86, 87, 27, 88, 29, 89, 90, 91, 92, 30, 79, 208, 209, 210, 211, 212, 213, 214, 215, 216, 217, 218, 219, 220, 221, 222, 223, 224, 225, 226] (by decide +kernel) (by decide +kernel)) (goodIn_sub (fun _ h => List.mem_cons_of_mem _ (List.mem_append_right _ h)) (by decide +kernel))
set_option maxRecDepth 20000 in
theorem gX1_digest_X1_waitingAt : GoodIn wsX1_digest (wsV RX1 177 RX1 yX1_waitingAt wsX1_waitingAt) := goodIn_app (goodIn_of _ (by decide +kernel)) ggX1_digest_X1_waitingAt
set_option maxRecDepth 20000 in
theorem ggX1_digest_X1_nextAt : GoodIn wsX1_digest wsX1_nextAt := goodIn_ca (goodIn_r _ [96, 3, 64, 65, 66, 9, 67, 68, 69, 4, 97, 98, 99, 27, 100, 101, 29, 80, 102, 103, 75, 76, 77, 78, 30, 79, 89, 90, 91, 92, 104, 105, 106, 107, 108, 43, 208, 209, 210, 211, 212, 213, 214, 215, 216, 217, 218, 219, 220, 221, 222, 223, 224, 225, 226] (by decide +kernel) (by decide +kernel)) (goodIn_sub (fun _ h => List.mem_cons_of_mem _ (List.mem_append_right _ h)) (by decide +kernel))
set_option maxRecDepth 20000 in
theorem gX1_digest_X1_nextAt : GoodIn wsX1_digest (wsV RX1 180 RX1 yX1_nextAt wsX1_nextAt) := goodIn_app (goodIn_of _ (by decide +kernel)) ggX1_digest_X1_nextAt
set_option maxRecDepth 20000 in
theorem ggX1_digest_X1_permitsWanted : GoodIn wsX1_digest wsX1_permitsWanted := goodIn_ca (goodIn_r _ [112, 3, 63, 113, 64, 65, 66, 9, 67, 68, 69, 4, 114, 115, 116, 117, 118, 119, 120, 121, 122, 27, 123, 124, 57, 29, 125, 126, 78, 101, 58, 108, 30, 79, 80, 127, 128, 102, 43, 129, 85, 86, 87, 88, 89, 90, 91, 92, 130, 131, 132, 133, 134, 135, 136, 137, 138, 139, 140, 141, 142, 143, 144, 145, 146, 98, 99, 100, 103, 75, 76, 77, 104, 105, 106, 107, 147, 148, 149, 150, 151, 152, 153, 154, 208, 209, 210, 211, 212, 213, 214, 215, 216, 217, 218, 219, 220, 221, 222, 223, 224, 225, 226] (by decide +kernel) (by decide +kernel)) (goodIn_sub (fun _ h => List.mem_cons_of_mem _ (List.mem_append_right _ h)) (by decide +kernel))
set_option maxRecDepth 20000 in
theorem gX1_digest_X1_permitsWanted : GoodIn wsX1_digest (wsV RX1 183 RX1 yX1_permitsWanted wsX1_permitsWanted) := goodIn_app (goodIn_of _ (by decide +kernel)) ggX1_digest_X1_permitsWanted
set_option maxRecDepth 20000 in
theorem ggX1_digest_X1_bestOrder : GoodIn wsX1_digest wsX1_bestOrder := goodIn_ca (goodIn_r _ [158, 3, 63, 64, 65, 66, 9, 67, 68, 69, 4, 114, 115, 116, 117, 118, 113, 119, 120, 121, 122, 27, 123, 124, 57, 29, 125, 126, 78, 101, 58, 108, 30, 79, 80, 127, 128, 102, 43, 129, 85, 86, 87, 88, 89, 90, 91, 92, 130, 131, 132, 133, 134, 135, 136, 137, 138, 139, 140, 141, 142, 143, 144, 145, 146, 98, 99, 100, 103, 75, 76, 77, 104, 105, 106, 107, 147, 148, 149, 150, 151, 152, 153, 154, 208, 209, 210, 211, 212, 213, 214, 215, 216, 217, 218, 219, 220, 221, 222, 223, 224, 225, 226] (by decide +kernel) (by decide +kernel)) (goodIn_sub (fun _ h => List.mem_cons_of_mem _ (List.mem_append_right _ h)) (by decide +kernel))
set_option maxRecDepth 20000 in
theorem gX1_digest_X1_bestOrder : GoodIn wsX1_digest (wsV RX1 186 RX1 yX1_bestOrder wsX1_bestOrder) := goodIn_app (goodIn_of _ (by decide +kernel)) ggX1_digest_X1_bestOrder
set_option maxRecDepth 20000 in
theorem ggX1_digest_X1_stateOf : GoodIn wsX1_digest wsX1_stateOf := goodIn_ca (goodIn_r _ [162, 3, 163, 164, 165, 166, 9, 167, 68, 69, 5, 208, 209, 210, 211, 212, 213, 214, 215, 216, 217, 218, 219, 220, 221, 222, 223, 224, 225, 226] (by decide +kernel) (by decide +kernel)) (goodIn_sub (fun _ h => List.mem_cons_of_mem _ (List.mem_append_right _ h)) (by decide +kernel))
set_option maxRecDepth 20000 in
theorem gX1_digest_X1_stateOf : GoodIn wsX1_digest (wsV RX1 189 RX1 yX1_stateOf wsX1_stateOf) := goodIn_app (goodIn_of _ (by decide +kernel)) ggX1_digest_X1_stateOf
set_option maxRecDepth 20000 in
theorem ggX1_digest_X1_gateOf : GoodIn wsX1_digest wsX1_gateOf := goodIn_ca (goodIn_r _ [171, 3, 172, 164, 165, 166, 9, 167, 68, 69, 5, 208, 209, 210, 211, 212, 213, 214, 215, 216, 217, 218, 219, 220, 221, 222, 223, 224, 225, 226] (by decide +kernel) (by decide +kernel)) (goodIn_sub (fun _ h => List.mem_cons_of_mem _ (List.mem_append_right _ h)) (by decide +kernel))
set_option maxRecDepth 20000 in
theorem gX1_digest_X1_gateOf : GoodIn wsX1_digest (wsV RX1 192 RX1 yX1_gateOf wsX1_gateOf) := goodIn_app (goodIn_of _ (by decide +kernel)) ggX1_digest_X1_gateOf
set_option maxRecDepth 20000 in
theorem ggX1_digest_X1_holds : GoodIn wsX1_digest wsX1_holds := goodIn_ca (goodIn_r _ [176, 3, 164, 165, 166, 9, 167, 68, 69, 5, 177, 178, 179, 27, 180, 30, 80, 208, 209, 210, 211, 212, 213, 214, 215, 216, 217, 218, 219, 220, 221, 222, 223, 224, 225, 226] (by decide +kernel) (by decide +kernel)) (goodIn_sub (fun _ h => List.mem_cons_of_mem _ (List.mem_append_right _ h)) (by decide +kernel))
set_option maxRecDepth 20000 in
theorem gX1_digest_X1_holds : GoodIn wsX1_digest (wsV RX1 195 RX1 yX1_holds wsX1_holds) := goodIn_app (goodIn_of _ (by decide +kernel)) ggX1_digest_X1_holds
set_option maxRecDepth 20000 in
theorem ggX1_digest_X1_seemingHorns : GoodIn wsX1_digest wsX1_seemingHorns := goodIn_ca (goodIn_r _ [184, 3, 164, 165, 166, 9, 167, 68, 69, 5, 185, 105, 106, 27, 107, 108, 43, 208, 209, 210, 211, 212, 213, 214, 215, 216, 217, 218, 219, 220, 221, 222, 223, 224, 225, 226] (by decide +kernel) (by decide +kernel)) (goodIn_sub (fun _ h => List.mem_cons_of_mem _ (List.mem_append_right _ h)) (by decide +kernel))
set_option maxRecDepth 20000 in
theorem gX1_digest_X1_seemingHorns : GoodIn wsX1_digest (wsV RX1 198 RX1 yX1_seemingHorns wsX1_seemingHorns) := goodIn_app (goodIn_of _ (by decide +kernel)) ggX1_digest_X1_seemingHorns
set_option maxRecDepth 20000 in
theorem ggX1_digest_X1_minutesLeft : GoodIn wsX1_digest wsX1_minutesLeft := goodIn_ca (goodIn_r _ [189, 3, 190, 164, 165, 166, 9, 167, 68, 69, 5, 208, 209, 210, 211, 212, 213, 214, 215, 216, 217, 218, 219, 220, 221, 222, 223, 224, 225, 226] (by decide +kernel) (by decide +kernel)) (goodIn_sub (fun _ h => List.mem_cons_of_mem _ (List.mem_append_right _ h)) (by decide +kernel))
set_option maxRecDepth 20000 in
theorem gX1_digest_X1_minutesLeft : GoodIn wsX1_digest (wsV RX1 201 RX1 yX1_minutesLeft wsX1_minutesLeft) := goodIn_app (goodIn_of _ (by decide +kernel)) ggX1_digest_X1_minutesLeft
set_option maxRecDepth 20000 in
theorem ggX1_digest_X1_waitedOf : GoodIn wsX1_digest wsX1_waitedOf := goodIn_ca (goodIn_r _ [194, 3, 195, 164, 165, 166, 9, 167, 68, 69, 5, 208, 209, 210, 211, 212, 213, 214, 215, 216, 217, 218, 219, 220, 221, 222, 223, 224, 225, 226] (by decide +kernel) (by decide +kernel)) (goodIn_sub (fun _ h => List.mem_cons_of_mem _ (List.mem_append_right _ h)) (by decide +kernel))
set_option maxRecDepth 20000 in
theorem gX1_digest_X1_waitedOf : GoodIn wsX1_digest (wsV RX1 204 RX1 yX1_waitedOf wsX1_waitedOf) := goodIn_app (goodIn_of _ (by decide +kernel)) ggX1_digest_X1_waitedOf
set_option maxRecDepth 20000 in
theorem ggX1_digest_X1_placeInLine : GoodIn wsX1_digest wsX1_placeInLine := goodIn_ca (goodIn_r _ [199, 3, 163, 164, 165, 166, 9, 167, 68, 69, 5, 200, 201, 202, 27, 203, 29, 79, 102, 89, 90, 91, 92, 30, 208, 209, 210, 211, 212, 213, 214, 215, 216, 217, 218, 219, 220, 221, 222, 223, 224, 225, 226] (by decide +kernel) (by decide +kernel)) (goodIn_sub (fun _ h => List.mem_cons_of_mem _ (List.mem_append_right _ h)) (by decide +kernel))
set_option maxRecDepth 20000 in
theorem gX1_digest_X1_placeInLine : GoodIn wsX1_digest (wsV RX1 207 RX1 yX1_placeInLine wsX1_placeInLine) := goodIn_app (goodIn_of _ (by decide +kernel)) ggX1_digest_X1_placeInLine
set_option maxRecDepth 20000 in
theorem ggX1_digest_X1_minutesUntilIn : GoodIn wsX1_digest wsX1_minutesUntilIn := goodIn_ca (goodIn_r _ [207, 118, 3, 163, 164, 165, 166, 9, 167, 68, 69, 5, 120, 121, 122, 27, 123, 124, 57, 29, 125, 126, 78, 101, 58, 108, 30, 79, 80, 127, 128, 102, 43, 129, 130, 131, 132, 133, 134, 135, 136, 137, 138, 139, 140, 141, 142, 143, 144, 145, 146, 98, 99, 100, 103, 75, 76, 77, 89, 90, 91, 92, 104, 105, 106, 107, 147, 148, 149, 150, 151, 152, 153, 154, 208, 209, 210, 211, 212, 213, 214, 215, 216, 217, 218, 219, 220, 221, 222, 223, 224, 225, 226] (by decide +kernel) (by decide +kernel)) (goodIn_sub (fun _ h => List.mem_cons_of_mem _ (List.mem_append_right _ h)) (by decide +kernel))
set_option maxRecDepth 20000 in
theorem gX1_digest_X1_minutesUntilIn : GoodIn wsX1_digest (wsV RX1 210 RX1 yX1_minutesUntilIn wsX1_minutesUntilIn) := goodIn_app (goodIn_of _ (by decide +kernel)) ggX1_digest_X1_minutesUntilIn
theorem dX1_digest_0 : decode cX1_digest 0 = .ok (.ldc2_w 144, 3) := by decide +kernel
theorem dX1_digest_3 : decode cX1_digest 3 = .ok (.lstore_n 1, 1) := by decide +kernel
theorem dX1_digest_4 : decode cX1_digest 4 = .ok (.lload_n 1, 1) := by decide +kernel
theorem dX1_digest_5 : decode cX1_digest 5 = .ok (.ldc2_w 146, 3) := by decide +kernel
theorem dX1_digest_8 : decode cX1_digest 8 = .ok (.lmul, 1) := by decide +kernel
theorem dX1_digest_9 : decode cX1_digest 9 = .ok (.aload_n 0, 1) := by decide +kernel
theorem dX1_digest_10 : decode cX1_digest 10 = .ok (.invokevirtual 148, 3) := by decide +kernel
theorem dX1_digest_13 : decode cX1_digest 13 = .ok (.i2l, 1) := by decide +kernel
theorem dX1_digest_14 : decode cX1_digest 14 = .ok (.ladd, 1) := by decide +kernel
theorem dX1_digest_15 : decode cX1_digest 15 = .ok (.lstore_n 1, 1) := by decide +kernel
theorem dX1_digest_16 : decode cX1_digest 16 = .ok (.lload_n 1, 1) := by decide +kernel
theorem dX1_digest_17 : decode cX1_digest 17 = .ok (.ldc2_w 146, 3) := by decide +kernel
theorem dX1_digest_20 : decode cX1_digest 20 = .ok (.lmul, 1) := by decide +kernel
theorem dX1_digest_21 : decode cX1_digest 21 = .ok (.aload_n 0, 1) := by decide +kernel
theorem dX1_digest_22 : decode cX1_digest 22 = .ok (.invokevirtual 150, 3) := by decide +kernel
theorem dX1_digest_25 : decode cX1_digest 25 = .ok (.i2l, 1) := by decide +kernel
theorem dX1_digest_26 : decode cX1_digest 26 = .ok (.ladd, 1) := by decide +kernel
theorem dX1_digest_27 : decode cX1_digest 27 = .ok (.lstore_n 1, 1) := by decide +kernel
theorem dX1_digest_28 : decode cX1_digest 28 = .ok (.lload_n 1, 1) := by decide +kernel
theorem dX1_digest_29 : decode cX1_digest 29 = .ok (.ldc2_w 146, 3) := by decide +kernel
theorem dX1_digest_32 : decode cX1_digest 32 = .ok (.lmul, 1) := by decide +kernel
theorem dX1_digest_33 : decode cX1_digest 33 = .ok (.aload_n 0, 1) := by decide +kernel
theorem dX1_digest_34 : decode cX1_digest 34 = .ok (.invokevirtual 153, 3) := by decide +kernel
theorem dX1_digest_37 : decode cX1_digest 37 = .ok (.i2l, 1) := by decide +kernel
theorem dX1_digest_38 : decode cX1_digest 38 = .ok (.ladd, 1) := by decide +kernel
theorem dX1_digest_39 : decode cX1_digest 39 = .ok (.lstore_n 1, 1) := by decide +kernel
theorem dX1_digest_40 : decode cX1_digest 40 = .ok (.lload_n 1, 1) := by decide +kernel
theorem dX1_digest_41 : decode cX1_digest 41 = .ok (.ldc2_w 146, 3) := by decide +kernel
theorem dX1_digest_44 : decode cX1_digest 44 = .ok (.lmul, 1) := by decide +kernel
theorem dX1_digest_45 : decode cX1_digest 45 = .ok (.aload_n 0, 1) := by decide +kernel
theorem dX1_digest_46 : decode cX1_digest 46 = .ok (.invokevirtual 156, 3) := by decide +kernel
theorem dX1_digest_49 : decode cX1_digest 49 = .ok (.i2l, 1) := by decide +kernel
theorem dX1_digest_50 : decode cX1_digest 50 = .ok (.ladd, 1) := by decide +kernel
theorem dX1_digest_51 : decode cX1_digest 51 = .ok (.lstore_n 1, 1) := by decide +kernel
theorem dX1_digest_52 : decode cX1_digest 52 = .ok (.lload_n 1, 1) := by decide +kernel
theorem dX1_digest_53 : decode cX1_digest 53 = .ok (.ldc2_w 146, 3) := by decide +kernel
theorem dX1_digest_56 : decode cX1_digest 56 = .ok (.lmul, 1) := by decide +kernel
theorem dX1_digest_57 : decode cX1_digest 57 = .ok (.aload_n 0, 1) := by decide +kernel
theorem dX1_digest_58 : decode cX1_digest 58 = .ok (.invokevirtual 159, 3) := by decide +kernel
theorem dX1_digest_61 : decode cX1_digest 61 = .ok (.i2l, 1) := by decide +kernel
theorem dX1_digest_62 : decode cX1_digest 62 = .ok (.ladd, 1) := by decide +kernel
theorem dX1_digest_63 : decode cX1_digest 63 = .ok (.lstore_n 1, 1) := by decide +kernel
theorem dX1_digest_64 : decode cX1_digest 64 = .ok (.lload_n 1, 1) := by decide +kernel
theorem dX1_digest_65 : decode cX1_digest 65 = .ok (.ldc2_w 146, 3) := by decide +kernel
theorem dX1_digest_68 : decode cX1_digest 68 = .ok (.lmul, 1) := by decide +kernel
theorem dX1_digest_69 : decode cX1_digest 69 = .ok (.aload_n 0, 1) := by decide +kernel
theorem dX1_digest_70 : decode cX1_digest 70 = .ok (.invokevirtual 162, 3) := by decide +kernel
theorem dX1_digest_73 : decode cX1_digest 73 = .ok (.i2l, 1) := by decide +kernel
theorem dX1_digest_74 : decode cX1_digest 74 = .ok (.ladd, 1) := by decide +kernel
theorem dX1_digest_75 : decode cX1_digest 75 = .ok (.lstore_n 1, 1) := by decide +kernel
theorem dX1_digest_76 : decode cX1_digest 76 = .ok (.lload_n 1, 1) := by decide +kernel
theorem dX1_digest_77 : decode cX1_digest 77 = .ok (.ldc2_w 146, 3) := by decide +kernel
theorem dX1_digest_80 : decode cX1_digest 80 = .ok (.lmul, 1) := by decide +kernel
theorem dX1_digest_81 : decode cX1_digest 81 = .ok (.aload_n 0, 1) := by decide +kernel
theorem dX1_digest_82 : decode cX1_digest 82 = .ok (.invokevirtual 165, 3) := by decide +kernel
theorem dX1_digest_85 : decode cX1_digest 85 = .ok (.i2l, 1) := by decide +kernel
theorem dX1_digest_86 : decode cX1_digest 86 = .ok (.ladd, 1) := by decide +kernel
theorem dX1_digest_87 : decode cX1_digest 87 = .ok (.lstore_n 1, 1) := by decide +kernel
theorem dX1_digest_88 : decode cX1_digest 88 = .ok (.lload_n 1, 1) := by decide +kernel
theorem dX1_digest_89 : decode cX1_digest 89 = .ok (.ldc2_w 146, 3) := by decide +kernel
theorem dX1_digest_92 : decode cX1_digest 92 = .ok (.lmul, 1) := by decide +kernel
theorem dX1_digest_93 : decode cX1_digest 93 = .ok (.aload_n 0, 1) := by decide +kernel
theorem dX1_digest_94 : decode cX1_digest 94 = .ok (.invokevirtual 168, 3) := by decide +kernel
theorem dX1_digest_97 : decode cX1_digest 97 = .ok (.i2l, 1) := by decide +kernel
theorem dX1_digest_98 : decode cX1_digest 98 = .ok (.ladd, 1) := by decide +kernel
theorem dX1_digest_99 : decode cX1_digest 99 = .ok (.lstore_n 1, 1) := by decide +kernel
theorem dX1_digest_100 : decode cX1_digest 100 = .ok (.iconst 0, 1) := by decide +kernel
theorem dX1_digest_101 : decode cX1_digest 101 = .ok (.istore_n 3, 1) := by decide +kernel
theorem dX1_digest_102 : decode cX1_digest 102 = .ok (.iload_n 3, 1) := by decide +kernel
theorem dX1_digest_103 : decode cX1_digest 103 = .ok (.aload_n 0, 1) := by decide +kernel
theorem dX1_digest_104 : decode cX1_digest 104 = .ok (.getfield 10, 3) := by decide +kernel
theorem dX1_digest_107 : decode cX1_digest 107 = .ok (.getfield 30, 3) := by decide +kernel
theorem dX1_digest_110 : decode cX1_digest 110 = .ok (.if_icmp .ge 87, 3) := by decide +kernel
theorem dX1_digest_113 : decode cX1_digest 113 = .ok (.lload_n 1, 1) := by decide +kernel
theorem dX1_digest_114 : decode cX1_digest 114 = .ok (.ldc2_w 146, 3) := by decide +kernel
theorem dX1_digest_117 : decode cX1_digest 117 = .ok (.lmul, 1) := by decide +kernel
theorem dX1_digest_118 : decode cX1_digest 118 = .ok (.aload_n 0, 1) := by decide +kernel
theorem dX1_digest_119 : decode cX1_digest 119 = .ok (.iload_n 3, 1) := by decide +kernel
theorem dX1_digest_120 : decode cX1_digest 120 = .ok (.invokevirtual 171, 3) := by decide +kernel
theorem dX1_digest_123 : decode cX1_digest 123 = .ok (.i2l, 1) := by decide +kernel
theorem dX1_digest_124 : decode cX1_digest 124 = .ok (.ladd, 1) := by decide +kernel
theorem dX1_digest_125 : decode cX1_digest 125 = .ok (.lstore_n 1, 1) := by decide +kernel
theorem dX1_digest_126 : decode cX1_digest 126 = .ok (.lload_n 1, 1) := by decide +kernel
theorem dX1_digest_127 : decode cX1_digest 127 = .ok (.ldc2_w 146, 3) := by decide +kernel
theorem dX1_digest_130 : decode cX1_digest 130 = .ok (.lmul, 1) := by decide +kernel
theorem dX1_digest_131 : decode cX1_digest 131 = .ok (.aload_n 0, 1) := by decide +kernel
theorem dX1_digest_132 : decode cX1_digest 132 = .ok (.iload_n 3, 1) := by decide +kernel
theorem dX1_digest_133 : decode cX1_digest 133 = .ok (.invokevirtual 174, 3) := by decide +kernel
theorem dX1_digest_136 : decode cX1_digest 136 = .ok (.i2l, 1) := by decide +kernel
theorem dX1_digest_137 : decode cX1_digest 137 = .ok (.ladd, 1) := by decide +kernel
theorem dX1_digest_138 : decode cX1_digest 138 = .ok (.lstore_n 1, 1) := by decide +kernel
theorem dX1_digest_139 : decode cX1_digest 139 = .ok (.lload_n 1, 1) := by decide +kernel
theorem dX1_digest_140 : decode cX1_digest 140 = .ok (.ldc2_w 146, 3) := by decide +kernel
theorem dX1_digest_143 : decode cX1_digest 143 = .ok (.lmul, 1) := by decide +kernel
theorem dX1_digest_144 : decode cX1_digest 144 = .ok (.aload_n 0, 1) := by decide +kernel
theorem dX1_digest_145 : decode cX1_digest 145 = .ok (.iload_n 3, 1) := by decide +kernel
theorem dX1_digest_146 : decode cX1_digest 146 = .ok (.invokevirtual 177, 3) := by decide +kernel
theorem dX1_digest_149 : decode cX1_digest 149 = .ok (.i2l, 1) := by decide +kernel
theorem dX1_digest_150 : decode cX1_digest 150 = .ok (.ladd, 1) := by decide +kernel
theorem dX1_digest_151 : decode cX1_digest 151 = .ok (.lstore_n 1, 1) := by decide +kernel
theorem dX1_digest_152 : decode cX1_digest 152 = .ok (.lload_n 1, 1) := by decide +kernel
theorem dX1_digest_153 : decode cX1_digest 153 = .ok (.ldc2_w 146, 3) := by decide +kernel
theorem dX1_digest_156 : decode cX1_digest 156 = .ok (.lmul, 1) := by decide +kernel
theorem dX1_digest_157 : decode cX1_digest 157 = .ok (.aload_n 0, 1) := by decide +kernel
theorem dX1_digest_158 : decode cX1_digest 158 = .ok (.iload_n 3, 1) := by decide +kernel
theorem dX1_digest_159 : decode cX1_digest 159 = .ok (.invokevirtual 180, 3) := by decide +kernel
theorem dX1_digest_162 : decode cX1_digest 162 = .ok (.i2l, 1) := by decide +kernel
theorem dX1_digest_163 : decode cX1_digest 163 = .ok (.ladd, 1) := by decide +kernel
theorem dX1_digest_164 : decode cX1_digest 164 = .ok (.lstore_n 1, 1) := by decide +kernel
theorem dX1_digest_165 : decode cX1_digest 165 = .ok (.lload_n 1, 1) := by decide +kernel
theorem dX1_digest_166 : decode cX1_digest 166 = .ok (.ldc2_w 146, 3) := by decide +kernel
theorem dX1_digest_169 : decode cX1_digest 169 = .ok (.lmul, 1) := by decide +kernel
theorem dX1_digest_170 : decode cX1_digest 170 = .ok (.aload_n 0, 1) := by decide +kernel
theorem dX1_digest_171 : decode cX1_digest 171 = .ok (.iload_n 3, 1) := by decide +kernel
theorem dX1_digest_172 : decode cX1_digest 172 = .ok (.invokevirtual 183, 3) := by decide +kernel
theorem dX1_digest_175 : decode cX1_digest 175 = .ok (.i2l, 1) := by decide +kernel
theorem dX1_digest_176 : decode cX1_digest 176 = .ok (.ladd, 1) := by decide +kernel
theorem dX1_digest_177 : decode cX1_digest 177 = .ok (.lstore_n 1, 1) := by decide +kernel
theorem dX1_digest_178 : decode cX1_digest 178 = .ok (.lload_n 1, 1) := by decide +kernel
theorem dX1_digest_179 : decode cX1_digest 179 = .ok (.ldc2_w 146, 3) := by decide +kernel
theorem dX1_digest_182 : decode cX1_digest 182 = .ok (.lmul, 1) := by decide +kernel
theorem dX1_digest_183 : decode cX1_digest 183 = .ok (.aload_n 0, 1) := by decide +kernel
theorem dX1_digest_184 : decode cX1_digest 184 = .ok (.iload_n 3, 1) := by decide +kernel
theorem dX1_digest_185 : decode cX1_digest 185 = .ok (.invokevirtual 186, 3) := by decide +kernel
theorem dX1_digest_188 : decode cX1_digest 188 = .ok (.i2l, 1) := by decide +kernel
theorem dX1_digest_189 : decode cX1_digest 189 = .ok (.ladd, 1) := by decide +kernel
theorem dX1_digest_190 : decode cX1_digest 190 = .ok (.lstore_n 1, 1) := by decide +kernel
theorem dX1_digest_191 : decode cX1_digest 191 = .ok (.iinc 3 1, 3) := by decide +kernel
theorem dX1_digest_194 : decode cX1_digest 194 = .ok (.goto (-92), 3) := by decide +kernel
theorem dX1_digest_197 : decode cX1_digest 197 = .ok (.iconst 0, 1) := by decide +kernel
theorem dX1_digest_198 : decode cX1_digest 198 = .ok (.istore_n 3, 1) := by decide +kernel
theorem dX1_digest_199 : decode cX1_digest 199 = .ok (.iload_n 3, 1) := by decide +kernel
theorem dX1_digest_200 : decode cX1_digest 200 = .ok (.aload_n 0, 1) := by decide +kernel
theorem dX1_digest_201 : decode cX1_digest 201 = .ok (.getfield 10, 3) := by decide +kernel
theorem dX1_digest_204 : decode cX1_digest 204 = .ok (.getfield 43, 3) := by decide +kernel
theorem dX1_digest_207 : decode cX1_digest 207 = .ok (.if_icmp .ge 113, 3) := by decide +kernel
theorem dX1_digest_210 : decode cX1_digest 210 = .ok (.lload_n 1, 1) := by decide +kernel
theorem dX1_digest_211 : decode cX1_digest 211 = .ok (.ldc2_w 146, 3) := by decide +kernel
theorem dX1_digest_214 : decode cX1_digest 214 = .ok (.lmul, 1) := by decide +kernel
theorem dX1_digest_215 : decode cX1_digest 215 = .ok (.aload_n 0, 1) := by decide +kernel
theorem dX1_digest_216 : decode cX1_digest 216 = .ok (.iload_n 3, 1) := by decide +kernel
theorem dX1_digest_217 : decode cX1_digest 217 = .ok (.invokevirtual 189, 3) := by decide +kernel
theorem dX1_digest_220 : decode cX1_digest 220 = .ok (.i2l, 1) := by decide +kernel
theorem dX1_digest_221 : decode cX1_digest 221 = .ok (.ladd, 1) := by decide +kernel
theorem dX1_digest_222 : decode cX1_digest 222 = .ok (.lstore_n 1, 1) := by decide +kernel
theorem dX1_digest_223 : decode cX1_digest 223 = .ok (.lload_n 1, 1) := by decide +kernel
theorem dX1_digest_224 : decode cX1_digest 224 = .ok (.ldc2_w 146, 3) := by decide +kernel
theorem dX1_digest_227 : decode cX1_digest 227 = .ok (.lmul, 1) := by decide +kernel
theorem dX1_digest_228 : decode cX1_digest 228 = .ok (.aload_n 0, 1) := by decide +kernel
theorem dX1_digest_229 : decode cX1_digest 229 = .ok (.iload_n 3, 1) := by decide +kernel
theorem dX1_digest_230 : decode cX1_digest 230 = .ok (.invokevirtual 192, 3) := by decide +kernel
theorem dX1_digest_233 : decode cX1_digest 233 = .ok (.i2l, 1) := by decide +kernel
theorem dX1_digest_234 : decode cX1_digest 234 = .ok (.ladd, 1) := by decide +kernel
theorem dX1_digest_235 : decode cX1_digest 235 = .ok (.lstore_n 1, 1) := by decide +kernel
theorem dX1_digest_236 : decode cX1_digest 236 = .ok (.lload_n 1, 1) := by decide +kernel
theorem dX1_digest_237 : decode cX1_digest 237 = .ok (.ldc2_w 146, 3) := by decide +kernel
theorem dX1_digest_240 : decode cX1_digest 240 = .ok (.lmul, 1) := by decide +kernel
theorem dX1_digest_241 : decode cX1_digest 241 = .ok (.aload_n 0, 1) := by decide +kernel
theorem dX1_digest_242 : decode cX1_digest 242 = .ok (.iload_n 3, 1) := by decide +kernel
theorem dX1_digest_243 : decode cX1_digest 243 = .ok (.invokevirtual 195, 3) := by decide +kernel
theorem dX1_digest_246 : decode cX1_digest 246 = .ok (.i2l, 1) := by decide +kernel
theorem dX1_digest_247 : decode cX1_digest 247 = .ok (.ladd, 1) := by decide +kernel
theorem dX1_digest_248 : decode cX1_digest 248 = .ok (.lstore_n 1, 1) := by decide +kernel
theorem dX1_digest_249 : decode cX1_digest 249 = .ok (.lload_n 1, 1) := by decide +kernel
theorem dX1_digest_250 : decode cX1_digest 250 = .ok (.ldc2_w 146, 3) := by decide +kernel
theorem dX1_digest_253 : decode cX1_digest 253 = .ok (.lmul, 1) := by decide +kernel
theorem dX1_digest_254 : decode cX1_digest 254 = .ok (.aload_n 0, 1) := by decide +kernel
theorem dX1_digest_255 : decode cX1_digest 255 = .ok (.iload_n 3, 1) := by decide +kernel
theorem dX1_digest_256 : decode cX1_digest 256 = .ok (.invokevirtual 198, 3) := by decide +kernel
theorem dX1_digest_259 : decode cX1_digest 259 = .ok (.i2l, 1) := by decide +kernel
theorem dX1_digest_260 : decode cX1_digest 260 = .ok (.ladd, 1) := by decide +kernel
theorem dX1_digest_261 : decode cX1_digest 261 = .ok (.lstore_n 1, 1) := by decide +kernel
theorem dX1_digest_262 : decode cX1_digest 262 = .ok (.lload_n 1, 1) := by decide +kernel
theorem dX1_digest_263 : decode cX1_digest 263 = .ok (.ldc2_w 146, 3) := by decide +kernel
theorem dX1_digest_266 : decode cX1_digest 266 = .ok (.lmul, 1) := by decide +kernel
theorem dX1_digest_267 : decode cX1_digest 267 = .ok (.aload_n 0, 1) := by decide +kernel
theorem dX1_digest_268 : decode cX1_digest 268 = .ok (.iload_n 3, 1) := by decide +kernel
theorem dX1_digest_269 : decode cX1_digest 269 = .ok (.invokevirtual 201, 3) := by decide +kernel
theorem dX1_digest_272 : decode cX1_digest 272 = .ok (.i2l, 1) := by decide +kernel
theorem dX1_digest_273 : decode cX1_digest 273 = .ok (.ladd, 1) := by decide +kernel
theorem dX1_digest_274 : decode cX1_digest 274 = .ok (.lstore_n 1, 1) := by decide +kernel
theorem dX1_digest_275 : decode cX1_digest 275 = .ok (.lload_n 1, 1) := by decide +kernel
theorem dX1_digest_276 : decode cX1_digest 276 = .ok (.ldc2_w 146, 3) := by decide +kernel
theorem dX1_digest_279 : decode cX1_digest 279 = .ok (.lmul, 1) := by decide +kernel
theorem dX1_digest_280 : decode cX1_digest 280 = .ok (.aload_n 0, 1) := by decide +kernel
theorem dX1_digest_281 : decode cX1_digest 281 = .ok (.iload_n 3, 1) := by decide +kernel
theorem dX1_digest_282 : decode cX1_digest 282 = .ok (.invokevirtual 204, 3) := by decide +kernel
theorem dX1_digest_285 : decode cX1_digest 285 = .ok (.i2l, 1) := by decide +kernel
theorem dX1_digest_286 : decode cX1_digest 286 = .ok (.ladd, 1) := by decide +kernel
theorem dX1_digest_287 : decode cX1_digest 287 = .ok (.lstore_n 1, 1) := by decide +kernel
theorem dX1_digest_288 : decode cX1_digest 288 = .ok (.lload_n 1, 1) := by decide +kernel
theorem dX1_digest_289 : decode cX1_digest 289 = .ok (.ldc2_w 146, 3) := by decide +kernel
theorem dX1_digest_292 : decode cX1_digest 292 = .ok (.lmul, 1) := by decide +kernel
theorem dX1_digest_293 : decode cX1_digest 293 = .ok (.aload_n 0, 1) := by decide +kernel
theorem dX1_digest_294 : decode cX1_digest 294 = .ok (.iload_n 3, 1) := by decide +kernel
theorem dX1_digest_295 : decode cX1_digest 295 = .ok (.invokevirtual 207, 3) := by decide +kernel
theorem dX1_digest_298 : decode cX1_digest 298 = .ok (.i2l, 1) := by decide +kernel
theorem dX1_digest_299 : decode cX1_digest 299 = .ok (.ladd, 1) := by decide +kernel
theorem dX1_digest_300 : decode cX1_digest 300 = .ok (.lstore_n 1, 1) := by decide +kernel
theorem dX1_digest_301 : decode cX1_digest 301 = .ok (.lload_n 1, 1) := by decide +kernel
theorem dX1_digest_302 : decode cX1_digest 302 = .ok (.ldc2_w 146, 3) := by decide +kernel
theorem dX1_digest_305 : decode cX1_digest 305 = .ok (.lmul, 1) := by decide +kernel
theorem dX1_digest_306 : decode cX1_digest 306 = .ok (.aload_n 0, 1) := by decide +kernel
theorem dX1_digest_307 : decode cX1_digest 307 = .ok (.iload_n 3, 1) := by decide +kernel
theorem dX1_digest_308 : decode cX1_digest 308 = .ok (.invokevirtual 210, 3) := by decide +kernel
theorem dX1_digest_311 : decode cX1_digest 311 = .ok (.i2l, 1) := by decide +kernel
theorem dX1_digest_312 : decode cX1_digest 312 = .ok (.ladd, 1) := by decide +kernel
theorem dX1_digest_313 : decode cX1_digest 313 = .ok (.lstore_n 1, 1) := by decide +kernel
theorem dX1_digest_314 : decode cX1_digest 314 = .ok (.iinc 3 1, 3) := by decide +kernel
theorem dX1_digest_317 : decode cX1_digest 317 = .ok (.goto (-118), 3) := by decide +kernel
theorem dX1_digest_320 : decode cX1_digest 320 = .ok (.lload_n 1, 1) := by decide +kernel
theorem dX1_digest_321 : decode cX1_digest 321 = .ok (.lreturn, 1) := by decide +kernel
set_option maxRecDepth 20000 in
theorem ggX1_givingUpWith_X0_become : GoodIn wsX1_givingUpWith wsX0_become := goodIn_r _ [10, 11, 12, 13, 14, 15, 16, 17, 18, 19, 20, 21, 22, 23, 24, 25, 26, 27, 74, 75, 76, 77, 78, 79, 80, 81, 82, 83, 84, 85, 86, 87, 88, 89, 90] (by decide +kernel) (by decide +kernel)
set_option maxRecDepth 20000 in
theorem gX1_givingUpWith_X0_become : GoodIn wsX1_givingUpWith (wsV RX1 130 RX0 yX0_become wsX0_become) := goodIn_app (goodIn_of _ (by decide +kernel)) ggX1_givingUpWith_X0_become
set_option maxRecDepth 20000 in
theorem ggX1_givingUpWith_X0_countWaitingAt : GoodIn wsX1_givingUpWith wsX0_countWaitingAt := goodIn_r _ [31, 13, 32, 33, 34, 9, 35, 20, 21, 74, 75, 76, 77, 78, 79, 80, 81, 82, 83, 84, 85, 86, 87, 88, 89, 90] (by decide +kernel) (by decide +kernel)
set_option maxRecDepth 20000 in
theorem gX1_givingUpWith_X0_countWaitingAt : GoodIn wsX1_givingUpWith (wsV RX1 70 RX0 yX0_countWaitingAt wsX0_countWaitingAt) := goodIn_app (goodIn_of _ (by decide +kernel)) ggX1_givingUpWith_X0_countWaitingAt
set_option maxRecDepth 20000 in
theorem ggX1_givingUpWith_X0_liveAMinute : GoodIn wsX1_givingUpWith wsX0_liveAMinute := goodIn_r _ [39, 12, 11, 40, 41, 42, 9, 43, 13, 20, 24, 44, 45, 46, 47, 21, 26, 48, 49, 50, 51, 22, 23, 15, 52, 53, 54, 55, 17, 25, 56, 57, 58, 59, 16, 32, 33, 34, 35, 60, 61, 62, 63, 19, 64, 65, 66, 67, 68, 69, 70, 71, 27, 18, 74, 75, 76, 77, 78, 79, 80, 81, 82, 83, 84, 85, 86, 87, 88, 89, 90] (by decide +kernel) (by decide +kernel)
set_option maxRecDepth 20000 in
theorem gX1_givingUpWith_X0_liveAMinute : GoodIn wsX1_givingUpWith (wsV RX1 96 RX0 yX0_liveAMinute wsX0_liveAMinute) := goodIn_app (goodIn_of _ (by decide +kernel)) ggX1_givingUpWith_X0_liveAMinute
theorem dX1_givingUpWith_0 : decode cX1_givingUpWith 0 = .ok (.aload_n 0, 1) := by decide +kernel
theorem dX1_givingUpWith_1 : decode cX1_givingUpWith 1 = .ok (.getfield 16, 3) := by decide +kernel
theorem dX1_givingUpWith_4 : decode cX1_givingUpWith 4 = .ok (.aload_n 0, 1) := by decide +kernel
theorem dX1_givingUpWith_5 : decode cX1_givingUpWith 5 = .ok (.getfield 10, 3) := by decide +kernel
theorem dX1_givingUpWith_8 : decode cX1_givingUpWith 8 = .ok (.invokevirtual 130, 3) := by decide +kernel
theorem dX1_givingUpWith_11 : decode cX1_givingUpWith 11 = .ok (.aload_n 0, 1) := by decide +kernel
theorem dX1_givingUpWith_12 : decode cX1_givingUpWith 12 = .ok (.getfield 16, 3) := by decide +kernel
theorem dX1_givingUpWith_15 : decode cX1_givingUpWith 15 = .ok (.getfield 59, 3) := by decide +kernel
theorem dX1_givingUpWith_18 : decode cX1_givingUpWith 18 = .ok (.iload_n 1, 1) := by decide +kernel
theorem dX1_givingUpWith_19 : decode cX1_givingUpWith 19 = .ok (.iload_n 2, 1) := by decide +kernel
theorem dX1_givingUpWith_20 : decode cX1_givingUpWith 20 = .ok (.iastore, 1) := by decide +kernel
theorem dX1_givingUpWith_21 : decode cX1_givingUpWith 21 = .ok (.aload_n 0, 1) := by decide +kernel
theorem dX1_givingUpWith_22 : decode cX1_givingUpWith 22 = .ok (.getfield 16, 3) := by decide +kernel
theorem dX1_givingUpWith_25 : decode cX1_givingUpWith 25 = .ok (.getfield 134, 3) := by decide +kernel
theorem dX1_givingUpWith_28 : decode cX1_givingUpWith 28 = .ok (.iload_n 1, 1) := by decide +kernel
theorem dX1_givingUpWith_29 : decode cX1_givingUpWith 29 = .ok (.iload_n 3, 1) := by decide +kernel
theorem dX1_givingUpWith_30 : decode cX1_givingUpWith 30 = .ok (.iastore, 1) := by decide +kernel
theorem dX1_givingUpWith_31 : decode cX1_givingUpWith 31 = .ok (.iconst 0, 1) := by decide +kernel
theorem dX1_givingUpWith_32 : decode cX1_givingUpWith 32 = .ok (.istore 4, 2) := by decide +kernel
theorem dX1_givingUpWith_34 : decode cX1_givingUpWith 34 = .ok (.iload 4, 2) := by decide +kernel
theorem dX1_givingUpWith_36 : decode cX1_givingUpWith 36 = .ok (.bipush 60, 2) := by decide +kernel
theorem dX1_givingUpWith_38 : decode cX1_givingUpWith 38 = .ok (.if_icmp .ge 27, 3) := by decide +kernel
theorem dX1_givingUpWith_41 : decode cX1_givingUpWith 41 = .ok (.aload_n 0, 1) := by decide +kernel
theorem dX1_givingUpWith_42 : decode cX1_givingUpWith 42 = .ok (.getfield 16, 3) := by decide +kernel
theorem dX1_givingUpWith_45 : decode cX1_givingUpWith 45 = .ok (.iload_n 1, 1) := by decide +kernel
theorem dX1_givingUpWith_46 : decode cX1_givingUpWith 46 = .ok (.invokevirtual 70, 3) := by decide +kernel
theorem dX1_givingUpWith_49 : decode cX1_givingUpWith 49 = .ok (.ifCond .le 16, 3) := by decide +kernel
theorem dX1_givingUpWith_52 : decode cX1_givingUpWith 52 = .ok (.aload_n 0, 1) := by decide +kernel
theorem dX1_givingUpWith_53 : decode cX1_givingUpWith 53 = .ok (.getfield 16, 3) := by decide +kernel
theorem dX1_givingUpWith_56 : decode cX1_givingUpWith 56 = .ok (.invokevirtual 96, 3) := by decide +kernel
theorem dX1_givingUpWith_59 : decode cX1_givingUpWith 59 = .ok (.iinc 4 1, 3) := by decide +kernel
theorem dX1_givingUpWith_62 : decode cX1_givingUpWith 62 = .ok (.goto (-28), 3) := by decide +kernel
theorem dX1_givingUpWith_65 : decode cX1_givingUpWith 65 = .ok (.aload_n 0, 1) := by decide +kernel
theorem dX1_givingUpWith_66 : decode cX1_givingUpWith 66 = .ok (.getfield 16, 3) := by decide +kernel
theorem dX1_givingUpWith_69 : decode cX1_givingUpWith 69 = .ok (.getfield 213, 3) := by decide +kernel
theorem dX1_givingUpWith_72 : decode cX1_givingUpWith 72 = .ok (.iload_n 1, 1) := by decide +kernel
theorem dX1_givingUpWith_73 : decode cX1_givingUpWith 73 = .ok (.iaload, 1) := by decide +kernel
theorem dX1_givingUpWith_74 : decode cX1_givingUpWith 74 = .ok (.aload_n 0, 1) := by decide +kernel
theorem dX1_givingUpWith_75 : decode cX1_givingUpWith 75 = .ok (.getfield 10, 3) := by decide +kernel
theorem dX1_givingUpWith_78 : decode cX1_givingUpWith 78 = .ok (.getfield 213, 3) := by decide +kernel
theorem dX1_givingUpWith_81 : decode cX1_givingUpWith 81 = .ok (.iload_n 1, 1) := by decide +kernel
theorem dX1_givingUpWith_82 : decode cX1_givingUpWith 82 = .ok (.iaload, 1) := by decide +kernel
theorem dX1_givingUpWith_83 : decode cX1_givingUpWith 83 = .ok (.isub, 1) := by decide +kernel
theorem dX1_givingUpWith_84 : decode cX1_givingUpWith 84 = .ok (.ireturn, 1) := by decide +kernel
theorem dX1_checkGate_0 : decode cX1_checkGate 0 = .ok (.iload_n 1, 1) := by decide +kernel
theorem dX1_checkGate_1 : decode cX1_checkGate 1 = .ok (.ifCond .lt 14, 3) := by decide +kernel
theorem dX1_checkGate_4 : decode cX1_checkGate 4 = .ok (.iload_n 1, 1) := by decide +kernel
theorem dX1_checkGate_5 : decode cX1_checkGate 5 = .ok (.aload_n 0, 1) := by decide +kernel
theorem dX1_checkGate_6 : decode cX1_checkGate 6 = .ok (.getfield 10, 3) := by decide +kernel
theorem dX1_checkGate_9 : decode cX1_checkGate 9 = .ok (.getfield 30, 3) := by decide +kernel
theorem dX1_checkGate_12 : decode cX1_checkGate 12 = .ok (.if_icmp .lt 13, 3) := by decide +kernel
theorem dX1_checkGate_15 : decode cX1_checkGate 15 = .ok (.new 216, 3) := by decide +kernel
theorem dX1_checkGate_18 : decode cX1_checkGate 18 = .ok (.dup, 1) := by decide +kernel
theorem dX1_checkGate_19 : decode cX1_checkGate 19 = .ok (.ldc 218, 2) := by decide +kernel
theorem dX1_checkGate_21 : decode cX1_checkGate 21 = .ok (.invokespecial 220, 3) := by decide +kernel
theorem dX1_checkGate_24 : decode cX1_checkGate 24 = .ok (.athrow, 1) := by decide +kernel
theorem dX1_checkGate_25 : decode cX1_checkGate 25 = .ok (.return_, 1) := by decide +kernel
theorem dX1_checkGoat_0 : decode cX1_checkGoat 0 = .ok (.iload_n 1, 1) := by decide +kernel
theorem dX1_checkGoat_1 : decode cX1_checkGoat 1 = .ok (.ifCond .lt 14, 3) := by decide +kernel
theorem dX1_checkGoat_4 : decode cX1_checkGoat 4 = .ok (.iload_n 1, 1) := by decide +kernel
theorem dX1_checkGoat_5 : decode cX1_checkGoat 5 = .ok (.aload_n 0, 1) := by decide +kernel
theorem dX1_checkGoat_6 : decode cX1_checkGoat 6 = .ok (.getfield 10, 3) := by decide +kernel
theorem dX1_checkGoat_9 : decode cX1_checkGoat 9 = .ok (.getfield 43, 3) := by decide +kernel
theorem dX1_checkGoat_12 : decode cX1_checkGoat 12 = .ok (.if_icmp .lt 13, 3) := by decide +kernel
theorem dX1_checkGoat_15 : decode cX1_checkGoat 15 = .ok (.new 216, 3) := by decide +kernel
theorem dX1_checkGoat_18 : decode cX1_checkGoat 18 = .ok (.dup, 1) := by decide +kernel
theorem dX1_checkGoat_19 : decode cX1_checkGoat 19 = .ok (.ldc 221, 2) := by decide +kernel
theorem dX1_checkGoat_21 : decode cX1_checkGoat 21 = .ok (.invokespecial 220, 3) := by decide +kernel
theorem dX1_checkGoat_24 : decode cX1_checkGoat 24 = .ok (.athrow, 1) := by decide +kernel
theorem dX1_checkGoat_25 : decode cX1_checkGoat 25 = .ok (.return_, 1) := by decide +kernel
theorem dX1_checkIdle_0 : decode cX1_checkIdle 0 = .ok (.aload_n 0, 1) := by decide +kernel
theorem dX1_checkIdle_1 : decode cX1_checkIdle 1 = .ok (.getfield 10, 3) := by decide +kernel
theorem dX1_checkIdle_4 : decode cX1_checkIdle 4 = .ok (.getfield 82, 3) := by decide +kernel
theorem dX1_checkIdle_7 : decode cX1_checkIdle 7 = .ok (.iload_n 1, 1) := by decide +kernel
theorem dX1_checkIdle_8 : decode cX1_checkIdle 8 = .ok (.iaload, 1) := by decide +kernel
theorem dX1_checkIdle_9 : decode cX1_checkIdle 9 = .ok (.ifCond .eq 13, 3) := by decide +kernel
theorem dX1_checkIdle_12 : decode cX1_checkIdle 12 = .ok (.new 34, 3) := by decide +kernel
theorem dX1_checkIdle_15 : decode cX1_checkIdle 15 = .ok (.dup, 1) := by decide +kernel
theorem dX1_checkIdle_16 : decode cX1_checkIdle 16 = .ok (.ldc 223, 2) := by decide +kernel
theorem dX1_checkIdle_18 : decode cX1_checkIdle 18 = .ok (.invokespecial 38, 3) := by decide +kernel
theorem dX1_checkIdle_21 : decode cX1_checkIdle 21 = .ok (.athrow, 1) := by decide +kernel
theorem dX1_checkIdle_22 : decode cX1_checkIdle 22 = .ok (.return_, 1) := by decide +kernel
theorem dX1_checkNumber_0 : decode cX1_checkNumber 0 = .ok (.iload_n 0, 1) := by decide +kernel
theorem dX1_checkNumber_1 : decode cX1_checkNumber 1 = .ok (.iconst 1, 1) := by decide +kernel
theorem dX1_checkNumber_2 : decode cX1_checkNumber 2 = .ok (.if_icmp .lt 8, 3) := by decide +kernel
theorem dX1_checkNumber_5 : decode cX1_checkNumber 5 = .ok (.iload_n 0, 1) := by decide +kernel
theorem dX1_checkNumber_6 : decode cX1_checkNumber 6 = .ok (.iload_n 1, 1) := by decide +kernel
theorem dX1_checkNumber_7 : decode cX1_checkNumber 7 = .ok (.if_icmp .le 13, 3) := by decide +kernel
theorem dX1_checkNumber_10 : decode cX1_checkNumber 10 = .ok (.new 23, 3) := by decide +kernel
theorem dX1_checkNumber_13 : decode cX1_checkNumber 13 = .ok (.dup, 1) := by decide +kernel
theorem dX1_checkNumber_14 : decode cX1_checkNumber 14 = .ok (.ldc 225, 2) := by decide +kernel
theorem dX1_checkNumber_16 : decode cX1_checkNumber 16 = .ok (.invokespecial 27, 3) := by decide +kernel
theorem dX1_checkNumber_19 : decode cX1_checkNumber 19 = .ok (.athrow, 1) := by decide +kernel
theorem dX1_checkNumber_20 : decode cX1_checkNumber 20 = .ok (.return_, 1) := by decide +kernel
