theorem dL_addGate_0 : decode cL_addGate 0 = .ok (.aload_n 3, 1) := by decide +kernel
theorem dL_addGate_1 : decode cL_addGate 1 = .ok (.iconst 0, 1) := by decide +kernel
theorem dL_addGate_2 : decode cL_addGate 2 = .ok (.aload_n 0, 1) := by decide +kernel
theorem dL_addGate_3 : decode cL_addGate 3 = .ok (.iload_n 1, 1) := by decide +kernel
theorem dL_addGate_4 : decode cL_addGate 4 = .ok (.iload_n 2, 1) := by decide +kernel
theorem dL_addGate_5 : decode cL_addGate 5 = .ok (.invokevirtual 7, 3) := by decide +kernel
theorem dL_addGate_8 : decode cL_addGate 8 = .ok (.i2l, 1) := by decide +kernel
theorem dL_addGate_9 : decode cL_addGate 9 = .ok (.lastore, 1) := by decide +kernel
theorem dL_addGate_10 : decode cL_addGate 10 = .ok (.goto 11, 3) := by decide +kernel
theorem dL_addGate_13 : decode cL_addGate 13 = .ok (.astore 4, 2) := by decide +kernel
theorem dL_addGate_15 : decode cL_addGate 15 = .ok (.iconst 1, 1) := by decide +kernel
theorem dL_addGate_16 : decode cL_addGate 16 = .ok (.ireturn, 1) := by decide +kernel
theorem dL_addGate_17 : decode cL_addGate 17 = .ok (.astore 4, 2) := by decide +kernel
theorem dL_addGate_19 : decode cL_addGate 19 = .ok (.iconst 2, 1) := by decide +kernel
theorem dL_addGate_20 : decode cL_addGate 20 = .ok (.ireturn, 1) := by decide +kernel
theorem dL_addGate_21 : decode cL_addGate 21 = .ok (.iconst 0, 1) := by decide +kernel
theorem dL_addGate_22 : decode cL_addGate 22 = .ok (.ireturn, 1) := by decide +kernel
set_option maxRecDepth 20000 in
theorem ggL_addGoat_X1_addGoat : GoodIn wsL_addGoat wsX1_addGoat := goodIn_ca (goodIn_ca (goodIn_r _ [7, 8, 9, 10, 11, 12, 13, 6, 14, 15, 16, 17, 18, 19, 20, 21, 22, 23, 24, 25, 26, 27, 28, 29, 30, 31, 32, 33, 34, 35, 36, 37, 38, 39, 40, 41, 42, 43, 44, 45, 46, 47, 48, 49, 50] (by decide +kernel) (by decide +kernel)) (goodIn_sub (fun _ h => List.mem_cons_of_mem _ (List.mem_append_left _ (List.mem_append_right _ h))) (by decide +kernel))) (goodIn_sub (fun _ h => List.mem_cons_of_mem _ (List.mem_append_right _ h)) (by decide +kernel))
set_option maxRecDepth 20000 in
theorem gL_addGoat_X1_addGoat : GoodIn wsL_addGoat (wsV RL 17 RX1 yX1_addGoat wsX1_addGoat) := goodIn_app (goodIn_of _ (by decide +kernel)) ggL_addGoat_X1_addGoat
theorem dL_addGoat_0 : decode cL_addGoat 0 = .ok (.aload_n 2, 1) := by decide +kernel
theorem dL_addGoat_1 : decode cL_addGoat 1 = .ok (.iconst 0, 1) := by decide +kernel
theorem dL_addGoat_2 : decode cL_addGoat 2 = .ok (.aload_n 0, 1) := by decide +kernel
theorem dL_addGoat_3 : decode cL_addGoat 3 = .ok (.iload_n 1, 1) := by decide +kernel
theorem dL_addGoat_4 : decode cL_addGoat 4 = .ok (.invokevirtual 17, 3) := by decide +kernel
theorem dL_addGoat_7 : decode cL_addGoat 7 = .ok (.i2l, 1) := by decide +kernel
theorem dL_addGoat_8 : decode cL_addGoat 8 = .ok (.lastore, 1) := by decide +kernel
theorem dL_addGoat_9 : decode cL_addGoat 9 = .ok (.goto 9, 3) := by decide +kernel
theorem dL_addGoat_12 : decode cL_addGoat 12 = .ok (.astore_n 3, 1) := by decide +kernel
theorem dL_addGoat_13 : decode cL_addGoat 13 = .ok (.iconst 1, 1) := by decide +kernel
theorem dL_addGoat_14 : decode cL_addGoat 14 = .ok (.ireturn, 1) := by decide +kernel
theorem dL_addGoat_15 : decode cL_addGoat 15 = .ok (.astore_n 3, 1) := by decide +kernel
theorem dL_addGoat_16 : decode cL_addGoat 16 = .ok (.iconst 2, 1) := by decide +kernel
theorem dL_addGoat_17 : decode cL_addGoat 17 = .ok (.ireturn, 1) := by decide +kernel
theorem dL_addGoat_18 : decode cL_addGoat 18 = .ok (.iconst 0, 1) := by decide +kernel
theorem dL_addGoat_19 : decode cL_addGoat 19 = .ok (.ireturn, 1) := by decide +kernel
set_option maxRecDepth 20000 in
theorem ggL_ask_X1_ask : GoodIn wsL_ask wsX1_ask := goodIn_ca (goodIn_ca (goodIn_ca (goodIn_r _ [8, 9, 10, 11, 12, 13, 7, 14, 15, 16, 17, 18, 19, 20, 21, 22, 23, 24, 25, 26, 27, 28, 29, 30, 31, 32, 33, 34, 35, 36, 37, 38, 39, 40, 41, 42, 43, 44, 45, 46, 47, 48, 49, 50, 51, 52, 53, 54, 55, 56, 57, 58, 59, 60, 61, 62, 63, 64, 65, 66, 67, 68, 69, 70, 71, 72, 73, 74] (by decide +kernel) (by decide +kernel)) (goodIn_sub (fun _ h => List.mem_cons_of_mem _ (List.mem_append_left _ (List.mem_append_left _ (List.mem_append_right _ h)))) (by decide +kernel))) (goodIn_sub (fun _ h => List.mem_cons_of_mem _ (List.mem_append_left _ (List.mem_append_right _ h))) (by decide +kernel))) (goodIn_sub (fun _ h => List.mem_cons_of_mem _ (List.mem_append_right _ h)) (by decide +kernel))
set_option maxRecDepth 20000 in
theorem gL_ask_X1_ask : GoodIn wsL_ask (wsV RL 21 RX1 yX1_ask wsX1_ask) := goodIn_app (goodIn_of _ (by decide +kernel)) ggL_ask_X1_ask
theorem dL_ask_0 : decode cL_ask 0 = .ok (.aload 6, 2) := by decide +kernel
theorem dL_ask_2 : decode cL_ask 2 = .ok (.iconst 0, 1) := by decide +kernel
theorem dL_ask_3 : decode cL_ask 3 = .ok (.aload_n 0, 1) := by decide +kernel
theorem dL_ask_4 : decode cL_ask 4 = .ok (.iload_n 1, 1) := by decide +kernel
theorem dL_ask_5 : decode cL_ask 5 = .ok (.iload_n 2, 1) := by decide +kernel
theorem dL_ask_6 : decode cL_ask 6 = .ok (.iload_n 3, 1) := by decide +kernel
theorem dL_ask_7 : decode cL_ask 7 = .ok (.iload 4, 2) := by decide +kernel
theorem dL_ask_9 : decode cL_ask 9 = .ok (.iload 5, 2) := by decide +kernel
theorem dL_ask_11 : decode cL_ask 11 = .ok (.invokevirtual 21, 3) := by decide +kernel
theorem dL_ask_14 : decode cL_ask 14 = .ok (.i2l, 1) := by decide +kernel
theorem dL_ask_15 : decode cL_ask 15 = .ok (.lastore, 1) := by decide +kernel
theorem dL_ask_16 : decode cL_ask 16 = .ok (.goto 15, 3) := by decide +kernel
theorem dL_ask_19 : decode cL_ask 19 = .ok (.astore 7, 2) := by decide +kernel
theorem dL_ask_21 : decode cL_ask 21 = .ok (.iconst 1, 1) := by decide +kernel
theorem dL_ask_22 : decode cL_ask 22 = .ok (.ireturn, 1) := by decide +kernel
theorem dL_ask_23 : decode cL_ask 23 = .ok (.astore 7, 2) := by decide +kernel
theorem dL_ask_25 : decode cL_ask 25 = .ok (.iconst 2, 1) := by decide +kernel
theorem dL_ask_26 : decode cL_ask 26 = .ok (.ireturn, 1) := by decide +kernel
theorem dL_ask_27 : decode cL_ask 27 = .ok (.astore 7, 2) := by decide +kernel
theorem dL_ask_29 : decode cL_ask 29 = .ok (.iconst 3, 1) := by decide +kernel
theorem dL_ask_30 : decode cL_ask 30 = .ok (.ireturn, 1) := by decide +kernel
theorem dL_ask_31 : decode cL_ask 31 = .ok (.iconst 0, 1) := by decide +kernel
theorem dL_ask_32 : decode cL_ask 32 = .ok (.ireturn, 1) := by decide +kernel
set_option maxRecDepth 20000 in
theorem ggL_barge_X1_barge : GoodIn wsL_barge wsX1_barge := goodIn_ca (goodIn_ca (goodIn_ca (goodIn_r _ [8, 9, 10, 11, 12, 13, 14, 15, 7, 16, 17, 18, 19, 20, 21, 22, 23, 24, 25, 26, 27, 28, 29, 30, 31, 32, 33, 34, 35, 36, 37, 38, 39, 40, 41, 42, 43, 44, 45, 46, 47, 48, 49, 50, 51, 52, 53, 54, 55, 56, 57, 58, 59, 60, 61, 62, 63, 64, 65, 66, 67, 68, 69] (by decide +kernel) (by decide +kernel)) (goodIn_sub (fun _ h => List.mem_cons_of_mem _ (List.mem_append_left _ (List.mem_append_left _ (List.mem_append_right _ h)))) (by decide +kernel))) (goodIn_sub (fun _ h => List.mem_cons_of_mem _ (List.mem_append_left _ (List.mem_append_right _ h))) (by decide +kernel))) (goodIn_sub (fun _ h => List.mem_cons_of_mem _ (List.mem_append_right _ h)) (by decide +kernel))
set_option maxRecDepth 20000 in
theorem gL_barge_X1_barge : GoodIn wsL_barge (wsV RL 27 RX1 yX1_barge wsX1_barge) := goodIn_app (goodIn_of _ (by decide +kernel)) ggL_barge_X1_barge
theorem dL_barge_0 : decode cL_barge 0 = .ok (.aload 5, 2) := by decide +kernel
theorem dL_barge_2 : decode cL_barge 2 = .ok (.iconst 0, 1) := by decide +kernel
theorem dL_barge_3 : decode cL_barge 3 = .ok (.aload_n 0, 1) := by decide +kernel
theorem dL_barge_4 : decode cL_barge 4 = .ok (.iload_n 1, 1) := by decide +kernel
theorem dL_barge_5 : decode cL_barge 5 = .ok (.iload_n 2, 1) := by decide +kernel
theorem dL_barge_6 : decode cL_barge 6 = .ok (.iload_n 3, 1) := by decide +kernel
theorem dL_barge_7 : decode cL_barge 7 = .ok (.iload 4, 2) := by decide +kernel
theorem dL_barge_9 : decode cL_barge 9 = .ok (.invokevirtual 27, 3) := by decide +kernel
theorem dL_barge_12 : decode cL_barge 12 = .ok (.i2l, 1) := by decide +kernel
theorem dL_barge_13 : decode cL_barge 13 = .ok (.lastore, 1) := by decide +kernel
theorem dL_barge_14 : decode cL_barge 14 = .ok (.goto 15, 3) := by decide +kernel
theorem dL_barge_17 : decode cL_barge 17 = .ok (.astore 6, 2) := by decide +kernel
theorem dL_barge_19 : decode cL_barge 19 = .ok (.iconst 1, 1) := by decide +kernel
theorem dL_barge_20 : decode cL_barge 20 = .ok (.ireturn, 1) := by decide +kernel
theorem dL_barge_21 : decode cL_barge 21 = .ok (.astore 6, 2) := by decide +kernel
theorem dL_barge_23 : decode cL_barge 23 = .ok (.iconst 2, 1) := by decide +kernel
theorem dL_barge_24 : decode cL_barge 24 = .ok (.ireturn, 1) := by decide +kernel
theorem dL_barge_25 : decode cL_barge 25 = .ok (.astore 6, 2) := by decide +kernel
theorem dL_barge_27 : decode cL_barge 27 = .ok (.iconst 3, 1) := by decide +kernel
theorem dL_barge_28 : decode cL_barge 28 = .ok (.ireturn, 1) := by decide +kernel
theorem dL_barge_29 : decode cL_barge 29 = .ok (.iconst 0, 1) := by decide +kernel
theorem dL_barge_30 : decode cL_barge 30 = .ok (.ireturn, 1) := by decide +kernel
set_option maxRecDepth 20000 in
theorem ggL_callBack_X1_callBack : GoodIn wsL_callBack wsX1_callBack := goodIn_ca (goodIn_ca (goodIn_r _ [7, 8, 9, 10, 11, 12, 13, 14, 6, 15, 16, 17, 18, 19, 20, 21, 22, 23, 24, 25, 26, 27, 28, 29, 30, 31, 32, 33, 34, 35, 36, 37, 38, 39, 40, 41, 42, 43, 44, 45, 46, 47, 48, 49, 50, 51] (by decide +kernel) (by decide +kernel)) (goodIn_sub (fun _ h => List.mem_cons_of_mem _ (List.mem_append_left _ (List.mem_append_right _ h))) (by decide +kernel))) (goodIn_sub (fun _ h => List.mem_cons_of_mem _ (List.mem_append_right _ h)) (by decide +kernel))
set_option maxRecDepth 20000 in
theorem gL_callBack_X1_callBack : GoodIn wsL_callBack (wsV RL 31 RX1 yX1_callBack wsX1_callBack) := goodIn_app (goodIn_of _ (by decide +kernel)) ggL_callBack_X1_callBack
theorem dL_callBack_0 : decode cL_callBack 0 = .ok (.aload_n 2, 1) := by decide +kernel
theorem dL_callBack_1 : decode cL_callBack 1 = .ok (.iconst 0, 1) := by decide +kernel
theorem dL_callBack_2 : decode cL_callBack 2 = .ok (.aload_n 0, 1) := by decide +kernel
theorem dL_callBack_3 : decode cL_callBack 3 = .ok (.iload_n 1, 1) := by decide +kernel
theorem dL_callBack_4 : decode cL_callBack 4 = .ok (.invokevirtual 31, 3) := by decide +kernel
theorem dL_callBack_7 : decode cL_callBack 7 = .ok (.i2l, 1) := by decide +kernel
theorem dL_callBack_8 : decode cL_callBack 8 = .ok (.lastore, 1) := by decide +kernel
theorem dL_callBack_9 : decode cL_callBack 9 = .ok (.goto 9, 3) := by decide +kernel
theorem dL_callBack_12 : decode cL_callBack 12 = .ok (.astore_n 3, 1) := by decide +kernel
theorem dL_callBack_13 : decode cL_callBack 13 = .ok (.iconst 1, 1) := by decide +kernel
theorem dL_callBack_14 : decode cL_callBack 14 = .ok (.ireturn, 1) := by decide +kernel
theorem dL_callBack_15 : decode cL_callBack 15 = .ok (.astore_n 3, 1) := by decide +kernel
theorem dL_callBack_16 : decode cL_callBack 16 = .ok (.iconst 2, 1) := by decide +kernel
theorem dL_callBack_17 : decode cL_callBack 17 = .ok (.ireturn, 1) := by decide +kernel
theorem dL_callBack_18 : decode cL_callBack 18 = .ok (.iconst 0, 1) := by decide +kernel
theorem dL_callBack_19 : decode cL_callBack 19 = .ok (.ireturn, 1) := by decide +kernel
set_option maxRecDepth 20000 in
theorem ggL_pass_X1_pass : GoodIn wsL_pass wsX1_pass := goodIn_ca (goodIn_r _ [6, 7, 8, 9, 10, 5, 11, 12, 13, 14, 15, 16, 17, 18, 19, 20, 21, 22, 23, 24, 25, 26, 27, 28, 29, 30, 31, 32, 33, 34, 35, 36, 37, 38, 39, 40, 41, 42, 43, 44, 45, 46, 47, 48, 49, 50, 51, 52, 53, 54, 55, 56, 57, 58, 59, 60, 61, 62, 63, 64, 65, 66, 67, 68, 69, 70, 71, 72, 73, 74, 75, 76, 77, 78, 79, 80, 81, 82, 83, 84, 85, 86, 87, 88, 89] (by decide +kernel) (by decide +kernel)) (goodIn_sub (fun _ h => List.mem_cons_of_mem _ (List.mem_append_right _ h)) (by decide +kernel))
set_option maxRecDepth 20000 in
theorem gL_pass_X1_pass : GoodIn wsL_pass (wsV RL 34 RX1 yX1_pass wsX1_pass) := goodIn_app (goodIn_of _ (by decide +kernel)) ggL_pass_X1_pass
theorem dL_pass_0 : decode cL_pass 0 = .ok (.aload_n 2, 1) := by decide +kernel
theorem dL_pass_1 : decode cL_pass 1 = .ok (.iconst 0, 1) := by decide +kernel
theorem dL_pass_2 : decode cL_pass 2 = .ok (.aload_n 0, 1) := by decide +kernel
theorem dL_pass_3 : decode cL_pass 3 = .ok (.iload_n 1, 1) := by decide +kernel
theorem dL_pass_4 : decode cL_pass 4 = .ok (.invokevirtual 34, 3) := by decide +kernel
theorem dL_pass_7 : decode cL_pass 7 = .ok (.i2l, 1) := by decide +kernel
theorem dL_pass_8 : decode cL_pass 8 = .ok (.lastore, 1) := by decide +kernel
theorem dL_pass_9 : decode cL_pass 9 = .ok (.goto 6, 3) := by decide +kernel
theorem dL_pass_12 : decode cL_pass 12 = .ok (.astore_n 3, 1) := by decide +kernel
theorem dL_pass_13 : decode cL_pass 13 = .ok (.iconst 1, 1) := by decide +kernel
theorem dL_pass_14 : decode cL_pass 14 = .ok (.ireturn, 1) := by decide +kernel
theorem dL_pass_15 : decode cL_pass 15 = .ok (.iconst 0, 1) := by decide +kernel
theorem dL_pass_16 : decode cL_pass 16 = .ok (.ireturn, 1) := by decide +kernel
set_option maxRecDepth 20000 in
theorem ggL_permitsOf_X1_permitsOf : GoodIn wsL_permitsOf wsX1_permitsOf := goodIn_ca (goodIn_r _ [6, 7, 8, 9, 10, 11, 5, 12, 13, 14, 15, 16, 17, 18, 19, 20, 21, 22, 23, 24, 25, 26, 27, 28, 29, 30, 31, 32, 33, 34] (by decide +kernel) (by decide +kernel)) (goodIn_sub (fun _ h => List.mem_cons_of_mem _ (List.mem_append_right _ h)) (by decide +kernel))
set_option maxRecDepth 20000 in
theorem gL_permitsOf_X1_permitsOf : GoodIn wsL_permitsOf (wsV RL 37 RX1 yX1_permitsOf wsX1_permitsOf) := goodIn_app (goodIn_of _ (by decide +kernel)) ggL_permitsOf_X1_permitsOf
theorem dL_permitsOf_0 : decode cL_permitsOf 0 = .ok (.aload_n 2, 1) := by decide +kernel
theorem dL_permitsOf_1 : decode cL_permitsOf 1 = .ok (.iconst 0, 1) := by decide +kernel
theorem dL_permitsOf_2 : decode cL_permitsOf 2 = .ok (.aload_n 0, 1) := by decide +kernel
theorem dL_permitsOf_3 : decode cL_permitsOf 3 = .ok (.iload_n 1, 1) := by decide +kernel
theorem dL_permitsOf_4 : decode cL_permitsOf 4 = .ok (.invokevirtual 37, 3) := by decide +kernel
theorem dL_permitsOf_7 : decode cL_permitsOf 7 = .ok (.i2l, 1) := by decide +kernel
theorem dL_permitsOf_8 : decode cL_permitsOf 8 = .ok (.lastore, 1) := by decide +kernel
theorem dL_permitsOf_9 : decode cL_permitsOf 9 = .ok (.goto 6, 3) := by decide +kernel
theorem dL_permitsOf_12 : decode cL_permitsOf 12 = .ok (.astore_n 3, 1) := by decide +kernel
theorem dL_permitsOf_13 : decode cL_permitsOf 13 = .ok (.iconst 1, 1) := by decide +kernel
theorem dL_permitsOf_14 : decode cL_permitsOf 14 = .ok (.ireturn, 1) := by decide +kernel
theorem dL_permitsOf_15 : decode cL_permitsOf 15 = .ok (.iconst 0, 1) := by decide +kernel
theorem dL_permitsOf_16 : decode cL_permitsOf 16 = .ok (.ireturn, 1) := by decide +kernel
set_option maxRecDepth 20000 in
theorem ggL_freeOf_X1_freeOf : GoodIn wsL_freeOf wsX1_freeOf := goodIn_ca (goodIn_r _ [6, 7, 8, 9, 10, 5, 11, 12, 13, 14, 15, 16, 17, 18, 19, 20, 21, 22, 23, 24, 25, 26, 27, 28, 29, 30, 31, 32, 33, 34, 35, 36, 37, 38, 39, 40, 41, 42, 43] (by decide +kernel) (by decide +kernel)) (goodIn_sub (fun _ h => List.mem_cons_of_mem _ (List.mem_append_right _ h)) (by decide +kernel))
set_option maxRecDepth 20000 in
theorem gL_freeOf_X1_freeOf : GoodIn wsL_freeOf (wsV RL 40 RX1 yX1_freeOf wsX1_freeOf) := goodIn_app (goodIn_of _ (by decide +kernel)) ggL_freeOf_X1_freeOf
theorem dL_freeOf_0 : decode cL_freeOf 0 = .ok (.aload_n 2, 1) := by decide +kernel
theorem dL_freeOf_1 : decode cL_freeOf 1 = .ok (.iconst 0, 1) := by decide +kernel
theorem dL_freeOf_2 : decode cL_freeOf 2 = .ok (.aload_n 0, 1) := by decide +kernel
theorem dL_freeOf_3 : decode cL_freeOf 3 = .ok (.iload_n 1, 1) := by decide +kernel
theorem dL_freeOf_4 : decode cL_freeOf 4 = .ok (.invokevirtual 40, 3) := by decide +kernel
theorem dL_freeOf_7 : decode cL_freeOf 7 = .ok (.i2l, 1) := by decide +kernel
theorem dL_freeOf_8 : decode cL_freeOf 8 = .ok (.lastore, 1) := by decide +kernel
theorem dL_freeOf_9 : decode cL_freeOf 9 = .ok (.goto 6, 3) := by decide +kernel
theorem dL_freeOf_12 : decode cL_freeOf 12 = .ok (.astore_n 3, 1) := by decide +kernel
theorem dL_freeOf_13 : decode cL_freeOf 13 = .ok (.iconst 1, 1) := by decide +kernel
theorem dL_freeOf_14 : decode cL_freeOf 14 = .ok (.ireturn, 1) := by decide +kernel
theorem dL_freeOf_15 : decode cL_freeOf 15 = .ok (.iconst 0, 1) := by decide +kernel
theorem dL_freeOf_16 : decode cL_freeOf 16 = .ok (.ireturn, 1) := by decide +kernel
set_option maxRecDepth 20000 in
theorem ggL_waitingAt_X1_waitingAt : GoodIn wsL_waitingAt wsX1_waitingAt := goodIn_ca (goodIn_r _ [6, 7, 8, 9, 10, 5, 11, 12, 13, 14, 15, 16, 17, 18, 19, 20, 21, 22, 23, 24, 25, 26, 27, 28, 29, 30, 31, 32, 33, 34, 35, 36, 37, 38, 39, 40, 41, 42, 43, 44, 45] (by decide +kernel) (by decide +kernel)) (goodIn_sub (fun _ h => List.mem_cons_of_mem _ (List.mem_append_right _ h)) (by decide +kernel))
set_option maxRecDepth 20000 in
theorem gL_waitingAt_X1_waitingAt : GoodIn wsL_waitingAt (wsV RL 43 RX1 yX1_waitingAt wsX1_waitingAt) := goodIn_app (goodIn_of _ (by decide +kernel)) ggL_waitingAt_X1_waitingAt
theorem dL_waitingAt_0 : decode cL_waitingAt 0 = .ok (.aload_n 2, 1) := by decide +kernel
theorem dL_waitingAt_1 : decode cL_waitingAt 1 = .ok (.iconst 0, 1) := by decide +kernel
theorem dL_waitingAt_2 : decode cL_waitingAt 2 = .ok (.aload_n 0, 1) := by decide +kernel
theorem dL_waitingAt_3 : decode cL_waitingAt 3 = .ok (.iload_n 1, 1) := by decide +kernel
theorem dL_waitingAt_4 : decode cL_waitingAt 4 = .ok (.invokevirtual 43, 3) := by decide +kernel
theorem dL_waitingAt_7 : decode cL_waitingAt 7 = .ok (.i2l, 1) := by decide +kernel
theorem dL_waitingAt_8 : decode cL_waitingAt 8 = .ok (.lastore, 1) := by decide +kernel
theorem dL_waitingAt_9 : decode cL_waitingAt 9 = .ok (.goto 6, 3) := by decide +kernel
theorem dL_waitingAt_12 : decode cL_waitingAt 12 = .ok (.astore_n 3, 1) := by decide +kernel
theorem dL_waitingAt_13 : decode cL_waitingAt 13 = .ok (.iconst 1, 1) := by decide +kernel
theorem dL_waitingAt_14 : decode cL_waitingAt 14 = .ok (.ireturn, 1) := by decide +kernel
theorem dL_waitingAt_15 : decode cL_waitingAt 15 = .ok (.iconst 0, 1) := by decide +kernel
theorem dL_waitingAt_16 : decode cL_waitingAt 16 = .ok (.ireturn, 1) := by decide +kernel
set_option maxRecDepth 20000 in
theorem ggL_nextAt_X1_nextAt : GoodIn wsL_nextAt wsX1_nextAt := goodIn_ca (goodIn_r _ [6, 7, 8, 9, 10, 5, 11, 12, 13, 14, 15, 16, 17, 18, 19, 20, 21, 22, 23, 24, 25, 26, 27, 28, 29, 30, 31, 32, 33, 34, 35, 36, 37, 38, 39, 40, 41, 42, 43, 44, 45, 46, 47, 48, 49, 50, 51, 52, 53, 54, 55, 56, 57, 58, 59] (by decide +kernel) (by decide +kernel)) (goodIn_sub (fun _ h => List.mem_cons_of_mem _ (List.mem_append_right _ h)) (by decide +kernel))
set_option maxRecDepth 20000 in
theorem gL_nextAt_X1_nextAt : GoodIn wsL_nextAt (wsV RL 46 RX1 yX1_nextAt wsX1_nextAt) := goodIn_app (goodIn_of _ (by decide +kernel)) ggL_nextAt_X1_nextAt
theorem dL_nextAt_0 : decode cL_nextAt 0 = .ok (.aload_n 2, 1) := by decide +kernel
theorem dL_nextAt_1 : decode cL_nextAt 1 = .ok (.iconst 0, 1) := by decide +kernel
theorem dL_nextAt_2 : decode cL_nextAt 2 = .ok (.aload_n 0, 1) := by decide +kernel
theorem dL_nextAt_3 : decode cL_nextAt 3 = .ok (.iload_n 1, 1) := by decide +kernel
theorem dL_nextAt_4 : decode cL_nextAt 4 = .ok (.invokevirtual 46, 3) := by decide +kernel
theorem dL_nextAt_7 : decode cL_nextAt 7 = .ok (.i2l, 1) := by decide +kernel
theorem dL_nextAt_8 : decode cL_nextAt 8 = .ok (.lastore, 1) := by decide +kernel
theorem dL_nextAt_9 : decode cL_nextAt 9 = .ok (.goto 6, 3) := by decide +kernel
theorem dL_nextAt_12 : decode cL_nextAt 12 = .ok (.astore_n 3, 1) := by decide +kernel
theorem dL_nextAt_13 : decode cL_nextAt 13 = .ok (.iconst 1, 1) := by decide +kernel
theorem dL_nextAt_14 : decode cL_nextAt 14 = .ok (.ireturn, 1) := by decide +kernel
theorem dL_nextAt_15 : decode cL_nextAt 15 = .ok (.iconst 0, 1) := by decide +kernel
theorem dL_nextAt_16 : decode cL_nextAt 16 = .ok (.ireturn, 1) := by decide +kernel
set_option maxRecDepth 20000 in
theorem ggL_stateOf_X1_stateOf : GoodIn wsL_stateOf wsX1_stateOf := goodIn_ca (goodIn_r _ [6, 7, 8, 9, 10, 11, 5, 12, 13, 14, 15, 16, 17, 18, 19, 20, 21, 22, 23, 24, 25, 26, 27, 28, 29, 30, 31, 32, 33, 34] (by decide +kernel) (by decide +kernel)) (goodIn_sub (fun _ h => List.mem_cons_of_mem _ (List.mem_append_right _ h)) (by decide +kernel))
set_option maxRecDepth 20000 in
theorem gL_stateOf_X1_stateOf : GoodIn wsL_stateOf (wsV RL 49 RX1 yX1_stateOf wsX1_stateOf) := goodIn_app (goodIn_of _ (by decide +kernel)) ggL_stateOf_X1_stateOf
theorem dL_stateOf_0 : decode cL_stateOf 0 = .ok (.aload_n 2, 1) := by decide +kernel
theorem dL_stateOf_1 : decode cL_stateOf 1 = .ok (.iconst 0, 1) := by decide +kernel
theorem dL_stateOf_2 : decode cL_stateOf 2 = .ok (.aload_n 0, 1) := by decide +kernel
theorem dL_stateOf_3 : decode cL_stateOf 3 = .ok (.iload_n 1, 1) := by decide +kernel
theorem dL_stateOf_4 : decode cL_stateOf 4 = .ok (.invokevirtual 49, 3) := by decide +kernel
theorem dL_stateOf_7 : decode cL_stateOf 7 = .ok (.i2l, 1) := by decide +kernel
theorem dL_stateOf_8 : decode cL_stateOf 8 = .ok (.lastore, 1) := by decide +kernel
theorem dL_stateOf_9 : decode cL_stateOf 9 = .ok (.goto 6, 3) := by decide +kernel
theorem dL_stateOf_12 : decode cL_stateOf 12 = .ok (.astore_n 3, 1) := by decide +kernel
theorem dL_stateOf_13 : decode cL_stateOf 13 = .ok (.iconst 1, 1) := by decide +kernel
theorem dL_stateOf_14 : decode cL_stateOf 14 = .ok (.ireturn, 1) := by decide +kernel
theorem dL_stateOf_15 : decode cL_stateOf 15 = .ok (.iconst 0, 1) := by decide +kernel
theorem dL_stateOf_16 : decode cL_stateOf 16 = .ok (.ireturn, 1) := by decide +kernel
set_option maxRecDepth 20000 in
theorem ggL_gateOf_X1_gateOf : GoodIn wsL_gateOf wsX1_gateOf := goodIn_ca (goodIn_r _ [6, 7, 8, 9, 10, 11, 5, 12, 13, 14, 15, 16, 17, 18, 19, 20, 21, 22, 23, 24, 25, 26, 27, 28, 29, 30, 31, 32, 33, 34] (by decide +kernel) (by decide +kernel)) (goodIn_sub (fun _ h => List.mem_cons_of_mem _ (List.mem_append_right _ h)) (by decide +kernel))
set_option maxRecDepth 20000 in
theorem gL_gateOf_X1_gateOf : GoodIn wsL_gateOf (wsV RL 52 RX1 yX1_gateOf wsX1_gateOf) := goodIn_app (goodIn_of _ (by decide +kernel)) ggL_gateOf_X1_gateOf
theorem dL_gateOf_0 : decode cL_gateOf 0 = .ok (.aload_n 2, 1) := by decide +kernel
theorem dL_gateOf_1 : decode cL_gateOf 1 = .ok (.iconst 0, 1) := by decide +kernel
theorem dL_gateOf_2 : decode cL_gateOf 2 = .ok (.aload_n 0, 1) := by decide +kernel
theorem dL_gateOf_3 : decode cL_gateOf 3 = .ok (.iload_n 1, 1) := by decide +kernel
theorem dL_gateOf_4 : decode cL_gateOf 4 = .ok (.invokevirtual 52, 3) := by decide +kernel
theorem dL_gateOf_7 : decode cL_gateOf 7 = .ok (.i2l, 1) := by decide +kernel
theorem dL_gateOf_8 : decode cL_gateOf 8 = .ok (.lastore, 1) := by decide +kernel
theorem dL_gateOf_9 : decode cL_gateOf 9 = .ok (.goto 6, 3) := by decide +kernel
theorem dL_gateOf_12 : decode cL_gateOf 12 = .ok (.astore_n 3, 1) := by decide +kernel
theorem dL_gateOf_13 : decode cL_gateOf 13 = .ok (.iconst 1, 1) := by decide +kernel
theorem dL_gateOf_14 : decode cL_gateOf 14 = .ok (.ireturn, 1) := by decide +kernel
theorem dL_gateOf_15 : decode cL_gateOf 15 = .ok (.iconst 0, 1) := by decide +kernel
theorem dL_gateOf_16 : decode cL_gateOf 16 = .ok (.ireturn, 1) := by decide +kernel
set_option maxRecDepth 20000 in
theorem ggL_holds_X1_holds : GoodIn wsL_holds wsX1_holds := goodIn_ca (goodIn_r _ [6, 7, 8, 9, 10, 5, 11, 12, 13, 14, 15, 16, 17, 18, 19, 20, 21, 22, 23, 24, 25, 26, 27, 28, 29, 30, 31, 32, 33, 34, 35, 36, 37, 38, 39, 40] (by decide +kernel) (by decide +kernel)) (goodIn_sub (fun _ h => List.mem_cons_of_mem _ (List.mem_append_right _ h)) (by decide +kernel))
set_option maxRecDepth 20000 in
theorem gL_holds_X1_holds : GoodIn wsL_holds (wsV RL 55 RX1 yX1_holds wsX1_holds) := goodIn_app (goodIn_of _ (by decide +kernel)) ggL_holds_X1_holds
theorem dL_holds_0 : decode cL_holds 0 = .ok (.aload_n 2, 1) := by decide +kernel
theorem dL_holds_1 : decode cL_holds 1 = .ok (.iconst 0, 1) := by decide +kernel
theorem dL_holds_2 : decode cL_holds 2 = .ok (.aload_n 0, 1) := by decide +kernel
theorem dL_holds_3 : decode cL_holds 3 = .ok (.iload_n 1, 1) := by decide +kernel
theorem dL_holds_4 : decode cL_holds 4 = .ok (.invokevirtual 55, 3) := by decide +kernel
theorem dL_holds_7 : decode cL_holds 7 = .ok (.i2l, 1) := by decide +kernel
theorem dL_holds_8 : decode cL_holds 8 = .ok (.lastore, 1) := by decide +kernel
theorem dL_holds_9 : decode cL_holds 9 = .ok (.goto 6, 3) := by decide +kernel
theorem dL_holds_12 : decode cL_holds 12 = .ok (.astore_n 3, 1) := by decide +kernel
theorem dL_holds_13 : decode cL_holds 13 = .ok (.iconst 1, 1) := by decide +kernel
theorem dL_holds_14 : decode cL_holds 14 = .ok (.ireturn, 1) := by decide +kernel
theorem dL_holds_15 : decode cL_holds 15 = .ok (.iconst 0, 1) := by decide +kernel
theorem dL_holds_16 : decode cL_holds 16 = .ok (.ireturn, 1) := by decide +kernel
set_option maxRecDepth 20000 in
theorem ggL_seemingHorns_X1_seemingHorns : GoodIn wsL_seemingHorns wsX1_seemingHorns := goodIn_ca (goodIn_r _ [6, 7, 8, 9, 10, 5, 11, 12, 13, 14, 15, 16, 17, 18, 19, 20, 21, 22, 23, 24, 25, 26, 27, 28, 29, 30, 31, 32, 33, 34, 35, 36, 37, 38, 39, 40] (by decide +kernel) (by decide +kernel)) (goodIn_sub (fun _ h => List.mem_cons_of_mem _ (List.mem_append_right _ h)) (by decide +kernel))
set_option maxRecDepth 20000 in
theorem gL_seemingHorns_X1_seemingHorns : GoodIn wsL_seemingHorns (wsV RL 58 RX1 yX1_seemingHorns wsX1_seemingHorns) := goodIn_app (goodIn_of _ (by decide +kernel)) ggL_seemingHorns_X1_seemingHorns
theorem dL_seemingHorns_0 : decode cL_seemingHorns 0 = .ok (.aload_n 2, 1) := by decide +kernel
theorem dL_seemingHorns_1 : decode cL_seemingHorns 1 = .ok (.iconst 0, 1) := by decide +kernel
theorem dL_seemingHorns_2 : decode cL_seemingHorns 2 = .ok (.aload_n 0, 1) := by decide +kernel
theorem dL_seemingHorns_3 : decode cL_seemingHorns 3 = .ok (.iload_n 1, 1) := by decide +kernel
theorem dL_seemingHorns_4 : decode cL_seemingHorns 4 = .ok (.invokevirtual 58, 3) := by decide +kernel
theorem dL_seemingHorns_7 : decode cL_seemingHorns 7 = .ok (.i2l, 1) := by decide +kernel
theorem dL_seemingHorns_8 : decode cL_seemingHorns 8 = .ok (.lastore, 1) := by decide +kernel
theorem dL_seemingHorns_9 : decode cL_seemingHorns 9 = .ok (.goto 6, 3) := by decide +kernel
theorem dL_seemingHorns_12 : decode cL_seemingHorns 12 = .ok (.astore_n 3, 1) := by decide +kernel
theorem dL_seemingHorns_13 : decode cL_seemingHorns 13 = .ok (.iconst 1, 1) := by decide +kernel
theorem dL_seemingHorns_14 : decode cL_seemingHorns 14 = .ok (.ireturn, 1) := by decide +kernel
theorem dL_seemingHorns_15 : decode cL_seemingHorns 15 = .ok (.iconst 0, 1) := by decide +kernel
theorem dL_seemingHorns_16 : decode cL_seemingHorns 16 = .ok (.ireturn, 1) := by decide +kernel
set_option maxRecDepth 20000 in
theorem ggL_minutesLeft_X1_minutesLeft : GoodIn wsL_minutesLeft wsX1_minutesLeft := goodIn_ca (goodIn_r _ [6, 7, 8, 9, 10, 11, 5, 12, 13, 14, 15, 16, 17, 18, 19, 20, 21, 22, 23, 24, 25, 26, 27, 28, 29, 30, 31, 32, 33, 34] (by decide +kernel) (by decide +kernel)) (goodIn_sub (fun _ h => List.mem_cons_of_mem _ (List.mem_append_right _ h)) (by decide +kernel))
set_option maxRecDepth 20000 in
theorem gL_minutesLeft_X1_minutesLeft : GoodIn wsL_minutesLeft (wsV RL 61 RX1 yX1_minutesLeft wsX1_minutesLeft) := goodIn_app (goodIn_of _ (by decide +kernel)) ggL_minutesLeft_X1_minutesLeft
theorem dL_minutesLeft_0 : decode cL_minutesLeft 0 = .ok (.aload_n 2, 1) := by decide +kernel
theorem dL_minutesLeft_1 : decode cL_minutesLeft 1 = .ok (.iconst 0, 1) := by decide +kernel
theorem dL_minutesLeft_2 : decode cL_minutesLeft 2 = .ok (.aload_n 0, 1) := by decide +kernel
theorem dL_minutesLeft_3 : decode cL_minutesLeft 3 = .ok (.iload_n 1, 1) := by decide +kernel
theorem dL_minutesLeft_4 : decode cL_minutesLeft 4 = .ok (.invokevirtual 61, 3) := by decide +kernel
theorem dL_minutesLeft_7 : decode cL_minutesLeft 7 = .ok (.i2l, 1) := by decide +kernel
theorem dL_minutesLeft_8 : decode cL_minutesLeft 8 = .ok (.lastore, 1) := by decide +kernel
theorem dL_minutesLeft_9 : decode cL_minutesLeft 9 = .ok (.goto 6, 3) := by decide +kernel
theorem dL_minutesLeft_12 : decode cL_minutesLeft 12 = .ok (.astore_n 3, 1) := by decide +kernel
theorem dL_minutesLeft_13 : decode cL_minutesLeft 13 = .ok (.iconst 1, 1) := by decide +kernel
theorem dL_minutesLeft_14 : decode cL_minutesLeft 14 = .ok (.ireturn, 1) := by decide +kernel
theorem dL_minutesLeft_15 : decode cL_minutesLeft 15 = .ok (.iconst 0, 1) := by decide +kernel
theorem dL_minutesLeft_16 : decode cL_minutesLeft 16 = .ok (.ireturn, 1) := by decide +kernel
set_option maxRecDepth 20000 in
theorem ggL_waitedOf_X1_waitedOf : GoodIn wsL_waitedOf wsX1_waitedOf := goodIn_ca (goodIn_r _ [6, 7, 8, 9, 10, 11, 5, 12, 13, 14, 15, 16, 17, 18, 19, 20, 21, 22, 23, 24, 25, 26, 27, 28, 29, 30, 31, 32, 33, 34] (by decide +kernel) (by decide +kernel)) (goodIn_sub (fun _ h => List.mem_cons_of_mem _ (List.mem_append_right _ h)) (by decide +kernel))
set_option maxRecDepth 20000 in
theorem gL_waitedOf_X1_waitedOf : GoodIn wsL_waitedOf (wsV RL 64 RX1 yX1_waitedOf wsX1_waitedOf) := goodIn_app (goodIn_of _ (by decide +kernel)) ggL_waitedOf_X1_waitedOf
theorem dL_waitedOf_0 : decode cL_waitedOf 0 = .ok (.aload_n 2, 1) := by decide +kernel
theorem dL_waitedOf_1 : decode cL_waitedOf 1 = .ok (.iconst 0, 1) := by decide +kernel
theorem dL_waitedOf_2 : decode cL_waitedOf 2 = .ok (.aload_n 0, 1) := by decide +kernel
theorem dL_waitedOf_3 : decode cL_waitedOf 3 = .ok (.iload_n 1, 1) := by decide +kernel
theorem dL_waitedOf_4 : decode cL_waitedOf 4 = .ok (.invokevirtual 64, 3) := by decide +kernel
theorem dL_waitedOf_7 : decode cL_waitedOf 7 = .ok (.i2l, 1) := by decide +kernel
theorem dL_waitedOf_8 : decode cL_waitedOf 8 = .ok (.lastore, 1) := by decide +kernel
theorem dL_waitedOf_9 : decode cL_waitedOf 9 = .ok (.goto 6, 3) := by decide +kernel
theorem dL_waitedOf_12 : decode cL_waitedOf 12 = .ok (.astore_n 3, 1) := by decide +kernel
theorem dL_waitedOf_13 : decode cL_waitedOf 13 = .ok (.iconst 1, 1) := by decide +kernel
theorem dL_waitedOf_14 : decode cL_waitedOf 14 = .ok (.ireturn, 1) := by decide +kernel
theorem dL_waitedOf_15 : decode cL_waitedOf 15 = .ok (.iconst 0, 1) := by decide +kernel
theorem dL_waitedOf_16 : decode cL_waitedOf 16 = .ok (.ireturn, 1) := by decide +kernel
set_option maxRecDepth 20000 in
theorem ggL_placeInLine_X1_placeInLine : GoodIn wsL_placeInLine wsX1_placeInLine := goodIn_ca (goodIn_r _ [6, 7, 8, 9, 10, 11, 5, 12, 13, 14, 15, 16, 17, 18, 19, 20, 21, 22, 23, 24, 25, 26, 27, 28, 29, 30, 31, 32, 33, 34, 35, 36, 37, 38, 39, 40, 41, 42, 43, 44, 45, 46, 47] (by decide +kernel) (by decide +kernel)) (goodIn_sub (fun _ h => List.mem_cons_of_mem _ (List.mem_append_right _ h)) (by decide +kernel))
set_option maxRecDepth 20000 in
theorem gL_placeInLine_X1_placeInLine : GoodIn wsL_placeInLine (wsV RL 67 RX1 yX1_placeInLine wsX1_placeInLine) := goodIn_app (goodIn_of _ (by decide +kernel)) ggL_placeInLine_X1_placeInLine
theorem dL_placeInLine_0 : decode cL_placeInLine 0 = .ok (.aload_n 2, 1) := by decide +kernel
theorem dL_placeInLine_1 : decode cL_placeInLine 1 = .ok (.iconst 0, 1) := by decide +kernel
theorem dL_placeInLine_2 : decode cL_placeInLine 2 = .ok (.aload_n 0, 1) := by decide +kernel
theorem dL_placeInLine_3 : decode cL_placeInLine 3 = .ok (.iload_n 1, 1) := by decide +kernel
theorem dL_placeInLine_4 : decode cL_placeInLine 4 = .ok (.invokevirtual 67, 3) := by decide +kernel
theorem dL_placeInLine_7 : decode cL_placeInLine 7 = .ok (.i2l, 1) := by decide +kernel
theorem dL_placeInLine_8 : decode cL_placeInLine 8 = .ok (.lastore, 1) := by decide +kernel
theorem dL_placeInLine_9 : decode cL_placeInLine 9 = .ok (.goto 6, 3) := by decide +kernel
theorem dL_placeInLine_12 : decode cL_placeInLine 12 = .ok (.astore_n 3, 1) := by decide +kernel
theorem dL_placeInLine_13 : decode cL_placeInLine 13 = .ok (.iconst 1, 1) := by decide +kernel
theorem dL_placeInLine_14 : decode cL_placeInLine 14 = .ok (.ireturn, 1) := by decide +kernel
theorem dL_placeInLine_15 : decode cL_placeInLine 15 = .ok (.iconst 0, 1) := by decide +kernel
theorem dL_placeInLine_16 : decode cL_placeInLine 16 = .ok (.ireturn, 1) := by decide +kernel
set_option maxRecDepth 20000 in
theorem ggL_minutesUntilIn_X1_minutesUntilIn : GoodIn wsL_minutesUntilIn wsX1_minutesUntilIn := goodIn_ca (goodIn_r _ [6, 7, 8, 9, 10, 11, 12, 5, 13, 14, 15, 16, 17, 18, 19, 20, 21, 22, 23, 24, 25, 26, 27, 28, 29, 30, 31, 32, 33, 34, 35, 36, 37, 38, 39, 40, 41, 42, 43, 44, 45, 46, 47, 48, 49, 50, 51, 52, 53, 54, 55, 56, 57, 58, 59, 60, 61, 62, 63, 64, 65, 66, 67, 68, 69, 70, 71, 72, 73, 74, 75, 76, 77, 78, 79, 80, 81, 82, 83, 84, 85, 86, 87, 88, 89, 90, 91, 92, 93, 94, 95, 96, 97] (by decide +kernel) (by decide +kernel)) (goodIn_sub (fun _ h => List.mem_cons_of_mem _ (List.mem_append_right _ h)) (by decide +kernel))
set_option maxRecDepth 20000 in
theorem gL_minutesUntilIn_X1_minutesUntilIn : GoodIn wsL_minutesUntilIn (wsV RL 70 RX1 yX1_minutesUntilIn wsX1_minutesUntilIn) := goodIn_app (goodIn_of _ (by decide +kernel)) ggL_minutesUntilIn_X1_minutesUntilIn
theorem dL_minutesUntilIn_0 : decode cL_minutesUntilIn 0 = .ok (.aload_n 2, 1) := by decide +kernel
theorem dL_minutesUntilIn_1 : decode cL_minutesUntilIn 1 = .ok (.iconst 0, 1) := by decide +kernel
theorem dL_minutesUntilIn_2 : decode cL_minutesUntilIn 2 = .ok (.aload_n 0, 1) := by decide +kernel
theorem dL_minutesUntilIn_3 : decode cL_minutesUntilIn 3 = .ok (.iload_n 1, 1) := by decide +kernel
theorem dL_minutesUntilIn_4 : decode cL_minutesUntilIn 4 = .ok (.invokevirtual 70, 3) := by decide +kernel
theorem dL_minutesUntilIn_7 : decode cL_minutesUntilIn 7 = .ok (.i2l, 1) := by decide +kernel
theorem dL_minutesUntilIn_8 : decode cL_minutesUntilIn 8 = .ok (.lastore, 1) := by decide +kernel
theorem dL_minutesUntilIn_9 : decode cL_minutesUntilIn 9 = .ok (.goto 6, 3) := by decide +kernel
theorem dL_minutesUntilIn_12 : decode cL_minutesUntilIn 12 = .ok (.astore_n 3, 1) := by decide +kernel
theorem dL_minutesUntilIn_13 : decode cL_minutesUntilIn 13 = .ok (.iconst 1, 1) := by decide +kernel
theorem dL_minutesUntilIn_14 : decode cL_minutesUntilIn 14 = .ok (.ireturn, 1) := by decide +kernel
theorem dL_minutesUntilIn_15 : decode cL_minutesUntilIn 15 = .ok (.iconst 0, 1) := by decide +kernel
theorem dL_minutesUntilIn_16 : decode cL_minutesUntilIn 16 = .ok (.ireturn, 1) := by decide +kernel
set_option maxRecDepth 20000 in
theorem ggL_givingUpIn_X1_givingUpIn : GoodIn wsL_givingUpIn wsX1_givingUpIn := goodIn_ca (goodIn_r _ [6, 7, 8, 9, 10, 5, 11, 12, 13, 14, 15, 16, 17, 18, 19, 20, 21, 22, 23, 24, 25, 26, 27, 28, 29, 30, 31, 32, 33, 34, 35, 36, 37, 38, 39, 40, 41, 42, 43, 44, 45, 46, 47, 48, 49, 50, 51, 52, 53, 54, 55, 56, 57, 58, 59, 60, 61, 62, 63, 64, 65, 66, 67, 68, 69, 70, 71, 72, 73, 74, 75, 76, 77, 78, 79, 80, 81, 82, 83, 84, 85, 86, 87, 88, 89, 90, 91, 92, 93, 94, 95, 96, 97, 98] (by decide +kernel) (by decide +kernel)) (goodIn_sub (fun _ h => List.mem_cons_of_mem _ (List.mem_append_right _ h)) (by decide +kernel))
set_option maxRecDepth 20000 in
theorem gL_givingUpIn_X1_givingUpIn : GoodIn wsL_givingUpIn (wsV RL 73 RX1 yX1_givingUpIn wsX1_givingUpIn) := goodIn_app (goodIn_of _ (by decide +kernel)) ggL_givingUpIn_X1_givingUpIn
theorem dL_givingUpIn_0 : decode cL_givingUpIn 0 = .ok (.aload_n 2, 1) := by decide +kernel
theorem dL_givingUpIn_1 : decode cL_givingUpIn 1 = .ok (.iconst 0, 1) := by decide +kernel
theorem dL_givingUpIn_2 : decode cL_givingUpIn 2 = .ok (.aload_n 0, 1) := by decide +kernel
theorem dL_givingUpIn_3 : decode cL_givingUpIn 3 = .ok (.iload_n 1, 1) := by decide +kernel
theorem dL_givingUpIn_4 : decode cL_givingUpIn 4 = .ok (.invokevirtual 73, 3) := by decide +kernel
theorem dL_givingUpIn_7 : decode cL_givingUpIn 7 = .ok (.i2l, 1) := by decide +kernel
theorem dL_givingUpIn_8 : decode cL_givingUpIn 8 = .ok (.lastore, 1) := by decide +kernel
theorem dL_givingUpIn_9 : decode cL_givingUpIn 9 = .ok (.goto 6, 3) := by decide +kernel
theorem dL_givingUpIn_12 : decode cL_givingUpIn 12 = .ok (.astore_n 3, 1) := by decide +kernel
theorem dL_givingUpIn_13 : decode cL_givingUpIn 13 = .ok (.iconst 1, 1) := by decide +kernel
theorem dL_givingUpIn_14 : decode cL_givingUpIn 14 = .ok (.ireturn, 1) := by decide +kernel
theorem dL_givingUpIn_15 : decode cL_givingUpIn 15 = .ok (.iconst 0, 1) := by decide +kernel
theorem dL_givingUpIn_16 : decode cL_givingUpIn 16 = .ok (.ireturn, 1) := by decide +kernel
set_option maxRecDepth 20000 in
theorem ggL_permitsWanted_X1_permitsWanted : GoodIn wsL_permitsWanted wsX1_permitsWanted := goodIn_ca (goodIn_r _ [6, 7, 8, 9, 10, 11, 12, 5, 13, 14, 15, 16, 17, 18, 19, 20, 21, 22, 23, 24, 25, 26, 27, 28, 29, 30, 31, 32, 33, 34, 35, 36, 37, 38, 39, 40, 41, 42, 43, 44, 45, 46, 47, 48, 49, 50, 51, 52, 53, 54, 55, 56, 57, 58, 59, 60, 61, 62, 63, 64, 65, 66, 67, 68, 69, 70, 71, 72, 73, 74, 75, 76, 77, 78, 79, 80, 81, 82, 83, 84, 85, 86, 87, 88, 89, 90, 91, 92, 93, 94, 95, 96, 97, 98, 99, 100, 101, 102, 103, 104, 105, 106, 107] (by decide +kernel) (by decide +kernel)) (goodIn_sub (fun _ h => List.mem_cons_of_mem _ (List.mem_append_right _ h)) (by decide +kernel))
set_option maxRecDepth 20000 in
theorem gL_permitsWanted_X1_permitsWanted : GoodIn wsL_permitsWanted (wsV RL 76 RX1 yX1_permitsWanted wsX1_permitsWanted) := goodIn_app (goodIn_of _ (by decide +kernel)) ggL_permitsWanted_X1_permitsWanted
theorem dL_permitsWanted_0 : decode cL_permitsWanted 0 = .ok (.aload_n 2, 1) := by decide +kernel
theorem dL_permitsWanted_1 : decode cL_permitsWanted 1 = .ok (.iconst 0, 1) := by decide +kernel
theorem dL_permitsWanted_2 : decode cL_permitsWanted 2 = .ok (.aload_n 0, 1) := by decide +kernel
theorem dL_permitsWanted_3 : decode cL_permitsWanted 3 = .ok (.iload_n 1, 1) := by decide +kernel
theorem dL_permitsWanted_4 : decode cL_permitsWanted 4 = .ok (.invokevirtual 76, 3) := by decide +kernel
theorem dL_permitsWanted_7 : decode cL_permitsWanted 7 = .ok (.i2l, 1) := by decide +kernel
theorem dL_permitsWanted_8 : decode cL_permitsWanted 8 = .ok (.lastore, 1) := by decide +kernel
theorem dL_permitsWanted_9 : decode cL_permitsWanted 9 = .ok (.goto 6, 3) := by decide +kernel
theorem dL_permitsWanted_12 : decode cL_permitsWanted 12 = .ok (.astore_n 3, 1) := by decide +kernel
theorem dL_permitsWanted_13 : decode cL_permitsWanted 13 = .ok (.iconst 1, 1) := by decide +kernel
theorem dL_permitsWanted_14 : decode cL_permitsWanted 14 = .ok (.ireturn, 1) := by decide +kernel
theorem dL_permitsWanted_15 : decode cL_permitsWanted 15 = .ok (.iconst 0, 1) := by decide +kernel
theorem dL_permitsWanted_16 : decode cL_permitsWanted 16 = .ok (.ireturn, 1) := by decide +kernel
set_option maxRecDepth 20000 in
theorem ggL_bestOrder_X1_bestOrder : GoodIn wsL_bestOrder wsX1_bestOrder := goodIn_ca (goodIn_r _ [6, 7, 8, 9, 10, 11, 5, 12, 13, 14, 15, 16, 17, 18, 19, 20, 21, 22, 23, 24, 25, 26, 27, 28, 29, 30, 31, 32, 33, 34, 35, 36, 37, 38, 39, 40, 41, 42, 43, 44, 45, 46, 47, 48, 49, 50, 51, 52, 53, 54, 55, 56, 57, 58, 59, 60, 61, 62, 63, 64, 65, 66, 67, 68, 69, 70, 71, 72, 73, 74, 75, 76, 77, 78, 79, 80, 81, 82, 83, 84, 85, 86, 87, 88, 89, 90, 91, 92, 93, 94, 95, 96, 97, 98, 99, 100, 101, 102, 103, 104, 105, 106, 107] (by decide +kernel) (by decide +kernel)) (goodIn_sub (fun _ h => List.mem_cons_of_mem _ (List.mem_append_right _ h)) (by decide +kernel))
set_option maxRecDepth 20000 in
theorem gL_bestOrder_X1_bestOrder : GoodIn wsL_bestOrder (wsV RL 79 RX1 yX1_bestOrder wsX1_bestOrder) := goodIn_app (goodIn_of _ (by decide +kernel)) ggL_bestOrder_X1_bestOrder
theorem dL_bestOrder_0 : decode cL_bestOrder 0 = .ok (.aload_n 2, 1) := by decide +kernel
theorem dL_bestOrder_1 : decode cL_bestOrder 1 = .ok (.iconst 0, 1) := by decide +kernel
theorem dL_bestOrder_2 : decode cL_bestOrder 2 = .ok (.aload_n 0, 1) := by decide +kernel
theorem dL_bestOrder_3 : decode cL_bestOrder 3 = .ok (.iload_n 1, 1) := by decide +kernel
theorem dL_bestOrder_4 : decode cL_bestOrder 4 = .ok (.invokevirtual 79, 3) := by decide +kernel
theorem dL_bestOrder_7 : decode cL_bestOrder 7 = .ok (.i2l, 1) := by decide +kernel
theorem dL_bestOrder_8 : decode cL_bestOrder 8 = .ok (.lastore, 1) := by decide +kernel
theorem dL_bestOrder_9 : decode cL_bestOrder 9 = .ok (.goto 6, 3) := by decide +kernel
theorem dL_bestOrder_12 : decode cL_bestOrder 12 = .ok (.astore_n 3, 1) := by decide +kernel
theorem dL_bestOrder_13 : decode cL_bestOrder 13 = .ok (.iconst 1, 1) := by decide +kernel
theorem dL_bestOrder_14 : decode cL_bestOrder 14 = .ok (.ireturn, 1) := by decide +kernel
theorem dL_bestOrder_15 : decode cL_bestOrder 15 = .ok (.iconst 0, 1) := by decide +kernel
theorem dL_bestOrder_16 : decode cL_bestOrder 16 = .ok (.ireturn, 1) := by decide +kernel
set_option maxRecDepth 20000 in
theorem ggL_law_X1_init : GoodIn wsL_law wsX1_init := goodIn_r _ [9, 10, 11, 12, 13, 14, 15, 16, 17, 18, 19, 20, 21, 22, 23, 24, 25, 26, 27, 28, 29, 30, 31, 32, 33, 666, 667, 668, 669, 670, 671, 672, 673, 674, 675, 676, 677, 678, 679, 680, 681, 682, 656, 657] (by decide +kernel) (by decide +kernel)
set_option maxRecDepth 20000 in
theorem gL_law_X1_init : GoodIn wsL_law (wsX1_init) := ggL_law_X1_init
set_option maxRecDepth 20000 in
theorem ggL_law_X2_init : GoodIn wsL_law wsX2_init := goodIn_r _ [36, 37, 11, 12, 21, 38, 39, 40, 41, 42, 658, 659, 660, 661, 662, 663, 664, 665] (by decide +kernel) (by decide +kernel)
set_option maxRecDepth 20000 in
theorem gL_law_X2_init : GoodIn wsL_law (wsX2_init) := ggL_law_X2_init
