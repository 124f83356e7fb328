theorem dX2_init_0 : decode cX2_init 0 = .ok (.aload_n 0, 1) := by decide +kernel
theorem dX2_init_1 : decode cX2_init 1 = .ok (.invokespecial 3, 3) := by decide +kernel
theorem dX2_init_4 : decode cX2_init 4 = .ok (.aload_n 0, 1) := by decide +kernel
theorem dX2_init_5 : decode cX2_init 5 = .ok (.iconst 4, 1) := by decide +kernel
theorem dX2_init_6 : decode cX2_init 6 = .ok (.newarray .int, 2) := by decide +kernel
theorem dX2_init_8 : decode cX2_init 8 = .ok (.putfield 9, 3) := by decide +kernel
theorem dX2_init_11 : decode cX2_init 11 = .ok (.aload_n 0, 1) := by decide +kernel
theorem dX2_init_12 : decode cX2_init 12 = .ok (.iconst 4, 1) := by decide +kernel
theorem dX2_init_13 : decode cX2_init 13 = .ok (.newarray .int, 2) := by decide +kernel
theorem dX2_init_15 : decode cX2_init 15 = .ok (.putfield 13, 3) := by decide +kernel
theorem dX2_init_18 : decode cX2_init 18 = .ok (.aload_n 0, 1) := by decide +kernel
theorem dX2_init_19 : decode cX2_init 19 = .ok (.bipush 12, 2) := by decide +kernel
theorem dX2_init_21 : decode cX2_init 21 = .ok (.newarray .int, 2) := by decide +kernel
theorem dX2_init_23 : decode cX2_init 23 = .ok (.putfield 16, 3) := by decide +kernel
theorem dX2_init_26 : decode cX2_init 26 = .ok (.aload_n 0, 1) := by decide +kernel
theorem dX2_init_27 : decode cX2_init 27 = .ok (.bipush 100, 2) := by decide +kernel
theorem dX2_init_29 : decode cX2_init 29 = .ok (.newarray .int, 2) := by decide +kernel
theorem dX2_init_31 : decode cX2_init 31 = .ok (.putfield 19, 3) := by decide +kernel
theorem dX2_init_34 : decode cX2_init 34 = .ok (.aload_n 0, 1) := by decide +kernel
theorem dX2_init_35 : decode cX2_init 35 = .ok (.bipush 100, 2) := by decide +kernel
theorem dX2_init_37 : decode cX2_init 37 = .ok (.newarray .int, 2) := by decide +kernel
theorem dX2_init_39 : decode cX2_init 39 = .ok (.putfield 22, 3) := by decide +kernel
theorem dX2_init_42 : decode cX2_init 42 = .ok (.return_, 1) := by decide +kernel
theorem dX2_thrown_0 : decode cX2_thrown 0 = .ok (.aload_n 0, 1) := by decide +kernel
theorem dX2_thrown_1 : decode cX2_thrown 1 = .ok (.getfield 25, 3) := by decide +kernel
theorem dX2_thrown_4 : decode cX2_thrown 4 = .ok (.ireturn, 1) := by decide +kernel
theorem dX2_no_0 : decode cX2_no 0 = .ok (.aload_n 0, 1) := by decide +kernel
theorem dX2_no_1 : decode cX2_no 1 = .ok (.iload_n 1, 1) := by decide +kernel
theorem dX2_no_2 : decode cX2_no 2 = .ok (.putfield 25, 3) := by decide +kernel
theorem dX2_no_5 : decode cX2_no 5 = .ok (.iconst 0, 1) := by decide +kernel
theorem dX2_no_6 : decode cX2_no 6 = .ok (.ireturn, 1) := by decide +kernel
theorem dX2_ok_0 : decode cX2_ok 0 = .ok (.aload_n 0, 1) := by decide +kernel
theorem dX2_ok_1 : decode cX2_ok 1 = .ok (.iconst 0, 1) := by decide +kernel
theorem dX2_ok_2 : decode cX2_ok 2 = .ok (.putfield 25, 3) := by decide +kernel
theorem dX2_ok_5 : decode cX2_ok 5 = .ok (.iload_n 1, 1) := by decide +kernel
theorem dX2_ok_6 : decode cX2_ok 6 = .ok (.ireturn, 1) := by decide +kernel
theorem dX2_isIn_0 : decode cX2_isIn 0 = .ok (.iload_n 0, 1) := by decide +kernel
theorem dX2_isIn_1 : decode cX2_isIn 1 = .ok (.iload_n 1, 1) := by decide +kernel
theorem dX2_isIn_2 : decode cX2_isIn 2 = .ok (.if_icmp .lt 12, 3) := by decide +kernel
theorem dX2_isIn_5 : decode cX2_isIn 5 = .ok (.iload_n 0, 1) := by decide +kernel
theorem dX2_isIn_6 : decode cX2_isIn 6 = .ok (.iload_n 2, 1) := by decide +kernel
theorem dX2_isIn_7 : decode cX2_isIn 7 = .ok (.if_icmp .gt 7, 3) := by decide +kernel
theorem dX2_isIn_10 : decode cX2_isIn 10 = .ok (.iconst 1, 1) := by decide +kernel
theorem dX2_isIn_11 : decode cX2_isIn 11 = .ok (.goto 4, 3) := by decide +kernel
theorem dX2_isIn_14 : decode cX2_isIn 14 = .ok (.iconst 0, 1) := by decide +kernel
theorem dX2_isIn_15 : decode cX2_isIn 15 = .ok (.ireturn, 1) := by decide +kernel
set_option maxRecDepth 20000 in
theorem ggX2_isGate_X2_isIn : GoodIn wsX2_isGate wsX2_isIn := goodIn_r _ [5] (by decide +kernel) (by decide +kernel)
set_option maxRecDepth 20000 in
theorem gX2_isGate_X2_isIn : GoodIn wsX2_isGate (va_wsS RX2 32 yX2_isIn wsX2_isIn) := goodIn_app (goodIn_of _ (by decide +kernel)) ggX2_isGate_X2_isIn
theorem dX2_isGate_0 : decode cX2_isGate 0 = .ok (.iload_n 1, 1) := by decide +kernel
theorem dX2_isGate_1 : decode cX2_isGate 1 = .ok (.iconst 0, 1) := by decide +kernel
theorem dX2_isGate_2 : decode cX2_isGate 2 = .ok (.aload_n 0, 1) := by decide +kernel
theorem dX2_isGate_3 : decode cX2_isGate 3 = .ok (.getfield 29, 3) := by decide +kernel
theorem dX2_isGate_6 : decode cX2_isGate 6 = .ok (.iconst 1, 1) := by decide +kernel
theorem dX2_isGate_7 : decode cX2_isGate 7 = .ok (.isub, 1) := by decide +kernel
theorem dX2_isGate_8 : decode cX2_isGate 8 = .ok (.invokestatic 32, 3) := by decide +kernel
theorem dX2_isGate_11 : decode cX2_isGate 11 = .ok (.ireturn, 1) := by decide +kernel
set_option maxRecDepth 20000 in
theorem ggX2_isGoat_X2_isIn : GoodIn wsX2_isGoat wsX2_isIn := goodIn_r _ [5] (by decide +kernel) (by decide +kernel)
set_option maxRecDepth 20000 in
theorem gX2_isGoat_X2_isIn : GoodIn wsX2_isGoat (va_wsS RX2 32 yX2_isIn wsX2_isIn) := goodIn_app (goodIn_of _ (by decide +kernel)) ggX2_isGoat_X2_isIn
theorem dX2_isGoat_0 : decode cX2_isGoat 0 = .ok (.iload_n 1, 1) := by decide +kernel
theorem dX2_isGoat_1 : decode cX2_isGoat 1 = .ok (.iconst 0, 1) := by decide +kernel
theorem dX2_isGoat_2 : decode cX2_isGoat 2 = .ok (.aload_n 0, 1) := by decide +kernel
theorem dX2_isGoat_3 : decode cX2_isGoat 3 = .ok (.getfield 36, 3) := by decide +kernel
theorem dX2_isGoat_6 : decode cX2_isGoat 6 = .ok (.iconst 1, 1) := by decide +kernel
theorem dX2_isGoat_7 : decode cX2_isGoat 7 = .ok (.isub, 1) := by decide +kernel
theorem dX2_isGoat_8 : decode cX2_isGoat 8 = .ok (.invokestatic 32, 3) := by decide +kernel
theorem dX2_isGoat_11 : decode cX2_isGoat 11 = .ok (.ireturn, 1) := by decide +kernel
theorem dX2_keep_0 : decode cX2_keep 0 = .ok (.aload_n 0, 1) := by decide +kernel
theorem dX2_keep_1 : decode cX2_keep 1 = .ok (.getfield 19, 3) := by decide +kernel
theorem dX2_keep_4 : decode cX2_keep 4 = .ok (.iconst 0, 1) := by decide +kernel
theorem dX2_keep_5 : decode cX2_keep 5 = .ok (.aload_n 0, 1) := by decide +kernel
theorem dX2_keep_6 : decode cX2_keep 6 = .ok (.getfield 22, 3) := by decide +kernel
theorem dX2_keep_9 : decode cX2_keep 9 = .ok (.iconst 0, 1) := by decide +kernel
theorem dX2_keep_10 : decode cX2_keep 10 = .ok (.bipush 100, 2) := by decide +kernel
theorem dX2_keep_12 : decode cX2_keep 12 = .ok (.invokestatic 39, 3) := by decide +kernel
theorem dX2_keep_15 : decode cX2_keep 15 = .ok (.return_, 1) := by decide +kernel
theorem dX2_bringBack_0 : decode cX2_bringBack 0 = .ok (.aload_n 0, 1) := by decide +kernel
theorem dX2_bringBack_1 : decode cX2_bringBack 1 = .ok (.getfield 22, 3) := by decide +kernel
theorem dX2_bringBack_4 : decode cX2_bringBack 4 = .ok (.iconst 0, 1) := by decide +kernel
theorem dX2_bringBack_5 : decode cX2_bringBack 5 = .ok (.aload_n 0, 1) := by decide +kernel
theorem dX2_bringBack_6 : decode cX2_bringBack 6 = .ok (.getfield 19, 3) := by decide +kernel
theorem dX2_bringBack_9 : decode cX2_bringBack 9 = .ok (.iconst 0, 1) := by decide +kernel
theorem dX2_bringBack_10 : decode cX2_bringBack 10 = .ok (.bipush 100, 2) := by decide +kernel
theorem dX2_bringBack_12 : decode cX2_bringBack 12 = .ok (.invokestatic 39, 3) := by decide +kernel
theorem dX2_bringBack_15 : decode cX2_bringBack 15 = .ok (.return_, 1) := by decide +kernel
theorem dX2_of_0 : decode cX2_of 0 = .ok (.aload_n 0, 1) := by decide +kernel
theorem dX2_of_1 : decode cX2_of 1 = .ok (.getfield 19, 3) := by decide +kernel
theorem dX2_of_4 : decode cX2_of 4 = .ok (.iconst 4, 1) := by decide +kernel
theorem dX2_of_5 : decode cX2_of 5 = .ok (.bipush 8, 2) := by decide +kernel
theorem dX2_of_7 : decode cX2_of 7 = .ok (.iload_n 1, 1) := by decide +kernel
theorem dX2_of_8 : decode cX2_of 8 = .ok (.imul, 1) := by decide +kernel
theorem dX2_of_9 : decode cX2_of 9 = .ok (.iadd, 1) := by decide +kernel
theorem dX2_of_10 : decode cX2_of 10 = .ok (.iload_n 2, 1) := by decide +kernel
theorem dX2_of_11 : decode cX2_of 11 = .ok (.iadd, 1) := by decide +kernel
theorem dX2_of_12 : decode cX2_of 12 = .ok (.iaload, 1) := by decide +kernel
theorem dX2_of_13 : decode cX2_of 13 = .ok (.ireturn, 1) := by decide +kernel
theorem dX2_let_0 : decode cX2_let 0 = .ok (.aload_n 0, 1) := by decide +kernel
theorem dX2_let_1 : decode cX2_let 1 = .ok (.getfield 19, 3) := by decide +kernel
theorem dX2_let_4 : decode cX2_let 4 = .ok (.iconst 4, 1) := by decide +kernel
theorem dX2_let_5 : decode cX2_let 5 = .ok (.bipush 8, 2) := by decide +kernel
theorem dX2_let_7 : decode cX2_let 7 = .ok (.iload_n 1, 1) := by decide +kernel
theorem dX2_let_8 : decode cX2_let 8 = .ok (.imul, 1) := by decide +kernel
theorem dX2_let_9 : decode cX2_let 9 = .ok (.iadd, 1) := by decide +kernel
theorem dX2_let_10 : decode cX2_let 10 = .ok (.iload_n 2, 1) := by decide +kernel
theorem dX2_let_11 : decode cX2_let 11 = .ok (.iadd, 1) := by decide +kernel
theorem dX2_let_12 : decode cX2_let 12 = .ok (.iload_n 3, 1) := by decide +kernel
theorem dX2_let_13 : decode cX2_let 13 = .ok (.iastore, 1) := by decide +kernel
theorem dX2_let_14 : decode cX2_let 14 = .ok (.return_, 1) := by decide +kernel
set_option maxRecDepth 20000 in
theorem ggX2_is_X2_of : GoodIn wsX2_is wsX2_of := goodIn_r _ [5, 6, 7, 8, 9, 10, 11, 12, 13, 14] (by decide +kernel) (by decide +kernel)
set_option maxRecDepth 20000 in
theorem gX2_is_X2_of : GoodIn wsX2_is (wsV RX2 45 RX2 yX2_of wsX2_of) := goodIn_app (goodIn_of _ (by decide +kernel)) ggX2_is_X2_of
theorem dX2_is_0 : decode cX2_is 0 = .ok (.aload_n 0, 1) := by decide +kernel
theorem dX2_is_1 : decode cX2_is 1 = .ok (.iload_n 1, 1) := by decide +kernel
theorem dX2_is_2 : decode cX2_is 2 = .ok (.iconst 0, 1) := by decide +kernel
theorem dX2_is_3 : decode cX2_is 3 = .ok (.invokevirtual 45, 3) := by decide +kernel
theorem dX2_is_6 : decode cX2_is 6 = .ok (.iload_n 2, 1) := by decide +kernel
theorem dX2_is_7 : decode cX2_is 7 = .ok (.if_icmp .ne 7, 3) := by decide +kernel
theorem dX2_is_10 : decode cX2_is 10 = .ok (.iconst 1, 1) := by decide +kernel
theorem dX2_is_11 : decode cX2_is 11 = .ok (.goto 4, 3) := by decide +kernel
theorem dX2_is_14 : decode cX2_is 14 = .ok (.iconst 0, 1) := by decide +kernel
theorem dX2_is_15 : decode cX2_is 15 = .ok (.ireturn, 1) := by decide +kernel
set_option maxRecDepth 20000 in
theorem ggX2_isAt_X2_is : GoodIn wsX2_isAt wsX2_is := goodIn_r _ [5, 6, 7, 8, 4, 9, 10, 11, 12, 13, 14, 15, 16, 17, 18] (by decide +kernel) (by decide +kernel)
set_option maxRecDepth 20000 in
theorem gX2_isAt_X2_is : GoodIn wsX2_isAt (wsV RX2 49 RX2 yX2_is wsX2_is) := goodIn_app (goodIn_of _ (by decide +kernel)) ggX2_isAt_X2_is
set_option maxRecDepth 20000 in
theorem ggX2_isAt_X2_of : GoodIn wsX2_isAt wsX2_of := goodIn_r _ [9, 10, 11, 12, 13, 14, 15, 16, 17, 18] (by decide +kernel) (by decide +kernel)
set_option maxRecDepth 20000 in
theorem gX2_isAt_X2_of : GoodIn wsX2_isAt (wsV RX2 45 RX2 yX2_of wsX2_of) := goodIn_app (goodIn_of _ (by decide +kernel)) ggX2_isAt_X2_of
theorem dX2_isAt_0 : decode cX2_isAt 0 = .ok (.aload_n 0, 1) := by decide +kernel
theorem dX2_isAt_1 : decode cX2_isAt 1 = .ok (.iload_n 1, 1) := by decide +kernel
theorem dX2_isAt_2 : decode cX2_isAt 2 = .ok (.iconst 1, 1) := by decide +kernel
theorem dX2_isAt_3 : decode cX2_isAt 3 = .ok (.invokevirtual 49, 3) := by decide +kernel
theorem dX2_isAt_6 : decode cX2_isAt 6 = .ok (.ifCond .eq 17, 3) := by decide +kernel
theorem dX2_isAt_9 : decode cX2_isAt 9 = .ok (.aload_n 0, 1) := by decide +kernel
theorem dX2_isAt_10 : decode cX2_isAt 10 = .ok (.iload_n 1, 1) := by decide +kernel
theorem dX2_isAt_11 : decode cX2_isAt 11 = .ok (.iconst 1, 1) := by decide +kernel
theorem dX2_isAt_12 : decode cX2_isAt 12 = .ok (.invokevirtual 45, 3) := by decide +kernel
theorem dX2_isAt_15 : decode cX2_isAt 15 = .ok (.iload_n 2, 1) := by decide +kernel
theorem dX2_isAt_16 : decode cX2_isAt 16 = .ok (.if_icmp .ne 7, 3) := by decide +kernel
theorem dX2_isAt_19 : decode cX2_isAt 19 = .ok (.iconst 1, 1) := by decide +kernel
theorem dX2_isAt_20 : decode cX2_isAt 20 = .ok (.goto 4, 3) := by decide +kernel
theorem dX2_isAt_23 : decode cX2_isAt 23 = .ok (.iconst 0, 1) := by decide +kernel
theorem dX2_isAt_24 : decode cX2_isAt 24 = .ok (.ireturn, 1) := by decide +kernel
set_option maxRecDepth 20000 in
theorem ggX2_free_X2_is : GoodIn wsX2_free wsX2_is := goodIn_r _ [7, 8, 9, 10, 6, 11, 12, 13, 14, 15, 16, 17, 18, 19, 20] (by decide +kernel) (by decide +kernel)
set_option maxRecDepth 20000 in
theorem gX2_free_X2_is : GoodIn wsX2_free (wsV RX2 49 RX2 yX2_is wsX2_is) := goodIn_app (goodIn_of _ (by decide +kernel)) ggX2_free_X2_is
set_option maxRecDepth 20000 in
theorem ggX2_free_X2_of : GoodIn wsX2_free wsX2_of := goodIn_r _ [11, 12, 13, 14, 15, 16, 17, 18, 19, 20] (by decide +kernel) (by decide +kernel)
set_option maxRecDepth 20000 in
theorem gX2_free_X2_of : GoodIn wsX2_free (wsV RX2 45 RX2 yX2_of wsX2_of) := goodIn_app (goodIn_of _ (by decide +kernel)) ggX2_free_X2_of
theorem dX2_free_0 : decode cX2_free 0 = .ok (.aload_n 0, 1) := by decide +kernel
theorem dX2_free_1 : decode cX2_free 1 = .ok (.getfield 9, 3) := by decide +kernel
theorem dX2_free_4 : decode cX2_free 4 = .ok (.iload_n 1, 1) := by decide +kernel
theorem dX2_free_5 : decode cX2_free 5 = .ok (.iaload, 1) := by decide +kernel
theorem dX2_free_6 : decode cX2_free 6 = .ok (.istore_n 2, 1) := by decide +kernel
theorem dX2_free_7 : decode cX2_free 7 = .ok (.iconst 0, 1) := by decide +kernel
theorem dX2_free_8 : decode cX2_free 8 = .ok (.istore_n 3, 1) := by decide +kernel
theorem dX2_free_9 : decode cX2_free 9 = .ok (.iload_n 3, 1) := by decide +kernel
theorem dX2_free_10 : decode cX2_free 10 = .ok (.aload_n 0, 1) := by decide +kernel
theorem dX2_free_11 : decode cX2_free 11 = .ok (.getfield 36, 3) := by decide +kernel
theorem dX2_free_14 : decode cX2_free 14 = .ok (.if_icmp .ge 37, 3) := by decide +kernel
theorem dX2_free_17 : decode cX2_free 17 = .ok (.aload_n 0, 1) := by decide +kernel
theorem dX2_free_18 : decode cX2_free 18 = .ok (.iload_n 3, 1) := by decide +kernel
theorem dX2_free_19 : decode cX2_free 19 = .ok (.iconst 2, 1) := by decide +kernel
theorem dX2_free_20 : decode cX2_free 20 = .ok (.invokevirtual 49, 3) := by decide +kernel
theorem dX2_free_23 : decode cX2_free 23 = .ok (.ifCond .eq 22, 3) := by decide +kernel
theorem dX2_free_26 : decode cX2_free 26 = .ok (.aload_n 0, 1) := by decide +kernel
theorem dX2_free_27 : decode cX2_free 27 = .ok (.iload_n 3, 1) := by decide +kernel
theorem dX2_free_28 : decode cX2_free 28 = .ok (.iconst 1, 1) := by decide +kernel
theorem dX2_free_29 : decode cX2_free 29 = .ok (.invokevirtual 45, 3) := by decide +kernel
theorem dX2_free_32 : decode cX2_free 32 = .ok (.iload_n 1, 1) := by decide +kernel
theorem dX2_free_33 : decode cX2_free 33 = .ok (.if_icmp .ne 12, 3) := by decide +kernel
theorem dX2_free_36 : decode cX2_free 36 = .ok (.iload_n 2, 1) := by decide +kernel
theorem dX2_free_37 : decode cX2_free 37 = .ok (.aload_n 0, 1) := by decide +kernel
theorem dX2_free_38 : decode cX2_free 38 = .ok (.iload_n 3, 1) := by decide +kernel
theorem dX2_free_39 : decode cX2_free 39 = .ok (.iconst 2, 1) := by decide +kernel
theorem dX2_free_40 : decode cX2_free 40 = .ok (.invokevirtual 45, 3) := by decide +kernel
theorem dX2_free_43 : decode cX2_free 43 = .ok (.isub, 1) := by decide +kernel
theorem dX2_free_44 : decode cX2_free 44 = .ok (.istore_n 2, 1) := by decide +kernel
theorem dX2_free_45 : decode cX2_free 45 = .ok (.iinc 3 1, 3) := by decide +kernel
theorem dX2_free_48 : decode cX2_free 48 = .ok (.goto (-39), 3) := by decide +kernel
theorem dX2_free_51 : decode cX2_free 51 = .ok (.iload_n 2, 1) := by decide +kernel
theorem dX2_free_52 : decode cX2_free 52 = .ok (.ireturn, 1) := by decide +kernel
set_option maxRecDepth 20000 in
theorem ggX2_seem_X2_is : GoodIn wsX2_seem wsX2_is := goodIn_r _ [6, 7, 8, 9, 5, 10, 11, 12, 13, 14, 15, 16, 17, 18, 19] (by decide +kernel) (by decide +kernel)
set_option maxRecDepth 20000 in
theorem gX2_seem_X2_is : GoodIn wsX2_seem (wsV RX2 49 RX2 yX2_is wsX2_is) := goodIn_app (goodIn_of _ (by decide +kernel)) ggX2_seem_X2_is
set_option maxRecDepth 20000 in
theorem ggX2_seem_X2_of : GoodIn wsX2_seem wsX2_of := goodIn_r _ [10, 11, 12, 13, 14, 15, 16, 17, 18, 19] (by decide +kernel) (by decide +kernel)
set_option maxRecDepth 20000 in
theorem gX2_seem_X2_of : GoodIn wsX2_seem (wsV RX2 45 RX2 yX2_of wsX2_of) := goodIn_app (goodIn_of _ (by decide +kernel)) ggX2_seem_X2_of
theorem dX2_seem_0 : decode cX2_seem 0 = .ok (.aload_n 0, 1) := by decide +kernel
theorem dX2_seem_1 : decode cX2_seem 1 = .ok (.getfield 16, 3) := by decide +kernel
theorem dX2_seem_4 : decode cX2_seem 4 = .ok (.iload_n 1, 1) := by decide +kernel
theorem dX2_seem_5 : decode cX2_seem 5 = .ok (.iaload, 1) := by decide +kernel
theorem dX2_seem_6 : decode cX2_seem 6 = .ok (.aload_n 0, 1) := by decide +kernel
theorem dX2_seem_7 : decode cX2_seem 7 = .ok (.iload_n 1, 1) := by decide +kernel
theorem dX2_seem_8 : decode cX2_seem 8 = .ok (.iconst 1, 1) := by decide +kernel
theorem dX2_seem_9 : decode cX2_seem 9 = .ok (.invokevirtual 49, 3) := by decide +kernel
theorem dX2_seem_12 : decode cX2_seem 12 = .ok (.ifCond .eq 14, 3) := by decide +kernel
theorem dX2_seem_15 : decode cX2_seem 15 = .ok (.aload_n 0, 1) := by decide +kernel
theorem dX2_seem_16 : decode cX2_seem 16 = .ok (.iload_n 1, 1) := by decide +kernel
theorem dX2_seem_17 : decode cX2_seem 17 = .ok (.iconst 5, 1) := by decide +kernel
theorem dX2_seem_18 : decode cX2_seem 18 = .ok (.invokevirtual 45, 3) := by decide +kernel
theorem dX2_seem_21 : decode cX2_seem 21 = .ok (.iconst 3, 1) := by decide +kernel
theorem dX2_seem_22 : decode cX2_seem 22 = .ok (.idiv, 1) := by decide +kernel
theorem dX2_seem_23 : decode cX2_seem 23 = .ok (.goto 4, 3) := by decide +kernel
theorem dX2_seem_26 : decode cX2_seem 26 = .ok (.iconst 0, 1) := by decide +kernel
theorem dX2_seem_27 : decode cX2_seem 27 = .ok (.iadd, 1) := by decide +kernel
theorem dX2_seem_28 : decode cX2_seem 28 = .ok (.ireturn, 1) := by decide +kernel
set_option maxRecDepth 20000 in
theorem ggX2_firstAt_X2_isAt : GoodIn wsX2_firstAt wsX2_isAt := goodIn_r _ [6, 7, 8, 9, 5, 10, 11, 12, 13, 14, 15, 16, 17, 18, 19, 20, 21, 22, 23] (by decide +kernel) (by decide +kernel)
set_option maxRecDepth 20000 in
theorem gX2_firstAt_X2_isAt : GoodIn wsX2_firstAt (wsV RX2 53 RX2 yX2_isAt wsX2_isAt) := goodIn_app (goodIn_of _ (by decide +kernel)) ggX2_firstAt_X2_isAt
set_option maxRecDepth 20000 in
theorem ggX2_firstAt_X2_of : GoodIn wsX2_firstAt wsX2_of := goodIn_r _ [14, 15, 16, 17, 18, 19, 20, 21, 22, 23] (by decide +kernel) (by decide +kernel)
set_option maxRecDepth 20000 in
theorem gX2_firstAt_X2_of : GoodIn wsX2_firstAt (wsV RX2 45 RX2 yX2_of wsX2_of) := goodIn_app (goodIn_of _ (by decide +kernel)) ggX2_firstAt_X2_of
theorem dX2_firstAt_0 : decode cX2_firstAt 0 = .ok (.iconst (-1), 1) := by decide +kernel
theorem dX2_firstAt_1 : decode cX2_firstAt 1 = .ok (.istore_n 2, 1) := by decide +kernel
theorem dX2_firstAt_2 : decode cX2_firstAt 2 = .ok (.iconst 0, 1) := by decide +kernel
theorem dX2_firstAt_3 : decode cX2_firstAt 3 = .ok (.istore_n 3, 1) := by decide +kernel
theorem dX2_firstAt_4 : decode cX2_firstAt 4 = .ok (.iload_n 3, 1) := by decide +kernel
theorem dX2_firstAt_5 : decode cX2_firstAt 5 = .ok (.aload_n 0, 1) := by decide +kernel
theorem dX2_firstAt_6 : decode cX2_firstAt 6 = .ok (.getfield 36, 3) := by decide +kernel
theorem dX2_firstAt_9 : decode cX2_firstAt 9 = .ok (.if_icmp .ge 42, 3) := by decide +kernel
theorem dX2_firstAt_12 : decode cX2_firstAt 12 = .ok (.aload_n 0, 1) := by decide +kernel
theorem dX2_firstAt_13 : decode cX2_firstAt 13 = .ok (.iload_n 3, 1) := by decide +kernel
theorem dX2_firstAt_14 : decode cX2_firstAt 14 = .ok (.iload_n 1, 1) := by decide +kernel
theorem dX2_firstAt_15 : decode cX2_firstAt 15 = .ok (.invokevirtual 53, 3) := by decide +kernel
theorem dX2_firstAt_18 : decode cX2_firstAt 18 = .ok (.ifCond .eq 27, 3) := by decide +kernel
theorem dX2_firstAt_21 : decode cX2_firstAt 21 = .ok (.iload_n 2, 1) := by decide +kernel
theorem dX2_firstAt_22 : decode cX2_firstAt 22 = .ok (.iconst (-1), 1) := by decide +kernel
theorem dX2_firstAt_23 : decode cX2_firstAt 23 = .ok (.if_icmp .eq 20, 3) := by decide +kernel
theorem dX2_firstAt_26 : decode cX2_firstAt 26 = .ok (.aload_n 0, 1) := by decide +kernel
theorem dX2_firstAt_27 : decode cX2_firstAt 27 = .ok (.iload_n 3, 1) := by decide +kernel
theorem dX2_firstAt_28 : decode cX2_firstAt 28 = .ok (.bipush 7, 2) := by decide +kernel
theorem dX2_firstAt_30 : decode cX2_firstAt 30 = .ok (.invokevirtual 45, 3) := by decide +kernel
theorem dX2_firstAt_33 : decode cX2_firstAt 33 = .ok (.aload_n 0, 1) := by decide +kernel
theorem dX2_firstAt_34 : decode cX2_firstAt 34 = .ok (.iload_n 2, 1) := by decide +kernel
theorem dX2_firstAt_35 : decode cX2_firstAt 35 = .ok (.bipush 7, 2) := by decide +kernel
theorem dX2_firstAt_37 : decode cX2_firstAt 37 = .ok (.invokevirtual 45, 3) := by decide +kernel
theorem dX2_firstAt_40 : decode cX2_firstAt 40 = .ok (.if_icmp .ge 5, 3) := by decide +kernel
theorem dX2_firstAt_43 : decode cX2_firstAt 43 = .ok (.iload_n 3, 1) := by decide +kernel
theorem dX2_firstAt_44 : decode cX2_firstAt 44 = .ok (.istore_n 2, 1) := by decide +kernel
theorem dX2_firstAt_45 : decode cX2_firstAt 45 = .ok (.iinc 3 1, 3) := by decide +kernel
theorem dX2_firstAt_48 : decode cX2_firstAt 48 = .ok (.goto (-44), 3) := by decide +kernel
theorem dX2_firstAt_51 : decode cX2_firstAt 51 = .ok (.iload_n 2, 1) := by decide +kernel
theorem dX2_firstAt_52 : decode cX2_firstAt 52 = .ok (.ireturn, 1) := by decide +kernel
set_option maxRecDepth 20000 in
theorem ggX2_next_X2_free : GoodIn wsX2_next wsX2_free := goodIn_r _ [7, 8, 2, 9, 10, 11, 6, 12, 13, 14, 15, 16, 17, 31, 32, 33, 34, 35, 36, 37, 38] (by decide +kernel) (by decide +kernel)
set_option maxRecDepth 20000 in
theorem gX2_next_X2_free : GoodIn wsX2_next (wsV RX2 56 RX2 yX2_free wsX2_free) := goodIn_app (goodIn_of _ (by decide +kernel)) ggX2_next_X2_free
set_option maxRecDepth 20000 in
theorem ggX2_next_X2_firstAt : GoodIn wsX2_next wsX2_firstAt := goodIn_r _ [21, 2, 22, 23, 24, 6, 25, 9, 10, 11, 12, 13, 14, 15, 16, 17, 31, 32, 33, 34, 35, 36, 37, 38] (by decide +kernel) (by decide +kernel)
set_option maxRecDepth 20000 in
theorem gX2_next_X2_firstAt : GoodIn wsX2_next (wsV RX2 60 RX2 yX2_firstAt wsX2_firstAt) := goodIn_app (goodIn_of _ (by decide +kernel)) ggX2_next_X2_firstAt
set_option maxRecDepth 20000 in
theorem ggX2_next_X2_of : GoodIn wsX2_next wsX2_of := goodIn_r _ [16, 17, 31, 32, 33, 34, 35, 36, 37, 38] (by decide +kernel) (by decide +kernel)
set_option maxRecDepth 20000 in
theorem gX2_next_X2_of : GoodIn wsX2_next (wsV RX2 45 RX2 yX2_of wsX2_of) := goodIn_app (goodIn_of _ (by decide +kernel)) ggX2_next_X2_of
set_option maxRecDepth 20000 in
theorem ggX2_next_X2_isAt : GoodIn wsX2_next wsX2_isAt := goodIn_r _ [25, 9, 10, 11, 6, 12, 13, 14, 15, 16, 17, 31, 32, 33, 34, 35, 36, 37, 38] (by decide +kernel) (by decide +kernel)
set_option maxRecDepth 20000 in
theorem gX2_next_X2_isAt : GoodIn wsX2_next (wsV RX2 53 RX2 yX2_isAt wsX2_isAt) := goodIn_app (goodIn_of _ (by decide +kernel)) ggX2_next_X2_isAt
set_option maxRecDepth 20000 in
theorem ggX2_next_X2_seem : GoodIn wsX2_next wsX2_seem := goodIn_r _ [29, 30, 9, 10, 11, 6, 12, 13, 14, 15, 16, 17, 31, 32, 33, 34, 35, 36, 37, 38] (by decide +kernel) (by decide +kernel)
set_option maxRecDepth 20000 in
theorem gX2_next_X2_seem : GoodIn wsX2_next (wsV RX2 63 RX2 yX2_seem wsX2_seem) := goodIn_app (goodIn_of _ (by decide +kernel)) ggX2_next_X2_seem
theorem dX2_next_0 : decode cX2_next 0 = .ok (.aload_n 0, 1) := by decide +kernel
theorem dX2_next_1 : decode cX2_next 1 = .ok (.iload_n 1, 1) := by decide +kernel
theorem dX2_next_2 : decode cX2_next 2 = .ok (.invokevirtual 56, 3) := by decide +kernel
theorem dX2_next_5 : decode cX2_next 5 = .ok (.istore_n 2, 1) := by decide +kernel
theorem dX2_next_6 : decode cX2_next 6 = .ok (.aload_n 0, 1) := by decide +kernel
theorem dX2_next_7 : decode cX2_next 7 = .ok (.getfield 13, 3) := by decide +kernel
theorem dX2_next_10 : decode cX2_next 10 = .ok (.iload_n 1, 1) := by decide +kernel
theorem dX2_next_11 : decode cX2_next 11 = .ok (.iaload, 1) := by decide +kernel
theorem dX2_next_12 : decode cX2_next 12 = .ok (.ifCond .ne 30, 3) := by decide +kernel
theorem dX2_next_15 : decode cX2_next 15 = .ok (.aload_n 0, 1) := by decide +kernel
theorem dX2_next_16 : decode cX2_next 16 = .ok (.iload_n 1, 1) := by decide +kernel
theorem dX2_next_17 : decode cX2_next 17 = .ok (.invokevirtual 60, 3) := by decide +kernel
theorem dX2_next_20 : decode cX2_next 20 = .ok (.istore_n 3, 1) := by decide +kernel
theorem dX2_next_21 : decode cX2_next 21 = .ok (.iload_n 3, 1) := by decide +kernel
theorem dX2_next_22 : decode cX2_next 22 = .ok (.iconst (-1), 1) := by decide +kernel
theorem dX2_next_23 : decode cX2_next 23 = .ok (.if_icmp .eq 13, 3) := by decide +kernel
theorem dX2_next_26 : decode cX2_next 26 = .ok (.aload_n 0, 1) := by decide +kernel
theorem dX2_next_27 : decode cX2_next 27 = .ok (.iload_n 3, 1) := by decide +kernel
theorem dX2_next_28 : decode cX2_next 28 = .ok (.iconst 2, 1) := by decide +kernel
theorem dX2_next_29 : decode cX2_next 29 = .ok (.invokevirtual 45, 3) := by decide +kernel
theorem dX2_next_32 : decode cX2_next 32 = .ok (.iload_n 2, 1) := by decide +kernel
theorem dX2_next_33 : decode cX2_next 33 = .ok (.if_icmp .le 7, 3) := by decide +kernel
theorem dX2_next_36 : decode cX2_next 36 = .ok (.iconst (-1), 1) := by decide +kernel
theorem dX2_next_37 : decode cX2_next 37 = .ok (.goto 4, 3) := by decide +kernel
theorem dX2_next_40 : decode cX2_next 40 = .ok (.iload_n 3, 1) := by decide +kernel
theorem dX2_next_41 : decode cX2_next 41 = .ok (.ireturn, 1) := by decide +kernel
theorem dX2_next_42 : decode cX2_next 42 = .ok (.iconst (-1), 1) := by decide +kernel
theorem dX2_next_43 : decode cX2_next 43 = .ok (.istore_n 3, 1) := by decide +kernel
theorem dX2_next_44 : decode cX2_next 44 = .ok (.iconst 0, 1) := by decide +kernel
theorem dX2_next_45 : decode cX2_next 45 = .ok (.istore 4, 2) := by decide +kernel
theorem dX2_next_47 : decode cX2_next 47 = .ok (.iload 4, 2) := by decide +kernel
theorem dX2_next_49 : decode cX2_next 49 = .ok (.aload_n 0, 1) := by decide +kernel
theorem dX2_next_50 : decode cX2_next 50 = .ok (.getfield 36, 3) := by decide +kernel
theorem dX2_next_53 : decode cX2_next 53 = .ok (.if_icmp .ge 87, 3) := by decide +kernel
theorem dX2_next_56 : decode cX2_next 56 = .ok (.aload_n 0, 1) := by decide +kernel
theorem dX2_next_57 : decode cX2_next 57 = .ok (.iload 4, 2) := by decide +kernel
theorem dX2_next_59 : decode cX2_next 59 = .ok (.iload_n 1, 1) := by decide +kernel
theorem dX2_next_60 : decode cX2_next 60 = .ok (.invokevirtual 53, 3) := by decide +kernel
theorem dX2_next_63 : decode cX2_next 63 = .ok (.ifCond .eq 71, 3) := by decide +kernel
theorem dX2_next_66 : decode cX2_next 66 = .ok (.aload_n 0, 1) := by decide +kernel
theorem dX2_next_67 : decode cX2_next 67 = .ok (.iload 4, 2) := by decide +kernel
theorem dX2_next_69 : decode cX2_next 69 = .ok (.iconst 2, 1) := by decide +kernel
theorem dX2_next_70 : decode cX2_next 70 = .ok (.invokevirtual 45, 3) := by decide +kernel
theorem dX2_next_73 : decode cX2_next 73 = .ok (.iload_n 2, 1) := by decide +kernel
theorem dX2_next_74 : decode cX2_next 74 = .ok (.if_icmp .le 6, 3) := by decide +kernel
theorem dX2_next_77 : decode cX2_next 77 = .ok (.goto 57, 3) := by decide +kernel
theorem dX2_next_80 : decode cX2_next 80 = .ok (.iload_n 3, 1) := by decide +kernel
theorem dX2_next_81 : decode cX2_next 81 = .ok (.iconst (-1), 1) := by decide +kernel
theorem dX2_next_82 : decode cX2_next 82 = .ok (.if_icmp .eq 49, 3) := by decide +kernel
theorem dX2_next_85 : decode cX2_next 85 = .ok (.aload_n 0, 1) := by decide +kernel
theorem dX2_next_86 : decode cX2_next 86 = .ok (.iload 4, 2) := by decide +kernel
theorem dX2_next_88 : decode cX2_next 88 = .ok (.invokevirtual 63, 3) := by decide +kernel
theorem dX2_next_91 : decode cX2_next 91 = .ok (.aload_n 0, 1) := by decide +kernel
theorem dX2_next_92 : decode cX2_next 92 = .ok (.iload_n 3, 1) := by decide +kernel
theorem dX2_next_93 : decode cX2_next 93 = .ok (.invokevirtual 63, 3) := by decide +kernel
theorem dX2_next_96 : decode cX2_next 96 = .ok (.if_icmp .gt 35, 3) := by decide +kernel
theorem dX2_next_99 : decode cX2_next 99 = .ok (.aload_n 0, 1) := by decide +kernel
theorem dX2_next_100 : decode cX2_next 100 = .ok (.iload 4, 2) := by decide +kernel
theorem dX2_next_102 : decode cX2_next 102 = .ok (.invokevirtual 63, 3) := by decide +kernel
theorem dX2_next_105 : decode cX2_next 105 = .ok (.aload_n 0, 1) := by decide +kernel
theorem dX2_next_106 : decode cX2_next 106 = .ok (.iload_n 3, 1) := by decide +kernel
theorem dX2_next_107 : decode cX2_next 107 = .ok (.invokevirtual 63, 3) := by decide +kernel
theorem dX2_next_110 : decode cX2_next 110 = .ok (.if_icmp .ne 24, 3) := by decide +kernel
theorem dX2_next_113 : decode cX2_next 113 = .ok (.aload_n 0, 1) := by decide +kernel
theorem dX2_next_114 : decode cX2_next 114 = .ok (.iload 4, 2) := by decide +kernel
theorem dX2_next_116 : decode cX2_next 116 = .ok (.bipush 7, 2) := by decide +kernel
theorem dX2_next_118 : decode cX2_next 118 = .ok (.invokevirtual 45, 3) := by decide +kernel
theorem dX2_next_121 : decode cX2_next 121 = .ok (.aload_n 0, 1) := by decide +kernel
theorem dX2_next_122 : decode cX2_next 122 = .ok (.iload_n 3, 1) := by decide +kernel
theorem dX2_next_123 : decode cX2_next 123 = .ok (.bipush 7, 2) := by decide +kernel
theorem dX2_next_125 : decode cX2_next 125 = .ok (.invokevirtual 45, 3) := by decide +kernel
theorem dX2_next_128 : decode cX2_next 128 = .ok (.if_icmp .ge 6, 3) := by decide +kernel
theorem dX2_next_131 : decode cX2_next 131 = .ok (.iload 4, 2) := by decide +kernel
theorem dX2_next_133 : decode cX2_next 133 = .ok (.istore_n 3, 1) := by decide +kernel
theorem dX2_next_134 : decode cX2_next 134 = .ok (.iinc 4 1, 3) := by decide +kernel
theorem dX2_next_137 : decode cX2_next 137 = .ok (.goto (-90), 3) := by decide +kernel
theorem dX2_next_140 : decode cX2_next 140 = .ok (.iload_n 3, 1) := by decide +kernel
theorem dX2_next_141 : decode cX2_next 141 = .ok (.ireturn, 1) := by decide +kernel
set_option maxRecDepth 20000 in
theorem ggX2_manyAt_X2_isAt : GoodIn wsX2_manyAt wsX2_isAt := goodIn_r _ [6, 7, 8, 9, 5, 10, 11, 12, 13, 14, 15, 16, 17, 18, 19, 20, 21, 22, 23] (by decide +kernel) (by decide +kernel)
set_option maxRecDepth 20000 in
theorem gX2_manyAt_X2_isAt : GoodIn wsX2_manyAt (wsV RX2 53 RX2 yX2_isAt wsX2_isAt) := goodIn_app (goodIn_of _ (by decide +kernel)) ggX2_manyAt_X2_isAt
theorem dX2_manyAt_0 : decode cX2_manyAt 0 = .ok (.iconst 0, 1) := by decide +kernel
theorem dX2_manyAt_1 : decode cX2_manyAt 1 = .ok (.istore_n 2, 1) := by decide +kernel
theorem dX2_manyAt_2 : decode cX2_manyAt 2 = .ok (.iconst 0, 1) := by decide +kernel
theorem dX2_manyAt_3 : decode cX2_manyAt 3 = .ok (.istore_n 3, 1) := by decide +kernel
theorem dX2_manyAt_4 : decode cX2_manyAt 4 = .ok (.iload_n 3, 1) := by decide +kernel
theorem dX2_manyAt_5 : decode cX2_manyAt 5 = .ok (.aload_n 0, 1) := by decide +kernel
theorem dX2_manyAt_6 : decode cX2_manyAt 6 = .ok (.getfield 36, 3) := by decide +kernel
theorem dX2_manyAt_9 : decode cX2_manyAt 9 = .ok (.if_icmp .ge 26, 3) := by decide +kernel
theorem dX2_manyAt_12 : decode cX2_manyAt 12 = .ok (.iload_n 2, 1) := by decide +kernel
theorem dX2_manyAt_13 : decode cX2_manyAt 13 = .ok (.aload_n 0, 1) := by decide +kernel
theorem dX2_manyAt_14 : decode cX2_manyAt 14 = .ok (.iload_n 3, 1) := by decide +kernel
theorem dX2_manyAt_15 : decode cX2_manyAt 15 = .ok (.iload_n 1, 1) := by decide +kernel
theorem dX2_manyAt_16 : decode cX2_manyAt 16 = .ok (.invokevirtual 53, 3) := by decide +kernel
theorem dX2_manyAt_19 : decode cX2_manyAt 19 = .ok (.ifCond .eq 7, 3) := by decide +kernel
theorem dX2_manyAt_22 : decode cX2_manyAt 22 = .ok (.iconst 1, 1) := by decide +kernel
theorem dX2_manyAt_23 : decode cX2_manyAt 23 = .ok (.goto 4, 3) := by decide +kernel
theorem dX2_manyAt_26 : decode cX2_manyAt 26 = .ok (.iconst 0, 1) := by decide +kernel
theorem dX2_manyAt_27 : decode cX2_manyAt 27 = .ok (.iadd, 1) := by decide +kernel
theorem dX2_manyAt_28 : decode cX2_manyAt 28 = .ok (.istore_n 2, 1) := by decide +kernel
theorem dX2_manyAt_29 : decode cX2_manyAt 29 = .ok (.iinc 3 1, 3) := by decide +kernel
theorem dX2_manyAt_32 : decode cX2_manyAt 32 = .ok (.goto (-28), 3) := by decide +kernel
theorem dX2_manyAt_35 : decode cX2_manyAt 35 = .ok (.iload_n 2, 1) := by decide +kernel
theorem dX2_manyAt_36 : decode cX2_manyAt 36 = .ok (.ireturn, 1) := by decide +kernel
set_option maxRecDepth 20000 in
theorem ggX2_many_X2_is : GoodIn wsX2_many wsX2_is := goodIn_r _ [6, 7, 8, 9, 5, 10, 11, 12, 13, 14, 15, 16, 17, 18, 19] (by decide +kernel) (by decide +kernel)
set_option maxRecDepth 20000 in
theorem gX2_many_X2_is : GoodIn wsX2_many (wsV RX2 49 RX2 yX2_is wsX2_is) := goodIn_app (goodIn_of _ (by decide +kernel)) ggX2_many_X2_is
theorem dX2_many_0 : decode cX2_many 0 = .ok (.iconst 0, 1) := by decide +kernel
theorem dX2_many_1 : decode cX2_many 1 = .ok (.istore_n 2, 1) := by decide +kernel
theorem dX2_many_2 : decode cX2_many 2 = .ok (.iconst 0, 1) := by decide +kernel
theorem dX2_many_3 : decode cX2_many 3 = .ok (.istore_n 3, 1) := by decide +kernel
theorem dX2_many_4 : decode cX2_many 4 = .ok (.iload_n 3, 1) := by decide +kernel
theorem dX2_many_5 : decode cX2_many 5 = .ok (.aload_n 0, 1) := by decide +kernel
theorem dX2_many_6 : decode cX2_many 6 = .ok (.getfield 36, 3) := by decide +kernel
theorem dX2_many_9 : decode cX2_many 9 = .ok (.if_icmp .ge 26, 3) := by decide +kernel
theorem dX2_many_12 : decode cX2_many 12 = .ok (.iload_n 2, 1) := by decide +kernel
theorem dX2_many_13 : decode cX2_many 13 = .ok (.aload_n 0, 1) := by decide +kernel
theorem dX2_many_14 : decode cX2_many 14 = .ok (.iload_n 3, 1) := by decide +kernel
theorem dX2_many_15 : decode cX2_many 15 = .ok (.iload_n 1, 1) := by decide +kernel
theorem dX2_many_16 : decode cX2_many 16 = .ok (.invokevirtual 49, 3) := by decide +kernel
theorem dX2_many_19 : decode cX2_many 19 = .ok (.ifCond .eq 7, 3) := by decide +kernel
theorem dX2_many_22 : decode cX2_many 22 = .ok (.iconst 1, 1) := by decide +kernel
theorem dX2_many_23 : decode cX2_many 23 = .ok (.goto 4, 3) := by decide +kernel
theorem dX2_many_26 : decode cX2_many 26 = .ok (.iconst 0, 1) := by decide +kernel
theorem dX2_many_27 : decode cX2_many 27 = .ok (.iadd, 1) := by decide +kernel
theorem dX2_many_28 : decode cX2_many 28 = .ok (.istore_n 2, 1) := by decide +kernel
theorem dX2_many_29 : decode cX2_many 29 = .ok (.iinc 3 1, 3) := by decide +kernel
theorem dX2_many_32 : decode cX2_many 32 = .ok (.goto (-28), 3) := by decide +kernel
theorem dX2_many_35 : decode cX2_many 35 = .ok (.iload_n 2, 1) := by decide +kernel
theorem dX2_many_36 : decode cX2_many 36 = .ok (.ireturn, 1) := by decide +kernel
set_option maxRecDepth 20000 in
theorem ggX2_stay_X2_is : GoodIn wsX2_stay wsX2_is := goodIn_r _ [5, 6, 7, 8, 4, 9, 10, 15, 16, 17, 18, 19, 20, 21, 22] (by decide +kernel) (by decide +kernel)
set_option maxRecDepth 20000 in
theorem gX2_stay_X2_is : GoodIn wsX2_stay (wsV RX2 49 RX2 yX2_is wsX2_is) := goodIn_app (goodIn_of _ (by decide +kernel)) ggX2_stay_X2_is
set_option maxRecDepth 20000 in
theorem ggX2_stay_X2_of : GoodIn wsX2_stay wsX2_of := goodIn_r _ [9, 10, 15, 16, 17, 18, 19, 20, 21, 22] (by decide +kernel) (by decide +kernel)
set_option maxRecDepth 20000 in
theorem gX2_stay_X2_of : GoodIn wsX2_stay (wsV RX2 45 RX2 yX2_of wsX2_of) := goodIn_app (goodIn_of _ (by decide +kernel)) ggX2_stay_X2_of
set_option maxRecDepth 20000 in
theorem ggX2_stay_X2_let : GoodIn wsX2_stay wsX2_let := goodIn_r _ [14, 10, 15, 16, 17, 18, 19, 20, 21, 22] (by decide +kernel) (by decide +kernel)
set_option maxRecDepth 20000 in
theorem gX2_stay_X2_let : GoodIn wsX2_stay (wsV RX2 66 RX2 yX2_let wsX2_let) := goodIn_app (goodIn_of _ (by decide +kernel)) ggX2_stay_X2_let
theorem dX2_stay_0 : decode cX2_stay 0 = .ok (.aload_n 0, 1) := by decide +kernel
theorem dX2_stay_1 : decode cX2_stay 1 = .ok (.iload_n 1, 1) := by decide +kernel
theorem dX2_stay_2 : decode cX2_stay 2 = .ok (.iconst 2, 1) := by decide +kernel
theorem dX2_stay_3 : decode cX2_stay 3 = .ok (.invokevirtual 49, 3) := by decide +kernel
theorem dX2_stay_6 : decode cX2_stay 6 = .ok (.ifCond .ne 4, 3) := by decide +kernel
theorem dX2_stay_9 : decode cX2_stay 9 = .ok (.return_, 1) := by decide +kernel
theorem dX2_stay_10 : decode cX2_stay 10 = .ok (.aload_n 0, 1) := by decide +kernel
theorem dX2_stay_11 : decode cX2_stay 11 = .ok (.iload_n 1, 1) := by decide +kernel
theorem dX2_stay_12 : decode cX2_stay 12 = .ok (.iconst 3, 1) := by decide +kernel
theorem dX2_stay_13 : decode cX2_stay 13 = .ok (.aload_n 0, 1) := by decide +kernel
theorem dX2_stay_14 : decode cX2_stay 14 = .ok (.iload_n 1, 1) := by decide +kernel
theorem dX2_stay_15 : decode cX2_stay 15 = .ok (.iconst 3, 1) := by decide +kernel
theorem dX2_stay_16 : decode cX2_stay 16 = .ok (.invokevirtual 45, 3) := by decide +kernel
theorem dX2_stay_19 : decode cX2_stay 19 = .ok (.iconst 1, 1) := by decide +kernel
theorem dX2_stay_20 : decode cX2_stay 20 = .ok (.isub, 1) := by decide +kernel
theorem dX2_stay_21 : decode cX2_stay 21 = .ok (.invokevirtual 66, 3) := by decide +kernel
theorem dX2_stay_24 : decode cX2_stay 24 = .ok (.aload_n 0, 1) := by decide +kernel
theorem dX2_stay_25 : decode cX2_stay 25 = .ok (.iload_n 1, 1) := by decide +kernel
theorem dX2_stay_26 : decode cX2_stay 26 = .ok (.iconst 3, 1) := by decide +kernel
theorem dX2_stay_27 : decode cX2_stay 27 = .ok (.invokevirtual 45, 3) := by decide +kernel
theorem dX2_stay_30 : decode cX2_stay 30 = .ok (.ifCond .ne 10, 3) := by decide +kernel
theorem dX2_stay_33 : decode cX2_stay 33 = .ok (.aload_n 0, 1) := by decide +kernel
theorem dX2_stay_34 : decode cX2_stay 34 = .ok (.iload_n 1, 1) := by decide +kernel
theorem dX2_stay_35 : decode cX2_stay 35 = .ok (.iconst 0, 1) := by decide +kernel
theorem dX2_stay_36 : decode cX2_stay 36 = .ok (.iconst 0, 1) := by decide +kernel
theorem dX2_stay_37 : decode cX2_stay 37 = .ok (.invokevirtual 66, 3) := by decide +kernel
theorem dX2_stay_40 : decode cX2_stay 40 = .ok (.return_, 1) := by decide +kernel
set_option maxRecDepth 20000 in
theorem ggX2_open_X2_next : GoodIn wsX2_open wsX2_next := goodIn_r _ [6, 7, 8, 9, 10, 11, 5, 12, 13, 14, 15, 16, 17, 18, 19, 20, 21, 1, 22, 23, 24, 25, 26, 27, 28, 29, 30, 31, 32, 33, 34, 39, 40, 41, 42, 43, 44, 45, 46] (by decide +kernel) (by decide +kernel)
set_option maxRecDepth 20000 in
theorem gX2_open_X2_next : GoodIn wsX2_open (wsV RX2 70 RX2 yX2_next wsX2_next) := goodIn_app (goodIn_of _ (by decide +kernel)) ggX2_open_X2_next
set_option maxRecDepth 20000 in
theorem ggX2_open_X2_let : GoodIn wsX2_open wsX2_let := goodIn_r _ [38, 1, 39, 40, 41, 42, 43, 44, 45, 46] (by decide +kernel) (by decide +kernel)
set_option maxRecDepth 20000 in
theorem gX2_open_X2_let : GoodIn wsX2_open (wsV RX2 66 RX2 yX2_let wsX2_let) := goodIn_app (goodIn_of _ (by decide +kernel)) ggX2_open_X2_let
theorem dX2_open_0 : decode cX2_open 0 = .ok (.aload_n 0, 1) := by decide +kernel
theorem dX2_open_1 : decode cX2_open 1 = .ok (.iload_n 1, 1) := by decide +kernel
theorem dX2_open_2 : decode cX2_open 2 = .ok (.invokevirtual 70, 3) := by decide +kernel
theorem dX2_open_5 : decode cX2_open 5 = .ok (.istore_n 2, 1) := by decide +kernel
theorem dX2_open_6 : decode cX2_open 6 = .ok (.iload_n 2, 1) := by decide +kernel
theorem dX2_open_7 : decode cX2_open 7 = .ok (.iconst (-1), 1) := by decide +kernel
theorem dX2_open_8 : decode cX2_open 8 = .ok (.if_icmp .eq 29, 3) := by decide +kernel
theorem dX2_open_11 : decode cX2_open 11 = .ok (.aload_n 0, 1) := by decide +kernel
theorem dX2_open_12 : decode cX2_open 12 = .ok (.iload_n 2, 1) := by decide +kernel
theorem dX2_open_13 : decode cX2_open 13 = .ok (.iconst 0, 1) := by decide +kernel
theorem dX2_open_14 : decode cX2_open 14 = .ok (.iconst 2, 1) := by decide +kernel
theorem dX2_open_15 : decode cX2_open 15 = .ok (.invokevirtual 66, 3) := by decide +kernel
theorem dX2_open_18 : decode cX2_open 18 = .ok (.aload_n 0, 1) := by decide +kernel
theorem dX2_open_19 : decode cX2_open 19 = .ok (.getfield 19, 3) := by decide +kernel
theorem dX2_open_22 : decode cX2_open 22 = .ok (.iconst 1, 1) := by decide +kernel
theorem dX2_open_23 : decode cX2_open 23 = .ok (.dup2, 1) := by decide +kernel
theorem dX2_open_24 : decode cX2_open 24 = .ok (.iaload, 1) := by decide +kernel
theorem dX2_open_25 : decode cX2_open 25 = .ok (.iconst 1, 1) := by decide +kernel
theorem dX2_open_26 : decode cX2_open 26 = .ok (.iadd, 1) := by decide +kernel
theorem dX2_open_27 : decode cX2_open 27 = .ok (.iastore, 1) := by decide +kernel
theorem dX2_open_28 : decode cX2_open 28 = .ok (.aload_n 0, 1) := by decide +kernel
theorem dX2_open_29 : decode cX2_open 29 = .ok (.iload_n 1, 1) := by decide +kernel
theorem dX2_open_30 : decode cX2_open 30 = .ok (.invokevirtual 70, 3) := by decide +kernel
theorem dX2_open_33 : decode cX2_open 33 = .ok (.istore_n 2, 1) := by decide +kernel
theorem dX2_open_34 : decode cX2_open 34 = .ok (.goto (-28), 3) := by decide +kernel
theorem dX2_open_37 : decode cX2_open 37 = .ok (.return_, 1) := by decide +kernel
set_option maxRecDepth 20000 in
theorem ggX2_waitOn_X2_is : GoodIn wsX2_waitOn wsX2_is := goodIn_r _ [6, 7, 8, 9, 5, 10, 1, 15, 16, 17, 18, 19, 20, 21, 22] (by decide +kernel) (by decide +kernel)
set_option maxRecDepth 20000 in
theorem gX2_waitOn_X2_is : GoodIn wsX2_waitOn (wsV RX2 49 RX2 yX2_is wsX2_is) := goodIn_app (goodIn_of _ (by decide +kernel)) ggX2_waitOn_X2_is
set_option maxRecDepth 20000 in
theorem ggX2_waitOn_X2_of : GoodIn wsX2_waitOn wsX2_of := goodIn_r _ [10, 1, 15, 16, 17, 18, 19, 20, 21, 22] (by decide +kernel) (by decide +kernel)
set_option maxRecDepth 20000 in
theorem gX2_waitOn_X2_of : GoodIn wsX2_waitOn (wsV RX2 45 RX2 yX2_of wsX2_of) := goodIn_app (goodIn_of _ (by decide +kernel)) ggX2_waitOn_X2_of
set_option maxRecDepth 20000 in
theorem ggX2_waitOn_X2_let : GoodIn wsX2_waitOn wsX2_let := goodIn_r _ [14, 1, 15, 16, 17, 18, 19, 20, 21, 22] (by decide +kernel) (by decide +kernel)
set_option maxRecDepth 20000 in
theorem gX2_waitOn_X2_let : GoodIn wsX2_waitOn (wsV RX2 66 RX2 yX2_let wsX2_let) := goodIn_app (goodIn_of _ (by decide +kernel)) ggX2_waitOn_X2_let
theorem dX2_waitOn_0 : decode cX2_waitOn 0 = .ok (.aload_n 0, 1) := by decide +kernel
theorem dX2_waitOn_1 : decode cX2_waitOn 1 = .ok (.iload_n 1, 1) := by decide +kernel
theorem dX2_waitOn_2 : decode cX2_waitOn 2 = .ok (.iconst 1, 1) := by decide +kernel
theorem dX2_waitOn_3 : decode cX2_waitOn 3 = .ok (.invokevirtual 49, 3) := by decide +kernel
theorem dX2_waitOn_6 : decode cX2_waitOn 6 = .ok (.ifCond .ne 4, 3) := by decide +kernel
theorem dX2_waitOn_9 : decode cX2_waitOn 9 = .ok (.return_, 1) := by decide +kernel
theorem dX2_waitOn_10 : decode cX2_waitOn 10 = .ok (.aload_n 0, 1) := by decide +kernel
theorem dX2_waitOn_11 : decode cX2_waitOn 11 = .ok (.iload_n 1, 1) := by decide +kernel
theorem dX2_waitOn_12 : decode cX2_waitOn 12 = .ok (.iconst 5, 1) := by decide +kernel
theorem dX2_waitOn_13 : decode cX2_waitOn 13 = .ok (.aload_n 0, 1) := by decide +kernel
theorem dX2_waitOn_14 : decode cX2_waitOn 14 = .ok (.iload_n 1, 1) := by decide +kernel
theorem dX2_waitOn_15 : decode cX2_waitOn 15 = .ok (.iconst 5, 1) := by decide +kernel
theorem dX2_waitOn_16 : decode cX2_waitOn 16 = .ok (.invokevirtual 45, 3) := by decide +kernel
theorem dX2_waitOn_19 : decode cX2_waitOn 19 = .ok (.iconst 1, 1) := by decide +kernel
theorem dX2_waitOn_20 : decode cX2_waitOn 20 = .ok (.iadd, 1) := by decide +kernel
theorem dX2_waitOn_21 : decode cX2_waitOn 21 = .ok (.invokevirtual 66, 3) := by decide +kernel
theorem dX2_waitOn_24 : decode cX2_waitOn 24 = .ok (.aload_n 0, 1) := by decide +kernel
theorem dX2_waitOn_25 : decode cX2_waitOn 25 = .ok (.iload_n 1, 1) := by decide +kernel
theorem dX2_waitOn_26 : decode cX2_waitOn 26 = .ok (.bipush 6, 2) := by decide +kernel
theorem dX2_waitOn_28 : decode cX2_waitOn 28 = .ok (.aload_n 0, 1) := by decide +kernel
theorem dX2_waitOn_29 : decode cX2_waitOn 29 = .ok (.iload_n 1, 1) := by decide +kernel
theorem dX2_waitOn_30 : decode cX2_waitOn 30 = .ok (.bipush 6, 2) := by decide +kernel
theorem dX2_waitOn_32 : decode cX2_waitOn 32 = .ok (.invokevirtual 45, 3) := by decide +kernel
theorem dX2_waitOn_35 : decode cX2_waitOn 35 = .ok (.iconst 1, 1) := by decide +kernel
theorem dX2_waitOn_36 : decode cX2_waitOn 36 = .ok (.iadd, 1) := by decide +kernel
theorem dX2_waitOn_37 : decode cX2_waitOn 37 = .ok (.invokevirtual 66, 3) := by decide +kernel
theorem dX2_waitOn_40 : decode cX2_waitOn 40 = .ok (.aload_n 0, 1) := by decide +kernel
theorem dX2_waitOn_41 : decode cX2_waitOn 41 = .ok (.iload_n 1, 1) := by decide +kernel
theorem dX2_waitOn_42 : decode cX2_waitOn 42 = .ok (.iconst 5, 1) := by decide +kernel
theorem dX2_waitOn_43 : decode cX2_waitOn 43 = .ok (.invokevirtual 45, 3) := by decide +kernel
theorem dX2_waitOn_46 : decode cX2_waitOn 46 = .ok (.aload_n 0, 1) := by decide +kernel
theorem dX2_waitOn_47 : decode cX2_waitOn 47 = .ok (.iload_n 1, 1) := by decide +kernel
theorem dX2_waitOn_48 : decode cX2_waitOn 48 = .ok (.iconst 4, 1) := by decide +kernel
theorem dX2_waitOn_49 : decode cX2_waitOn 49 = .ok (.invokevirtual 45, 3) := by decide +kernel
theorem dX2_waitOn_52 : decode cX2_waitOn 52 = .ok (.if_icmp .ge 4, 3) := by decide +kernel
theorem dX2_waitOn_55 : decode cX2_waitOn 55 = .ok (.return_, 1) := by decide +kernel
theorem dX2_waitOn_56 : decode cX2_waitOn 56 = .ok (.aload_n 0, 1) := by decide +kernel
theorem dX2_waitOn_57 : decode cX2_waitOn 57 = .ok (.iload_n 1, 1) := by decide +kernel
theorem dX2_waitOn_58 : decode cX2_waitOn 58 = .ok (.iconst 0, 1) := by decide +kernel
theorem dX2_waitOn_59 : decode cX2_waitOn 59 = .ok (.iconst 0, 1) := by decide +kernel
theorem dX2_waitOn_60 : decode cX2_waitOn 60 = .ok (.invokevirtual 66, 3) := by decide +kernel
theorem dX2_waitOn_63 : decode cX2_waitOn 63 = .ok (.aload_n 0, 1) := by decide +kernel
theorem dX2_waitOn_64 : decode cX2_waitOn 64 = .ok (.getfield 19, 3) := by decide +kernel
theorem dX2_waitOn_67 : decode cX2_waitOn 67 = .ok (.iconst 2, 1) := by decide +kernel
theorem dX2_waitOn_68 : decode cX2_waitOn 68 = .ok (.dup2, 1) := by decide +kernel
theorem dX2_waitOn_69 : decode cX2_waitOn 69 = .ok (.iaload, 1) := by decide +kernel
theorem dX2_waitOn_70 : decode cX2_waitOn 70 = .ok (.iconst 1, 1) := by decide +kernel
theorem dX2_waitOn_71 : decode cX2_waitOn 71 = .ok (.iadd, 1) := by decide +kernel
theorem dX2_waitOn_72 : decode cX2_waitOn 72 = .ok (.iastore, 1) := by decide +kernel
theorem dX2_waitOn_73 : decode cX2_waitOn 73 = .ok (.return_, 1) := by decide +kernel
set_option maxRecDepth 20000 in
theorem ggX2_minuteOn_X2_stay : GoodIn wsX2_minuteOn wsX2_stay := goodIn_r _ [8, 9, 10, 11, 7, 12, 13, 14, 15, 16, 3, 17, 18, 19, 20, 52, 53, 54, 55, 56, 57, 58, 59] (by decide +kernel) (by decide +kernel)
set_option maxRecDepth 20000 in
theorem gX2_minuteOn_X2_stay : GoodIn wsX2_minuteOn (wsV RX2 73 RX2 yX2_stay wsX2_stay) := goodIn_app (goodIn_of _ (by decide +kernel)) ggX2_minuteOn_X2_stay
set_option maxRecDepth 20000 in
theorem ggX2_minuteOn_X2_open : GoodIn wsX2_minuteOn wsX2_open := goodIn_r _ [24, 3, 25, 26, 27, 7, 28, 29, 1, 30, 31, 32, 33, 34, 9, 10, 11, 12, 13, 14, 15, 16, 35, 36, 37, 38, 39, 40, 41, 42, 43, 44, 45, 46, 47, 17, 18, 19, 20, 52, 53, 54, 55, 56, 57, 58, 59] (by decide +kernel) (by decide +kernel)
set_option maxRecDepth 20000 in
theorem gX2_minuteOn_X2_open : GoodIn wsX2_minuteOn (wsV RX2 77 RX2 yX2_open wsX2_open) := goodIn_app (goodIn_of _ (by decide +kernel)) ggX2_minuteOn_X2_open
set_option maxRecDepth 20000 in
theorem ggX2_minuteOn_X2_waitOn : GoodIn wsX2_minuteOn wsX2_waitOn := goodIn_r _ [51, 3, 9, 10, 11, 7, 12, 13, 14, 15, 16, 17, 18, 19, 20, 52, 53, 54, 55, 56, 57, 58, 59] (by decide +kernel) (by decide +kernel)
set_option maxRecDepth 20000 in
theorem gX2_minuteOn_X2_waitOn : GoodIn wsX2_minuteOn (wsV RX2 80 RX2 yX2_waitOn wsX2_waitOn) := goodIn_app (goodIn_of _ (by decide +kernel)) ggX2_minuteOn_X2_waitOn
theorem dX2_minuteOn_0 : decode cX2_minuteOn 0 = .ok (.iconst 0, 1) := by decide +kernel
theorem dX2_minuteOn_1 : decode cX2_minuteOn 1 = .ok (.istore_n 1, 1) := by decide +kernel
theorem dX2_minuteOn_2 : decode cX2_minuteOn 2 = .ok (.iload_n 1, 1) := by decide +kernel
theorem dX2_minuteOn_3 : decode cX2_minuteOn 3 = .ok (.aload_n 0, 1) := by decide +kernel
theorem dX2_minuteOn_4 : decode cX2_minuteOn 4 = .ok (.getfield 36, 3) := by decide +kernel
theorem dX2_minuteOn_7 : decode cX2_minuteOn 7 = .ok (.if_icmp .ge 14, 3) := by decide +kernel
theorem dX2_minuteOn_10 : decode cX2_minuteOn 10 = .ok (.aload_n 0, 1) := by decide +kernel
theorem dX2_minuteOn_11 : decode cX2_minuteOn 11 = .ok (.iload_n 1, 1) := by decide +kernel
theorem dX2_minuteOn_12 : decode cX2_minuteOn 12 = .ok (.invokevirtual 73, 3) := by decide +kernel
theorem dX2_minuteOn_15 : decode cX2_minuteOn 15 = .ok (.iinc 1 1, 3) := by decide +kernel
theorem dX2_minuteOn_18 : decode cX2_minuteOn 18 = .ok (.goto (-16), 3) := by decide +kernel
theorem dX2_minuteOn_21 : decode cX2_minuteOn 21 = .ok (.iconst 0, 1) := by decide +kernel
theorem dX2_minuteOn_22 : decode cX2_minuteOn 22 = .ok (.istore_n 1, 1) := by decide +kernel
theorem dX2_minuteOn_23 : decode cX2_minuteOn 23 = .ok (.iload_n 1, 1) := by decide +kernel
theorem dX2_minuteOn_24 : decode cX2_minuteOn 24 = .ok (.aload_n 0, 1) := by decide +kernel
theorem dX2_minuteOn_25 : decode cX2_minuteOn 25 = .ok (.getfield 29, 3) := by decide +kernel
theorem dX2_minuteOn_28 : decode cX2_minuteOn 28 = .ok (.if_icmp .ge 14, 3) := by decide +kernel
theorem dX2_minuteOn_31 : decode cX2_minuteOn 31 = .ok (.aload_n 0, 1) := by decide +kernel
theorem dX2_minuteOn_32 : decode cX2_minuteOn 32 = .ok (.iload_n 1, 1) := by decide +kernel
theorem dX2_minuteOn_33 : decode cX2_minuteOn 33 = .ok (.invokevirtual 77, 3) := by decide +kernel
theorem dX2_minuteOn_36 : decode cX2_minuteOn 36 = .ok (.iinc 1 1, 3) := by decide +kernel
theorem dX2_minuteOn_39 : decode cX2_minuteOn 39 = .ok (.goto (-16), 3) := by decide +kernel
theorem dX2_minuteOn_42 : decode cX2_minuteOn 42 = .ok (.iconst 0, 1) := by decide +kernel
theorem dX2_minuteOn_43 : decode cX2_minuteOn 43 = .ok (.istore_n 1, 1) := by decide +kernel
theorem dX2_minuteOn_44 : decode cX2_minuteOn 44 = .ok (.iload_n 1, 1) := by decide +kernel
theorem dX2_minuteOn_45 : decode cX2_minuteOn 45 = .ok (.aload_n 0, 1) := by decide +kernel
theorem dX2_minuteOn_46 : decode cX2_minuteOn 46 = .ok (.getfield 36, 3) := by decide +kernel
theorem dX2_minuteOn_49 : decode cX2_minuteOn 49 = .ok (.if_icmp .ge 14, 3) := by decide +kernel
theorem dX2_minuteOn_52 : decode cX2_minuteOn 52 = .ok (.aload_n 0, 1) := by decide +kernel
theorem dX2_minuteOn_53 : decode cX2_minuteOn 53 = .ok (.iload_n 1, 1) := by decide +kernel
theorem dX2_minuteOn_54 : decode cX2_minuteOn 54 = .ok (.invokevirtual 80, 3) := by decide +kernel
theorem dX2_minuteOn_57 : decode cX2_minuteOn 57 = .ok (.iinc 1 1, 3) := by decide +kernel
theorem dX2_minuteOn_60 : decode cX2_minuteOn 60 = .ok (.goto (-16), 3) := by decide +kernel
theorem dX2_minuteOn_63 : decode cX2_minuteOn 63 = .ok (.aload_n 0, 1) := by decide +kernel
theorem dX2_minuteOn_64 : decode cX2_minuteOn 64 = .ok (.getfield 19, 3) := by decide +kernel
theorem dX2_minuteOn_67 : decode cX2_minuteOn 67 = .ok (.iconst 0, 1) := by decide +kernel
theorem dX2_minuteOn_68 : decode cX2_minuteOn 68 = .ok (.dup2, 1) := by decide +kernel
theorem dX2_minuteOn_69 : decode cX2_minuteOn 69 = .ok (.iaload, 1) := by decide +kernel
theorem dX2_minuteOn_70 : decode cX2_minuteOn 70 = .ok (.iconst 1, 1) := by decide +kernel
theorem dX2_minuteOn_71 : decode cX2_minuteOn 71 = .ok (.iadd, 1) := by decide +kernel
theorem dX2_minuteOn_72 : decode cX2_minuteOn 72 = .ok (.iastore, 1) := by decide +kernel
theorem dX2_minuteOn_73 : decode cX2_minuteOn 73 = .ok (.return_, 1) := by decide +kernel
set_option maxRecDepth 20000 in
theorem ggX2_minutesOn_X2_minuteOn : GoodIn wsX2_minutesOn wsX2_minuteOn := goodIn_r _ [5, 6, 7, 8, 9, 10, 11, 4, 12, 13, 14, 15, 16, 17, 18, 19, 20, 21, 22, 23, 24, 25, 26, 27, 28, 29, 30, 31, 32, 33, 34, 35, 36, 37, 38, 39, 40, 41, 42, 43, 44, 45, 46, 47, 48, 49, 50, 51, 52, 53, 54, 55, 56, 57, 58, 59, 60, 61, 62, 63] (by decide +kernel) (by decide +kernel)
set_option maxRecDepth 20000 in
theorem gX2_minutesOn_X2_minuteOn : GoodIn wsX2_minutesOn (wsV RX2 83 RX2 yX2_minuteOn wsX2_minuteOn) := goodIn_app (goodIn_of _ (by decide +kernel)) ggX2_minutesOn_X2_minuteOn
theorem dX2_minutesOn_0 : decode cX2_minutesOn 0 = .ok (.iconst 0, 1) := by decide +kernel
theorem dX2_minutesOn_1 : decode cX2_minutesOn 1 = .ok (.istore_n 2, 1) := by decide +kernel
theorem dX2_minutesOn_2 : decode cX2_minutesOn 2 = .ok (.iload_n 2, 1) := by decide +kernel
theorem dX2_minutesOn_3 : decode cX2_minutesOn 3 = .ok (.iload_n 1, 1) := by decide +kernel
theorem dX2_minutesOn_4 : decode cX2_minutesOn 4 = .ok (.if_icmp .ge 13, 3) := by decide +kernel
theorem dX2_minutesOn_7 : decode cX2_minutesOn 7 = .ok (.aload_n 0, 1) := by decide +kernel
theorem dX2_minutesOn_8 : decode cX2_minutesOn 8 = .ok (.invokevirtual 83, 3) := by decide +kernel
theorem dX2_minutesOn_11 : decode cX2_minutesOn 11 = .ok (.iinc 2 1, 3) := by decide +kernel
theorem dX2_minutesOn_14 : decode cX2_minutesOn 14 = .ok (.goto (-12), 3) := by decide +kernel
theorem dX2_minutesOn_17 : decode cX2_minutesOn 17 = .ok (.return_, 1) := by decide +kernel
set_option maxRecDepth 20000 in
theorem ggX2_addGate_X2_isIn : GoodIn wsX2_addGate wsX2_isIn := goodIn_r _ [8] (by decide +kernel) (by decide +kernel)
set_option maxRecDepth 20000 in
theorem gX2_addGate_X2_isIn : GoodIn wsX2_addGate (va_wsS RX2 32 yX2_isIn wsX2_isIn) := goodIn_app (goodIn_of _ (by decide +kernel)) ggX2_addGate_X2_isIn
set_option maxRecDepth 20000 in
theorem ggX2_addGate_X2_no : GoodIn wsX2_addGate wsX2_no := goodIn_r _ [12, 1, 13, 14, 15, 16, 17, 18, 19, 20] (by decide +kernel) (by decide +kernel)
set_option maxRecDepth 20000 in
theorem gX2_addGate_X2_no : GoodIn wsX2_addGate (wsV RX2 86 RX2 yX2_no wsX2_no) := goodIn_app (goodIn_of _ (by decide +kernel)) ggX2_addGate_X2_no
theorem dX2_addGate_0 : decode cX2_addGate 0 = .ok (.aload_n 0, 1) := by decide +kernel
theorem dX2_addGate_1 : decode cX2_addGate 1 = .ok (.iconst 0, 1) := by decide +kernel
theorem dX2_addGate_2 : decode cX2_addGate 2 = .ok (.putfield 25, 3) := by decide +kernel
theorem dX2_addGate_5 : decode cX2_addGate 5 = .ok (.iload_n 1, 1) := by decide +kernel
theorem dX2_addGate_6 : decode cX2_addGate 6 = .ok (.iconst 1, 1) := by decide +kernel
theorem dX2_addGate_7 : decode cX2_addGate 7 = .ok (.bipush 9, 2) := by decide +kernel
theorem dX2_addGate_9 : decode cX2_addGate 9 = .ok (.invokestatic 32, 3) := by decide +kernel
theorem dX2_addGate_12 : decode cX2_addGate 12 = .ok (.ifCond .eq 12, 3) := by decide +kernel
theorem dX2_addGate_15 : decode cX2_addGate 15 = .ok (.iload_n 2, 1) := by decide +kernel
theorem dX2_addGate_16 : decode cX2_addGate 16 = .ok (.iconst 0, 1) := by decide +kernel
theorem dX2_addGate_17 : decode cX2_addGate 17 = .ok (.iconst 1, 1) := by decide +kernel
theorem dX2_addGate_18 : decode cX2_addGate 18 = .ok (.invokestatic 32, 3) := by decide +kernel
theorem dX2_addGate_21 : decode cX2_addGate 21 = .ok (.ifCond .ne 9, 3) := by decide +kernel
theorem dX2_addGate_24 : decode cX2_addGate 24 = .ok (.aload_n 0, 1) := by decide +kernel
theorem dX2_addGate_25 : decode cX2_addGate 25 = .ok (.iconst 1, 1) := by decide +kernel
theorem dX2_addGate_26 : decode cX2_addGate 26 = .ok (.invokevirtual 86, 3) := by decide +kernel
theorem dX2_addGate_29 : decode cX2_addGate 29 = .ok (.ireturn, 1) := by decide +kernel
theorem dX2_addGate_30 : decode cX2_addGate 30 = .ok (.aload_n 0, 1) := by decide +kernel
theorem dX2_addGate_31 : decode cX2_addGate 31 = .ok (.getfield 29, 3) := by decide +kernel
theorem dX2_addGate_34 : decode cX2_addGate 34 = .ok (.iconst 4, 1) := by decide +kernel
theorem dX2_addGate_35 : decode cX2_addGate 35 = .ok (.if_icmp .ne 9, 3) := by decide +kernel
theorem dX2_addGate_38 : decode cX2_addGate 38 = .ok (.aload_n 0, 1) := by decide +kernel
theorem dX2_addGate_39 : decode cX2_addGate 39 = .ok (.iconst 2, 1) := by decide +kernel
theorem dX2_addGate_40 : decode cX2_addGate 40 = .ok (.invokevirtual 86, 3) := by decide +kernel
theorem dX2_addGate_43 : decode cX2_addGate 43 = .ok (.ireturn, 1) := by decide +kernel
theorem dX2_addGate_44 : decode cX2_addGate 44 = .ok (.aload_n 0, 1) := by decide +kernel
theorem dX2_addGate_45 : decode cX2_addGate 45 = .ok (.getfield 9, 3) := by decide +kernel
theorem dX2_addGate_48 : decode cX2_addGate 48 = .ok (.aload_n 0, 1) := by decide +kernel
theorem dX2_addGate_49 : decode cX2_addGate 49 = .ok (.getfield 29, 3) := by decide +kernel
theorem dX2_addGate_52 : decode cX2_addGate 52 = .ok (.iload_n 1, 1) := by decide +kernel
theorem dX2_addGate_53 : decode cX2_addGate 53 = .ok (.iastore, 1) := by decide +kernel
theorem dX2_addGate_54 : decode cX2_addGate 54 = .ok (.aload_n 0, 1) := by decide +kernel
theorem dX2_addGate_55 : decode cX2_addGate 55 = .ok (.getfield 13, 3) := by decide +kernel
theorem dX2_addGate_58 : decode cX2_addGate 58 = .ok (.aload_n 0, 1) := by decide +kernel
theorem dX2_addGate_59 : decode cX2_addGate 59 = .ok (.getfield 29, 3) := by decide +kernel
theorem dX2_addGate_62 : decode cX2_addGate 62 = .ok (.iload_n 2, 1) := by decide +kernel
theorem dX2_addGate_63 : decode cX2_addGate 63 = .ok (.iastore, 1) := by decide +kernel
theorem dX2_addGate_64 : decode cX2_addGate 64 = .ok (.aload_n 0, 1) := by decide +kernel
theorem dX2_addGate_65 : decode cX2_addGate 65 = .ok (.dup, 1) := by decide +kernel
theorem dX2_addGate_66 : decode cX2_addGate 66 = .ok (.getfield 29, 3) := by decide +kernel
theorem dX2_addGate_69 : decode cX2_addGate 69 = .ok (.iconst 1, 1) := by decide +kernel
theorem dX2_addGate_70 : decode cX2_addGate 70 = .ok (.iadd, 1) := by decide +kernel
theorem dX2_addGate_71 : decode cX2_addGate 71 = .ok (.putfield 29, 3) := by decide +kernel
theorem dX2_addGate_74 : decode cX2_addGate 74 = .ok (.aload_n 0, 1) := by decide +kernel
theorem dX2_addGate_75 : decode cX2_addGate 75 = .ok (.getfield 29, 3) := by decide +kernel
theorem dX2_addGate_78 : decode cX2_addGate 78 = .ok (.iconst 1, 1) := by decide +kernel
theorem dX2_addGate_79 : decode cX2_addGate 79 = .ok (.isub, 1) := by decide +kernel
theorem dX2_addGate_80 : decode cX2_addGate 80 = .ok (.ireturn, 1) := by decide +kernel
set_option maxRecDepth 20000 in
theorem ggX2_addGoat_X2_isIn : GoodIn wsX2_addGoat wsX2_isIn := goodIn_r _ [7] (by decide +kernel) (by decide +kernel)
set_option maxRecDepth 20000 in
theorem gX2_addGoat_X2_isIn : GoodIn wsX2_addGoat (va_wsS RX2 32 yX2_isIn wsX2_isIn) := goodIn_app (goodIn_of _ (by decide +kernel)) ggX2_addGoat_X2_isIn
set_option maxRecDepth 20000 in
theorem ggX2_addGoat_X2_no : GoodIn wsX2_addGoat wsX2_no := goodIn_r _ [11, 1, 12, 13, 14, 15, 16, 17, 18, 19] (by decide +kernel) (by decide +kernel)
set_option maxRecDepth 20000 in
theorem gX2_addGoat_X2_no : GoodIn wsX2_addGoat (wsV RX2 86 RX2 yX2_no wsX2_no) := goodIn_app (goodIn_of _ (by decide +kernel)) ggX2_addGoat_X2_no
theorem dX2_addGoat_0 : decode cX2_addGoat 0 = .ok (.aload_n 0, 1) := by decide +kernel
theorem dX2_addGoat_1 : decode cX2_addGoat 1 = .ok (.iconst 0, 1) := by decide +kernel
theorem dX2_addGoat_2 : decode cX2_addGoat 2 = .ok (.putfield 25, 3) := by decide +kernel
theorem dX2_addGoat_5 : decode cX2_addGoat 5 = .ok (.iload_n 1, 1) := by decide +kernel
theorem dX2_addGoat_6 : decode cX2_addGoat 6 = .ok (.iconst 1, 1) := by decide +kernel
theorem dX2_addGoat_7 : decode cX2_addGoat 7 = .ok (.bipush 9, 2) := by decide +kernel
theorem dX2_addGoat_9 : decode cX2_addGoat 9 = .ok (.invokestatic 32, 3) := by decide +kernel
theorem dX2_addGoat_12 : decode cX2_addGoat 12 = .ok (.ifCond .ne 9, 3) := by decide +kernel
theorem dX2_addGoat_15 : decode cX2_addGoat 15 = .ok (.aload_n 0, 1) := by decide +kernel
theorem dX2_addGoat_16 : decode cX2_addGoat 16 = .ok (.iconst 1, 1) := by decide +kernel
theorem dX2_addGoat_17 : decode cX2_addGoat 17 = .ok (.invokevirtual 86, 3) := by decide +kernel
theorem dX2_addGoat_20 : decode cX2_addGoat 20 = .ok (.ireturn, 1) := by decide +kernel
theorem dX2_addGoat_21 : decode cX2_addGoat 21 = .ok (.aload_n 0, 1) := by decide +kernel
theorem dX2_addGoat_22 : decode cX2_addGoat 22 = .ok (.getfield 36, 3) := by decide +kernel
theorem dX2_addGoat_25 : decode cX2_addGoat 25 = .ok (.bipush 12, 2) := by decide +kernel
theorem dX2_addGoat_27 : decode cX2_addGoat 27 = .ok (.if_icmp .ne 9, 3) := by decide +kernel
theorem dX2_addGoat_30 : decode cX2_addGoat 30 = .ok (.aload_n 0, 1) := by decide +kernel
theorem dX2_addGoat_31 : decode cX2_addGoat 31 = .ok (.iconst 2, 1) := by decide +kernel
theorem dX2_addGoat_32 : decode cX2_addGoat 32 = .ok (.invokevirtual 86, 3) := by decide +kernel
theorem dX2_addGoat_35 : decode cX2_addGoat 35 = .ok (.ireturn, 1) := by decide +kernel
theorem dX2_addGoat_36 : decode cX2_addGoat 36 = .ok (.aload_n 0, 1) := by decide +kernel
theorem dX2_addGoat_37 : decode cX2_addGoat 37 = .ok (.getfield 16, 3) := by decide +kernel
theorem dX2_addGoat_40 : decode cX2_addGoat 40 = .ok (.aload_n 0, 1) := by decide +kernel
theorem dX2_addGoat_41 : decode cX2_addGoat 41 = .ok (.getfield 36, 3) := by decide +kernel
theorem dX2_addGoat_44 : decode cX2_addGoat 44 = .ok (.iload_n 1, 1) := by decide +kernel
theorem dX2_addGoat_45 : decode cX2_addGoat 45 = .ok (.iastore, 1) := by decide +kernel
theorem dX2_addGoat_46 : decode cX2_addGoat 46 = .ok (.aload_n 0, 1) := by decide +kernel
theorem dX2_addGoat_47 : decode cX2_addGoat 47 = .ok (.dup, 1) := by decide +kernel
theorem dX2_addGoat_48 : decode cX2_addGoat 48 = .ok (.getfield 36, 3) := by decide +kernel
theorem dX2_addGoat_51 : decode cX2_addGoat 51 = .ok (.iconst 1, 1) := by decide +kernel
theorem dX2_addGoat_52 : decode cX2_addGoat 52 = .ok (.iadd, 1) := by decide +kernel
theorem dX2_addGoat_53 : decode cX2_addGoat 53 = .ok (.putfield 36, 3) := by decide +kernel
theorem dX2_addGoat_56 : decode cX2_addGoat 56 = .ok (.aload_n 0, 1) := by decide +kernel
theorem dX2_addGoat_57 : decode cX2_addGoat 57 = .ok (.getfield 36, 3) := by decide +kernel
theorem dX2_addGoat_60 : decode cX2_addGoat 60 = .ok (.iconst 1, 1) := by decide +kernel
theorem dX2_addGoat_61 : decode cX2_addGoat 61 = .ok (.isub, 1) := by decide +kernel
theorem dX2_addGoat_62 : decode cX2_addGoat 62 = .ok (.ireturn, 1) := by decide +kernel
set_option maxRecDepth 20000 in
theorem ggX2_write_X2_let : GoodIn wsX2_write wsX2_let := goodIn_r _ [5, 6, 7, 8, 9, 10, 11, 12, 13, 14] (by decide +kernel) (by decide +kernel)
set_option maxRecDepth 20000 in
theorem gX2_write_X2_let : GoodIn wsX2_write (wsV RX2 66 RX2 yX2_let wsX2_let) := goodIn_app (goodIn_of _ (by decide +kernel)) ggX2_write_X2_let
theorem dX2_write_0 : decode cX2_write 0 = .ok (.aload_n 0, 1) := by decide +kernel
theorem dX2_write_1 : decode cX2_write 1 = .ok (.iload_n 1, 1) := by decide +kernel
theorem dX2_write_2 : decode cX2_write 2 = .ok (.iconst 0, 1) := by decide +kernel
theorem dX2_write_3 : decode cX2_write 3 = .ok (.iload_n 2, 1) := by decide +kernel
theorem dX2_write_4 : decode cX2_write 4 = .ok (.invokevirtual 66, 3) := by decide +kernel
theorem dX2_write_7 : decode cX2_write 7 = .ok (.aload_n 0, 1) := by decide +kernel
theorem dX2_write_8 : decode cX2_write 8 = .ok (.iload_n 1, 1) := by decide +kernel
theorem dX2_write_9 : decode cX2_write 9 = .ok (.iconst 1, 1) := by decide +kernel
theorem dX2_write_10 : decode cX2_write 10 = .ok (.iload_n 3, 1) := by decide +kernel
theorem dX2_write_11 : decode cX2_write 11 = .ok (.invokevirtual 66, 3) := by decide +kernel
theorem dX2_write_14 : decode cX2_write 14 = .ok (.aload_n 0, 1) := by decide +kernel
theorem dX2_write_15 : decode cX2_write 15 = .ok (.iload_n 1, 1) := by decide +kernel
theorem dX2_write_16 : decode cX2_write 16 = .ok (.iconst 2, 1) := by decide +kernel
theorem dX2_write_17 : decode cX2_write 17 = .ok (.iload 4, 2) := by decide +kernel
theorem dX2_write_19 : decode cX2_write 19 = .ok (.invokevirtual 66, 3) := by decide +kernel
theorem dX2_write_22 : decode cX2_write 22 = .ok (.aload_n 0, 1) := by decide +kernel
theorem dX2_write_23 : decode cX2_write 23 = .ok (.iload_n 1, 1) := by decide +kernel
theorem dX2_write_24 : decode cX2_write 24 = .ok (.iconst 3, 1) := by decide +kernel
theorem dX2_write_25 : decode cX2_write 25 = .ok (.iload 5, 2) := by decide +kernel
theorem dX2_write_27 : decode cX2_write 27 = .ok (.invokevirtual 66, 3) := by decide +kernel
theorem dX2_write_30 : decode cX2_write 30 = .ok (.return_, 1) := by decide +kernel
set_option maxRecDepth 20000 in
theorem ggX2_ask_X2_isGoat : GoodIn wsX2_ask wsX2_isGoat := goodIn_r _ [8, 9, 10, 11, 7, 12, 46, 47, 48, 49, 50, 51, 52, 53] (by decide +kernel) (by decide +kernel)
set_option maxRecDepth 20000 in
theorem gX2_ask_X2_isGoat : GoodIn wsX2_ask (wsV RX2 89 RX2 yX2_isGoat wsX2_isGoat) := goodIn_app (goodIn_of _ (by decide +kernel)) ggX2_ask_X2_isGoat
set_option maxRecDepth 20000 in
theorem ggX2_ask_X2_isGate : GoodIn wsX2_ask wsX2_isGate := goodIn_r _ [16, 17, 10, 11, 7, 12, 46, 47, 48, 49, 50, 51, 52, 53] (by decide +kernel) (by decide +kernel)
set_option maxRecDepth 20000 in
theorem gX2_ask_X2_isGate : GoodIn wsX2_ask (wsV RX2 93 RX2 yX2_isGate wsX2_isGate) := goodIn_app (goodIn_of _ (by decide +kernel)) ggX2_ask_X2_isGate
set_option maxRecDepth 20000 in
theorem ggX2_ask_X2_no : GoodIn wsX2_ask wsX2_no := goodIn_r _ [21, 1, 46, 47, 48, 49, 50, 51, 52, 53] (by decide +kernel) (by decide +kernel)
set_option maxRecDepth 20000 in
theorem gX2_ask_X2_no : GoodIn wsX2_ask (wsV RX2 86 RX2 yX2_no wsX2_no) := goodIn_app (goodIn_of _ (by decide +kernel)) ggX2_ask_X2_no
set_option maxRecDepth 20000 in
theorem ggX2_ask_X2_isIn : GoodIn wsX2_ask wsX2_isIn := goodIn_r _ [12] (by decide +kernel) (by decide +kernel)
set_option maxRecDepth 20000 in
theorem gX2_ask_X2_isIn : GoodIn wsX2_ask (va_wsS RX2 32 yX2_isIn wsX2_isIn) := goodIn_app (goodIn_of _ (by decide +kernel)) ggX2_ask_X2_isIn
set_option maxRecDepth 20000 in
theorem ggX2_ask_X2_is : GoodIn wsX2_ask wsX2_is := goodIn_r _ [25, 26, 27, 28, 7, 29, 3, 46, 47, 48, 49, 50, 51, 52, 53] (by decide +kernel) (by decide +kernel)
set_option maxRecDepth 20000 in
theorem gX2_ask_X2_is : GoodIn wsX2_ask (wsV RX2 49 RX2 yX2_is wsX2_is) := goodIn_app (goodIn_of _ (by decide +kernel)) ggX2_ask_X2_is
set_option maxRecDepth 20000 in
theorem ggX2_ask_X2_write : GoodIn wsX2_ask wsX2_write := goodIn_r _ [33, 34, 35, 36, 7, 37, 3, 46, 47, 48, 49, 50, 51, 52, 53] (by decide +kernel) (by decide +kernel)
set_option maxRecDepth 20000 in
theorem gX2_ask_X2_write : GoodIn wsX2_ask (wsV RX2 96 RX2 yX2_write wsX2_write) := goodIn_app (goodIn_of _ (by decide +kernel)) ggX2_ask_X2_write
set_option maxRecDepth 20000 in
theorem ggX2_ask_X2_let : GoodIn wsX2_ask wsX2_let := goodIn_r _ [37, 3, 46, 47, 48, 49, 50, 51, 52, 53] (by decide +kernel) (by decide +kernel)
set_option maxRecDepth 20000 in
theorem gX2_ask_X2_let : GoodIn wsX2_ask (wsV RX2 66 RX2 yX2_let wsX2_let) := goodIn_app (goodIn_of _ (by decide +kernel)) ggX2_ask_X2_let
set_option maxRecDepth 20000 in
theorem ggX2_ask_X2_manyAt : GoodIn wsX2_ask wsX2_manyAt := goodIn_r _ [41, 9, 42, 43, 44, 7, 45, 22, 23, 24, 25, 26, 27, 28, 29, 3, 46, 47, 48, 49, 50, 51, 52, 53] (by decide +kernel) (by decide +kernel)
set_option maxRecDepth 20000 in
theorem gX2_ask_X2_manyAt : GoodIn wsX2_ask (wsV RX2 100 RX2 yX2_manyAt wsX2_manyAt) := goodIn_app (goodIn_of _ (by decide +kernel)) ggX2_ask_X2_manyAt
theorem dX2_ask_0 : decode cX2_ask 0 = .ok (.aload_n 0, 1) := by decide +kernel
theorem dX2_ask_1 : decode cX2_ask 1 = .ok (.iconst 0, 1) := by decide +kernel
theorem dX2_ask_2 : decode cX2_ask 2 = .ok (.putfield 25, 3) := by decide +kernel
theorem dX2_ask_5 : decode cX2_ask 5 = .ok (.aload_n 0, 1) := by decide +kernel
theorem dX2_ask_6 : decode cX2_ask 6 = .ok (.iload_n 1, 1) := by decide +kernel
theorem dX2_ask_7 : decode cX2_ask 7 = .ok (.invokevirtual 89, 3) := by decide +kernel
theorem dX2_ask_10 : decode cX2_ask 10 = .ok (.ifCond .eq 11, 3) := by decide +kernel
theorem dX2_ask_13 : decode cX2_ask 13 = .ok (.aload_n 0, 1) := by decide +kernel
theorem dX2_ask_14 : decode cX2_ask 14 = .ok (.iload_n 2, 1) := by decide +kernel
theorem dX2_ask_15 : decode cX2_ask 15 = .ok (.invokevirtual 93, 3) := by decide +kernel
theorem dX2_ask_18 : decode cX2_ask 18 = .ok (.ifCond .ne 9, 3) := by decide +kernel
theorem dX2_ask_21 : decode cX2_ask 21 = .ok (.aload_n 0, 1) := by decide +kernel
theorem dX2_ask_22 : decode cX2_ask 22 = .ok (.iconst 1, 1) := by decide +kernel
theorem dX2_ask_23 : decode cX2_ask 23 = .ok (.invokevirtual 86, 3) := by decide +kernel
theorem dX2_ask_26 : decode cX2_ask 26 = .ok (.ireturn, 1) := by decide +kernel
theorem dX2_ask_27 : decode cX2_ask 27 = .ok (.iload_n 3, 1) := by decide +kernel
theorem dX2_ask_28 : decode cX2_ask 28 = .ok (.iconst 1, 1) := by decide +kernel
theorem dX2_ask_29 : decode cX2_ask 29 = .ok (.aload_n 0, 1) := by decide +kernel
theorem dX2_ask_30 : decode cX2_ask 30 = .ok (.getfield 9, 3) := by decide +kernel
theorem dX2_ask_33 : decode cX2_ask 33 = .ok (.iload_n 2, 1) := by decide +kernel
theorem dX2_ask_34 : decode cX2_ask 34 = .ok (.iaload, 1) := by decide +kernel
theorem dX2_ask_35 : decode cX2_ask 35 = .ok (.invokestatic 32, 3) := by decide +kernel
theorem dX2_ask_38 : decode cX2_ask 38 = .ok (.ifCond .eq 25, 3) := by decide +kernel
theorem dX2_ask_41 : decode cX2_ask 41 = .ok (.iload 4, 2) := by decide +kernel
theorem dX2_ask_43 : decode cX2_ask 43 = .ok (.iconst 1, 1) := by decide +kernel
theorem dX2_ask_44 : decode cX2_ask 44 = .ok (.bipush 30, 2) := by decide +kernel
theorem dX2_ask_46 : decode cX2_ask 46 = .ok (.invokestatic 32, 3) := by decide +kernel
theorem dX2_ask_49 : decode cX2_ask 49 = .ok (.ifCond .eq 14, 3) := by decide +kernel
theorem dX2_ask_52 : decode cX2_ask 52 = .ok (.iload 5, 2) := by decide +kernel
theorem dX2_ask_54 : decode cX2_ask 54 = .ok (.iconst 1, 1) := by decide +kernel
theorem dX2_ask_55 : decode cX2_ask 55 = .ok (.bipush 60, 2) := by decide +kernel
theorem dX2_ask_57 : decode cX2_ask 57 = .ok (.invokestatic 32, 3) := by decide +kernel
theorem dX2_ask_60 : decode cX2_ask 60 = .ok (.ifCond .ne 9, 3) := by decide +kernel
theorem dX2_ask_63 : decode cX2_ask 63 = .ok (.aload_n 0, 1) := by decide +kernel
theorem dX2_ask_64 : decode cX2_ask 64 = .ok (.iconst 2, 1) := by decide +kernel
theorem dX2_ask_65 : decode cX2_ask 65 = .ok (.invokevirtual 86, 3) := by decide +kernel
theorem dX2_ask_68 : decode cX2_ask 68 = .ok (.ireturn, 1) := by decide +kernel
theorem dX2_ask_69 : decode cX2_ask 69 = .ok (.aload_n 0, 1) := by decide +kernel
theorem dX2_ask_70 : decode cX2_ask 70 = .ok (.iload_n 1, 1) := by decide +kernel
theorem dX2_ask_71 : decode cX2_ask 71 = .ok (.iconst 0, 1) := by decide +kernel
theorem dX2_ask_72 : decode cX2_ask 72 = .ok (.invokevirtual 49, 3) := by decide +kernel
theorem dX2_ask_75 : decode cX2_ask 75 = .ok (.ifCond .ne 9, 3) := by decide +kernel
theorem dX2_ask_78 : decode cX2_ask 78 = .ok (.aload_n 0, 1) := by decide +kernel
theorem dX2_ask_79 : decode cX2_ask 79 = .ok (.iconst 3, 1) := by decide +kernel
theorem dX2_ask_80 : decode cX2_ask 80 = .ok (.invokevirtual 86, 3) := by decide +kernel
theorem dX2_ask_83 : decode cX2_ask 83 = .ok (.ireturn, 1) := by decide +kernel
theorem dX2_ask_84 : decode cX2_ask 84 = .ok (.aload_n 0, 1) := by decide +kernel
theorem dX2_ask_85 : decode cX2_ask 85 = .ok (.iload_n 1, 1) := by decide +kernel
theorem dX2_ask_86 : decode cX2_ask 86 = .ok (.iconst 1, 1) := by decide +kernel
theorem dX2_ask_87 : decode cX2_ask 87 = .ok (.iload_n 2, 1) := by decide +kernel
theorem dX2_ask_88 : decode cX2_ask 88 = .ok (.iload_n 3, 1) := by decide +kernel
theorem dX2_ask_89 : decode cX2_ask 89 = .ok (.iload 4, 2) := by decide +kernel
theorem dX2_ask_91 : decode cX2_ask 91 = .ok (.invokevirtual 96, 3) := by decide +kernel
theorem dX2_ask_94 : decode cX2_ask 94 = .ok (.aload_n 0, 1) := by decide +kernel
theorem dX2_ask_95 : decode cX2_ask 95 = .ok (.iload_n 1, 1) := by decide +kernel
theorem dX2_ask_96 : decode cX2_ask 96 = .ok (.iconst 4, 1) := by decide +kernel
theorem dX2_ask_97 : decode cX2_ask 97 = .ok (.iload 5, 2) := by decide +kernel
theorem dX2_ask_99 : decode cX2_ask 99 = .ok (.invokevirtual 66, 3) := by decide +kernel
theorem dX2_ask_102 : decode cX2_ask 102 = .ok (.aload_n 0, 1) := by decide +kernel
theorem dX2_ask_103 : decode cX2_ask 103 = .ok (.iload_n 1, 1) := by decide +kernel
theorem dX2_ask_104 : decode cX2_ask 104 = .ok (.iconst 5, 1) := by decide +kernel
theorem dX2_ask_105 : decode cX2_ask 105 = .ok (.iconst 0, 1) := by decide +kernel
theorem dX2_ask_106 : decode cX2_ask 106 = .ok (.invokevirtual 66, 3) := by decide +kernel
theorem dX2_ask_109 : decode cX2_ask 109 = .ok (.aload_n 0, 1) := by decide +kernel
theorem dX2_ask_110 : decode cX2_ask 110 = .ok (.iload_n 1, 1) := by decide +kernel
theorem dX2_ask_111 : decode cX2_ask 111 = .ok (.bipush 7, 2) := by decide +kernel
theorem dX2_ask_113 : decode cX2_ask 113 = .ok (.aload_n 0, 1) := by decide +kernel
theorem dX2_ask_114 : decode cX2_ask 114 = .ok (.getfield 19, 3) := by decide +kernel
theorem dX2_ask_117 : decode cX2_ask 117 = .ok (.iconst 3, 1) := by decide +kernel
theorem dX2_ask_118 : decode cX2_ask 118 = .ok (.iaload, 1) := by decide +kernel
theorem dX2_ask_119 : decode cX2_ask 119 = .ok (.invokevirtual 66, 3) := by decide +kernel
theorem dX2_ask_122 : decode cX2_ask 122 = .ok (.aload_n 0, 1) := by decide +kernel
theorem dX2_ask_123 : decode cX2_ask 123 = .ok (.getfield 19, 3) := by decide +kernel
theorem dX2_ask_126 : decode cX2_ask 126 = .ok (.iconst 3, 1) := by decide +kernel
theorem dX2_ask_127 : decode cX2_ask 127 = .ok (.dup2, 1) := by decide +kernel
theorem dX2_ask_128 : decode cX2_ask 128 = .ok (.iaload, 1) := by decide +kernel
theorem dX2_ask_129 : decode cX2_ask 129 = .ok (.iconst 1, 1) := by decide +kernel
theorem dX2_ask_130 : decode cX2_ask 130 = .ok (.iadd, 1) := by decide +kernel
theorem dX2_ask_131 : decode cX2_ask 131 = .ok (.iastore, 1) := by decide +kernel
theorem dX2_ask_132 : decode cX2_ask 132 = .ok (.aload_n 0, 1) := by decide +kernel
theorem dX2_ask_133 : decode cX2_ask 133 = .ok (.iload_n 2, 1) := by decide +kernel
theorem dX2_ask_134 : decode cX2_ask 134 = .ok (.invokevirtual 100, 3) := by decide +kernel
theorem dX2_ask_137 : decode cX2_ask 137 = .ok (.ireturn, 1) := by decide +kernel
set_option maxRecDepth 20000 in
theorem ggX2_barge_X2_isGoat : GoodIn wsX2_barge wsX2_isGoat := goodIn_r _ [7, 8, 9, 10, 6, 11, 42, 43, 44, 45, 46, 47, 48, 49] (by decide +kernel) (by decide +kernel)
set_option maxRecDepth 20000 in
theorem gX2_barge_X2_isGoat : GoodIn wsX2_barge (wsV RX2 89 RX2 yX2_isGoat wsX2_isGoat) := goodIn_app (goodIn_of _ (by decide +kernel)) ggX2_barge_X2_isGoat
set_option maxRecDepth 20000 in
theorem ggX2_barge_X2_isGate : GoodIn wsX2_barge wsX2_isGate := goodIn_r _ [15, 16, 9, 10, 6, 11, 42, 43, 44, 45, 46, 47, 48, 49] (by decide +kernel) (by decide +kernel)
set_option maxRecDepth 20000 in
theorem gX2_barge_X2_isGate : GoodIn wsX2_barge (wsV RX2 93 RX2 yX2_isGate wsX2_isGate) := goodIn_app (goodIn_of _ (by decide +kernel)) ggX2_barge_X2_isGate
set_option maxRecDepth 20000 in
theorem ggX2_barge_X2_no : GoodIn wsX2_barge wsX2_no := goodIn_r _ [20, 1, 42, 43, 44, 45, 46, 47, 48, 49] (by decide +kernel) (by decide +kernel)
set_option maxRecDepth 20000 in
theorem gX2_barge_X2_no : GoodIn wsX2_barge (wsV RX2 86 RX2 yX2_no wsX2_no) := goodIn_app (goodIn_of _ (by decide +kernel)) ggX2_barge_X2_no
set_option maxRecDepth 20000 in
theorem ggX2_barge_X2_isIn : GoodIn wsX2_barge wsX2_isIn := goodIn_r _ [11] (by decide +kernel) (by decide +kernel)
set_option maxRecDepth 20000 in
theorem gX2_barge_X2_isIn : GoodIn wsX2_barge (va_wsS RX2 32 yX2_isIn wsX2_isIn) := goodIn_app (goodIn_of _ (by decide +kernel)) ggX2_barge_X2_isIn
set_option maxRecDepth 20000 in
theorem ggX2_barge_X2_is : GoodIn wsX2_barge wsX2_is := goodIn_r _ [24, 25, 26, 27, 6, 28, 29, 42, 43, 44, 45, 46, 47, 48, 49] (by decide +kernel) (by decide +kernel)
set_option maxRecDepth 20000 in
theorem gX2_barge_X2_is : GoodIn wsX2_barge (wsV RX2 49 RX2 yX2_is wsX2_is) := goodIn_app (goodIn_of _ (by decide +kernel)) ggX2_barge_X2_is
set_option maxRecDepth 20000 in
theorem ggX2_barge_X2_free : GoodIn wsX2_barge wsX2_free := goodIn_r _ [33, 2, 8, 21, 22, 23, 6, 24, 25, 26, 27, 28, 29, 42, 43, 44, 45, 46, 47, 48, 49] (by decide +kernel) (by decide +kernel)
set_option maxRecDepth 20000 in
theorem gX2_barge_X2_free : GoodIn wsX2_barge (wsV RX2 56 RX2 yX2_free wsX2_free) := goodIn_app (goodIn_of _ (by decide +kernel)) ggX2_barge_X2_free
set_option maxRecDepth 20000 in
theorem ggX2_barge_X2_write : GoodIn wsX2_barge wsX2_write := goodIn_r _ [37, 38, 39, 40, 6, 41, 29, 42, 43, 44, 45, 46, 47, 48, 49] (by decide +kernel) (by decide +kernel)
set_option maxRecDepth 20000 in
theorem gX2_barge_X2_write : GoodIn wsX2_barge (wsV RX2 96 RX2 yX2_write wsX2_write) := goodIn_app (goodIn_of _ (by decide +kernel)) ggX2_barge_X2_write
theorem dX2_barge_0 : decode cX2_barge 0 = .ok (.aload_n 0, 1) := by decide +kernel
theorem dX2_barge_1 : decode cX2_barge 1 = .ok (.iconst 0, 1) := by decide +kernel
theorem dX2_barge_2 : decode cX2_barge 2 = .ok (.putfield 25, 3) := by decide +kernel
theorem dX2_barge_5 : decode cX2_barge 5 = .ok (.aload_n 0, 1) := by decide +kernel
theorem dX2_barge_6 : decode cX2_barge 6 = .ok (.iload_n 1, 1) := by decide +kernel
theorem dX2_barge_7 : decode cX2_barge 7 = .ok (.invokevirtual 89, 3) := by decide +kernel
theorem dX2_barge_10 : decode cX2_barge 10 = .ok (.ifCond .eq 11, 3) := by decide +kernel
theorem dX2_barge_13 : decode cX2_barge 13 = .ok (.aload_n 0, 1) := by decide +kernel
theorem dX2_barge_14 : decode cX2_barge 14 = .ok (.iload_n 2, 1) := by decide +kernel
theorem dX2_barge_15 : decode cX2_barge 15 = .ok (.invokevirtual 93, 3) := by decide +kernel
theorem dX2_barge_18 : decode cX2_barge 18 = .ok (.ifCond .ne 9, 3) := by decide +kernel
theorem dX2_barge_21 : decode cX2_barge 21 = .ok (.aload_n 0, 1) := by decide +kernel
theorem dX2_barge_22 : decode cX2_barge 22 = .ok (.iconst 1, 1) := by decide +kernel
theorem dX2_barge_23 : decode cX2_barge 23 = .ok (.invokevirtual 86, 3) := by decide +kernel
theorem dX2_barge_26 : decode cX2_barge 26 = .ok (.ireturn, 1) := by decide +kernel
theorem dX2_barge_27 : decode cX2_barge 27 = .ok (.iload_n 3, 1) := by decide +kernel
theorem dX2_barge_28 : decode cX2_barge 28 = .ok (.iconst 1, 1) := by decide +kernel
theorem dX2_barge_29 : decode cX2_barge 29 = .ok (.aload_n 0, 1) := by decide +kernel
theorem dX2_barge_30 : decode cX2_barge 30 = .ok (.getfield 9, 3) := by decide +kernel
theorem dX2_barge_33 : decode cX2_barge 33 = .ok (.iload_n 2, 1) := by decide +kernel
theorem dX2_barge_34 : decode cX2_barge 34 = .ok (.iaload, 1) := by decide +kernel
theorem dX2_barge_35 : decode cX2_barge 35 = .ok (.invokestatic 32, 3) := by decide +kernel
theorem dX2_barge_38 : decode cX2_barge 38 = .ok (.ifCond .eq 14, 3) := by decide +kernel
theorem dX2_barge_41 : decode cX2_barge 41 = .ok (.iload 4, 2) := by decide +kernel
theorem dX2_barge_43 : decode cX2_barge 43 = .ok (.iconst 1, 1) := by decide +kernel
theorem dX2_barge_44 : decode cX2_barge 44 = .ok (.bipush 30, 2) := by decide +kernel
theorem dX2_barge_46 : decode cX2_barge 46 = .ok (.invokestatic 32, 3) := by decide +kernel
theorem dX2_barge_49 : decode cX2_barge 49 = .ok (.ifCond .ne 9, 3) := by decide +kernel
theorem dX2_barge_52 : decode cX2_barge 52 = .ok (.aload_n 0, 1) := by decide +kernel
theorem dX2_barge_53 : decode cX2_barge 53 = .ok (.iconst 2, 1) := by decide +kernel
theorem dX2_barge_54 : decode cX2_barge 54 = .ok (.invokevirtual 86, 3) := by decide +kernel
theorem dX2_barge_57 : decode cX2_barge 57 = .ok (.ireturn, 1) := by decide +kernel
theorem dX2_barge_58 : decode cX2_barge 58 = .ok (.aload_n 0, 1) := by decide +kernel
theorem dX2_barge_59 : decode cX2_barge 59 = .ok (.iload_n 1, 1) := by decide +kernel
theorem dX2_barge_60 : decode cX2_barge 60 = .ok (.iconst 0, 1) := by decide +kernel
theorem dX2_barge_61 : decode cX2_barge 61 = .ok (.invokevirtual 49, 3) := by decide +kernel
theorem dX2_barge_64 : decode cX2_barge 64 = .ok (.ifCond .eq 12, 3) := by decide +kernel
theorem dX2_barge_67 : decode cX2_barge 67 = .ok (.aload_n 0, 1) := by decide +kernel
theorem dX2_barge_68 : decode cX2_barge 68 = .ok (.iload_n 2, 1) := by decide +kernel
theorem dX2_barge_69 : decode cX2_barge 69 = .ok (.invokevirtual 56, 3) := by decide +kernel
theorem dX2_barge_72 : decode cX2_barge 72 = .ok (.iload_n 3, 1) := by decide +kernel
theorem dX2_barge_73 : decode cX2_barge 73 = .ok (.if_icmp .ge 9, 3) := by decide +kernel
theorem dX2_barge_76 : decode cX2_barge 76 = .ok (.aload_n 0, 1) := by decide +kernel
theorem dX2_barge_77 : decode cX2_barge 77 = .ok (.iconst 3, 1) := by decide +kernel
theorem dX2_barge_78 : decode cX2_barge 78 = .ok (.invokevirtual 86, 3) := by decide +kernel
theorem dX2_barge_81 : decode cX2_barge 81 = .ok (.ireturn, 1) := by decide +kernel
theorem dX2_barge_82 : decode cX2_barge 82 = .ok (.aload_n 0, 1) := by decide +kernel
theorem dX2_barge_83 : decode cX2_barge 83 = .ok (.iload_n 1, 1) := by decide +kernel
theorem dX2_barge_84 : decode cX2_barge 84 = .ok (.iconst 2, 1) := by decide +kernel
theorem dX2_barge_85 : decode cX2_barge 85 = .ok (.iload_n 2, 1) := by decide +kernel
theorem dX2_barge_86 : decode cX2_barge 86 = .ok (.iload_n 3, 1) := by decide +kernel
theorem dX2_barge_87 : decode cX2_barge 87 = .ok (.iload 4, 2) := by decide +kernel
theorem dX2_barge_89 : decode cX2_barge 89 = .ok (.invokevirtual 96, 3) := by decide +kernel
theorem dX2_barge_92 : decode cX2_barge 92 = .ok (.aload_n 0, 1) := by decide +kernel
theorem dX2_barge_93 : decode cX2_barge 93 = .ok (.iload_n 2, 1) := by decide +kernel
theorem dX2_barge_94 : decode cX2_barge 94 = .ok (.invokevirtual 56, 3) := by decide +kernel
theorem dX2_barge_97 : decode cX2_barge 97 = .ok (.ireturn, 1) := by decide +kernel
set_option maxRecDepth 20000 in
theorem ggX2_held_X2_is : GoodIn wsX2_held wsX2_is := goodIn_r _ [5, 6, 7, 8, 4, 9, 10, 11, 12, 13, 14, 15, 16, 17, 18] (by decide +kernel) (by decide +kernel)
set_option maxRecDepth 20000 in
theorem gX2_held_X2_is : GoodIn wsX2_held (wsV RX2 49 RX2 yX2_is wsX2_is) := goodIn_app (goodIn_of _ (by decide +kernel)) ggX2_held_X2_is
set_option maxRecDepth 20000 in
theorem ggX2_held_X2_of : GoodIn wsX2_held wsX2_of := goodIn_r _ [9, 10, 11, 12, 13, 14, 15, 16, 17, 18] (by decide +kernel) (by decide +kernel)
set_option maxRecDepth 20000 in
theorem gX2_held_X2_of : GoodIn wsX2_held (wsV RX2 45 RX2 yX2_of wsX2_of) := goodIn_app (goodIn_of _ (by decide +kernel)) ggX2_held_X2_of
theorem dX2_held_0 : decode cX2_held 0 = .ok (.aload_n 0, 1) := by decide +kernel
theorem dX2_held_1 : decode cX2_held 1 = .ok (.iload_n 1, 1) := by decide +kernel
theorem dX2_held_2 : decode cX2_held 2 = .ok (.iconst 2, 1) := by decide +kernel
theorem dX2_held_3 : decode cX2_held 3 = .ok (.invokevirtual 49, 3) := by decide +kernel
theorem dX2_held_6 : decode cX2_held 6 = .ok (.ifCond .eq 12, 3) := by decide +kernel
theorem dX2_held_9 : decode cX2_held 9 = .ok (.aload_n 0, 1) := by decide +kernel
theorem dX2_held_10 : decode cX2_held 10 = .ok (.iload_n 1, 1) := by decide +kernel
theorem dX2_held_11 : decode cX2_held 11 = .ok (.iconst 2, 1) := by decide +kernel
theorem dX2_held_12 : decode cX2_held 12 = .ok (.invokevirtual 45, 3) := by decide +kernel
theorem dX2_held_15 : decode cX2_held 15 = .ok (.goto 4, 3) := by decide +kernel
theorem dX2_held_18 : decode cX2_held 18 = .ok (.iconst 0, 1) := by decide +kernel
theorem dX2_held_19 : decode cX2_held 19 = .ok (.ireturn, 1) := by decide +kernel
set_option maxRecDepth 20000 in
theorem ggX2_callBack_X2_isGoat : GoodIn wsX2_callBack wsX2_isGoat := goodIn_r _ [6, 7, 8, 9, 5, 10, 32, 33, 34, 35, 36, 37, 38, 39] (by decide +kernel) (by decide +kernel)
set_option maxRecDepth 20000 in
theorem gX2_callBack_X2_isGoat : GoodIn wsX2_callBack (wsV RX2 89 RX2 yX2_isGoat wsX2_isGoat) := goodIn_app (goodIn_of _ (by decide +kernel)) ggX2_callBack_X2_isGoat
set_option maxRecDepth 20000 in
theorem ggX2_callBack_X2_no : GoodIn wsX2_callBack wsX2_no := goodIn_r _ [14, 1, 32, 33, 34, 35, 36, 37, 38, 39] (by decide +kernel) (by decide +kernel)
set_option maxRecDepth 20000 in
theorem gX2_callBack_X2_no : GoodIn wsX2_callBack (wsV RX2 86 RX2 yX2_no wsX2_no) := goodIn_app (goodIn_of _ (by decide +kernel)) ggX2_callBack_X2_no
set_option maxRecDepth 20000 in
theorem ggX2_callBack_X2_is : GoodIn wsX2_callBack wsX2_is := goodIn_r _ [18, 19, 20, 21, 5, 22, 23, 32, 33, 34, 35, 36, 37, 38, 39] (by decide +kernel) (by decide +kernel)
set_option maxRecDepth 20000 in
theorem gX2_callBack_X2_is : GoodIn wsX2_callBack (wsV RX2 49 RX2 yX2_is wsX2_is) := goodIn_app (goodIn_of _ (by decide +kernel)) ggX2_callBack_X2_is
set_option maxRecDepth 20000 in
theorem ggX2_callBack_X2_held : GoodIn wsX2_callBack wsX2_held := goodIn_r _ [27, 15, 16, 17, 5, 18, 19, 20, 21, 22, 23, 32, 33, 34, 35, 36, 37, 38, 39] (by decide +kernel) (by decide +kernel)
set_option maxRecDepth 20000 in
theorem gX2_callBack_X2_held : GoodIn wsX2_callBack (wsV RX2 103 RX2 yX2_held wsX2_held) := goodIn_app (goodIn_of _ (by decide +kernel)) ggX2_callBack_X2_held
set_option maxRecDepth 20000 in
theorem ggX2_callBack_X2_let : GoodIn wsX2_callBack wsX2_let := goodIn_r _ [31, 23, 32, 33, 34, 35, 36, 37, 38, 39] (by decide +kernel) (by decide +kernel)
set_option maxRecDepth 20000 in
theorem gX2_callBack_X2_let : GoodIn wsX2_callBack (wsV RX2 66 RX2 yX2_let wsX2_let) := goodIn_app (goodIn_of _ (by decide +kernel)) ggX2_callBack_X2_let
theorem dX2_callBack_0 : decode cX2_callBack 0 = .ok (.aload_n 0, 1) := by decide +kernel
theorem dX2_callBack_1 : decode cX2_callBack 1 = .ok (.iconst 0, 1) := by decide +kernel
theorem dX2_callBack_2 : decode cX2_callBack 2 = .ok (.putfield 25, 3) := by decide +kernel
theorem dX2_callBack_5 : decode cX2_callBack 5 = .ok (.aload_n 0, 1) := by decide +kernel
theorem dX2_callBack_6 : decode cX2_callBack 6 = .ok (.iload_n 1, 1) := by decide +kernel
theorem dX2_callBack_7 : decode cX2_callBack 7 = .ok (.invokevirtual 89, 3) := by decide +kernel
theorem dX2_callBack_10 : decode cX2_callBack 10 = .ok (.ifCond .ne 9, 3) := by decide +kernel
theorem dX2_callBack_13 : decode cX2_callBack 13 = .ok (.aload_n 0, 1) := by decide +kernel
theorem dX2_callBack_14 : decode cX2_callBack 14 = .ok (.iconst 1, 1) := by decide +kernel
theorem dX2_callBack_15 : decode cX2_callBack 15 = .ok (.invokevirtual 86, 3) := by decide +kernel
theorem dX2_callBack_18 : decode cX2_callBack 18 = .ok (.ireturn, 1) := by decide +kernel
theorem dX2_callBack_19 : decode cX2_callBack 19 = .ok (.aload_n 0, 1) := by decide +kernel
theorem dX2_callBack_20 : decode cX2_callBack 20 = .ok (.iload_n 1, 1) := by decide +kernel
theorem dX2_callBack_21 : decode cX2_callBack 21 = .ok (.iconst 0, 1) := by decide +kernel
theorem dX2_callBack_22 : decode cX2_callBack 22 = .ok (.invokevirtual 49, 3) := by decide +kernel
theorem dX2_callBack_25 : decode cX2_callBack 25 = .ok (.ifCond .eq 9, 3) := by decide +kernel
theorem dX2_callBack_28 : decode cX2_callBack 28 = .ok (.aload_n 0, 1) := by decide +kernel
theorem dX2_callBack_29 : decode cX2_callBack 29 = .ok (.iconst 2, 1) := by decide +kernel
theorem dX2_callBack_30 : decode cX2_callBack 30 = .ok (.invokevirtual 86, 3) := by decide +kernel
theorem dX2_callBack_33 : decode cX2_callBack 33 = .ok (.ireturn, 1) := by decide +kernel
theorem dX2_callBack_34 : decode cX2_callBack 34 = .ok (.aload_n 0, 1) := by decide +kernel
theorem dX2_callBack_35 : decode cX2_callBack 35 = .ok (.iload_n 1, 1) := by decide +kernel
theorem dX2_callBack_36 : decode cX2_callBack 36 = .ok (.invokevirtual 103, 3) := by decide +kernel
theorem dX2_callBack_39 : decode cX2_callBack 39 = .ok (.istore_n 2, 1) := by decide +kernel
theorem dX2_callBack_40 : decode cX2_callBack 40 = .ok (.aload_n 0, 1) := by decide +kernel
theorem dX2_callBack_41 : decode cX2_callBack 41 = .ok (.iload_n 1, 1) := by decide +kernel
theorem dX2_callBack_42 : decode cX2_callBack 42 = .ok (.iconst 0, 1) := by decide +kernel
theorem dX2_callBack_43 : decode cX2_callBack 43 = .ok (.iconst 0, 1) := by decide +kernel
theorem dX2_callBack_44 : decode cX2_callBack 44 = .ok (.invokevirtual 66, 3) := by decide +kernel
theorem dX2_callBack_47 : decode cX2_callBack 47 = .ok (.iload_n 2, 1) := by decide +kernel
theorem dX2_callBack_48 : decode cX2_callBack 48 = .ok (.ireturn, 1) := by decide +kernel
set_option maxRecDepth 20000 in
theorem ggX2_pass_X2_isIn : GoodIn wsX2_pass wsX2_isIn := goodIn_r _ [6] (by decide +kernel) (by decide +kernel)
set_option maxRecDepth 20000 in
theorem gX2_pass_X2_isIn : GoodIn wsX2_pass (va_wsS RX2 32 yX2_isIn wsX2_isIn) := goodIn_app (goodIn_of _ (by decide +kernel)) ggX2_pass_X2_isIn
set_option maxRecDepth 20000 in
theorem ggX2_pass_X2_no : GoodIn wsX2_pass wsX2_no := goodIn_r _ [10, 1, 68, 69, 70, 71, 72, 73, 74, 75] (by decide +kernel) (by decide +kernel)
set_option maxRecDepth 20000 in
theorem gX2_pass_X2_no : GoodIn wsX2_pass (wsV RX2 86 RX2 yX2_no wsX2_no) := goodIn_app (goodIn_of _ (by decide +kernel)) ggX2_pass_X2_no
set_option maxRecDepth 20000 in
theorem ggX2_pass_X2_minutesOn : GoodIn wsX2_pass wsX2_minutesOn := goodIn_r _ [14, 15, 16, 17, 5, 18, 19, 20, 2, 21, 22, 23, 24, 25, 26, 27, 28, 29, 30, 31, 32, 33, 34, 35, 36, 37, 38, 39, 40, 41, 42, 43, 44, 45, 46, 47, 48, 49, 50, 51, 52, 53, 54, 55, 56, 57, 58, 59, 60, 61, 62, 63, 64, 65, 66, 67, 68, 69, 70, 71, 72, 73, 74, 75] (by decide +kernel) (by decide +kernel)
set_option maxRecDepth 20000 in
theorem gX2_pass_X2_minutesOn : GoodIn wsX2_pass (wsV RX2 106 RX2 yX2_minutesOn wsX2_minutesOn) := goodIn_app (goodIn_of _ (by decide +kernel)) ggX2_pass_X2_minutesOn
theorem dX2_pass_0 : decode cX2_pass 0 = .ok (.aload_n 0, 1) := by decide +kernel
theorem dX2_pass_1 : decode cX2_pass 1 = .ok (.iconst 0, 1) := by decide +kernel
theorem dX2_pass_2 : decode cX2_pass 2 = .ok (.putfield 25, 3) := by decide +kernel
theorem dX2_pass_5 : decode cX2_pass 5 = .ok (.iload_n 1, 1) := by decide +kernel
theorem dX2_pass_6 : decode cX2_pass 6 = .ok (.iconst 1, 1) := by decide +kernel
theorem dX2_pass_7 : decode cX2_pass 7 = .ok (.bipush 60, 2) := by decide +kernel
theorem dX2_pass_9 : decode cX2_pass 9 = .ok (.invokestatic 32, 3) := by decide +kernel
theorem dX2_pass_12 : decode cX2_pass 12 = .ok (.ifCond .ne 9, 3) := by decide +kernel
theorem dX2_pass_15 : decode cX2_pass 15 = .ok (.aload_n 0, 1) := by decide +kernel
theorem dX2_pass_16 : decode cX2_pass 16 = .ok (.iconst 1, 1) := by decide +kernel
theorem dX2_pass_17 : decode cX2_pass 17 = .ok (.invokevirtual 86, 3) := by decide +kernel
theorem dX2_pass_20 : decode cX2_pass 20 = .ok (.ireturn, 1) := by decide +kernel
theorem dX2_pass_21 : decode cX2_pass 21 = .ok (.aload_n 0, 1) := by decide +kernel
theorem dX2_pass_22 : decode cX2_pass 22 = .ok (.getfield 19, 3) := by decide +kernel
theorem dX2_pass_25 : decode cX2_pass 25 = .ok (.iconst 1, 1) := by decide +kernel
theorem dX2_pass_26 : decode cX2_pass 26 = .ok (.iaload, 1) := by decide +kernel
theorem dX2_pass_27 : decode cX2_pass 27 = .ok (.istore_n 2, 1) := by decide +kernel
theorem dX2_pass_28 : decode cX2_pass 28 = .ok (.aload_n 0, 1) := by decide +kernel
theorem dX2_pass_29 : decode cX2_pass 29 = .ok (.iload_n 1, 1) := by decide +kernel
theorem dX2_pass_30 : decode cX2_pass 30 = .ok (.invokevirtual 106, 3) := by decide +kernel
theorem dX2_pass_33 : decode cX2_pass 33 = .ok (.aload_n 0, 1) := by decide +kernel
theorem dX2_pass_34 : decode cX2_pass 34 = .ok (.getfield 19, 3) := by decide +kernel
theorem dX2_pass_37 : decode cX2_pass 37 = .ok (.iconst 1, 1) := by decide +kernel
theorem dX2_pass_38 : decode cX2_pass 38 = .ok (.iaload, 1) := by decide +kernel
theorem dX2_pass_39 : decode cX2_pass 39 = .ok (.iload_n 2, 1) := by decide +kernel
theorem dX2_pass_40 : decode cX2_pass 40 = .ok (.isub, 1) := by decide +kernel
theorem dX2_pass_41 : decode cX2_pass 41 = .ok (.ireturn, 1) := by decide +kernel
set_option maxRecDepth 20000 in
theorem ggX2_minute_X2_ok : GoodIn wsX2_minute wsX2_ok := goodIn_r _ [6, 7, 8, 9, 10, 11, 12, 13, 14, 15] (by decide +kernel) (by decide +kernel)
set_option maxRecDepth 20000 in
theorem gX2_minute_X2_ok : GoodIn wsX2_minute (wsV RX2 109 RX2 yX2_ok wsX2_ok) := goodIn_app (goodIn_of _ (by decide +kernel)) ggX2_minute_X2_ok
theorem dX2_minute_0 : decode cX2_minute 0 = .ok (.aload_n 0, 1) := by decide +kernel
theorem dX2_minute_1 : decode cX2_minute 1 = .ok (.aload_n 0, 1) := by decide +kernel
theorem dX2_minute_2 : decode cX2_minute 2 = .ok (.getfield 19, 3) := by decide +kernel
theorem dX2_minute_5 : decode cX2_minute 5 = .ok (.iconst 0, 1) := by decide +kernel
theorem dX2_minute_6 : decode cX2_minute 6 = .ok (.iaload, 1) := by decide +kernel
theorem dX2_minute_7 : decode cX2_minute 7 = .ok (.invokevirtual 109, 3) := by decide +kernel
theorem dX2_minute_10 : decode cX2_minute 10 = .ok (.ireturn, 1) := by decide +kernel
set_option maxRecDepth 20000 in
theorem ggX2_gates_X2_ok : GoodIn wsX2_gates wsX2_ok := goodIn_r _ [6, 7, 8, 9, 10, 11, 12, 13, 14, 15] (by decide +kernel) (by decide +kernel)
set_option maxRecDepth 20000 in
theorem gX2_gates_X2_ok : GoodIn wsX2_gates (wsV RX2 109 RX2 yX2_ok wsX2_ok) := goodIn_app (goodIn_of _ (by decide +kernel)) ggX2_gates_X2_ok
theorem dX2_gates_0 : decode cX2_gates 0 = .ok (.aload_n 0, 1) := by decide +kernel
theorem dX2_gates_1 : decode cX2_gates 1 = .ok (.aload_n 0, 1) := by decide +kernel
theorem dX2_gates_2 : decode cX2_gates 2 = .ok (.getfield 29, 3) := by decide +kernel
theorem dX2_gates_5 : decode cX2_gates 5 = .ok (.invokevirtual 109, 3) := by decide +kernel
theorem dX2_gates_8 : decode cX2_gates 8 = .ok (.ireturn, 1) := by decide +kernel
set_option maxRecDepth 20000 in
theorem ggX2_goats_X2_ok : GoodIn wsX2_goats wsX2_ok := goodIn_r _ [6, 7, 8, 9, 10, 11, 12, 13, 14, 15] (by decide +kernel) (by decide +kernel)
set_option maxRecDepth 20000 in
theorem gX2_goats_X2_ok : GoodIn wsX2_goats (wsV RX2 109 RX2 yX2_ok wsX2_ok) := goodIn_app (goodIn_of _ (by decide +kernel)) ggX2_goats_X2_ok
theorem dX2_goats_0 : decode cX2_goats 0 = .ok (.aload_n 0, 1) := by decide +kernel
theorem dX2_goats_1 : decode cX2_goats 1 = .ok (.aload_n 0, 1) := by decide +kernel
theorem dX2_goats_2 : decode cX2_goats 2 = .ok (.getfield 36, 3) := by decide +kernel
theorem dX2_goats_5 : decode cX2_goats 5 = .ok (.invokevirtual 109, 3) := by decide +kernel
theorem dX2_goats_8 : decode cX2_goats 8 = .ok (.ireturn, 1) := by decide +kernel
set_option maxRecDepth 20000 in
theorem ggX2_waiting_X2_many : GoodIn wsX2_waiting wsX2_many := goodIn_r _ [5, 6, 7, 8, 9, 4, 10, 11, 12, 13, 14, 15, 21, 22, 23, 24, 25, 26, 27, 28] (by decide +kernel) (by decide +kernel)
set_option maxRecDepth 20000 in
theorem gX2_waiting_X2_many : GoodIn wsX2_waiting (wsV RX2 112 RX2 yX2_many wsX2_many) := goodIn_app (goodIn_of _ (by decide +kernel)) ggX2_waiting_X2_many
set_option maxRecDepth 20000 in
theorem ggX2_waiting_X2_ok : GoodIn wsX2_waiting wsX2_ok := goodIn_r _ [19, 20, 21, 22, 23, 24, 25, 26, 27, 28] (by decide +kernel) (by decide +kernel)
set_option maxRecDepth 20000 in
theorem gX2_waiting_X2_ok : GoodIn wsX2_waiting (wsV RX2 109 RX2 yX2_ok wsX2_ok) := goodIn_app (goodIn_of _ (by decide +kernel)) ggX2_waiting_X2_ok
theorem dX2_waiting_0 : decode cX2_waiting 0 = .ok (.aload_n 0, 1) := by decide +kernel
theorem dX2_waiting_1 : decode cX2_waiting 1 = .ok (.aload_n 0, 1) := by decide +kernel
theorem dX2_waiting_2 : decode cX2_waiting 2 = .ok (.iconst 1, 1) := by decide +kernel
theorem dX2_waiting_3 : decode cX2_waiting 3 = .ok (.invokevirtual 112, 3) := by decide +kernel
theorem dX2_waiting_6 : decode cX2_waiting 6 = .ok (.invokevirtual 109, 3) := by decide +kernel
theorem dX2_waiting_9 : decode cX2_waiting 9 = .ok (.ireturn, 1) := by decide +kernel
set_option maxRecDepth 20000 in
theorem ggX2_inside_X2_many : GoodIn wsX2_inside wsX2_many := goodIn_r _ [5, 6, 7, 8, 9, 4, 10, 11, 12, 13, 14, 15, 21, 22, 23, 24, 25, 26, 27, 28] (by decide +kernel) (by decide +kernel)
set_option maxRecDepth 20000 in
theorem gX2_inside_X2_many : GoodIn wsX2_inside (wsV RX2 112 RX2 yX2_many wsX2_many) := goodIn_app (goodIn_of _ (by decide +kernel)) ggX2_inside_X2_many
