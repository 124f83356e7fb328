set_option maxRecDepth 20000 in
theorem ggX2_inside_X2_ok : GoodIn wsX2_inside wsX2_ok := goodIn_r _ [19, 20, 21, 22, 23, 24, 25, 26, 27, 28] (by decide +kernel) (by decide +kernel)
set_option maxRecDepth 20000 in
theorem gX2_inside_X2_ok : GoodIn wsX2_inside (wsV RX2 109 RX2 yX2_ok wsX2_ok) := goodIn_app (goodIn_of _ (by decide +kernel)) ggX2_inside_X2_ok
theorem dX2_inside_0 : decode cX2_inside 0 = .ok (.aload_n 0, 1) := by decide +kernel
theorem dX2_inside_1 : decode cX2_inside 1 = .ok (.aload_n 0, 1) := by decide +kernel
theorem dX2_inside_2 : decode cX2_inside 2 = .ok (.iconst 2, 1) := by decide +kernel
theorem dX2_inside_3 : decode cX2_inside 3 = .ok (.invokevirtual 112, 3) := by decide +kernel
theorem dX2_inside_6 : decode cX2_inside 6 = .ok (.invokevirtual 109, 3) := by decide +kernel
theorem dX2_inside_9 : decode cX2_inside 9 = .ok (.ireturn, 1) := by decide +kernel
set_option maxRecDepth 20000 in
theorem ggX2_starved_X2_is : GoodIn wsX2_starved wsX2_is := goodIn_r _ [6, 7, 8, 9, 5, 10, 11, 12, 13, 14, 15, 16, 17, 18, 19] (by decide +kernel) (by decide +kernel)
set_option maxRecDepth 20000 in
theorem gX2_starved_X2_is : GoodIn wsX2_starved (wsV RX2 49 RX2 yX2_is wsX2_is) := goodIn_app (goodIn_of _ (by decide +kernel)) ggX2_starved_X2_is
set_option maxRecDepth 20000 in
theorem ggX2_starved_X2_of : GoodIn wsX2_starved wsX2_of := goodIn_r _ [10, 11, 12, 13, 14, 15, 16, 17, 18, 19] (by decide +kernel) (by decide +kernel)
set_option maxRecDepth 20000 in
theorem gX2_starved_X2_of : GoodIn wsX2_starved (wsV RX2 45 RX2 yX2_of wsX2_of) := goodIn_app (goodIn_of _ (by decide +kernel)) ggX2_starved_X2_of
theorem dX2_starved_0 : decode cX2_starved 0 = .ok (.iconst 0, 1) := by decide +kernel
theorem dX2_starved_1 : decode cX2_starved 1 = .ok (.istore_n 1, 1) := by decide +kernel
theorem dX2_starved_2 : decode cX2_starved 2 = .ok (.iconst 0, 1) := by decide +kernel
theorem dX2_starved_3 : decode cX2_starved 3 = .ok (.istore_n 2, 1) := by decide +kernel
theorem dX2_starved_4 : decode cX2_starved 4 = .ok (.iload_n 2, 1) := by decide +kernel
theorem dX2_starved_5 : decode cX2_starved 5 = .ok (.aload_n 0, 1) := by decide +kernel
theorem dX2_starved_6 : decode cX2_starved 6 = .ok (.getfield 36, 3) := by decide +kernel
theorem dX2_starved_9 : decode cX2_starved 9 = .ok (.if_icmp .ge 37, 3) := by decide +kernel
theorem dX2_starved_12 : decode cX2_starved 12 = .ok (.iload_n 1, 1) := by decide +kernel
theorem dX2_starved_13 : decode cX2_starved 13 = .ok (.aload_n 0, 1) := by decide +kernel
theorem dX2_starved_14 : decode cX2_starved 14 = .ok (.iload_n 2, 1) := by decide +kernel
theorem dX2_starved_15 : decode cX2_starved 15 = .ok (.iconst 1, 1) := by decide +kernel
theorem dX2_starved_16 : decode cX2_starved 16 = .ok (.invokevirtual 49, 3) := by decide +kernel
theorem dX2_starved_19 : decode cX2_starved 19 = .ok (.ifCond .eq 18, 3) := by decide +kernel
theorem dX2_starved_22 : decode cX2_starved 22 = .ok (.aload_n 0, 1) := by decide +kernel
theorem dX2_starved_23 : decode cX2_starved 23 = .ok (.iload_n 2, 1) := by decide +kernel
theorem dX2_starved_24 : decode cX2_starved 24 = .ok (.iconst 5, 1) := by decide +kernel
theorem dX2_starved_25 : decode cX2_starved 25 = .ok (.invokevirtual 45, 3) := by decide +kernel
theorem dX2_starved_28 : decode cX2_starved 28 = .ok (.bipush 7, 2) := by decide +kernel
theorem dX2_starved_30 : decode cX2_starved 30 = .ok (.if_icmp .le 7, 3) := by decide +kernel
theorem dX2_starved_33 : decode cX2_starved 33 = .ok (.iconst 1, 1) := by decide +kernel
theorem dX2_starved_34 : decode cX2_starved 34 = .ok (.goto 4, 3) := by decide +kernel
theorem dX2_starved_37 : decode cX2_starved 37 = .ok (.iconst 0, 1) := by decide +kernel
theorem dX2_starved_38 : decode cX2_starved 38 = .ok (.iadd, 1) := by decide +kernel
theorem dX2_starved_39 : decode cX2_starved 39 = .ok (.istore_n 1, 1) := by decide +kernel
theorem dX2_starved_40 : decode cX2_starved 40 = .ok (.iinc 2 1, 3) := by decide +kernel
theorem dX2_starved_43 : decode cX2_starved 43 = .ok (.goto (-39), 3) := by decide +kernel
theorem dX2_starved_46 : decode cX2_starved 46 = .ok (.iload_n 1, 1) := by decide +kernel
theorem dX2_starved_47 : decode cX2_starved 47 = .ok (.ireturn, 1) := by decide +kernel
set_option maxRecDepth 20000 in
theorem ggX2_starving_X2_starved : GoodIn wsX2_starving wsX2_starved := goodIn_r _ [5, 6, 7, 8, 9, 4, 10, 11, 12, 13, 14, 15, 21, 22, 23, 24, 25, 26, 27, 28] (by decide +kernel) (by decide +kernel)
set_option maxRecDepth 20000 in
theorem gX2_starving_X2_starved : GoodIn wsX2_starving (wsV RX2 115 RX2 yX2_starved wsX2_starved) := goodIn_app (goodIn_of _ (by decide +kernel)) ggX2_starving_X2_starved
set_option maxRecDepth 20000 in
theorem ggX2_starving_X2_ok : GoodIn wsX2_starving wsX2_ok := goodIn_r _ [19, 20, 21, 22, 23, 24, 25, 26, 27, 28] (by decide +kernel) (by decide +kernel)
set_option maxRecDepth 20000 in
theorem gX2_starving_X2_ok : GoodIn wsX2_starving (wsV RX2 109 RX2 yX2_ok wsX2_ok) := goodIn_app (goodIn_of _ (by decide +kernel)) ggX2_starving_X2_ok
theorem dX2_starving_0 : decode cX2_starving 0 = .ok (.aload_n 0, 1) := by decide +kernel
theorem dX2_starving_1 : decode cX2_starving 1 = .ok (.aload_n 0, 1) := by decide +kernel
theorem dX2_starving_2 : decode cX2_starving 2 = .ok (.invokevirtual 115, 3) := by decide +kernel
theorem dX2_starving_5 : decode cX2_starving 5 = .ok (.invokevirtual 109, 3) := by decide +kernel
theorem dX2_starving_8 : decode cX2_starving 8 = .ok (.ireturn, 1) := by decide +kernel
set_option maxRecDepth 20000 in
theorem ggX2_letIn_X2_ok : GoodIn wsX2_letIn wsX2_ok := goodIn_r _ [6, 7, 8, 9, 10, 11, 12, 13, 14, 15] (by decide +kernel) (by decide +kernel)
set_option maxRecDepth 20000 in
theorem gX2_letIn_X2_ok : GoodIn wsX2_letIn (wsV RX2 109 RX2 yX2_ok wsX2_ok) := goodIn_app (goodIn_of _ (by decide +kernel)) ggX2_letIn_X2_ok
theorem dX2_letIn_0 : decode cX2_letIn 0 = .ok (.aload_n 0, 1) := by decide +kernel
theorem dX2_letIn_1 : decode cX2_letIn 1 = .ok (.aload_n 0, 1) := by decide +kernel
theorem dX2_letIn_2 : decode cX2_letIn 2 = .ok (.getfield 19, 3) := by decide +kernel
theorem dX2_letIn_5 : decode cX2_letIn 5 = .ok (.iconst 1, 1) := by decide +kernel
theorem dX2_letIn_6 : decode cX2_letIn 6 = .ok (.iaload, 1) := by decide +kernel
theorem dX2_letIn_7 : decode cX2_letIn 7 = .ok (.invokevirtual 109, 3) := by decide +kernel
theorem dX2_letIn_10 : decode cX2_letIn 10 = .ok (.ireturn, 1) := by decide +kernel
set_option maxRecDepth 20000 in
theorem ggX2_givenUp_X2_ok : GoodIn wsX2_givenUp wsX2_ok := goodIn_r _ [6, 7, 8, 9, 10, 11, 12, 13, 14, 15] (by decide +kernel) (by decide +kernel)
set_option maxRecDepth 20000 in
theorem gX2_givenUp_X2_ok : GoodIn wsX2_givenUp (wsV RX2 109 RX2 yX2_ok wsX2_ok) := goodIn_app (goodIn_of _ (by decide +kernel)) ggX2_givenUp_X2_ok
theorem dX2_givenUp_0 : decode cX2_givenUp 0 = .ok (.aload_n 0, 1) := by decide +kernel
theorem dX2_givenUp_1 : decode cX2_givenUp 1 = .ok (.aload_n 0, 1) := by decide +kernel
theorem dX2_givenUp_2 : decode cX2_givenUp 2 = .ok (.getfield 19, 3) := by decide +kernel
theorem dX2_givenUp_5 : decode cX2_givenUp 5 = .ok (.iconst 2, 1) := by decide +kernel
theorem dX2_givenUp_6 : decode cX2_givenUp 6 = .ok (.iaload, 1) := by decide +kernel
theorem dX2_givenUp_7 : decode cX2_givenUp 7 = .ok (.invokevirtual 109, 3) := by decide +kernel
theorem dX2_givenUp_10 : decode cX2_givenUp 10 = .ok (.ireturn, 1) := by decide +kernel
set_option maxRecDepth 20000 in
theorem ggX2_permitsOf_X2_isGate : GoodIn wsX2_permitsOf wsX2_isGate := goodIn_r _ [7, 8, 9, 10, 6, 11, 16, 17, 18, 19, 20, 21, 22, 23] (by decide +kernel) (by decide +kernel)
set_option maxRecDepth 20000 in
theorem gX2_permitsOf_X2_isGate : GoodIn wsX2_permitsOf (wsV RX2 93 RX2 yX2_isGate wsX2_isGate) := goodIn_app (goodIn_of _ (by decide +kernel)) ggX2_permitsOf_X2_isGate
set_option maxRecDepth 20000 in
theorem ggX2_permitsOf_X2_no : GoodIn wsX2_permitsOf wsX2_no := goodIn_r _ [15, 1, 16, 17, 18, 19, 20, 21, 22, 23] (by decide +kernel) (by decide +kernel)
set_option maxRecDepth 20000 in
theorem gX2_permitsOf_X2_no : GoodIn wsX2_permitsOf (wsV RX2 86 RX2 yX2_no wsX2_no) := goodIn_app (goodIn_of _ (by decide +kernel)) ggX2_permitsOf_X2_no
theorem dX2_permitsOf_0 : decode cX2_permitsOf 0 = .ok (.aload_n 0, 1) := by decide +kernel
theorem dX2_permitsOf_1 : decode cX2_permitsOf 1 = .ok (.iconst 0, 1) := by decide +kernel
theorem dX2_permitsOf_2 : decode cX2_permitsOf 2 = .ok (.putfield 25, 3) := by decide +kernel
theorem dX2_permitsOf_5 : decode cX2_permitsOf 5 = .ok (.aload_n 0, 1) := by decide +kernel
theorem dX2_permitsOf_6 : decode cX2_permitsOf 6 = .ok (.iload_n 1, 1) := by decide +kernel
theorem dX2_permitsOf_7 : decode cX2_permitsOf 7 = .ok (.invokevirtual 93, 3) := by decide +kernel
theorem dX2_permitsOf_10 : decode cX2_permitsOf 10 = .ok (.ifCond .eq 12, 3) := by decide +kernel
theorem dX2_permitsOf_13 : decode cX2_permitsOf 13 = .ok (.aload_n 0, 1) := by decide +kernel
theorem dX2_permitsOf_14 : decode cX2_permitsOf 14 = .ok (.getfield 9, 3) := by decide +kernel
theorem dX2_permitsOf_17 : decode cX2_permitsOf 17 = .ok (.iload_n 1, 1) := by decide +kernel
theorem dX2_permitsOf_18 : decode cX2_permitsOf 18 = .ok (.iaload, 1) := by decide +kernel
theorem dX2_permitsOf_19 : decode cX2_permitsOf 19 = .ok (.goto 8, 3) := by decide +kernel
theorem dX2_permitsOf_22 : decode cX2_permitsOf 22 = .ok (.aload_n 0, 1) := by decide +kernel
theorem dX2_permitsOf_23 : decode cX2_permitsOf 23 = .ok (.iconst 1, 1) := by decide +kernel
theorem dX2_permitsOf_24 : decode cX2_permitsOf 24 = .ok (.invokevirtual 86, 3) := by decide +kernel
theorem dX2_permitsOf_27 : decode cX2_permitsOf 27 = .ok (.ireturn, 1) := by decide +kernel
set_option maxRecDepth 20000 in
theorem ggX2_freeOf_X2_isGate : GoodIn wsX2_freeOf wsX2_isGate := goodIn_r _ [6, 7, 8, 9, 5, 10, 30, 31, 32, 33, 34, 35, 36, 37] (by decide +kernel) (by decide +kernel)
set_option maxRecDepth 20000 in
theorem gX2_freeOf_X2_isGate : GoodIn wsX2_freeOf (wsV RX2 93 RX2 yX2_isGate wsX2_isGate) := goodIn_app (goodIn_of _ (by decide +kernel)) ggX2_freeOf_X2_isGate
set_option maxRecDepth 20000 in
theorem ggX2_freeOf_X2_free : GoodIn wsX2_freeOf wsX2_free := goodIn_r _ [14, 15, 16, 17, 18, 19, 5, 20, 21, 22, 23, 24, 25, 30, 31, 32, 33, 34, 35, 36, 37] (by decide +kernel) (by decide +kernel)
set_option maxRecDepth 20000 in
theorem gX2_freeOf_X2_free : GoodIn wsX2_freeOf (wsV RX2 56 RX2 yX2_free wsX2_free) := goodIn_app (goodIn_of _ (by decide +kernel)) ggX2_freeOf_X2_free
set_option maxRecDepth 20000 in
theorem ggX2_freeOf_X2_no : GoodIn wsX2_freeOf wsX2_no := goodIn_r _ [29, 1, 30, 31, 32, 33, 34, 35, 36, 37] (by decide +kernel) (by decide +kernel)
set_option maxRecDepth 20000 in
theorem gX2_freeOf_X2_no : GoodIn wsX2_freeOf (wsV RX2 86 RX2 yX2_no wsX2_no) := goodIn_app (goodIn_of _ (by decide +kernel)) ggX2_freeOf_X2_no
theorem dX2_freeOf_0 : decode cX2_freeOf 0 = .ok (.aload_n 0, 1) := by decide +kernel
theorem dX2_freeOf_1 : decode cX2_freeOf 1 = .ok (.iconst 0, 1) := by decide +kernel
theorem dX2_freeOf_2 : decode cX2_freeOf 2 = .ok (.putfield 25, 3) := by decide +kernel
theorem dX2_freeOf_5 : decode cX2_freeOf 5 = .ok (.aload_n 0, 1) := by decide +kernel
theorem dX2_freeOf_6 : decode cX2_freeOf 6 = .ok (.iload_n 1, 1) := by decide +kernel
theorem dX2_freeOf_7 : decode cX2_freeOf 7 = .ok (.invokevirtual 93, 3) := by decide +kernel
theorem dX2_freeOf_10 : decode cX2_freeOf 10 = .ok (.ifCond .eq 11, 3) := by decide +kernel
theorem dX2_freeOf_13 : decode cX2_freeOf 13 = .ok (.aload_n 0, 1) := by decide +kernel
theorem dX2_freeOf_14 : decode cX2_freeOf 14 = .ok (.iload_n 1, 1) := by decide +kernel
theorem dX2_freeOf_15 : decode cX2_freeOf 15 = .ok (.invokevirtual 56, 3) := by decide +kernel
theorem dX2_freeOf_18 : decode cX2_freeOf 18 = .ok (.goto 8, 3) := by decide +kernel
theorem dX2_freeOf_21 : decode cX2_freeOf 21 = .ok (.aload_n 0, 1) := by decide +kernel
theorem dX2_freeOf_22 : decode cX2_freeOf 22 = .ok (.iconst 1, 1) := by decide +kernel
theorem dX2_freeOf_23 : decode cX2_freeOf 23 = .ok (.invokevirtual 86, 3) := by decide +kernel
theorem dX2_freeOf_26 : decode cX2_freeOf 26 = .ok (.ireturn, 1) := by decide +kernel
set_option maxRecDepth 20000 in
theorem ggX2_waitingAt_X2_isGate : GoodIn wsX2_waitingAt wsX2_isGate := goodIn_r _ [6, 7, 8, 9, 5, 10, 33, 34, 35, 36, 37, 38, 39, 40] (by decide +kernel) (by decide +kernel)
set_option maxRecDepth 20000 in
theorem gX2_waitingAt_X2_isGate : GoodIn wsX2_waitingAt (wsV RX2 93 RX2 yX2_isGate wsX2_isGate) := goodIn_app (goodIn_of _ (by decide +kernel)) ggX2_waitingAt_X2_isGate
set_option maxRecDepth 20000 in
theorem ggX2_waitingAt_X2_manyAt : GoodIn wsX2_waitingAt wsX2_manyAt := goodIn_r _ [14, 15, 16, 17, 18, 5, 19, 20, 21, 22, 23, 24, 25, 26, 27, 28, 33, 34, 35, 36, 37, 38, 39, 40] (by decide +kernel) (by decide +kernel)
set_option maxRecDepth 20000 in
theorem gX2_waitingAt_X2_manyAt : GoodIn wsX2_waitingAt (wsV RX2 100 RX2 yX2_manyAt wsX2_manyAt) := goodIn_app (goodIn_of _ (by decide +kernel)) ggX2_waitingAt_X2_manyAt
set_option maxRecDepth 20000 in
theorem ggX2_waitingAt_X2_no : GoodIn wsX2_waitingAt wsX2_no := goodIn_r _ [32, 1, 33, 34, 35, 36, 37, 38, 39, 40] (by decide +kernel) (by decide +kernel)
set_option maxRecDepth 20000 in
theorem gX2_waitingAt_X2_no : GoodIn wsX2_waitingAt (wsV RX2 86 RX2 yX2_no wsX2_no) := goodIn_app (goodIn_of _ (by decide +kernel)) ggX2_waitingAt_X2_no
theorem dX2_waitingAt_0 : decode cX2_waitingAt 0 = .ok (.aload_n 0, 1) := by decide +kernel
theorem dX2_waitingAt_1 : decode cX2_waitingAt 1 = .ok (.iconst 0, 1) := by decide +kernel
theorem dX2_waitingAt_2 : decode cX2_waitingAt 2 = .ok (.putfield 25, 3) := by decide +kernel
theorem dX2_waitingAt_5 : decode cX2_waitingAt 5 = .ok (.aload_n 0, 1) := by decide +kernel
theorem dX2_waitingAt_6 : decode cX2_waitingAt 6 = .ok (.iload_n 1, 1) := by decide +kernel
theorem dX2_waitingAt_7 : decode cX2_waitingAt 7 = .ok (.invokevirtual 93, 3) := by decide +kernel
theorem dX2_waitingAt_10 : decode cX2_waitingAt 10 = .ok (.ifCond .eq 11, 3) := by decide +kernel
theorem dX2_waitingAt_13 : decode cX2_waitingAt 13 = .ok (.aload_n 0, 1) := by decide +kernel
theorem dX2_waitingAt_14 : decode cX2_waitingAt 14 = .ok (.iload_n 1, 1) := by decide +kernel
theorem dX2_waitingAt_15 : decode cX2_waitingAt 15 = .ok (.invokevirtual 100, 3) := by decide +kernel
theorem dX2_waitingAt_18 : decode cX2_waitingAt 18 = .ok (.goto 8, 3) := by decide +kernel
theorem dX2_waitingAt_21 : decode cX2_waitingAt 21 = .ok (.aload_n 0, 1) := by decide +kernel
theorem dX2_waitingAt_22 : decode cX2_waitingAt 22 = .ok (.iconst 1, 1) := by decide +kernel
theorem dX2_waitingAt_23 : decode cX2_waitingAt 23 = .ok (.invokevirtual 86, 3) := by decide +kernel
theorem dX2_waitingAt_26 : decode cX2_waitingAt 26 = .ok (.ireturn, 1) := by decide +kernel
set_option maxRecDepth 20000 in
theorem ggX2_nextAt_X2_isGate : GoodIn wsX2_nextAt wsX2_isGate := goodIn_r _ [6, 7, 8, 9, 5, 10, 48, 49, 50, 51, 52, 53, 54, 55] (by decide +kernel) (by decide +kernel)
set_option maxRecDepth 20000 in
theorem gX2_nextAt_X2_isGate : GoodIn wsX2_nextAt (wsV RX2 93 RX2 yX2_isGate wsX2_isGate) := goodIn_app (goodIn_of _ (by decide +kernel)) ggX2_nextAt_X2_isGate
set_option maxRecDepth 20000 in
theorem ggX2_nextAt_X2_next : GoodIn wsX2_nextAt wsX2_next := goodIn_r _ [14, 15, 16, 17, 18, 19, 5, 20, 21, 22, 23, 24, 25, 26, 27, 28, 29, 30, 31, 32, 33, 34, 35, 36, 37, 38, 39, 40, 41, 42, 43, 48, 49, 50, 51, 52, 53, 54, 55] (by decide +kernel) (by decide +kernel)
set_option maxRecDepth 20000 in
theorem gX2_nextAt_X2_next : GoodIn wsX2_nextAt (wsV RX2 70 RX2 yX2_next wsX2_next) := goodIn_app (goodIn_of _ (by decide +kernel)) ggX2_nextAt_X2_next
set_option maxRecDepth 20000 in
theorem ggX2_nextAt_X2_no : GoodIn wsX2_nextAt wsX2_no := goodIn_r _ [47, 1, 48, 49, 50, 51, 52, 53, 54, 55] (by decide +kernel) (by decide +kernel)
set_option maxRecDepth 20000 in
theorem gX2_nextAt_X2_no : GoodIn wsX2_nextAt (wsV RX2 86 RX2 yX2_no wsX2_no) := goodIn_app (goodIn_of _ (by decide +kernel)) ggX2_nextAt_X2_no
theorem dX2_nextAt_0 : decode cX2_nextAt 0 = .ok (.aload_n 0, 1) := by decide +kernel
theorem dX2_nextAt_1 : decode cX2_nextAt 1 = .ok (.iconst 0, 1) := by decide +kernel
theorem dX2_nextAt_2 : decode cX2_nextAt 2 = .ok (.putfield 25, 3) := by decide +kernel
theorem dX2_nextAt_5 : decode cX2_nextAt 5 = .ok (.aload_n 0, 1) := by decide +kernel
theorem dX2_nextAt_6 : decode cX2_nextAt 6 = .ok (.iload_n 1, 1) := by decide +kernel
theorem dX2_nextAt_7 : decode cX2_nextAt 7 = .ok (.invokevirtual 93, 3) := by decide +kernel
theorem dX2_nextAt_10 : decode cX2_nextAt 10 = .ok (.ifCond .eq 11, 3) := by decide +kernel
theorem dX2_nextAt_13 : decode cX2_nextAt 13 = .ok (.aload_n 0, 1) := by decide +kernel
theorem dX2_nextAt_14 : decode cX2_nextAt 14 = .ok (.iload_n 1, 1) := by decide +kernel
theorem dX2_nextAt_15 : decode cX2_nextAt 15 = .ok (.invokevirtual 70, 3) := by decide +kernel
theorem dX2_nextAt_18 : decode cX2_nextAt 18 = .ok (.goto 8, 3) := by decide +kernel
theorem dX2_nextAt_21 : decode cX2_nextAt 21 = .ok (.aload_n 0, 1) := by decide +kernel
theorem dX2_nextAt_22 : decode cX2_nextAt 22 = .ok (.iconst 1, 1) := by decide +kernel
theorem dX2_nextAt_23 : decode cX2_nextAt 23 = .ok (.invokevirtual 86, 3) := by decide +kernel
theorem dX2_nextAt_26 : decode cX2_nextAt 26 = .ok (.ireturn, 1) := by decide +kernel
set_option maxRecDepth 20000 in
theorem ggX2_stateOf_X2_isGoat : GoodIn wsX2_stateOf wsX2_isGoat := goodIn_r _ [6, 7, 8, 9, 5, 10, 20, 21, 22, 23, 24, 25, 26, 27] (by decide +kernel) (by decide +kernel)
set_option maxRecDepth 20000 in
theorem gX2_stateOf_X2_isGoat : GoodIn wsX2_stateOf (wsV RX2 89 RX2 yX2_isGoat wsX2_isGoat) := goodIn_app (goodIn_of _ (by decide +kernel)) ggX2_stateOf_X2_isGoat
set_option maxRecDepth 20000 in
theorem ggX2_stateOf_X2_of : GoodIn wsX2_stateOf wsX2_of := goodIn_r _ [14, 15, 20, 21, 22, 23, 24, 25, 26, 27] (by decide +kernel) (by decide +kernel)
set_option maxRecDepth 20000 in
theorem gX2_stateOf_X2_of : GoodIn wsX2_stateOf (wsV RX2 45 RX2 yX2_of wsX2_of) := goodIn_app (goodIn_of _ (by decide +kernel)) ggX2_stateOf_X2_of
set_option maxRecDepth 20000 in
theorem ggX2_stateOf_X2_no : GoodIn wsX2_stateOf wsX2_no := goodIn_r _ [19, 1, 20, 21, 22, 23, 24, 25, 26, 27] (by decide +kernel) (by decide +kernel)
set_option maxRecDepth 20000 in
theorem gX2_stateOf_X2_no : GoodIn wsX2_stateOf (wsV RX2 86 RX2 yX2_no wsX2_no) := goodIn_app (goodIn_of _ (by decide +kernel)) ggX2_stateOf_X2_no
theorem dX2_stateOf_0 : decode cX2_stateOf 0 = .ok (.aload_n 0, 1) := by decide +kernel
theorem dX2_stateOf_1 : decode cX2_stateOf 1 = .ok (.iconst 0, 1) := by decide +kernel
theorem dX2_stateOf_2 : decode cX2_stateOf 2 = .ok (.putfield 25, 3) := by decide +kernel
theorem dX2_stateOf_5 : decode cX2_stateOf 5 = .ok (.aload_n 0, 1) := by decide +kernel
theorem dX2_stateOf_6 : decode cX2_stateOf 6 = .ok (.iload_n 1, 1) := by decide +kernel
theorem dX2_stateOf_7 : decode cX2_stateOf 7 = .ok (.invokevirtual 89, 3) := by decide +kernel
theorem dX2_stateOf_10 : decode cX2_stateOf 10 = .ok (.ifCond .eq 12, 3) := by decide +kernel
theorem dX2_stateOf_13 : decode cX2_stateOf 13 = .ok (.aload_n 0, 1) := by decide +kernel
theorem dX2_stateOf_14 : decode cX2_stateOf 14 = .ok (.iload_n 1, 1) := by decide +kernel
theorem dX2_stateOf_15 : decode cX2_stateOf 15 = .ok (.iconst 0, 1) := by decide +kernel
theorem dX2_stateOf_16 : decode cX2_stateOf 16 = .ok (.invokevirtual 45, 3) := by decide +kernel
theorem dX2_stateOf_19 : decode cX2_stateOf 19 = .ok (.goto 8, 3) := by decide +kernel
theorem dX2_stateOf_22 : decode cX2_stateOf 22 = .ok (.aload_n 0, 1) := by decide +kernel
theorem dX2_stateOf_23 : decode cX2_stateOf 23 = .ok (.iconst 1, 1) := by decide +kernel
theorem dX2_stateOf_24 : decode cX2_stateOf 24 = .ok (.invokevirtual 86, 3) := by decide +kernel
theorem dX2_stateOf_27 : decode cX2_stateOf 27 = .ok (.ireturn, 1) := by decide +kernel
set_option maxRecDepth 20000 in
theorem ggX2_where_X2_is : GoodIn wsX2_where wsX2_is := goodIn_r _ [5, 6, 7, 8, 4, 9, 10, 11, 12, 13, 14, 15, 16, 17, 18] (by decide +kernel) (by decide +kernel)
set_option maxRecDepth 20000 in
theorem gX2_where_X2_is : GoodIn wsX2_where (wsV RX2 49 RX2 yX2_is wsX2_is) := goodIn_app (goodIn_of _ (by decide +kernel)) ggX2_where_X2_is
set_option maxRecDepth 20000 in
theorem ggX2_where_X2_of : GoodIn wsX2_where wsX2_of := goodIn_r _ [9, 10, 11, 12, 13, 14, 15, 16, 17, 18] (by decide +kernel) (by decide +kernel)
set_option maxRecDepth 20000 in
theorem gX2_where_X2_of : GoodIn wsX2_where (wsV RX2 45 RX2 yX2_of wsX2_of) := goodIn_app (goodIn_of _ (by decide +kernel)) ggX2_where_X2_of
theorem dX2_where_0 : decode cX2_where 0 = .ok (.aload_n 0, 1) := by decide +kernel
theorem dX2_where_1 : decode cX2_where 1 = .ok (.iload_n 1, 1) := by decide +kernel
theorem dX2_where_2 : decode cX2_where 2 = .ok (.iconst 0, 1) := by decide +kernel
theorem dX2_where_3 : decode cX2_where 3 = .ok (.invokevirtual 49, 3) := by decide +kernel
theorem dX2_where_6 : decode cX2_where 6 = .ok (.ifCond .eq 7, 3) := by decide +kernel
theorem dX2_where_9 : decode cX2_where 9 = .ok (.iconst (-1), 1) := by decide +kernel
theorem dX2_where_10 : decode cX2_where 10 = .ok (.goto 9, 3) := by decide +kernel
theorem dX2_where_13 : decode cX2_where 13 = .ok (.aload_n 0, 1) := by decide +kernel
theorem dX2_where_14 : decode cX2_where 14 = .ok (.iload_n 1, 1) := by decide +kernel
theorem dX2_where_15 : decode cX2_where 15 = .ok (.iconst 1, 1) := by decide +kernel
theorem dX2_where_16 : decode cX2_where 16 = .ok (.invokevirtual 45, 3) := by decide +kernel
theorem dX2_where_19 : decode cX2_where 19 = .ok (.ireturn, 1) := by decide +kernel
set_option maxRecDepth 20000 in
theorem ggX2_gateOf_X2_isGoat : GoodIn wsX2_gateOf wsX2_isGoat := goodIn_r _ [6, 7, 8, 9, 5, 10, 28, 29, 30, 31, 32, 33, 34, 35] (by decide +kernel) (by decide +kernel)
set_option maxRecDepth 20000 in
theorem gX2_gateOf_X2_isGoat : GoodIn wsX2_gateOf (wsV RX2 89 RX2 yX2_isGoat wsX2_isGoat) := goodIn_app (goodIn_of _ (by decide +kernel)) ggX2_gateOf_X2_isGoat
set_option maxRecDepth 20000 in
theorem ggX2_gateOf_X2_where : GoodIn wsX2_gateOf wsX2_where := goodIn_r _ [14, 15, 16, 17, 5, 18, 19, 20, 21, 22, 23, 28, 29, 30, 31, 32, 33, 34, 35] (by decide +kernel) (by decide +kernel)
set_option maxRecDepth 20000 in
theorem gX2_gateOf_X2_where : GoodIn wsX2_gateOf (wsV RX2 119 RX2 yX2_where wsX2_where) := goodIn_app (goodIn_of _ (by decide +kernel)) ggX2_gateOf_X2_where
set_option maxRecDepth 20000 in
theorem ggX2_gateOf_X2_no : GoodIn wsX2_gateOf wsX2_no := goodIn_r _ [27, 1, 28, 29, 30, 31, 32, 33, 34, 35] (by decide +kernel) (by decide +kernel)
set_option maxRecDepth 20000 in
theorem gX2_gateOf_X2_no : GoodIn wsX2_gateOf (wsV RX2 86 RX2 yX2_no wsX2_no) := goodIn_app (goodIn_of _ (by decide +kernel)) ggX2_gateOf_X2_no
theorem dX2_gateOf_0 : decode cX2_gateOf 0 = .ok (.aload_n 0, 1) := by decide +kernel
theorem dX2_gateOf_1 : decode cX2_gateOf 1 = .ok (.iconst 0, 1) := by decide +kernel
theorem dX2_gateOf_2 : decode cX2_gateOf 2 = .ok (.putfield 25, 3) := by decide +kernel
theorem dX2_gateOf_5 : decode cX2_gateOf 5 = .ok (.aload_n 0, 1) := by decide +kernel
theorem dX2_gateOf_6 : decode cX2_gateOf 6 = .ok (.iload_n 1, 1) := by decide +kernel
theorem dX2_gateOf_7 : decode cX2_gateOf 7 = .ok (.invokevirtual 89, 3) := by decide +kernel
theorem dX2_gateOf_10 : decode cX2_gateOf 10 = .ok (.ifCond .eq 11, 3) := by decide +kernel
theorem dX2_gateOf_13 : decode cX2_gateOf 13 = .ok (.aload_n 0, 1) := by decide +kernel
theorem dX2_gateOf_14 : decode cX2_gateOf 14 = .ok (.iload_n 1, 1) := by decide +kernel
theorem dX2_gateOf_15 : decode cX2_gateOf 15 = .ok (.invokevirtual 119, 3) := by decide +kernel
theorem dX2_gateOf_18 : decode cX2_gateOf 18 = .ok (.goto 8, 3) := by decide +kernel
theorem dX2_gateOf_21 : decode cX2_gateOf 21 = .ok (.aload_n 0, 1) := by decide +kernel
theorem dX2_gateOf_22 : decode cX2_gateOf 22 = .ok (.iconst 1, 1) := by decide +kernel
theorem dX2_gateOf_23 : decode cX2_gateOf 23 = .ok (.invokevirtual 86, 3) := by decide +kernel
theorem dX2_gateOf_26 : decode cX2_gateOf 26 = .ok (.ireturn, 1) := by decide +kernel
set_option maxRecDepth 20000 in
theorem ggX2_holds_X2_isGoat : GoodIn wsX2_holds wsX2_isGoat := goodIn_r _ [6, 7, 8, 9, 5, 10, 28, 29, 30, 31, 32, 33, 34, 35] (by decide +kernel) (by decide +kernel)
set_option maxRecDepth 20000 in
theorem gX2_holds_X2_isGoat : GoodIn wsX2_holds (wsV RX2 89 RX2 yX2_isGoat wsX2_isGoat) := goodIn_app (goodIn_of _ (by decide +kernel)) ggX2_holds_X2_isGoat
set_option maxRecDepth 20000 in
theorem ggX2_holds_X2_held : GoodIn wsX2_holds wsX2_held := goodIn_r _ [14, 15, 16, 17, 5, 18, 19, 20, 21, 22, 23, 28, 29, 30, 31, 32, 33, 34, 35] (by decide +kernel) (by decide +kernel)
set_option maxRecDepth 20000 in
theorem gX2_holds_X2_held : GoodIn wsX2_holds (wsV RX2 103 RX2 yX2_held wsX2_held) := goodIn_app (goodIn_of _ (by decide +kernel)) ggX2_holds_X2_held
set_option maxRecDepth 20000 in
theorem ggX2_holds_X2_no : GoodIn wsX2_holds wsX2_no := goodIn_r _ [27, 1, 28, 29, 30, 31, 32, 33, 34, 35] (by decide +kernel) (by decide +kernel)
set_option maxRecDepth 20000 in
theorem gX2_holds_X2_no : GoodIn wsX2_holds (wsV RX2 86 RX2 yX2_no wsX2_no) := goodIn_app (goodIn_of _ (by decide +kernel)) ggX2_holds_X2_no
theorem dX2_holds_0 : decode cX2_holds 0 = .ok (.aload_n 0, 1) := by decide +kernel
theorem dX2_holds_1 : decode cX2_holds 1 = .ok (.iconst 0, 1) := by decide +kernel
theorem dX2_holds_2 : decode cX2_holds 2 = .ok (.putfield 25, 3) := by decide +kernel
theorem dX2_holds_5 : decode cX2_holds 5 = .ok (.aload_n 0, 1) := by decide +kernel
theorem dX2_holds_6 : decode cX2_holds 6 = .ok (.iload_n 1, 1) := by decide +kernel
theorem dX2_holds_7 : decode cX2_holds 7 = .ok (.invokevirtual 89, 3) := by decide +kernel
theorem dX2_holds_10 : decode cX2_holds 10 = .ok (.ifCond .eq 11, 3) := by decide +kernel
theorem dX2_holds_13 : decode cX2_holds 13 = .ok (.aload_n 0, 1) := by decide +kernel
theorem dX2_holds_14 : decode cX2_holds 14 = .ok (.iload_n 1, 1) := by decide +kernel
theorem dX2_holds_15 : decode cX2_holds 15 = .ok (.invokevirtual 103, 3) := by decide +kernel
theorem dX2_holds_18 : decode cX2_holds 18 = .ok (.goto 8, 3) := by decide +kernel
theorem dX2_holds_21 : decode cX2_holds 21 = .ok (.aload_n 0, 1) := by decide +kernel
theorem dX2_holds_22 : decode cX2_holds 22 = .ok (.iconst 1, 1) := by decide +kernel
theorem dX2_holds_23 : decode cX2_holds 23 = .ok (.invokevirtual 86, 3) := by decide +kernel
theorem dX2_holds_26 : decode cX2_holds 26 = .ok (.ireturn, 1) := by decide +kernel
set_option maxRecDepth 20000 in
theorem ggX2_seemingHorns_X2_isGoat : GoodIn wsX2_seemingHorns wsX2_isGoat := goodIn_r _ [6, 7, 8, 9, 5, 10, 29, 30, 31, 32, 33, 34, 35, 36] (by decide +kernel) (by decide +kernel)
set_option maxRecDepth 20000 in
theorem gX2_seemingHorns_X2_isGoat : GoodIn wsX2_seemingHorns (wsV RX2 89 RX2 yX2_isGoat wsX2_isGoat) := goodIn_app (goodIn_of _ (by decide +kernel)) ggX2_seemingHorns_X2_isGoat
set_option maxRecDepth 20000 in
theorem ggX2_seemingHorns_X2_seem : GoodIn wsX2_seemingHorns wsX2_seem := goodIn_r _ [14, 15, 16, 17, 18, 5, 19, 20, 21, 22, 23, 24, 29, 30, 31, 32, 33, 34, 35, 36] (by decide +kernel) (by decide +kernel)
set_option maxRecDepth 20000 in
theorem gX2_seemingHorns_X2_seem : GoodIn wsX2_seemingHorns (wsV RX2 63 RX2 yX2_seem wsX2_seem) := goodIn_app (goodIn_of _ (by decide +kernel)) ggX2_seemingHorns_X2_seem
set_option maxRecDepth 20000 in
theorem ggX2_seemingHorns_X2_no : GoodIn wsX2_seemingHorns wsX2_no := goodIn_r _ [28, 1, 29, 30, 31, 32, 33, 34, 35, 36] (by decide +kernel) (by decide +kernel)
set_option maxRecDepth 20000 in
theorem gX2_seemingHorns_X2_no : GoodIn wsX2_seemingHorns (wsV RX2 86 RX2 yX2_no wsX2_no) := goodIn_app (goodIn_of _ (by decide +kernel)) ggX2_seemingHorns_X2_no
theorem dX2_seemingHorns_0 : decode cX2_seemingHorns 0 = .ok (.aload_n 0, 1) := by decide +kernel
theorem dX2_seemingHorns_1 : decode cX2_seemingHorns 1 = .ok (.iconst 0, 1) := by decide +kernel
theorem dX2_seemingHorns_2 : decode cX2_seemingHorns 2 = .ok (.putfield 25, 3) := by decide +kernel
theorem dX2_seemingHorns_5 : decode cX2_seemingHorns 5 = .ok (.aload_n 0, 1) := by decide +kernel
theorem dX2_seemingHorns_6 : decode cX2_seemingHorns 6 = .ok (.iload_n 1, 1) := by decide +kernel
theorem dX2_seemingHorns_7 : decode cX2_seemingHorns 7 = .ok (.invokevirtual 89, 3) := by decide +kernel
theorem dX2_seemingHorns_10 : decode cX2_seemingHorns 10 = .ok (.ifCond .eq 11, 3) := by decide +kernel
theorem dX2_seemingHorns_13 : decode cX2_seemingHorns 13 = .ok (.aload_n 0, 1) := by decide +kernel
theorem dX2_seemingHorns_14 : decode cX2_seemingHorns 14 = .ok (.iload_n 1, 1) := by decide +kernel
theorem dX2_seemingHorns_15 : decode cX2_seemingHorns 15 = .ok (.invokevirtual 63, 3) := by decide +kernel
theorem dX2_seemingHorns_18 : decode cX2_seemingHorns 18 = .ok (.goto 8, 3) := by decide +kernel
theorem dX2_seemingHorns_21 : decode cX2_seemingHorns 21 = .ok (.aload_n 0, 1) := by decide +kernel
theorem dX2_seemingHorns_22 : decode cX2_seemingHorns 22 = .ok (.iconst 1, 1) := by decide +kernel
theorem dX2_seemingHorns_23 : decode cX2_seemingHorns 23 = .ok (.invokevirtual 86, 3) := by decide +kernel
theorem dX2_seemingHorns_26 : decode cX2_seemingHorns 26 = .ok (.ireturn, 1) := by decide +kernel
set_option maxRecDepth 20000 in
theorem ggX2_left_X2_is : GoodIn wsX2_left wsX2_is := goodIn_r _ [5, 6, 7, 8, 4, 9, 10, 11, 12, 13, 14, 15, 16, 17, 18] (by decide +kernel) (by decide +kernel)
set_option maxRecDepth 20000 in
theorem gX2_left_X2_is : GoodIn wsX2_left (wsV RX2 49 RX2 yX2_is wsX2_is) := goodIn_app (goodIn_of _ (by decide +kernel)) ggX2_left_X2_is
set_option maxRecDepth 20000 in
theorem ggX2_left_X2_of : GoodIn wsX2_left wsX2_of := goodIn_r _ [9, 10, 11, 12, 13, 14, 15, 16, 17, 18] (by decide +kernel) (by decide +kernel)
set_option maxRecDepth 20000 in
theorem gX2_left_X2_of : GoodIn wsX2_left (wsV RX2 45 RX2 yX2_of wsX2_of) := goodIn_app (goodIn_of _ (by decide +kernel)) ggX2_left_X2_of
theorem dX2_left_0 : decode cX2_left 0 = .ok (.aload_n 0, 1) := by decide +kernel
theorem dX2_left_1 : decode cX2_left 1 = .ok (.iload_n 1, 1) := by decide +kernel
theorem dX2_left_2 : decode cX2_left 2 = .ok (.iconst 1, 1) := by decide +kernel
theorem dX2_left_3 : decode cX2_left 3 = .ok (.invokevirtual 49, 3) := by decide +kernel
theorem dX2_left_6 : decode cX2_left 6 = .ok (.ifCond .eq 19, 3) := by decide +kernel
theorem dX2_left_9 : decode cX2_left 9 = .ok (.aload_n 0, 1) := by decide +kernel
theorem dX2_left_10 : decode cX2_left 10 = .ok (.iload_n 1, 1) := by decide +kernel
theorem dX2_left_11 : decode cX2_left 11 = .ok (.iconst 4, 1) := by decide +kernel
theorem dX2_left_12 : decode cX2_left 12 = .ok (.invokevirtual 45, 3) := by decide +kernel
theorem dX2_left_15 : decode cX2_left 15 = .ok (.aload_n 0, 1) := by decide +kernel
theorem dX2_left_16 : decode cX2_left 16 = .ok (.iload_n 1, 1) := by decide +kernel
theorem dX2_left_17 : decode cX2_left 17 = .ok (.iconst 5, 1) := by decide +kernel
theorem dX2_left_18 : decode cX2_left 18 = .ok (.invokevirtual 45, 3) := by decide +kernel
theorem dX2_left_21 : decode cX2_left 21 = .ok (.isub, 1) := by decide +kernel
theorem dX2_left_22 : decode cX2_left 22 = .ok (.goto 22, 3) := by decide +kernel
theorem dX2_left_25 : decode cX2_left 25 = .ok (.aload_n 0, 1) := by decide +kernel
theorem dX2_left_26 : decode cX2_left 26 = .ok (.iload_n 1, 1) := by decide +kernel
theorem dX2_left_27 : decode cX2_left 27 = .ok (.iconst 2, 1) := by decide +kernel
theorem dX2_left_28 : decode cX2_left 28 = .ok (.invokevirtual 49, 3) := by decide +kernel
theorem dX2_left_31 : decode cX2_left 31 = .ok (.ifCond .eq 12, 3) := by decide +kernel
theorem dX2_left_34 : decode cX2_left 34 = .ok (.aload_n 0, 1) := by decide +kernel
theorem dX2_left_35 : decode cX2_left 35 = .ok (.iload_n 1, 1) := by decide +kernel
theorem dX2_left_36 : decode cX2_left 36 = .ok (.iconst 3, 1) := by decide +kernel
theorem dX2_left_37 : decode cX2_left 37 = .ok (.invokevirtual 45, 3) := by decide +kernel
theorem dX2_left_40 : decode cX2_left 40 = .ok (.goto 4, 3) := by decide +kernel
theorem dX2_left_43 : decode cX2_left 43 = .ok (.iconst 0, 1) := by decide +kernel
theorem dX2_left_44 : decode cX2_left 44 = .ok (.ireturn, 1) := by decide +kernel
set_option maxRecDepth 20000 in
theorem ggX2_minutesLeft_X2_isGoat : GoodIn wsX2_minutesLeft wsX2_isGoat := goodIn_r _ [6, 7, 8, 9, 5, 10, 28, 29, 30, 31, 32, 33, 34, 35] (by decide +kernel) (by decide +kernel)
set_option maxRecDepth 20000 in
theorem gX2_minutesLeft_X2_isGoat : GoodIn wsX2_minutesLeft (wsV RX2 89 RX2 yX2_isGoat wsX2_isGoat) := goodIn_app (goodIn_of _ (by decide +kernel)) ggX2_minutesLeft_X2_isGoat
set_option maxRecDepth 20000 in
theorem ggX2_minutesLeft_X2_left : GoodIn wsX2_minutesLeft wsX2_left := goodIn_r _ [14, 15, 16, 17, 5, 18, 19, 20, 21, 22, 23, 28, 29, 30, 31, 32, 33, 34, 35] (by decide +kernel) (by decide +kernel)
set_option maxRecDepth 20000 in
theorem gX2_minutesLeft_X2_left : GoodIn wsX2_minutesLeft (wsV RX2 122 RX2 yX2_left wsX2_left) := goodIn_app (goodIn_of _ (by decide +kernel)) ggX2_minutesLeft_X2_left
set_option maxRecDepth 20000 in
theorem ggX2_minutesLeft_X2_no : GoodIn wsX2_minutesLeft wsX2_no := goodIn_r _ [27, 1, 28, 29, 30, 31, 32, 33, 34, 35] (by decide +kernel) (by decide +kernel)
set_option maxRecDepth 20000 in
theorem gX2_minutesLeft_X2_no : GoodIn wsX2_minutesLeft (wsV RX2 86 RX2 yX2_no wsX2_no) := goodIn_app (goodIn_of _ (by decide +kernel)) ggX2_minutesLeft_X2_no
theorem dX2_minutesLeft_0 : decode cX2_minutesLeft 0 = .ok (.aload_n 0, 1) := by decide +kernel
theorem dX2_minutesLeft_1 : decode cX2_minutesLeft 1 = .ok (.iconst 0, 1) := by decide +kernel
theorem dX2_minutesLeft_2 : decode cX2_minutesLeft 2 = .ok (.putfield 25, 3) := by decide +kernel
theorem dX2_minutesLeft_5 : decode cX2_minutesLeft 5 = .ok (.aload_n 0, 1) := by decide +kernel
theorem dX2_minutesLeft_6 : decode cX2_minutesLeft 6 = .ok (.iload_n 1, 1) := by decide +kernel
theorem dX2_minutesLeft_7 : decode cX2_minutesLeft 7 = .ok (.invokevirtual 89, 3) := by decide +kernel
theorem dX2_minutesLeft_10 : decode cX2_minutesLeft 10 = .ok (.ifCond .eq 11, 3) := by decide +kernel
theorem dX2_minutesLeft_13 : decode cX2_minutesLeft 13 = .ok (.aload_n 0, 1) := by decide +kernel
theorem dX2_minutesLeft_14 : decode cX2_minutesLeft 14 = .ok (.iload_n 1, 1) := by decide +kernel
theorem dX2_minutesLeft_15 : decode cX2_minutesLeft 15 = .ok (.invokevirtual 122, 3) := by decide +kernel
theorem dX2_minutesLeft_18 : decode cX2_minutesLeft 18 = .ok (.goto 8, 3) := by decide +kernel
theorem dX2_minutesLeft_21 : decode cX2_minutesLeft 21 = .ok (.aload_n 0, 1) := by decide +kernel
theorem dX2_minutesLeft_22 : decode cX2_minutesLeft 22 = .ok (.iconst 1, 1) := by decide +kernel
theorem dX2_minutesLeft_23 : decode cX2_minutesLeft 23 = .ok (.invokevirtual 86, 3) := by decide +kernel
theorem dX2_minutesLeft_26 : decode cX2_minutesLeft 26 = .ok (.ireturn, 1) := by decide +kernel
set_option maxRecDepth 20000 in
theorem ggX2_waitedOf_X2_isGoat : GoodIn wsX2_waitedOf wsX2_isGoat := goodIn_r _ [6, 7, 8, 9, 5, 10, 20, 21, 22, 23, 24, 25, 26, 27] (by decide +kernel) (by decide +kernel)
set_option maxRecDepth 20000 in
theorem gX2_waitedOf_X2_isGoat : GoodIn wsX2_waitedOf (wsV RX2 89 RX2 yX2_isGoat wsX2_isGoat) := goodIn_app (goodIn_of _ (by decide +kernel)) ggX2_waitedOf_X2_isGoat
set_option maxRecDepth 20000 in
theorem ggX2_waitedOf_X2_of : GoodIn wsX2_waitedOf wsX2_of := goodIn_r _ [14, 15, 20, 21, 22, 23, 24, 25, 26, 27] (by decide +kernel) (by decide +kernel)
set_option maxRecDepth 20000 in
theorem gX2_waitedOf_X2_of : GoodIn wsX2_waitedOf (wsV RX2 45 RX2 yX2_of wsX2_of) := goodIn_app (goodIn_of _ (by decide +kernel)) ggX2_waitedOf_X2_of
set_option maxRecDepth 20000 in
theorem ggX2_waitedOf_X2_no : GoodIn wsX2_waitedOf wsX2_no := goodIn_r _ [19, 1, 20, 21, 22, 23, 24, 25, 26, 27] (by decide +kernel) (by decide +kernel)
set_option maxRecDepth 20000 in
theorem gX2_waitedOf_X2_no : GoodIn wsX2_waitedOf (wsV RX2 86 RX2 yX2_no wsX2_no) := goodIn_app (goodIn_of _ (by decide +kernel)) ggX2_waitedOf_X2_no
theorem dX2_waitedOf_0 : decode cX2_waitedOf 0 = .ok (.aload_n 0, 1) := by decide +kernel
theorem dX2_waitedOf_1 : decode cX2_waitedOf 1 = .ok (.iconst 0, 1) := by decide +kernel
theorem dX2_waitedOf_2 : decode cX2_waitedOf 2 = .ok (.putfield 25, 3) := by decide +kernel
theorem dX2_waitedOf_5 : decode cX2_waitedOf 5 = .ok (.aload_n 0, 1) := by decide +kernel
theorem dX2_waitedOf_6 : decode cX2_waitedOf 6 = .ok (.iload_n 1, 1) := by decide +kernel
theorem dX2_waitedOf_7 : decode cX2_waitedOf 7 = .ok (.invokevirtual 89, 3) := by decide +kernel
theorem dX2_waitedOf_10 : decode cX2_waitedOf 10 = .ok (.ifCond .eq 13, 3) := by decide +kernel
theorem dX2_waitedOf_13 : decode cX2_waitedOf 13 = .ok (.aload_n 0, 1) := by decide +kernel
theorem dX2_waitedOf_14 : decode cX2_waitedOf 14 = .ok (.iload_n 1, 1) := by decide +kernel
theorem dX2_waitedOf_15 : decode cX2_waitedOf 15 = .ok (.bipush 6, 2) := by decide +kernel
theorem dX2_waitedOf_17 : decode cX2_waitedOf 17 = .ok (.invokevirtual 45, 3) := by decide +kernel
theorem dX2_waitedOf_20 : decode cX2_waitedOf 20 = .ok (.goto 8, 3) := by decide +kernel
theorem dX2_waitedOf_23 : decode cX2_waitedOf 23 = .ok (.aload_n 0, 1) := by decide +kernel
theorem dX2_waitedOf_24 : decode cX2_waitedOf 24 = .ok (.iconst 1, 1) := by decide +kernel
theorem dX2_waitedOf_25 : decode cX2_waitedOf 25 = .ok (.invokevirtual 86, 3) := by decide +kernel
theorem dX2_waitedOf_28 : decode cX2_waitedOf 28 = .ok (.ireturn, 1) := by decide +kernel
set_option maxRecDepth 20000 in
theorem ggX2_place_X2_is : GoodIn wsX2_place wsX2_is := goodIn_r _ [6, 7, 8, 9, 5, 10, 11, 16, 17, 18, 19, 20, 21, 22, 23] (by decide +kernel) (by decide +kernel)
set_option maxRecDepth 20000 in
theorem gX2_place_X2_is : GoodIn wsX2_place (wsV RX2 49 RX2 yX2_is wsX2_is) := goodIn_app (goodIn_of _ (by decide +kernel)) ggX2_place_X2_is
set_option maxRecDepth 20000 in
theorem ggX2_place_X2_of : GoodIn wsX2_place wsX2_of := goodIn_r _ [10, 11, 16, 17, 18, 19, 20, 21, 22, 23] (by decide +kernel) (by decide +kernel)
set_option maxRecDepth 20000 in
theorem gX2_place_X2_of : GoodIn wsX2_place (wsV RX2 45 RX2 yX2_of wsX2_of) := goodIn_app (goodIn_of _ (by decide +kernel)) ggX2_place_X2_of
set_option maxRecDepth 20000 in
theorem ggX2_place_X2_isAt : GoodIn wsX2_place wsX2_isAt := goodIn_r _ [15, 2, 3, 4, 5, 6, 7, 8, 9, 10, 11, 16, 17, 18, 19, 20, 21, 22, 23] (by decide +kernel) (by decide +kernel)
set_option maxRecDepth 20000 in
theorem gX2_place_X2_isAt : GoodIn wsX2_place (wsV RX2 53 RX2 yX2_isAt wsX2_isAt) := goodIn_app (goodIn_of _ (by decide +kernel)) ggX2_place_X2_isAt
theorem dX2_place_0 : decode cX2_place 0 = .ok (.aload_n 0, 1) := by decide +kernel
theorem dX2_place_1 : decode cX2_place 1 = .ok (.iload_n 1, 1) := by decide +kernel
theorem dX2_place_2 : decode cX2_place 2 = .ok (.iconst 1, 1) := by decide +kernel
theorem dX2_place_3 : decode cX2_place 3 = .ok (.invokevirtual 49, 3) := by decide +kernel
theorem dX2_place_6 : decode cX2_place 6 = .ok (.ifCond .ne 5, 3) := by decide +kernel
theorem dX2_place_9 : decode cX2_place 9 = .ok (.iconst (-1), 1) := by decide +kernel
theorem dX2_place_10 : decode cX2_place 10 = .ok (.ireturn, 1) := by decide +kernel
theorem dX2_place_11 : decode cX2_place 11 = .ok (.iconst 0, 1) := by decide +kernel
theorem dX2_place_12 : decode cX2_place 12 = .ok (.istore_n 2, 1) := by decide +kernel
theorem dX2_place_13 : decode cX2_place 13 = .ok (.iconst 0, 1) := by decide +kernel
theorem dX2_place_14 : decode cX2_place 14 = .ok (.istore_n 3, 1) := by decide +kernel
theorem dX2_place_15 : decode cX2_place 15 = .ok (.iload_n 3, 1) := by decide +kernel
theorem dX2_place_16 : decode cX2_place 16 = .ok (.aload_n 0, 1) := by decide +kernel
theorem dX2_place_17 : decode cX2_place 17 = .ok (.getfield 36, 3) := by decide +kernel
theorem dX2_place_20 : decode cX2_place 20 = .ok (.if_icmp .ge 48, 3) := by decide +kernel
theorem dX2_place_23 : decode cX2_place 23 = .ok (.iload_n 2, 1) := by decide +kernel
theorem dX2_place_24 : decode cX2_place 24 = .ok (.aload_n 0, 1) := by decide +kernel
theorem dX2_place_25 : decode cX2_place 25 = .ok (.iload_n 3, 1) := by decide +kernel
theorem dX2_place_26 : decode cX2_place 26 = .ok (.aload_n 0, 1) := by decide +kernel
theorem dX2_place_27 : decode cX2_place 27 = .ok (.iload_n 1, 1) := by decide +kernel
theorem dX2_place_28 : decode cX2_place 28 = .ok (.iconst 1, 1) := by decide +kernel
theorem dX2_place_29 : decode cX2_place 29 = .ok (.invokevirtual 45, 3) := by decide +kernel
theorem dX2_place_32 : decode cX2_place 32 = .ok (.invokevirtual 53, 3) := by decide +kernel
theorem dX2_place_35 : decode cX2_place 35 = .ok (.ifCond .eq 24, 3) := by decide +kernel
theorem dX2_place_38 : decode cX2_place 38 = .ok (.aload_n 0, 1) := by decide +kernel
theorem dX2_place_39 : decode cX2_place 39 = .ok (.iload_n 3, 1) := by decide +kernel
theorem dX2_place_40 : decode cX2_place 40 = .ok (.bipush 7, 2) := by decide +kernel
theorem dX2_place_42 : decode cX2_place 42 = .ok (.invokevirtual 45, 3) := by decide +kernel
theorem dX2_place_45 : decode cX2_place 45 = .ok (.aload_n 0, 1) := by decide +kernel
theorem dX2_place_46 : decode cX2_place 46 = .ok (.iload_n 1, 1) := by decide +kernel
theorem dX2_place_47 : decode cX2_place 47 = .ok (.bipush 7, 2) := by decide +kernel
theorem dX2_place_49 : decode cX2_place 49 = .ok (.invokevirtual 45, 3) := by decide +kernel
theorem dX2_place_52 : decode cX2_place 52 = .ok (.if_icmp .ge 7, 3) := by decide +kernel
theorem dX2_place_55 : decode cX2_place 55 = .ok (.iconst 1, 1) := by decide +kernel
theorem dX2_place_56 : decode cX2_place 56 = .ok (.goto 4, 3) := by decide +kernel
theorem dX2_place_59 : decode cX2_place 59 = .ok (.iconst 0, 1) := by decide +kernel
theorem dX2_place_60 : decode cX2_place 60 = .ok (.iadd, 1) := by decide +kernel
theorem dX2_place_61 : decode cX2_place 61 = .ok (.istore_n 2, 1) := by decide +kernel
theorem dX2_place_62 : decode cX2_place 62 = .ok (.iinc 3 1, 3) := by decide +kernel
theorem dX2_place_65 : decode cX2_place 65 = .ok (.goto (-50), 3) := by decide +kernel
theorem dX2_place_68 : decode cX2_place 68 = .ok (.iload_n 2, 1) := by decide +kernel
theorem dX2_place_69 : decode cX2_place 69 = .ok (.ireturn, 1) := by decide +kernel
set_option maxRecDepth 20000 in
theorem ggX2_placeInLine_X2_isGoat : GoodIn wsX2_placeInLine wsX2_isGoat := goodIn_r _ [6, 7, 8, 9, 5, 10, 32, 33, 34, 35, 36, 37, 38, 39] (by decide +kernel) (by decide +kernel)
set_option maxRecDepth 20000 in
theorem gX2_placeInLine_X2_isGoat : GoodIn wsX2_placeInLine (wsV RX2 89 RX2 yX2_isGoat wsX2_isGoat) := goodIn_app (goodIn_of _ (by decide +kernel)) ggX2_placeInLine_X2_isGoat
set_option maxRecDepth 20000 in
theorem ggX2_placeInLine_X2_place : GoodIn wsX2_placeInLine wsX2_place := goodIn_r _ [14, 7, 15, 16, 17, 5, 18, 19, 20, 21, 22, 23, 24, 25, 26, 27, 32, 33, 34, 35, 36, 37, 38, 39] (by decide +kernel) (by decide +kernel)
set_option maxRecDepth 20000 in
theorem gX2_placeInLine_X2_place : GoodIn wsX2_placeInLine (wsV RX2 125 RX2 yX2_place wsX2_place) := goodIn_app (goodIn_of _ (by decide +kernel)) ggX2_placeInLine_X2_place
set_option maxRecDepth 20000 in
theorem ggX2_placeInLine_X2_no : GoodIn wsX2_placeInLine wsX2_no := goodIn_r _ [31, 1, 32, 33, 34, 35, 36, 37, 38, 39] (by decide +kernel) (by decide +kernel)
set_option maxRecDepth 20000 in
theorem gX2_placeInLine_X2_no : GoodIn wsX2_placeInLine (wsV RX2 86 RX2 yX2_no wsX2_no) := goodIn_app (goodIn_of _ (by decide +kernel)) ggX2_placeInLine_X2_no
theorem dX2_placeInLine_0 : decode cX2_placeInLine 0 = .ok (.aload_n 0, 1) := by decide +kernel
theorem dX2_placeInLine_1 : decode cX2_placeInLine 1 = .ok (.iconst 0, 1) := by decide +kernel
theorem dX2_placeInLine_2 : decode cX2_placeInLine 2 = .ok (.putfield 25, 3) := by decide +kernel
theorem dX2_placeInLine_5 : decode cX2_placeInLine 5 = .ok (.aload_n 0, 1) := by decide +kernel
theorem dX2_placeInLine_6 : decode cX2_placeInLine 6 = .ok (.iload_n 1, 1) := by decide +kernel
theorem dX2_placeInLine_7 : decode cX2_placeInLine 7 = .ok (.invokevirtual 89, 3) := by decide +kernel
theorem dX2_placeInLine_10 : decode cX2_placeInLine 10 = .ok (.ifCond .eq 11, 3) := by decide +kernel
theorem dX2_placeInLine_13 : decode cX2_placeInLine 13 = .ok (.aload_n 0, 1) := by decide +kernel
theorem dX2_placeInLine_14 : decode cX2_placeInLine 14 = .ok (.iload_n 1, 1) := by decide +kernel
theorem dX2_placeInLine_15 : decode cX2_placeInLine 15 = .ok (.invokevirtual 125, 3) := by decide +kernel
theorem dX2_placeInLine_18 : decode cX2_placeInLine 18 = .ok (.goto 8, 3) := by decide +kernel
theorem dX2_placeInLine_21 : decode cX2_placeInLine 21 = .ok (.aload_n 0, 1) := by decide +kernel
theorem dX2_placeInLine_22 : decode cX2_placeInLine 22 = .ok (.iconst 1, 1) := by decide +kernel
theorem dX2_placeInLine_23 : decode cX2_placeInLine 23 = .ok (.invokevirtual 86, 3) := by decide +kernel
theorem dX2_placeInLine_26 : decode cX2_placeInLine 26 = .ok (.ireturn, 1) := by decide +kernel
set_option maxRecDepth 20000 in
theorem ggX2_until_X2_is : GoodIn wsX2_until wsX2_is := goodIn_r _ [5, 6, 7, 8, 4, 9, 10, 69, 70, 71, 72, 73, 74, 75, 76] (by decide +kernel) (by decide +kernel)
set_option maxRecDepth 20000 in
theorem gX2_until_X2_is : GoodIn wsX2_until (wsV RX2 49 RX2 yX2_is wsX2_is) := goodIn_app (goodIn_of _ (by decide +kernel)) ggX2_until_X2_is
set_option maxRecDepth 20000 in
theorem ggX2_until_X2_keep : GoodIn wsX2_until wsX2_keep := goodIn_r _ [14, 10, 15, 16, 17, 18, 19, 69, 70, 71, 72, 73, 74, 75, 76] (by decide +kernel) (by decide +kernel)
set_option maxRecDepth 20000 in
theorem gX2_until_X2_keep : GoodIn wsX2_until (wsV RX2 128 RX2 yX2_keep wsX2_keep) := goodIn_app (goodIn_of _ (by decide +kernel)) ggX2_until_X2_keep
set_option maxRecDepth 20000 in
theorem ggX2_until_X2_minuteOn : GoodIn wsX2_until wsX2_minuteOn := goodIn_r _ [23, 24, 25, 10, 26, 27, 28, 4, 29, 1, 2, 3, 5, 6, 7, 8, 9, 30, 31, 32, 33, 34, 35, 36, 37, 38, 39, 40, 41, 42, 43, 44, 45, 46, 47, 48, 49, 50, 51, 52, 53, 54, 55, 56, 57, 58, 59, 60, 61, 62, 63, 64, 69, 70, 71, 72, 73, 74, 75, 76] (by decide +kernel) (by decide +kernel)
set_option maxRecDepth 20000 in
theorem gX2_until_X2_minuteOn : GoodIn wsX2_until (wsV RX2 83 RX2 yX2_minuteOn wsX2_minuteOn) := goodIn_app (goodIn_of _ (by decide +kernel)) ggX2_until_X2_minuteOn
set_option maxRecDepth 20000 in
theorem ggX2_until_X2_bringBack : GoodIn wsX2_until wsX2_bringBack := goodIn_r _ [68, 15, 10, 16, 17, 18, 19, 69, 70, 71, 72, 73, 74, 75, 76] (by decide +kernel) (by decide +kernel)
set_option maxRecDepth 20000 in
theorem gX2_until_X2_bringBack : GoodIn wsX2_until (wsV RX2 131 RX2 yX2_bringBack wsX2_bringBack) := goodIn_app (goodIn_of _ (by decide +kernel)) ggX2_until_X2_bringBack
theorem dX2_until_0 : decode cX2_until 0 = .ok (.aload_n 0, 1) := by decide +kernel
theorem dX2_until_1 : decode cX2_until 1 = .ok (.iload_n 1, 1) := by decide +kernel
theorem dX2_until_2 : decode cX2_until 2 = .ok (.iconst 1, 1) := by decide +kernel
theorem dX2_until_3 : decode cX2_until 3 = .ok (.invokevirtual 49, 3) := by decide +kernel
theorem dX2_until_6 : decode cX2_until 6 = .ok (.ifCond .ne 5, 3) := by decide +kernel
theorem dX2_until_9 : decode cX2_until 9 = .ok (.iconst (-1), 1) := by decide +kernel
theorem dX2_until_10 : decode cX2_until 10 = .ok (.ireturn, 1) := by decide +kernel
theorem dX2_until_11 : decode cX2_until 11 = .ok (.aload_n 0, 1) := by decide +kernel
theorem dX2_until_12 : decode cX2_until 12 = .ok (.invokevirtual 128, 3) := by decide +kernel
theorem dX2_until_15 : decode cX2_until 15 = .ok (.iconst 0, 1) := by decide +kernel
theorem dX2_until_16 : decode cX2_until 16 = .ok (.istore_n 2, 1) := by decide +kernel
theorem dX2_until_17 : decode cX2_until 17 = .ok (.aload_n 0, 1) := by decide +kernel
theorem dX2_until_18 : decode cX2_until 18 = .ok (.iload_n 1, 1) := by decide +kernel
theorem dX2_until_19 : decode cX2_until 19 = .ok (.iconst 1, 1) := by decide +kernel
theorem dX2_until_20 : decode cX2_until 20 = .ok (.invokevirtual 49, 3) := by decide +kernel
theorem dX2_until_23 : decode cX2_until 23 = .ok (.ifCond .eq 13, 3) := by decide +kernel
theorem dX2_until_26 : decode cX2_until 26 = .ok (.aload_n 0, 1) := by decide +kernel
theorem dX2_until_27 : decode cX2_until 27 = .ok (.invokevirtual 83, 3) := by decide +kernel
theorem dX2_until_30 : decode cX2_until 30 = .ok (.iinc 2 1, 3) := by decide +kernel
theorem dX2_until_33 : decode cX2_until 33 = .ok (.goto (-16), 3) := by decide +kernel
theorem dX2_until_36 : decode cX2_until 36 = .ok (.aload_n 0, 1) := by decide +kernel
theorem dX2_until_37 : decode cX2_until 37 = .ok (.iload_n 1, 1) := by decide +kernel
theorem dX2_until_38 : decode cX2_until 38 = .ok (.iconst 2, 1) := by decide +kernel
theorem dX2_until_39 : decode cX2_until 39 = .ok (.invokevirtual 49, 3) := by decide +kernel
theorem dX2_until_42 : decode cX2_until 42 = .ok (.istore_n 3, 1) := by decide +kernel
theorem dX2_until_43 : decode cX2_until 43 = .ok (.aload_n 0, 1) := by decide +kernel
theorem dX2_until_44 : decode cX2_until 44 = .ok (.invokevirtual 131, 3) := by decide +kernel
theorem dX2_until_47 : decode cX2_until 47 = .ok (.iload_n 3, 1) := by decide +kernel
theorem dX2_until_48 : decode cX2_until 48 = .ok (.ifCond .eq 7, 3) := by decide +kernel
theorem dX2_until_51 : decode cX2_until 51 = .ok (.iload_n 2, 1) := by decide +kernel
theorem dX2_until_52 : decode cX2_until 52 = .ok (.goto 4, 3) := by decide +kernel
theorem dX2_until_55 : decode cX2_until 55 = .ok (.iconst (-1), 1) := by decide +kernel
theorem dX2_until_56 : decode cX2_until 56 = .ok (.ireturn, 1) := by decide +kernel
set_option maxRecDepth 20000 in
theorem ggX2_minutesUntilIn_X2_isGoat : GoodIn wsX2_minutesUntilIn wsX2_isGoat := goodIn_r _ [6, 7, 8, 9, 5, 10, 85, 86, 87, 88, 89, 90, 91, 92] (by decide +kernel) (by decide +kernel)
set_option maxRecDepth 20000 in
theorem gX2_minutesUntilIn_X2_isGoat : GoodIn wsX2_minutesUntilIn (wsV RX2 89 RX2 yX2_isGoat wsX2_isGoat) := goodIn_app (goodIn_of _ (by decide +kernel)) ggX2_minutesUntilIn_X2_isGoat
set_option maxRecDepth 20000 in
theorem ggX2_minutesUntilIn_X2_until : GoodIn wsX2_minutesUntilIn wsX2_until := goodIn_r _ [14, 15, 16, 17, 5, 18, 19, 20, 21, 22, 23, 24, 25, 26, 27, 28, 29, 30, 31, 32, 33, 34, 35, 36, 7, 37, 38, 39, 40, 41, 42, 43, 44, 45, 46, 47, 48, 49, 50, 51, 52, 53, 54, 55, 56, 57, 58, 59, 60, 61, 62, 63, 64, 65, 66, 67, 68, 69, 70, 71, 72, 73, 74, 75, 76, 77, 78, 79, 80, 85, 86, 87, 88, 89, 90, 91, 92] (by decide +kernel) (by decide +kernel)
set_option maxRecDepth 20000 in
theorem gX2_minutesUntilIn_X2_until : GoodIn wsX2_minutesUntilIn (wsV RX2 134 RX2 yX2_until wsX2_until) := goodIn_app (goodIn_of _ (by decide +kernel)) ggX2_minutesUntilIn_X2_until
set_option maxRecDepth 20000 in
theorem ggX2_minutesUntilIn_X2_no : GoodIn wsX2_minutesUntilIn wsX2_no := goodIn_r _ [84, 1, 85, 86, 87, 88, 89, 90, 91, 92] (by decide +kernel) (by decide +kernel)
set_option maxRecDepth 20000 in
theorem gX2_minutesUntilIn_X2_no : GoodIn wsX2_minutesUntilIn (wsV RX2 86 RX2 yX2_no wsX2_no) := goodIn_app (goodIn_of _ (by decide +kernel)) ggX2_minutesUntilIn_X2_no
theorem dX2_minutesUntilIn_0 : decode cX2_minutesUntilIn 0 = .ok (.aload_n 0, 1) := by decide +kernel
theorem dX2_minutesUntilIn_1 : decode cX2_minutesUntilIn 1 = .ok (.iconst 0, 1) := by decide +kernel
theorem dX2_minutesUntilIn_2 : decode cX2_minutesUntilIn 2 = .ok (.putfield 25, 3) := by decide +kernel
theorem dX2_minutesUntilIn_5 : decode cX2_minutesUntilIn 5 = .ok (.aload_n 0, 1) := by decide +kernel
theorem dX2_minutesUntilIn_6 : decode cX2_minutesUntilIn 6 = .ok (.iload_n 1, 1) := by decide +kernel
theorem dX2_minutesUntilIn_7 : decode cX2_minutesUntilIn 7 = .ok (.invokevirtual 89, 3) := by decide +kernel
theorem dX2_minutesUntilIn_10 : decode cX2_minutesUntilIn 10 = .ok (.ifCond .eq 11, 3) := by decide +kernel
theorem dX2_minutesUntilIn_13 : decode cX2_minutesUntilIn 13 = .ok (.aload_n 0, 1) := by decide +kernel
theorem dX2_minutesUntilIn_14 : decode cX2_minutesUntilIn 14 = .ok (.iload_n 1, 1) := by decide +kernel
theorem dX2_minutesUntilIn_15 : decode cX2_minutesUntilIn 15 = .ok (.invokevirtual 134, 3) := by decide +kernel
theorem dX2_minutesUntilIn_18 : decode cX2_minutesUntilIn 18 = .ok (.goto 8, 3) := by decide +kernel
theorem dX2_minutesUntilIn_21 : decode cX2_minutesUntilIn 21 = .ok (.aload_n 0, 1) := by decide +kernel
theorem dX2_minutesUntilIn_22 : decode cX2_minutesUntilIn 22 = .ok (.iconst 1, 1) := by decide +kernel
theorem dX2_minutesUntilIn_23 : decode cX2_minutesUntilIn 23 = .ok (.invokevirtual 86, 3) := by decide +kernel
theorem dX2_minutesUntilIn_26 : decode cX2_minutesUntilIn 26 = .ok (.ireturn, 1) := by decide +kernel
set_option maxRecDepth 20000 in
theorem ggX2_givingUpIn_X2_isIn : GoodIn wsX2_givingUpIn wsX2_isIn := goodIn_r _ [7] (by decide +kernel) (by decide +kernel)
set_option maxRecDepth 20000 in
theorem gX2_givingUpIn_X2_isIn : GoodIn wsX2_givingUpIn (va_wsS RX2 32 yX2_isIn wsX2_isIn) := goodIn_app (goodIn_of _ (by decide +kernel)) ggX2_givingUpIn_X2_isIn
set_option maxRecDepth 20000 in
theorem ggX2_givingUpIn_X2_no : GoodIn wsX2_givingUpIn wsX2_no := goodIn_r _ [11, 1, 81, 82, 83, 84, 85, 86, 87, 88] (by decide +kernel) (by decide +kernel)
set_option maxRecDepth 20000 in
theorem gX2_givingUpIn_X2_no : GoodIn wsX2_givingUpIn (wsV RX2 86 RX2 yX2_no wsX2_no) := goodIn_app (goodIn_of _ (by decide +kernel)) ggX2_givingUpIn_X2_no
set_option maxRecDepth 20000 in
theorem ggX2_givingUpIn_X2_keep : GoodIn wsX2_givingUpIn wsX2_keep := goodIn_r _ [15, 2, 3, 16, 17, 18, 19, 81, 82, 83, 84, 85, 86, 87, 88] (by decide +kernel) (by decide +kernel)
set_option maxRecDepth 20000 in
theorem gX2_givingUpIn_X2_keep : GoodIn wsX2_givingUpIn (wsV RX2 128 RX2 yX2_keep wsX2_keep) := goodIn_app (goodIn_of _ (by decide +kernel)) ggX2_givingUpIn_X2_keep
set_option maxRecDepth 20000 in
theorem ggX2_givingUpIn_X2_minutesOn : GoodIn wsX2_givingUpIn wsX2_minutesOn := goodIn_r _ [23, 24, 25, 26, 6, 27, 28, 29, 2, 30, 31, 32, 33, 34, 35, 36, 37, 38, 39, 40, 41, 42, 43, 44, 45, 46, 47, 48, 49, 50, 51, 52, 53, 54, 55, 56, 57, 58, 59, 60, 61, 62, 63, 64, 65, 66, 67, 68, 69, 70, 71, 72, 73, 74, 75, 76, 81, 82, 83, 84, 85, 86, 87, 88] (by decide +kernel) (by decide +kernel)
set_option maxRecDepth 20000 in
theorem gX2_givingUpIn_X2_minutesOn : GoodIn wsX2_givingUpIn (wsV RX2 106 RX2 yX2_minutesOn wsX2_minutesOn) := goodIn_app (goodIn_of _ (by decide +kernel)) ggX2_givingUpIn_X2_minutesOn
set_option maxRecDepth 20000 in
theorem ggX2_givingUpIn_X2_bringBack : GoodIn wsX2_givingUpIn wsX2_bringBack := goodIn_r _ [80, 3, 2, 16, 17, 18, 19, 81, 82, 83, 84, 85, 86, 87, 88] (by decide +kernel) (by decide +kernel)
set_option maxRecDepth 20000 in
theorem gX2_givingUpIn_X2_bringBack : GoodIn wsX2_givingUpIn (wsV RX2 131 RX2 yX2_bringBack wsX2_bringBack) := goodIn_app (goodIn_of _ (by decide +kernel)) ggX2_givingUpIn_X2_bringBack
theorem dX2_givingUpIn_0 : decode cX2_givingUpIn 0 = .ok (.aload_n 0, 1) := by decide +kernel
theorem dX2_givingUpIn_1 : decode cX2_givingUpIn 1 = .ok (.iconst 0, 1) := by decide +kernel
theorem dX2_givingUpIn_2 : decode cX2_givingUpIn 2 = .ok (.putfield 25, 3) := by decide +kernel
theorem dX2_givingUpIn_5 : decode cX2_givingUpIn 5 = .ok (.iload_n 1, 1) := by decide +kernel
theorem dX2_givingUpIn_6 : decode cX2_givingUpIn 6 = .ok (.iconst 1, 1) := by decide +kernel
theorem dX2_givingUpIn_7 : decode cX2_givingUpIn 7 = .ok (.bipush 60, 2) := by decide +kernel
theorem dX2_givingUpIn_9 : decode cX2_givingUpIn 9 = .ok (.invokestatic 32, 3) := by decide +kernel
theorem dX2_givingUpIn_12 : decode cX2_givingUpIn 12 = .ok (.ifCond .ne 9, 3) := by decide +kernel
theorem dX2_givingUpIn_15 : decode cX2_givingUpIn 15 = .ok (.aload_n 0, 1) := by decide +kernel
theorem dX2_givingUpIn_16 : decode cX2_givingUpIn 16 = .ok (.iconst 1, 1) := by decide +kernel
theorem dX2_givingUpIn_17 : decode cX2_givingUpIn 17 = .ok (.invokevirtual 86, 3) := by decide +kernel
theorem dX2_givingUpIn_20 : decode cX2_givingUpIn 20 = .ok (.ireturn, 1) := by decide +kernel
theorem dX2_givingUpIn_21 : decode cX2_givingUpIn 21 = .ok (.aload_n 0, 1) := by decide +kernel
theorem dX2_givingUpIn_22 : decode cX2_givingUpIn 22 = .ok (.invokevirtual 128, 3) := by decide +kernel
theorem dX2_givingUpIn_25 : decode cX2_givingUpIn 25 = .ok (.aload_n 0, 1) := by decide +kernel
theorem dX2_givingUpIn_26 : decode cX2_givingUpIn 26 = .ok (.iload_n 1, 1) := by decide +kernel
theorem dX2_givingUpIn_27 : decode cX2_givingUpIn 27 = .ok (.invokevirtual 106, 3) := by decide +kernel
theorem dX2_givingUpIn_30 : decode cX2_givingUpIn 30 = .ok (.aload_n 0, 1) := by decide +kernel
theorem dX2_givingUpIn_31 : decode cX2_givingUpIn 31 = .ok (.getfield 19, 3) := by decide +kernel
theorem dX2_givingUpIn_34 : decode cX2_givingUpIn 34 = .ok (.iconst 2, 1) := by decide +kernel
theorem dX2_givingUpIn_35 : decode cX2_givingUpIn 35 = .ok (.iaload, 1) := by decide +kernel
theorem dX2_givingUpIn_36 : decode cX2_givingUpIn 36 = .ok (.aload_n 0, 1) := by decide +kernel
theorem dX2_givingUpIn_37 : decode cX2_givingUpIn 37 = .ok (.getfield 22, 3) := by decide +kernel
theorem dX2_givingUpIn_40 : decode cX2_givingUpIn 40 = .ok (.iconst 2, 1) := by decide +kernel
theorem dX2_givingUpIn_41 : decode cX2_givingUpIn 41 = .ok (.iaload, 1) := by decide +kernel
theorem dX2_givingUpIn_42 : decode cX2_givingUpIn 42 = .ok (.isub, 1) := by decide +kernel
theorem dX2_givingUpIn_43 : decode cX2_givingUpIn 43 = .ok (.istore_n 2, 1) := by decide +kernel
theorem dX2_givingUpIn_44 : decode cX2_givingUpIn 44 = .ok (.aload_n 0, 1) := by decide +kernel
theorem dX2_givingUpIn_45 : decode cX2_givingUpIn 45 = .ok (.invokevirtual 131, 3) := by decide +kernel
theorem dX2_givingUpIn_48 : decode cX2_givingUpIn 48 = .ok (.iload_n 2, 1) := by decide +kernel
theorem dX2_givingUpIn_49 : decode cX2_givingUpIn 49 = .ok (.ireturn, 1) := by decide +kernel
set_option maxRecDepth 20000 in
theorem ggX2_lost_X2_isAt : GoodIn wsX2_lost wsX2_isAt := goodIn_r _ [6, 7, 8, 9, 5, 10, 11, 12, 13, 14, 15, 69, 70, 71, 72, 73, 74, 75, 76] (by decide +kernel) (by decide +kernel)
set_option maxRecDepth 20000 in
theorem gX2_lost_X2_isAt : GoodIn wsX2_lost (wsV RX2 53 RX2 yX2_isAt wsX2_isAt) := goodIn_app (goodIn_of _ (by decide +kernel)) ggX2_lost_X2_isAt
set_option maxRecDepth 20000 in
theorem ggX2_lost_X2_keep : GoodIn wsX2_lost wsX2_keep := goodIn_r _ [19, 15, 20, 21, 22, 23, 24, 69, 70, 71, 72, 73, 74, 75, 76] (by decide +kernel) (by decide +kernel)
set_option maxRecDepth 20000 in
theorem gX2_lost_X2_keep : GoodIn wsX2_lost (wsV RX2 128 RX2 yX2_keep wsX2_keep) := goodIn_app (goodIn_of _ (by decide +kernel)) ggX2_lost_X2_keep
set_option maxRecDepth 20000 in
theorem ggX2_lost_X2_minuteOn : GoodIn wsX2_lost wsX2_minuteOn := goodIn_r _ [28, 1, 29, 15, 30, 31, 32, 5, 33, 7, 8, 9, 10, 11, 12, 13, 14, 34, 35, 36, 37, 38, 39, 40, 41, 42, 43, 44, 45, 46, 47, 48, 49, 50, 51, 52, 53, 54, 55, 2, 3, 4, 6, 56, 57, 58, 59, 60, 61, 62, 63, 64, 69, 70, 71, 72, 73, 74, 75, 76] (by decide +kernel) (by decide +kernel)
set_option maxRecDepth 20000 in
theorem gX2_lost_X2_minuteOn : GoodIn wsX2_lost (wsV RX2 83 RX2 yX2_minuteOn wsX2_minuteOn) := goodIn_app (goodIn_of _ (by decide +kernel)) ggX2_lost_X2_minuteOn
set_option maxRecDepth 20000 in
theorem ggX2_lost_X2_is : GoodIn wsX2_lost wsX2_is := goodIn_r _ [10, 11, 12, 13, 5, 14, 15, 69, 70, 71, 72, 73, 74, 75, 76] (by decide +kernel) (by decide +kernel)
set_option maxRecDepth 20000 in
theorem gX2_lost_X2_is : GoodIn wsX2_lost (wsV RX2 49 RX2 yX2_is wsX2_is) := goodIn_app (goodIn_of _ (by decide +kernel)) ggX2_lost_X2_is
set_option maxRecDepth 20000 in
theorem ggX2_lost_X2_bringBack : GoodIn wsX2_lost wsX2_bringBack := goodIn_r _ [68, 20, 15, 21, 22, 23, 24, 69, 70, 71, 72, 73, 74, 75, 76] (by decide +kernel) (by decide +kernel)
set_option maxRecDepth 20000 in
theorem gX2_lost_X2_bringBack : GoodIn wsX2_lost (wsV RX2 131 RX2 yX2_bringBack wsX2_bringBack) := goodIn_app (goodIn_of _ (by decide +kernel)) ggX2_lost_X2_bringBack
theorem dX2_lost_0 : decode cX2_lost 0 = .ok (.iconst 0, 1) := by decide +kernel
theorem dX2_lost_1 : decode cX2_lost 1 = .ok (.istore_n 2, 1) := by decide +kernel
theorem dX2_lost_2 : decode cX2_lost 2 = .ok (.iconst 0, 1) := by decide +kernel
theorem dX2_lost_3 : decode cX2_lost 3 = .ok (.istore_n 3, 1) := by decide +kernel
theorem dX2_lost_4 : decode cX2_lost 4 = .ok (.iload_n 3, 1) := by decide +kernel
theorem dX2_lost_5 : decode cX2_lost 5 = .ok (.aload_n 0, 1) := by decide +kernel
theorem dX2_lost_6 : decode cX2_lost 6 = .ok (.getfield 36, 3) := by decide +kernel
theorem dX2_lost_9 : decode cX2_lost 9 = .ok (.if_icmp .ge 28, 3) := by decide +kernel
theorem dX2_lost_12 : decode cX2_lost 12 = .ok (.iload_n 2, 1) := by decide +kernel
theorem dX2_lost_13 : decode cX2_lost 13 = .ok (.aload_n 0, 1) := by decide +kernel
theorem dX2_lost_14 : decode cX2_lost 14 = .ok (.iload_n 3, 1) := by decide +kernel
theorem dX2_lost_15 : decode cX2_lost 15 = .ok (.iload_n 1, 1) := by decide +kernel
theorem dX2_lost_16 : decode cX2_lost 16 = .ok (.invokevirtual 53, 3) := by decide +kernel
theorem dX2_lost_19 : decode cX2_lost 19 = .ok (.ifCond .eq 9, 3) := by decide +kernel
theorem dX2_lost_22 : decode cX2_lost 22 = .ok (.iconst 1, 1) := by decide +kernel
theorem dX2_lost_23 : decode cX2_lost 23 = .ok (.iload_n 3, 1) := by decide +kernel
theorem dX2_lost_24 : decode cX2_lost 24 = .ok (.ishl, 1) := by decide +kernel
theorem dX2_lost_25 : decode cX2_lost 25 = .ok (.goto 4, 3) := by decide +kernel
theorem dX2_lost_28 : decode cX2_lost 28 = .ok (.iconst 0, 1) := by decide +kernel
theorem dX2_lost_29 : decode cX2_lost 29 = .ok (.ior, 1) := by decide +kernel
theorem dX2_lost_30 : decode cX2_lost 30 = .ok (.istore_n 2, 1) := by decide +kernel
theorem dX2_lost_31 : decode cX2_lost 31 = .ok (.iinc 3 1, 3) := by decide +kernel
theorem dX2_lost_34 : decode cX2_lost 34 = .ok (.goto (-30), 3) := by decide +kernel
theorem dX2_lost_37 : decode cX2_lost 37 = .ok (.aload_n 0, 1) := by decide +kernel
theorem dX2_lost_38 : decode cX2_lost 38 = .ok (.invokevirtual 128, 3) := by decide +kernel
theorem dX2_lost_41 : decode cX2_lost 41 = .ok (.iconst 0, 1) := by decide +kernel
theorem dX2_lost_42 : decode cX2_lost 42 = .ok (.istore_n 3, 1) := by decide +kernel
theorem dX2_lost_43 : decode cX2_lost 43 = .ok (.iconst 0, 1) := by decide +kernel
theorem dX2_lost_44 : decode cX2_lost 44 = .ok (.istore 4, 2) := by decide +kernel
theorem dX2_lost_46 : decode cX2_lost 46 = .ok (.iload 4, 2) := by decide +kernel
theorem dX2_lost_48 : decode cX2_lost 48 = .ok (.bipush 60, 2) := by decide +kernel
theorem dX2_lost_50 : decode cX2_lost 50 = .ok (.if_icmp .ge 80, 3) := by decide +kernel
theorem dX2_lost_53 : decode cX2_lost 53 = .ok (.aload_n 0, 1) := by decide +kernel
theorem dX2_lost_54 : decode cX2_lost 54 = .ok (.invokevirtual 83, 3) := by decide +kernel
theorem dX2_lost_57 : decode cX2_lost 57 = .ok (.iconst 0, 1) := by decide +kernel
theorem dX2_lost_58 : decode cX2_lost 58 = .ok (.istore 5, 2) := by decide +kernel
theorem dX2_lost_60 : decode cX2_lost 60 = .ok (.iload 5, 2) := by decide +kernel
theorem dX2_lost_62 : decode cX2_lost 62 = .ok (.aload_n 0, 1) := by decide +kernel
theorem dX2_lost_63 : decode cX2_lost 63 = .ok (.getfield 36, 3) := by decide +kernel
theorem dX2_lost_66 : decode cX2_lost 66 = .ok (.if_icmp .ge 58, 3) := by decide +kernel
theorem dX2_lost_69 : decode cX2_lost 69 = .ok (.iload_n 2, 1) := by decide +kernel
theorem dX2_lost_70 : decode cX2_lost 70 = .ok (.iload 5, 2) := by decide +kernel
theorem dX2_lost_72 : decode cX2_lost 72 = .ok (.ishr, 1) := by decide +kernel
theorem dX2_lost_73 : decode cX2_lost 73 = .ok (.iconst 1, 1) := by decide +kernel
theorem dX2_lost_74 : decode cX2_lost 74 = .ok (.iand, 1) := by decide +kernel
theorem dX2_lost_75 : decode cX2_lost 75 = .ok (.ifCond .eq 43, 3) := by decide +kernel
theorem dX2_lost_78 : decode cX2_lost 78 = .ok (.aload_n 0, 1) := by decide +kernel
theorem dX2_lost_79 : decode cX2_lost 79 = .ok (.iload 5, 2) := by decide +kernel
theorem dX2_lost_81 : decode cX2_lost 81 = .ok (.iconst 1, 1) := by decide +kernel
theorem dX2_lost_82 : decode cX2_lost 82 = .ok (.invokevirtual 49, 3) := by decide +kernel
theorem dX2_lost_85 : decode cX2_lost 85 = .ok (.ifCond .eq 6, 3) := by decide +kernel
theorem dX2_lost_88 : decode cX2_lost 88 = .ok (.goto 30, 3) := by decide +kernel
theorem dX2_lost_91 : decode cX2_lost 91 = .ok (.iload_n 3, 1) := by decide +kernel
theorem dX2_lost_92 : decode cX2_lost 92 = .ok (.aload_n 0, 1) := by decide +kernel
theorem dX2_lost_93 : decode cX2_lost 93 = .ok (.iload 5, 2) := by decide +kernel
theorem dX2_lost_95 : decode cX2_lost 95 = .ok (.iconst 0, 1) := by decide +kernel
theorem dX2_lost_96 : decode cX2_lost 96 = .ok (.invokevirtual 49, 3) := by decide +kernel
theorem dX2_lost_99 : decode cX2_lost 99 = .ok (.ifCond .eq 7, 3) := by decide +kernel
theorem dX2_lost_102 : decode cX2_lost 102 = .ok (.iconst 1, 1) := by decide +kernel
theorem dX2_lost_103 : decode cX2_lost 103 = .ok (.goto 4, 3) := by decide +kernel
theorem dX2_lost_106 : decode cX2_lost 106 = .ok (.iconst 0, 1) := by decide +kernel
theorem dX2_lost_107 : decode cX2_lost 107 = .ok (.iadd, 1) := by decide +kernel
theorem dX2_lost_108 : decode cX2_lost 108 = .ok (.istore_n 3, 1) := by decide +kernel
theorem dX2_lost_109 : decode cX2_lost 109 = .ok (.iload_n 2, 1) := by decide +kernel
theorem dX2_lost_110 : decode cX2_lost 110 = .ok (.iconst 1, 1) := by decide +kernel
theorem dX2_lost_111 : decode cX2_lost 111 = .ok (.iload 5, 2) := by decide +kernel
theorem dX2_lost_113 : decode cX2_lost 113 = .ok (.ishl, 1) := by decide +kernel
theorem dX2_lost_114 : decode cX2_lost 114 = .ok (.iconst (-1), 1) := by decide +kernel
theorem dX2_lost_115 : decode cX2_lost 115 = .ok (.ixor, 1) := by decide +kernel
theorem dX2_lost_116 : decode cX2_lost 116 = .ok (.iand, 1) := by decide +kernel
theorem dX2_lost_117 : decode cX2_lost 117 = .ok (.istore_n 2, 1) := by decide +kernel
theorem dX2_lost_118 : decode cX2_lost 118 = .ok (.iinc 5 1, 3) := by decide +kernel
theorem dX2_lost_121 : decode cX2_lost 121 = .ok (.goto (-61), 3) := by decide +kernel
theorem dX2_lost_124 : decode cX2_lost 124 = .ok (.iinc 4 1, 3) := by decide +kernel
theorem dX2_lost_127 : decode cX2_lost 127 = .ok (.goto (-81), 3) := by decide +kernel
theorem dX2_lost_130 : decode cX2_lost 130 = .ok (.aload_n 0, 1) := by decide +kernel
theorem dX2_lost_131 : decode cX2_lost 131 = .ok (.invokevirtual 131, 3) := by decide +kernel
theorem dX2_lost_134 : decode cX2_lost 134 = .ok (.iload_n 3, 1) := by decide +kernel
theorem dX2_lost_135 : decode cX2_lost 135 = .ok (.ireturn, 1) := by decide +kernel
set_option maxRecDepth 20000 in
theorem ggX2_wanted_X2_lost : GoodIn wsX2_wanted wsX2_lost := goodIn_r _ [6, 7, 8, 9, 10, 5, 11, 12, 13, 14, 15, 16, 17, 18, 19, 20, 21, 22, 23, 24, 25, 26, 27, 28, 29, 30, 31, 32, 33, 34, 35, 36, 37, 38, 39, 40, 41, 42, 43, 44, 45, 46, 47, 48, 49, 50, 51, 52, 53, 54, 55, 1, 56, 57, 58, 59, 60, 61, 62, 63, 64, 65, 66, 67, 68, 69, 70, 71, 72, 73, 74, 75, 76, 77, 78, 79, 80] (by decide +kernel) (by decide +kernel)
set_option maxRecDepth 20000 in
theorem gX2_wanted_X2_lost : GoodIn wsX2_wanted (wsV RX2 137 RX2 yX2_lost wsX2_lost) := goodIn_app (goodIn_of _ (by decide +kernel)) ggX2_wanted_X2_lost
theorem dX2_wanted_0 : decode cX2_wanted 0 = .ok (.aload_n 0, 1) := by decide +kernel
theorem dX2_wanted_1 : decode cX2_wanted 1 = .ok (.getfield 9, 3) := by decide +kernel
theorem dX2_wanted_4 : decode cX2_wanted 4 = .ok (.iload_n 1, 1) := by decide +kernel
theorem dX2_wanted_5 : decode cX2_wanted 5 = .ok (.iaload, 1) := by decide +kernel
theorem dX2_wanted_6 : decode cX2_wanted 6 = .ok (.istore_n 2, 1) := by decide +kernel
theorem dX2_wanted_7 : decode cX2_wanted 7 = .ok (.iconst (-1), 1) := by decide +kernel
theorem dX2_wanted_8 : decode cX2_wanted 8 = .ok (.istore_n 3, 1) := by decide +kernel
theorem dX2_wanted_9 : decode cX2_wanted 9 = .ok (.iconst 0, 1) := by decide +kernel
theorem dX2_wanted_10 : decode cX2_wanted 10 = .ok (.istore 4, 2) := by decide +kernel
theorem dX2_wanted_12 : decode cX2_wanted 12 = .ok (.iload 4, 2) := by decide +kernel
theorem dX2_wanted_14 : decode cX2_wanted 14 = .ok (.bipush 9, 2) := by decide +kernel
theorem dX2_wanted_16 : decode cX2_wanted 16 = .ok (.if_icmp .gt 35, 3) := by decide +kernel
theorem dX2_wanted_19 : decode cX2_wanted 19 = .ok (.iload_n 3, 1) := by decide +kernel
theorem dX2_wanted_20 : decode cX2_wanted 20 = .ok (.iconst (-1), 1) := by decide +kernel
theorem dX2_wanted_21 : decode cX2_wanted 21 = .ok (.if_icmp .ne 30, 3) := by decide +kernel
theorem dX2_wanted_24 : decode cX2_wanted 24 = .ok (.aload_n 0, 1) := by decide +kernel
theorem dX2_wanted_25 : decode cX2_wanted 25 = .ok (.getfield 9, 3) := by decide +kernel
theorem dX2_wanted_28 : decode cX2_wanted 28 = .ok (.iload_n 1, 1) := by decide +kernel
theorem dX2_wanted_29 : decode cX2_wanted 29 = .ok (.iload_n 2, 1) := by decide +kernel
theorem dX2_wanted_30 : decode cX2_wanted 30 = .ok (.iload 4, 2) := by decide +kernel
theorem dX2_wanted_32 : decode cX2_wanted 32 = .ok (.iadd, 1) := by decide +kernel
theorem dX2_wanted_33 : decode cX2_wanted 33 = .ok (.iastore, 1) := by decide +kernel
theorem dX2_wanted_34 : decode cX2_wanted 34 = .ok (.aload_n 0, 1) := by decide +kernel
theorem dX2_wanted_35 : decode cX2_wanted 35 = .ok (.iload_n 1, 1) := by decide +kernel
theorem dX2_wanted_36 : decode cX2_wanted 36 = .ok (.invokevirtual 137, 3) := by decide +kernel
theorem dX2_wanted_39 : decode cX2_wanted 39 = .ok (.ifCond .ne 6, 3) := by decide +kernel
theorem dX2_wanted_42 : decode cX2_wanted 42 = .ok (.iload 4, 2) := by decide +kernel
theorem dX2_wanted_44 : decode cX2_wanted 44 = .ok (.istore_n 3, 1) := by decide +kernel
theorem dX2_wanted_45 : decode cX2_wanted 45 = .ok (.iinc 4 1, 3) := by decide +kernel
theorem dX2_wanted_48 : decode cX2_wanted 48 = .ok (.goto (-36), 3) := by decide +kernel
theorem dX2_wanted_51 : decode cX2_wanted 51 = .ok (.aload_n 0, 1) := by decide +kernel
theorem dX2_wanted_52 : decode cX2_wanted 52 = .ok (.getfield 9, 3) := by decide +kernel
theorem dX2_wanted_55 : decode cX2_wanted 55 = .ok (.iload_n 1, 1) := by decide +kernel
theorem dX2_wanted_56 : decode cX2_wanted 56 = .ok (.iload_n 2, 1) := by decide +kernel
theorem dX2_wanted_57 : decode cX2_wanted 57 = .ok (.iastore, 1) := by decide +kernel
theorem dX2_wanted_58 : decode cX2_wanted 58 = .ok (.iload_n 3, 1) := by decide +kernel
theorem dX2_wanted_59 : decode cX2_wanted 59 = .ok (.ireturn, 1) := by decide +kernel
set_option maxRecDepth 20000 in
theorem ggX2_permitsWanted_X2_isGate : GoodIn wsX2_permitsWanted wsX2_isGate := goodIn_r _ [6, 7, 8, 9, 5, 10, 89, 90, 91, 92, 93, 94, 95, 96] (by decide +kernel) (by decide +kernel)
set_option maxRecDepth 20000 in
theorem gX2_permitsWanted_X2_isGate : GoodIn wsX2_permitsWanted (wsV RX2 93 RX2 yX2_isGate wsX2_isGate) := goodIn_app (goodIn_of _ (by decide +kernel)) ggX2_permitsWanted_X2_isGate
set_option maxRecDepth 20000 in
theorem ggX2_permitsWanted_X2_wanted : GoodIn wsX2_permitsWanted wsX2_wanted := goodIn_r _ [14, 15, 16, 17, 18, 5, 19, 20, 21, 22, 23, 24, 25, 26, 27, 28, 29, 30, 31, 32, 33, 34, 35, 36, 37, 38, 39, 40, 41, 42, 43, 44, 45, 46, 7, 47, 48, 49, 50, 51, 52, 53, 54, 55, 56, 57, 58, 59, 60, 61, 62, 63, 64, 65, 66, 67, 68, 69, 70, 71, 72, 73, 74, 75, 76, 77, 78, 79, 80, 81, 82, 83, 84, 89, 90, 91, 92, 93, 94, 95, 96] (by decide +kernel) (by decide +kernel)
set_option maxRecDepth 20000 in
theorem gX2_permitsWanted_X2_wanted : GoodIn wsX2_permitsWanted (wsV RX2 140 RX2 yX2_wanted wsX2_wanted) := goodIn_app (goodIn_of _ (by decide +kernel)) ggX2_permitsWanted_X2_wanted
set_option maxRecDepth 20000 in
theorem ggX2_permitsWanted_X2_no : GoodIn wsX2_permitsWanted wsX2_no := goodIn_r _ [88, 1, 89, 90, 91, 92, 93, 94, 95, 96] (by decide +kernel) (by decide +kernel)
set_option maxRecDepth 20000 in
theorem gX2_permitsWanted_X2_no : GoodIn wsX2_permitsWanted (wsV RX2 86 RX2 yX2_no wsX2_no) := goodIn_app (goodIn_of _ (by decide +kernel)) ggX2_permitsWanted_X2_no
theorem dX2_permitsWanted_0 : decode cX2_permitsWanted 0 = .ok (.aload_n 0, 1) := by decide +kernel
theorem dX2_permitsWanted_1 : decode cX2_permitsWanted 1 = .ok (.iconst 0, 1) := by decide +kernel
theorem dX2_permitsWanted_2 : decode cX2_permitsWanted 2 = .ok (.putfield 25, 3) := by decide +kernel
theorem dX2_permitsWanted_5 : decode cX2_permitsWanted 5 = .ok (.aload_n 0, 1) := by decide +kernel
theorem dX2_permitsWanted_6 : decode cX2_permitsWanted 6 = .ok (.iload_n 1, 1) := by decide +kernel
theorem dX2_permitsWanted_7 : decode cX2_permitsWanted 7 = .ok (.invokevirtual 93, 3) := by decide +kernel
theorem dX2_permitsWanted_10 : decode cX2_permitsWanted 10 = .ok (.ifCond .eq 11, 3) := by decide +kernel
theorem dX2_permitsWanted_13 : decode cX2_permitsWanted 13 = .ok (.aload_n 0, 1) := by decide +kernel
theorem dX2_permitsWanted_14 : decode cX2_permitsWanted 14 = .ok (.iload_n 1, 1) := by decide +kernel
theorem dX2_permitsWanted_15 : decode cX2_permitsWanted 15 = .ok (.invokevirtual 140, 3) := by decide +kernel
theorem dX2_permitsWanted_18 : decode cX2_permitsWanted 18 = .ok (.goto 8, 3) := by decide +kernel
theorem dX2_permitsWanted_21 : decode cX2_permitsWanted 21 = .ok (.aload_n 0, 1) := by decide +kernel
theorem dX2_permitsWanted_22 : decode cX2_permitsWanted 22 = .ok (.iconst 1, 1) := by decide +kernel
theorem dX2_permitsWanted_23 : decode cX2_permitsWanted 23 = .ok (.invokevirtual 86, 3) := by decide +kernel
theorem dX2_permitsWanted_26 : decode cX2_permitsWanted 26 = .ok (.ireturn, 1) := by decide +kernel
set_option maxRecDepth 20000 in
theorem ggX2_lostBy_X2_lost : GoodIn wsX2_lostBy wsX2_lost := goodIn_r _ [6, 7, 8, 9, 10, 5, 11, 12, 13, 14, 15, 16, 17, 18, 19, 20, 21, 22, 23, 24, 25, 26, 27, 28, 29, 30, 31, 32, 33, 34, 35, 36, 37, 38, 39, 40, 41, 42, 43, 44, 45, 46, 47, 48, 49, 50, 1, 51, 52, 53, 54, 55, 56, 57, 58, 59, 60, 61, 62, 63, 64, 65, 66, 67, 68, 69, 70, 71, 72, 73, 74, 75, 76, 77, 78, 79, 80] (by decide +kernel) (by decide +kernel)
set_option maxRecDepth 20000 in
theorem gX2_lostBy_X2_lost : GoodIn wsX2_lostBy (wsV RX2 137 RX2 yX2_lost wsX2_lost) := goodIn_app (goodIn_of _ (by decide +kernel)) ggX2_lostBy_X2_lost
theorem dX2_lostBy_0 : decode cX2_lostBy 0 = .ok (.aload_n 0, 1) := by decide +kernel
theorem dX2_lostBy_1 : decode cX2_lostBy 1 = .ok (.getfield 13, 3) := by decide +kernel
theorem dX2_lostBy_4 : decode cX2_lostBy 4 = .ok (.iload_n 1, 1) := by decide +kernel
theorem dX2_lostBy_5 : decode cX2_lostBy 5 = .ok (.iaload, 1) := by decide +kernel
theorem dX2_lostBy_6 : decode cX2_lostBy 6 = .ok (.istore_n 3, 1) := by decide +kernel
theorem dX2_lostBy_7 : decode cX2_lostBy 7 = .ok (.aload_n 0, 1) := by decide +kernel
theorem dX2_lostBy_8 : decode cX2_lostBy 8 = .ok (.getfield 13, 3) := by decide +kernel
theorem dX2_lostBy_11 : decode cX2_lostBy 11 = .ok (.iload_n 1, 1) := by decide +kernel
theorem dX2_lostBy_12 : decode cX2_lostBy 12 = .ok (.iload_n 2, 1) := by decide +kernel
theorem dX2_lostBy_13 : decode cX2_lostBy 13 = .ok (.iastore, 1) := by decide +kernel
theorem dX2_lostBy_14 : decode cX2_lostBy 14 = .ok (.aload_n 0, 1) := by decide +kernel
theorem dX2_lostBy_15 : decode cX2_lostBy 15 = .ok (.iload_n 1, 1) := by decide +kernel
theorem dX2_lostBy_16 : decode cX2_lostBy 16 = .ok (.invokevirtual 137, 3) := by decide +kernel
theorem dX2_lostBy_19 : decode cX2_lostBy 19 = .ok (.istore 4, 2) := by decide +kernel
theorem dX2_lostBy_21 : decode cX2_lostBy 21 = .ok (.aload_n 0, 1) := by decide +kernel
theorem dX2_lostBy_22 : decode cX2_lostBy 22 = .ok (.getfield 13, 3) := by decide +kernel
theorem dX2_lostBy_25 : decode cX2_lostBy 25 = .ok (.iload_n 1, 1) := by decide +kernel
theorem dX2_lostBy_26 : decode cX2_lostBy 26 = .ok (.iload_n 3, 1) := by decide +kernel
theorem dX2_lostBy_27 : decode cX2_lostBy 27 = .ok (.iastore, 1) := by decide +kernel
theorem dX2_lostBy_28 : decode cX2_lostBy 28 = .ok (.iload 4, 2) := by decide +kernel
theorem dX2_lostBy_30 : decode cX2_lostBy 30 = .ok (.ireturn, 1) := by decide +kernel
set_option maxRecDepth 20000 in
theorem ggX2_better_X2_lostBy : GoodIn wsX2_better wsX2_lostBy := goodIn_r _ [5, 6, 7, 8, 9, 4, 10, 11, 12, 13, 14, 15, 16, 17, 18, 19, 20, 21, 22, 23, 24, 25, 26, 27, 28, 29, 30, 31, 32, 33, 34, 35, 36, 37, 38, 39, 40, 41, 42, 43, 44, 45, 46, 47, 48, 49, 50, 51, 52, 53, 54, 55, 56, 57, 58, 59, 60, 61, 62, 63, 64, 65, 66, 67, 68, 69, 70, 71, 72, 73, 74, 75, 76, 77, 78, 79, 80, 81, 82, 83, 84] (by decide +kernel) (by decide +kernel)
set_option maxRecDepth 20000 in
theorem gX2_better_X2_lostBy : GoodIn wsX2_better (wsV RX2 143 RX2 yX2_lostBy wsX2_lostBy) := goodIn_app (goodIn_of _ (by decide +kernel)) ggX2_better_X2_lostBy
theorem dX2_better_0 : decode cX2_better 0 = .ok (.aload_n 0, 1) := by decide +kernel
theorem dX2_better_1 : decode cX2_better 1 = .ok (.iload_n 1, 1) := by decide +kernel
theorem dX2_better_2 : decode cX2_better 2 = .ok (.iconst 1, 1) := by decide +kernel
theorem dX2_better_3 : decode cX2_better 3 = .ok (.invokevirtual 143, 3) := by decide +kernel
theorem dX2_better_6 : decode cX2_better 6 = .ok (.aload_n 0, 1) := by decide +kernel
theorem dX2_better_7 : decode cX2_better 7 = .ok (.iload_n 1, 1) := by decide +kernel
theorem dX2_better_8 : decode cX2_better 8 = .ok (.iconst 0, 1) := by decide +kernel
theorem dX2_better_9 : decode cX2_better 9 = .ok (.invokevirtual 143, 3) := by decide +kernel
theorem dX2_better_12 : decode cX2_better 12 = .ok (.if_icmp .ge 7, 3) := by decide +kernel
theorem dX2_better_15 : decode cX2_better 15 = .ok (.iconst 1, 1) := by decide +kernel
theorem dX2_better_16 : decode cX2_better 16 = .ok (.goto 4, 3) := by decide +kernel
theorem dX2_better_19 : decode cX2_better 19 = .ok (.iconst 0, 1) := by decide +kernel
theorem dX2_better_20 : decode cX2_better 20 = .ok (.ireturn, 1) := by decide +kernel
set_option maxRecDepth 20000 in
theorem ggX2_bestOrder_X2_isGate : GoodIn wsX2_bestOrder wsX2_isGate := goodIn_r _ [6, 7, 8, 9, 5, 10, 93, 94, 95, 96, 97, 98, 99, 100] (by decide +kernel) (by decide +kernel)
set_option maxRecDepth 20000 in
theorem gX2_bestOrder_X2_isGate : GoodIn wsX2_bestOrder (wsV RX2 93 RX2 yX2_isGate wsX2_isGate) := goodIn_app (goodIn_of _ (by decide +kernel)) ggX2_bestOrder_X2_isGate
set_option maxRecDepth 20000 in
theorem ggX2_bestOrder_X2_better : GoodIn wsX2_bestOrder wsX2_better := goodIn_r _ [14, 15, 16, 17, 5, 18, 19, 20, 21, 22, 23, 24, 25, 26, 27, 28, 29, 30, 31, 32, 33, 34, 35, 36, 37, 38, 39, 40, 41, 42, 43, 44, 45, 46, 47, 48, 49, 50, 7, 51, 52, 53, 54, 55, 56, 57, 58, 59, 60, 61, 62, 63, 64, 65, 66, 67, 68, 69, 70, 71, 72, 73, 74, 75, 76, 77, 78, 79, 80, 81, 82, 83, 84, 85, 86, 87, 88, 93, 94, 95, 96, 97, 98, 99, 100] (by decide +kernel) (by decide +kernel)
set_option maxRecDepth 20000 in
theorem gX2_bestOrder_X2_better : GoodIn wsX2_bestOrder (wsV RX2 146 RX2 yX2_better wsX2_better) := goodIn_app (goodIn_of _ (by decide +kernel)) ggX2_bestOrder_X2_better
set_option maxRecDepth 20000 in
theorem ggX2_bestOrder_X2_no : GoodIn wsX2_bestOrder wsX2_no := goodIn_r _ [92, 1, 93, 94, 95, 96, 97, 98, 99, 100] (by decide +kernel) (by decide +kernel)
set_option maxRecDepth 20000 in
theorem gX2_bestOrder_X2_no : GoodIn wsX2_bestOrder (wsV RX2 86 RX2 yX2_no wsX2_no) := goodIn_app (goodIn_of _ (by decide +kernel)) ggX2_bestOrder_X2_no
theorem dX2_bestOrder_0 : decode cX2_bestOrder 0 = .ok (.aload_n 0, 1) := by decide +kernel
theorem dX2_bestOrder_1 : decode cX2_bestOrder 1 = .ok (.iconst 0, 1) := by decide +kernel
theorem dX2_bestOrder_2 : decode cX2_bestOrder 2 = .ok (.putfield 25, 3) := by decide +kernel
theorem dX2_bestOrder_5 : decode cX2_bestOrder 5 = .ok (.aload_n 0, 1) := by decide +kernel
theorem dX2_bestOrder_6 : decode cX2_bestOrder 6 = .ok (.iload_n 1, 1) := by decide +kernel
theorem dX2_bestOrder_7 : decode cX2_bestOrder 7 = .ok (.invokevirtual 93, 3) := by decide +kernel
theorem dX2_bestOrder_10 : decode cX2_bestOrder 10 = .ok (.ifCond .eq 11, 3) := by decide +kernel
theorem dX2_bestOrder_13 : decode cX2_bestOrder 13 = .ok (.aload_n 0, 1) := by decide +kernel
theorem dX2_bestOrder_14 : decode cX2_bestOrder 14 = .ok (.iload_n 1, 1) := by decide +kernel
theorem dX2_bestOrder_15 : decode cX2_bestOrder 15 = .ok (.invokevirtual 146, 3) := by decide +kernel
theorem dX2_bestOrder_18 : decode cX2_bestOrder 18 = .ok (.goto 8, 3) := by decide +kernel
theorem dX2_bestOrder_21 : decode cX2_bestOrder 21 = .ok (.aload_n 0, 1) := by decide +kernel
theorem dX2_bestOrder_22 : decode cX2_bestOrder 22 = .ok (.iconst 1, 1) := by decide +kernel
theorem dX2_bestOrder_23 : decode cX2_bestOrder 23 = .ok (.invokevirtual 86, 3) := by decide +kernel
theorem dX2_bestOrder_26 : decode cX2_bestOrder 26 = .ok (.ireturn, 1) := by decide +kernel
set_option maxRecDepth 20000 in
theorem ggX2_meanWaited_X2_of : GoodIn wsX2_meanWaited wsX2_of := goodIn_r _ [7, 8, 9, 10, 11, 12, 13, 14, 15, 16] (by decide +kernel) (by decide +kernel)
set_option maxRecDepth 20000 in
theorem gX2_meanWaited_X2_of : GoodIn wsX2_meanWaited (wsV RX2 45 RX2 yX2_of wsX2_of) := goodIn_app (goodIn_of _ (by decide +kernel)) ggX2_meanWaited_X2_of
theorem dX2_meanWaited_0 : decode cX2_meanWaited 0 = .ok (.aload_n 0, 1) := by decide +kernel
theorem dX2_meanWaited_1 : decode cX2_meanWaited 1 = .ok (.iconst 0, 1) := by decide +kernel
theorem dX2_meanWaited_2 : decode cX2_meanWaited 2 = .ok (.putfield 25, 3) := by decide +kernel
theorem dX2_meanWaited_5 : decode cX2_meanWaited 5 = .ok (.iconst 0, 1) := by decide +kernel
theorem dX2_meanWaited_6 : decode cX2_meanWaited 6 = .ok (.istore_n 1, 1) := by decide +kernel
theorem dX2_meanWaited_7 : decode cX2_meanWaited 7 = .ok (.iconst 0, 1) := by decide +kernel
theorem dX2_meanWaited_8 : decode cX2_meanWaited 8 = .ok (.istore_n 2, 1) := by decide +kernel
theorem dX2_meanWaited_9 : decode cX2_meanWaited 9 = .ok (.iload_n 2, 1) := by decide +kernel
theorem dX2_meanWaited_10 : decode cX2_meanWaited 10 = .ok (.aload_n 0, 1) := by decide +kernel
theorem dX2_meanWaited_11 : decode cX2_meanWaited 11 = .ok (.getfield 36, 3) := by decide +kernel
theorem dX2_meanWaited_14 : decode cX2_meanWaited 14 = .ok (.if_icmp .ge 19, 3) := by decide +kernel
theorem dX2_meanWaited_17 : decode cX2_meanWaited 17 = .ok (.iload_n 1, 1) := by decide +kernel
theorem dX2_meanWaited_18 : decode cX2_meanWaited 18 = .ok (.aload_n 0, 1) := by decide +kernel
theorem dX2_meanWaited_19 : decode cX2_meanWaited 19 = .ok (.iload_n 2, 1) := by decide +kernel
theorem dX2_meanWaited_20 : decode cX2_meanWaited 20 = .ok (.bipush 6, 2) := by decide +kernel
theorem dX2_meanWaited_22 : decode cX2_meanWaited 22 = .ok (.invokevirtual 45, 3) := by decide +kernel
theorem dX2_meanWaited_25 : decode cX2_meanWaited 25 = .ok (.iadd, 1) := by decide +kernel
theorem dX2_meanWaited_26 : decode cX2_meanWaited 26 = .ok (.istore_n 1, 1) := by decide +kernel
theorem dX2_meanWaited_27 : decode cX2_meanWaited 27 = .ok (.iinc 2 1, 3) := by decide +kernel
theorem dX2_meanWaited_30 : decode cX2_meanWaited 30 = .ok (.goto (-21), 3) := by decide +kernel
theorem dX2_meanWaited_33 : decode cX2_meanWaited 33 = .ok (.aload_n 0, 1) := by decide +kernel
theorem dX2_meanWaited_34 : decode cX2_meanWaited 34 = .ok (.getfield 36, 3) := by decide +kernel
theorem dX2_meanWaited_37 : decode cX2_meanWaited 37 = .ok (.ifCond .ne 7, 3) := by decide +kernel
theorem dX2_meanWaited_40 : decode cX2_meanWaited 40 = .ok (.dconst 0, 1) := by decide +kernel
theorem dX2_meanWaited_41 : decode cX2_meanWaited 41 = .ok (.goto 11, 3) := by decide +kernel
theorem dX2_meanWaited_44 : decode cX2_meanWaited 44 = .ok (.iload_n 1, 1) := by decide +kernel
theorem dX2_meanWaited_45 : decode cX2_meanWaited 45 = .ok (.i2d, 1) := by decide +kernel
theorem dX2_meanWaited_46 : decode cX2_meanWaited 46 = .ok (.aload_n 0, 1) := by decide +kernel
theorem dX2_meanWaited_47 : decode cX2_meanWaited 47 = .ok (.getfield 36, 3) := by decide +kernel
theorem dX2_meanWaited_50 : decode cX2_meanWaited 50 = .ok (.i2d, 1) := by decide +kernel
theorem dX2_meanWaited_51 : decode cX2_meanWaited 51 = .ok (.ddiv, 1) := by decide +kernel
theorem dX2_meanWaited_52 : decode cX2_meanWaited 52 = .ok (.dreturn, 1) := by decide +kernel
set_option maxRecDepth 20000 in
theorem ggX2_digest_X2_many : GoodIn wsX2_digest wsX2_many := goodIn_r _ [13, 5, 14, 15, 16, 12, 17, 18, 19, 20, 21, 3, 121, 122, 123, 124, 125, 126, 127, 128] (by decide +kernel) (by decide +kernel)
set_option maxRecDepth 20000 in
theorem gX2_digest_X2_many : GoodIn wsX2_digest (wsV RX2 112 RX2 yX2_many wsX2_many) := goodIn_app (goodIn_of _ (by decide +kernel)) ggX2_digest_X2_many
set_option maxRecDepth 20000 in
theorem ggX2_digest_X2_starved : GoodIn wsX2_digest wsX2_starved := goodIn_r _ [25, 5, 14, 15, 16, 12, 17, 18, 19, 20, 21, 3, 121, 122, 123, 124, 125, 126, 127, 128] (by decide +kernel) (by decide +kernel)
set_option maxRecDepth 20000 in
theorem gX2_digest_X2_starved : GoodIn wsX2_digest (wsV RX2 115 RX2 yX2_starved wsX2_starved) := goodIn_app (goodIn_of _ (by decide +kernel)) ggX2_digest_X2_starved
set_option maxRecDepth 20000 in
theorem ggX2_digest_X2_free : GoodIn wsX2_digest wsX2_free := goodIn_r _ [29, 8, 5, 14, 15, 16, 12, 17, 18, 19, 20, 21, 3, 121, 122, 123, 124, 125, 126, 127, 128] (by decide +kernel) (by decide +kernel)
set_option maxRecDepth 20000 in
theorem gX2_digest_X2_free : GoodIn wsX2_digest (wsV RX2 56 RX2 yX2_free wsX2_free) := goodIn_app (goodIn_of _ (by decide +kernel)) ggX2_digest_X2_free
set_option maxRecDepth 20000 in
theorem ggX2_digest_X2_manyAt : GoodIn wsX2_digest wsX2_manyAt := goodIn_r _ [33, 5, 34, 35, 36, 12, 37, 14, 15, 16, 17, 18, 19, 20, 21, 3, 121, 122, 123, 124, 125, 126, 127, 128] (by decide +kernel) (by decide +kernel)
set_option maxRecDepth 20000 in
theorem gX2_digest_X2_manyAt : GoodIn wsX2_digest (wsV RX2 100 RX2 yX2_manyAt wsX2_manyAt) := goodIn_app (goodIn_of _ (by decide +kernel)) ggX2_digest_X2_manyAt
set_option maxRecDepth 20000 in
theorem ggX2_digest_X2_next : GoodIn wsX2_digest wsX2_next := goodIn_r _ [41, 42, 5, 26, 27, 28, 12, 29, 8, 14, 15, 16, 17, 18, 19, 20, 21, 3, 43, 44, 45, 46, 34, 35, 36, 37, 47, 48, 49, 50, 51, 121, 122, 123, 124, 125, 126, 127, 128] (by decide +kernel) (by decide +kernel)
set_option maxRecDepth 20000 in
theorem gX2_digest_X2_next : GoodIn wsX2_digest (wsV RX2 70 RX2 yX2_next wsX2_next) := goodIn_app (goodIn_of _ (by decide +kernel)) ggX2_digest_X2_next
set_option maxRecDepth 20000 in
theorem ggX2_digest_X2_wanted : GoodIn wsX2_digest wsX2_wanted := goodIn_r _ [55, 8, 56, 57, 58, 12, 59, 5, 34, 35, 36, 37, 14, 15, 16, 17, 18, 19, 20, 21, 3, 60, 61, 62, 63, 64, 65, 66, 67, 68, 69, 70, 71, 72, 4, 73, 74, 75, 76, 77, 78, 79, 80, 81, 82, 83, 84, 38, 39, 40, 41, 42, 26, 27, 28, 29, 43, 44, 45, 46, 47, 48, 49, 50, 51, 85, 86, 87, 88, 89, 90, 91, 92, 121, 122, 123, 124, 125, 126, 127, 128] (by decide +kernel) (by decide +kernel)
set_option maxRecDepth 20000 in
theorem gX2_digest_X2_wanted : GoodIn wsX2_digest (wsV RX2 140 RX2 yX2_wanted wsX2_wanted) := goodIn_app (goodIn_of _ (by decide +kernel)) ggX2_digest_X2_wanted
set_option maxRecDepth 20000 in
theorem ggX2_digest_X2_better : GoodIn wsX2_digest wsX2_better := goodIn_r _ [96, 97, 98, 99, 12, 100, 42, 56, 57, 58, 59, 5, 34, 35, 36, 37, 14, 15, 16, 17, 18, 19, 20, 21, 3, 60, 61, 62, 63, 64, 65, 66, 67, 68, 69, 70, 71, 72, 4, 73, 74, 75, 76, 77, 78, 79, 80, 81, 82, 83, 84, 38, 39, 40, 41, 26, 27, 28, 29, 8, 43, 44, 45, 46, 47, 48, 49, 50, 51, 85, 86, 87, 88, 89, 90, 91, 92, 121, 122, 123, 124, 125, 126, 127, 128] (by decide +kernel) (by decide +kernel)
set_option maxRecDepth 20000 in
theorem gX2_digest_X2_better : GoodIn wsX2_digest (wsV RX2 146 RX2 yX2_better wsX2_better) := goodIn_app (goodIn_of _ (by decide +kernel)) ggX2_digest_X2_better
set_option maxRecDepth 20000 in
theorem ggX2_digest_X2_of : GoodIn wsX2_digest wsX2_of := goodIn_r _ [21, 3, 121, 122, 123, 124, 125, 126, 127, 128] (by decide +kernel) (by decide +kernel)
set_option maxRecDepth 20000 in
theorem gX2_digest_X2_of : GoodIn wsX2_digest (wsV RX2 45 RX2 yX2_of wsX2_of) := goodIn_app (goodIn_of _ (by decide +kernel)) ggX2_digest_X2_of
set_option maxRecDepth 20000 in
theorem ggX2_digest_X2_where : GoodIn wsX2_digest wsX2_where := goodIn_r _ [104, 14, 15, 16, 12, 17, 18, 19, 20, 21, 3, 121, 122, 123, 124, 125, 126, 127, 128] (by decide +kernel) (by decide +kernel)
set_option maxRecDepth 20000 in
theorem gX2_digest_X2_where : GoodIn wsX2_digest (wsV RX2 119 RX2 yX2_where wsX2_where) := goodIn_app (goodIn_of _ (by decide +kernel)) ggX2_digest_X2_where
set_option maxRecDepth 20000 in
theorem ggX2_digest_X2_held : GoodIn wsX2_digest wsX2_held := goodIn_r _ [108, 14, 15, 16, 12, 17, 18, 19, 20, 21, 3, 121, 122, 123, 124, 125, 126, 127, 128] (by decide +kernel) (by decide +kernel)
set_option maxRecDepth 20000 in
theorem gX2_digest_X2_held : GoodIn wsX2_digest (wsV RX2 103 RX2 yX2_held wsX2_held) := goodIn_app (goodIn_of _ (by decide +kernel)) ggX2_digest_X2_held
set_option maxRecDepth 20000 in
theorem ggX2_digest_X2_seem : GoodIn wsX2_digest wsX2_seem := goodIn_r _ [50, 51, 14, 15, 16, 12, 17, 18, 19, 20, 21, 3, 121, 122, 123, 124, 125, 126, 127, 128] (by decide +kernel) (by decide +kernel)
set_option maxRecDepth 20000 in
theorem gX2_digest_X2_seem : GoodIn wsX2_digest (wsV RX2 63 RX2 yX2_seem wsX2_seem) := goodIn_app (goodIn_of _ (by decide +kernel)) ggX2_digest_X2_seem
set_option maxRecDepth 20000 in
theorem ggX2_digest_X2_left : GoodIn wsX2_digest wsX2_left := goodIn_r _ [112, 14, 15, 16, 12, 17, 18, 19, 20, 21, 3, 121, 122, 123, 124, 125, 126, 127, 128] (by decide +kernel) (by decide +kernel)
set_option maxRecDepth 20000 in
theorem gX2_digest_X2_left : GoodIn wsX2_digest (wsV RX2 122 RX2 yX2_left wsX2_left) := goodIn_app (goodIn_of _ (by decide +kernel)) ggX2_digest_X2_left
set_option maxRecDepth 20000 in
theorem ggX2_digest_X2_place : GoodIn wsX2_digest wsX2_place := goodIn_r _ [116, 5, 14, 15, 16, 12, 17, 18, 19, 20, 21, 3, 34, 35, 36, 37, 121, 122, 123, 124, 125, 126, 127, 128] (by decide +kernel) (by decide +kernel)
set_option maxRecDepth 20000 in
theorem gX2_digest_X2_place : GoodIn wsX2_digest (wsV RX2 125 RX2 yX2_place wsX2_place) := goodIn_app (goodIn_of _ (by decide +kernel)) ggX2_digest_X2_place
set_option maxRecDepth 20000 in
theorem ggX2_digest_X2_until : GoodIn wsX2_digest wsX2_until := goodIn_r _ [120, 14, 15, 16, 12, 17, 18, 19, 20, 21, 3, 60, 61, 62, 63, 64, 65, 66, 67, 68, 69, 70, 71, 72, 5, 4, 73, 74, 75, 76, 77, 78, 79, 80, 81, 82, 83, 84, 38, 39, 40, 41, 42, 26, 27, 28, 29, 8, 43, 44, 45, 46, 34, 35, 36, 37, 47, 48, 49, 50, 51, 85, 86, 87, 88, 89, 90, 91, 92, 121, 122, 123, 124, 125, 126, 127, 128] (by decide +kernel) (by decide +kernel)
set_option maxRecDepth 20000 in
theorem gX2_digest_X2_until : GoodIn wsX2_digest (wsV RX2 134 RX2 yX2_until wsX2_until) := goodIn_app (goodIn_of _ (by decide +kernel)) ggX2_digest_X2_until
theorem dX2_digest_0 : decode cX2_digest 0 = .ok (.aload_n 0, 1) := by decide +kernel
theorem dX2_digest_1 : decode cX2_digest 1 = .ok (.iconst 0, 1) := by decide +kernel
theorem dX2_digest_2 : decode cX2_digest 2 = .ok (.putfield 25, 3) := by decide +kernel
theorem dX2_digest_5 : decode cX2_digest 5 = .ok (.bipush 8, 2) := by decide +kernel
theorem dX2_digest_7 : decode cX2_digest 7 = .ok (.newarray .int, 2) := by decide +kernel
theorem dX2_digest_9 : decode cX2_digest 9 = .ok (.dup, 1) := by decide +kernel
theorem dX2_digest_10 : decode cX2_digest 10 = .ok (.iconst 0, 1) := by decide +kernel
theorem dX2_digest_11 : decode cX2_digest 11 = .ok (.aload_n 0, 1) := by decide +kernel
theorem dX2_digest_12 : decode cX2_digest 12 = .ok (.getfield 19, 3) := by decide +kernel
theorem dX2_digest_15 : decode cX2_digest 15 = .ok (.iconst 0, 1) := by decide +kernel
theorem dX2_digest_16 : decode cX2_digest 16 = .ok (.iaload, 1) := by decide +kernel
theorem dX2_digest_17 : decode cX2_digest 17 = .ok (.iastore, 1) := by decide +kernel
theorem dX2_digest_18 : decode cX2_digest 18 = .ok (.dup, 1) := by decide +kernel
theorem dX2_digest_19 : decode cX2_digest 19 = .ok (.iconst 1, 1) := by decide +kernel
theorem dX2_digest_20 : decode cX2_digest 20 = .ok (.aload_n 0, 1) := by decide +kernel
theorem dX2_digest_21 : decode cX2_digest 21 = .ok (.getfield 29, 3) := by decide +kernel
theorem dX2_digest_24 : decode cX2_digest 24 = .ok (.iastore, 1) := by decide +kernel
theorem dX2_digest_25 : decode cX2_digest 25 = .ok (.dup, 1) := by decide +kernel
theorem dX2_digest_26 : decode cX2_digest 26 = .ok (.iconst 2, 1) := by decide +kernel
theorem dX2_digest_27 : decode cX2_digest 27 = .ok (.aload_n 0, 1) := by decide +kernel
theorem dX2_digest_28 : decode cX2_digest 28 = .ok (.getfield 36, 3) := by decide +kernel
theorem dX2_digest_31 : decode cX2_digest 31 = .ok (.iastore, 1) := by decide +kernel
theorem dX2_digest_32 : decode cX2_digest 32 = .ok (.dup, 1) := by decide +kernel
theorem dX2_digest_33 : decode cX2_digest 33 = .ok (.iconst 3, 1) := by decide +kernel
theorem dX2_digest_34 : decode cX2_digest 34 = .ok (.aload_n 0, 1) := by decide +kernel
theorem dX2_digest_35 : decode cX2_digest 35 = .ok (.iconst 1, 1) := by decide +kernel
theorem dX2_digest_36 : decode cX2_digest 36 = .ok (.invokevirtual 112, 3) := by decide +kernel
theorem dX2_digest_39 : decode cX2_digest 39 = .ok (.iastore, 1) := by decide +kernel
theorem dX2_digest_40 : decode cX2_digest 40 = .ok (.dup, 1) := by decide +kernel
theorem dX2_digest_41 : decode cX2_digest 41 = .ok (.iconst 4, 1) := by decide +kernel
theorem dX2_digest_42 : decode cX2_digest 42 = .ok (.aload_n 0, 1) := by decide +kernel
theorem dX2_digest_43 : decode cX2_digest 43 = .ok (.iconst 2, 1) := by decide +kernel
theorem dX2_digest_44 : decode cX2_digest 44 = .ok (.invokevirtual 112, 3) := by decide +kernel
theorem dX2_digest_47 : decode cX2_digest 47 = .ok (.iastore, 1) := by decide +kernel
theorem dX2_digest_48 : decode cX2_digest 48 = .ok (.dup, 1) := by decide +kernel
theorem dX2_digest_49 : decode cX2_digest 49 = .ok (.iconst 5, 1) := by decide +kernel
theorem dX2_digest_50 : decode cX2_digest 50 = .ok (.aload_n 0, 1) := by decide +kernel
theorem dX2_digest_51 : decode cX2_digest 51 = .ok (.invokevirtual 115, 3) := by decide +kernel
theorem dX2_digest_54 : decode cX2_digest 54 = .ok (.iastore, 1) := by decide +kernel
theorem dX2_digest_55 : decode cX2_digest 55 = .ok (.dup, 1) := by decide +kernel
theorem dX2_digest_56 : decode cX2_digest 56 = .ok (.bipush 6, 2) := by decide +kernel
theorem dX2_digest_58 : decode cX2_digest 58 = .ok (.aload_n 0, 1) := by decide +kernel
theorem dX2_digest_59 : decode cX2_digest 59 = .ok (.getfield 19, 3) := by decide +kernel
theorem dX2_digest_62 : decode cX2_digest 62 = .ok (.iconst 1, 1) := by decide +kernel
theorem dX2_digest_63 : decode cX2_digest 63 = .ok (.iaload, 1) := by decide +kernel
theorem dX2_digest_64 : decode cX2_digest 64 = .ok (.iastore, 1) := by decide +kernel
theorem dX2_digest_65 : decode cX2_digest 65 = .ok (.dup, 1) := by decide +kernel
theorem dX2_digest_66 : decode cX2_digest 66 = .ok (.bipush 7, 2) := by decide +kernel
theorem dX2_digest_68 : decode cX2_digest 68 = .ok (.aload_n 0, 1) := by decide +kernel
theorem dX2_digest_69 : decode cX2_digest 69 = .ok (.getfield 19, 3) := by decide +kernel
theorem dX2_digest_72 : decode cX2_digest 72 = .ok (.iconst 2, 1) := by decide +kernel
theorem dX2_digest_73 : decode cX2_digest 73 = .ok (.iaload, 1) := by decide +kernel
theorem dX2_digest_74 : decode cX2_digest 74 = .ok (.iastore, 1) := by decide +kernel
theorem dX2_digest_75 : decode cX2_digest 75 = .ok (.astore_n 1, 1) := by decide +kernel
theorem dX2_digest_76 : decode cX2_digest 76 = .ok (.ldc2_w 149, 3) := by decide +kernel
theorem dX2_digest_79 : decode cX2_digest 79 = .ok (.lstore_n 2, 1) := by decide +kernel
theorem dX2_digest_80 : decode cX2_digest 80 = .ok (.aload_n 1, 1) := by decide +kernel
theorem dX2_digest_81 : decode cX2_digest 81 = .ok (.astore 4, 2) := by decide +kernel
theorem dX2_digest_83 : decode cX2_digest 83 = .ok (.aload 4, 2) := by decide +kernel
theorem dX2_digest_85 : decode cX2_digest 85 = .ok (.arraylength, 1) := by decide +kernel
theorem dX2_digest_86 : decode cX2_digest 86 = .ok (.istore 5, 2) := by decide +kernel
theorem dX2_digest_88 : decode cX2_digest 88 = .ok (.iconst 0, 1) := by decide +kernel
theorem dX2_digest_89 : decode cX2_digest 89 = .ok (.istore 6, 2) := by decide +kernel
theorem dX2_digest_91 : decode cX2_digest 91 = .ok (.iload 6, 2) := by decide +kernel
theorem dX2_digest_93 : decode cX2_digest 93 = .ok (.iload 5, 2) := by decide +kernel
theorem dX2_digest_95 : decode cX2_digest 95 = .ok (.if_icmp .ge 26, 3) := by decide +kernel
theorem dX2_digest_98 : decode cX2_digest 98 = .ok (.aload 4, 2) := by decide +kernel
theorem dX2_digest_100 : decode cX2_digest 100 = .ok (.iload 6, 2) := by decide +kernel
theorem dX2_digest_102 : decode cX2_digest 102 = .ok (.iaload, 1) := by decide +kernel
theorem dX2_digest_103 : decode cX2_digest 103 = .ok (.istore 7, 2) := by decide +kernel
theorem dX2_digest_105 : decode cX2_digest 105 = .ok (.lload_n 2, 1) := by decide +kernel
theorem dX2_digest_106 : decode cX2_digest 106 = .ok (.ldc2_w 151, 3) := by decide +kernel
theorem dX2_digest_109 : decode cX2_digest 109 = .ok (.lmul, 1) := by decide +kernel
theorem dX2_digest_110 : decode cX2_digest 110 = .ok (.iload 7, 2) := by decide +kernel
theorem dX2_digest_112 : decode cX2_digest 112 = .ok (.i2l, 1) := by decide +kernel
theorem dX2_digest_113 : decode cX2_digest 113 = .ok (.ladd, 1) := by decide +kernel
theorem dX2_digest_114 : decode cX2_digest 114 = .ok (.lstore_n 2, 1) := by decide +kernel
theorem dX2_digest_115 : decode cX2_digest 115 = .ok (.iinc 6 1, 3) := by decide +kernel
theorem dX2_digest_118 : decode cX2_digest 118 = .ok (.goto (-27), 3) := by decide +kernel
theorem dX2_digest_121 : decode cX2_digest 121 = .ok (.iconst 0, 1) := by decide +kernel
theorem dX2_digest_122 : decode cX2_digest 122 = .ok (.istore 4, 2) := by decide +kernel
theorem dX2_digest_124 : decode cX2_digest 124 = .ok (.iload 4, 2) := by decide +kernel
theorem dX2_digest_126 : decode cX2_digest 126 = .ok (.aload_n 0, 1) := by decide +kernel
theorem dX2_digest_127 : decode cX2_digest 127 = .ok (.getfield 29, 3) := by decide +kernel
theorem dX2_digest_130 : decode cX2_digest 130 = .ok (.if_icmp .ge 112, 3) := by decide +kernel
theorem dX2_digest_133 : decode cX2_digest 133 = .ok (.bipush 6, 2) := by decide +kernel
theorem dX2_digest_135 : decode cX2_digest 135 = .ok (.newarray .int, 2) := by decide +kernel
theorem dX2_digest_137 : decode cX2_digest 137 = .ok (.dup, 1) := by decide +kernel
theorem dX2_digest_138 : decode cX2_digest 138 = .ok (.iconst 0, 1) := by decide +kernel
theorem dX2_digest_139 : decode cX2_digest 139 = .ok (.aload_n 0, 1) := by decide +kernel
theorem dX2_digest_140 : decode cX2_digest 140 = .ok (.getfield 9, 3) := by decide +kernel
theorem dX2_digest_143 : decode cX2_digest 143 = .ok (.iload 4, 2) := by decide +kernel
theorem dX2_digest_145 : decode cX2_digest 145 = .ok (.iaload, 1) := by decide +kernel
theorem dX2_digest_146 : decode cX2_digest 146 = .ok (.iastore, 1) := by decide +kernel
theorem dX2_digest_147 : decode cX2_digest 147 = .ok (.dup, 1) := by decide +kernel
theorem dX2_digest_148 : decode cX2_digest 148 = .ok (.iconst 1, 1) := by decide +kernel
theorem dX2_digest_149 : decode cX2_digest 149 = .ok (.aload_n 0, 1) := by decide +kernel
theorem dX2_digest_150 : decode cX2_digest 150 = .ok (.iload 4, 2) := by decide +kernel
theorem dX2_digest_152 : decode cX2_digest 152 = .ok (.invokevirtual 56, 3) := by decide +kernel
theorem dX2_digest_155 : decode cX2_digest 155 = .ok (.iastore, 1) := by decide +kernel
theorem dX2_digest_156 : decode cX2_digest 156 = .ok (.dup, 1) := by decide +kernel
theorem dX2_digest_157 : decode cX2_digest 157 = .ok (.iconst 2, 1) := by decide +kernel
theorem dX2_digest_158 : decode cX2_digest 158 = .ok (.aload_n 0, 1) := by decide +kernel
theorem dX2_digest_159 : decode cX2_digest 159 = .ok (.iload 4, 2) := by decide +kernel
theorem dX2_digest_161 : decode cX2_digest 161 = .ok (.invokevirtual 100, 3) := by decide +kernel
theorem dX2_digest_164 : decode cX2_digest 164 = .ok (.iastore, 1) := by decide +kernel
theorem dX2_digest_165 : decode cX2_digest 165 = .ok (.dup, 1) := by decide +kernel
theorem dX2_digest_166 : decode cX2_digest 166 = .ok (.iconst 3, 1) := by decide +kernel
theorem dX2_digest_167 : decode cX2_digest 167 = .ok (.aload_n 0, 1) := by decide +kernel
theorem dX2_digest_168 : decode cX2_digest 168 = .ok (.iload 4, 2) := by decide +kernel
theorem dX2_digest_170 : decode cX2_digest 170 = .ok (.invokevirtual 70, 3) := by decide +kernel
theorem dX2_digest_173 : decode cX2_digest 173 = .ok (.iastore, 1) := by decide +kernel
theorem dX2_digest_174 : decode cX2_digest 174 = .ok (.dup, 1) := by decide +kernel
theorem dX2_digest_175 : decode cX2_digest 175 = .ok (.iconst 4, 1) := by decide +kernel
theorem dX2_digest_176 : decode cX2_digest 176 = .ok (.aload_n 0, 1) := by decide +kernel
theorem dX2_digest_177 : decode cX2_digest 177 = .ok (.iload 4, 2) := by decide +kernel
theorem dX2_digest_179 : decode cX2_digest 179 = .ok (.invokevirtual 140, 3) := by decide +kernel
theorem dX2_digest_182 : decode cX2_digest 182 = .ok (.iastore, 1) := by decide +kernel
theorem dX2_digest_183 : decode cX2_digest 183 = .ok (.dup, 1) := by decide +kernel
theorem dX2_digest_184 : decode cX2_digest 184 = .ok (.iconst 5, 1) := by decide +kernel
theorem dX2_digest_185 : decode cX2_digest 185 = .ok (.aload_n 0, 1) := by decide +kernel
theorem dX2_digest_186 : decode cX2_digest 186 = .ok (.iload 4, 2) := by decide +kernel
theorem dX2_digest_188 : decode cX2_digest 188 = .ok (.invokevirtual 146, 3) := by decide +kernel
theorem dX2_digest_191 : decode cX2_digest 191 = .ok (.iastore, 1) := by decide +kernel
theorem dX2_digest_192 : decode cX2_digest 192 = .ok (.astore 5, 2) := by decide +kernel
theorem dX2_digest_194 : decode cX2_digest 194 = .ok (.aload 5, 2) := by decide +kernel
theorem dX2_digest_196 : decode cX2_digest 196 = .ok (.astore 6, 2) := by decide +kernel
theorem dX2_digest_198 : decode cX2_digest 198 = .ok (.aload 6, 2) := by decide +kernel
theorem dX2_digest_200 : decode cX2_digest 200 = .ok (.arraylength, 1) := by decide +kernel
theorem dX2_digest_201 : decode cX2_digest 201 = .ok (.istore 7, 2) := by decide +kernel
theorem dX2_digest_203 : decode cX2_digest 203 = .ok (.iconst 0, 1) := by decide +kernel
theorem dX2_digest_204 : decode cX2_digest 204 = .ok (.istore 8, 2) := by decide +kernel
theorem dX2_digest_206 : decode cX2_digest 206 = .ok (.iload 8, 2) := by decide +kernel
theorem dX2_digest_208 : decode cX2_digest 208 = .ok (.iload 7, 2) := by decide +kernel
theorem dX2_digest_210 : decode cX2_digest 210 = .ok (.if_icmp .ge 26, 3) := by decide +kernel
theorem dX2_digest_213 : decode cX2_digest 213 = .ok (.aload 6, 2) := by decide +kernel
theorem dX2_digest_215 : decode cX2_digest 215 = .ok (.iload 8, 2) := by decide +kernel
theorem dX2_digest_217 : decode cX2_digest 217 = .ok (.iaload, 1) := by decide +kernel
theorem dX2_digest_218 : decode cX2_digest 218 = .ok (.istore 9, 2) := by decide +kernel
theorem dX2_digest_220 : decode cX2_digest 220 = .ok (.lload_n 2, 1) := by decide +kernel
theorem dX2_digest_221 : decode cX2_digest 221 = .ok (.ldc2_w 151, 3) := by decide +kernel
theorem dX2_digest_224 : decode cX2_digest 224 = .ok (.lmul, 1) := by decide +kernel
theorem dX2_digest_225 : decode cX2_digest 225 = .ok (.iload 9, 2) := by decide +kernel
theorem dX2_digest_227 : decode cX2_digest 227 = .ok (.i2l, 1) := by decide +kernel
theorem dX2_digest_228 : decode cX2_digest 228 = .ok (.ladd, 1) := by decide +kernel
theorem dX2_digest_229 : decode cX2_digest 229 = .ok (.lstore_n 2, 1) := by decide +kernel
theorem dX2_digest_230 : decode cX2_digest 230 = .ok (.iinc 8 1, 3) := by decide +kernel
theorem dX2_digest_233 : decode cX2_digest 233 = .ok (.goto (-27), 3) := by decide +kernel
theorem dX2_digest_236 : decode cX2_digest 236 = .ok (.iinc 4 1, 3) := by decide +kernel
theorem dX2_digest_239 : decode cX2_digest 239 = .ok (.goto (-115), 3) := by decide +kernel
theorem dX2_digest_242 : decode cX2_digest 242 = .ok (.iconst 0, 1) := by decide +kernel
theorem dX2_digest_243 : decode cX2_digest 243 = .ok (.istore 4, 2) := by decide +kernel
theorem dX2_digest_245 : decode cX2_digest 245 = .ok (.iload 4, 2) := by decide +kernel
theorem dX2_digest_247 : decode cX2_digest 247 = .ok (.aload_n 0, 1) := by decide +kernel
theorem dX2_digest_248 : decode cX2_digest 248 = .ok (.getfield 36, 3) := by decide +kernel
theorem dX2_digest_251 : decode cX2_digest 251 = .ok (.if_icmp .ge 134, 3) := by decide +kernel
theorem dX2_digest_254 : decode cX2_digest 254 = .ok (.bipush 8, 2) := by decide +kernel
theorem dX2_digest_256 : decode cX2_digest 256 = .ok (.newarray .int, 2) := by decide +kernel
theorem dX2_digest_258 : decode cX2_digest 258 = .ok (.dup, 1) := by decide +kernel
theorem dX2_digest_259 : decode cX2_digest 259 = .ok (.iconst 0, 1) := by decide +kernel
theorem dX2_digest_260 : decode cX2_digest 260 = .ok (.aload_n 0, 1) := by decide +kernel
theorem dX2_digest_261 : decode cX2_digest 261 = .ok (.iload 4, 2) := by decide +kernel
theorem dX2_digest_263 : decode cX2_digest 263 = .ok (.iconst 0, 1) := by decide +kernel
theorem dX2_digest_264 : decode cX2_digest 264 = .ok (.invokevirtual 45, 3) := by decide +kernel
theorem dX2_digest_267 : decode cX2_digest 267 = .ok (.iastore, 1) := by decide +kernel
theorem dX2_digest_268 : decode cX2_digest 268 = .ok (.dup, 1) := by decide +kernel
theorem dX2_digest_269 : decode cX2_digest 269 = .ok (.iconst 1, 1) := by decide +kernel
theorem dX2_digest_270 : decode cX2_digest 270 = .ok (.aload_n 0, 1) := by decide +kernel
theorem dX2_digest_271 : decode cX2_digest 271 = .ok (.iload 4, 2) := by decide +kernel
theorem dX2_digest_273 : decode cX2_digest 273 = .ok (.invokevirtual 119, 3) := by decide +kernel
theorem dX2_digest_276 : decode cX2_digest 276 = .ok (.iastore, 1) := by decide +kernel
theorem dX2_digest_277 : decode cX2_digest 277 = .ok (.dup, 1) := by decide +kernel
theorem dX2_digest_278 : decode cX2_digest 278 = .ok (.iconst 2, 1) := by decide +kernel
theorem dX2_digest_279 : decode cX2_digest 279 = .ok (.aload_n 0, 1) := by decide +kernel
theorem dX2_digest_280 : decode cX2_digest 280 = .ok (.iload 4, 2) := by decide +kernel
theorem dX2_digest_282 : decode cX2_digest 282 = .ok (.invokevirtual 103, 3) := by decide +kernel
theorem dX2_digest_285 : decode cX2_digest 285 = .ok (.iastore, 1) := by decide +kernel
theorem dX2_digest_286 : decode cX2_digest 286 = .ok (.dup, 1) := by decide +kernel
theorem dX2_digest_287 : decode cX2_digest 287 = .ok (.iconst 3, 1) := by decide +kernel
theorem dX2_digest_288 : decode cX2_digest 288 = .ok (.aload_n 0, 1) := by decide +kernel
theorem dX2_digest_289 : decode cX2_digest 289 = .ok (.iload 4, 2) := by decide +kernel
theorem dX2_digest_291 : decode cX2_digest 291 = .ok (.invokevirtual 63, 3) := by decide +kernel
theorem dX2_digest_294 : decode cX2_digest 294 = .ok (.iastore, 1) := by decide +kernel
theorem dX2_digest_295 : decode cX2_digest 295 = .ok (.dup, 1) := by decide +kernel
theorem dX2_digest_296 : decode cX2_digest 296 = .ok (.iconst 4, 1) := by decide +kernel
theorem dX2_digest_297 : decode cX2_digest 297 = .ok (.aload_n 0, 1) := by decide +kernel
theorem dX2_digest_298 : decode cX2_digest 298 = .ok (.iload 4, 2) := by decide +kernel
theorem dX2_digest_300 : decode cX2_digest 300 = .ok (.invokevirtual 122, 3) := by decide +kernel
theorem dX2_digest_303 : decode cX2_digest 303 = .ok (.iastore, 1) := by decide +kernel
theorem dX2_digest_304 : decode cX2_digest 304 = .ok (.dup, 1) := by decide +kernel
theorem dX2_digest_305 : decode cX2_digest 305 = .ok (.iconst 5, 1) := by decide +kernel
theorem dX2_digest_306 : decode cX2_digest 306 = .ok (.aload_n 0, 1) := by decide +kernel
theorem dX2_digest_307 : decode cX2_digest 307 = .ok (.iload 4, 2) := by decide +kernel
theorem dX2_digest_309 : decode cX2_digest 309 = .ok (.bipush 6, 2) := by decide +kernel
theorem dX2_digest_311 : decode cX2_digest 311 = .ok (.invokevirtual 45, 3) := by decide +kernel
theorem dX2_digest_314 : decode cX2_digest 314 = .ok (.iastore, 1) := by decide +kernel
theorem dX2_digest_315 : decode cX2_digest 315 = .ok (.dup, 1) := by decide +kernel
theorem dX2_digest_316 : decode cX2_digest 316 = .ok (.bipush 6, 2) := by decide +kernel
theorem dX2_digest_318 : decode cX2_digest 318 = .ok (.aload_n 0, 1) := by decide +kernel
theorem dX2_digest_319 : decode cX2_digest 319 = .ok (.iload 4, 2) := by decide +kernel
theorem dX2_digest_321 : decode cX2_digest 321 = .ok (.invokevirtual 125, 3) := by decide +kernel
theorem dX2_digest_324 : decode cX2_digest 324 = .ok (.iastore, 1) := by decide +kernel
theorem dX2_digest_325 : decode cX2_digest 325 = .ok (.dup, 1) := by decide +kernel
theorem dX2_digest_326 : decode cX2_digest 326 = .ok (.bipush 7, 2) := by decide +kernel
theorem dX2_digest_328 : decode cX2_digest 328 = .ok (.aload_n 0, 1) := by decide +kernel
theorem dX2_digest_329 : decode cX2_digest 329 = .ok (.iload 4, 2) := by decide +kernel
theorem dX2_digest_331 : decode cX2_digest 331 = .ok (.invokevirtual 134, 3) := by decide +kernel
theorem dX2_digest_334 : decode cX2_digest 334 = .ok (.iastore, 1) := by decide +kernel
theorem dX2_digest_335 : decode cX2_digest 335 = .ok (.astore 5, 2) := by decide +kernel
theorem dX2_digest_337 : decode cX2_digest 337 = .ok (.aload 5, 2) := by decide +kernel
theorem dX2_digest_339 : decode cX2_digest 339 = .ok (.astore 6, 2) := by decide +kernel
theorem dX2_digest_341 : decode cX2_digest 341 = .ok (.aload 6, 2) := by decide +kernel
theorem dX2_digest_343 : decode cX2_digest 343 = .ok (.arraylength, 1) := by decide +kernel
theorem dX2_digest_344 : decode cX2_digest 344 = .ok (.istore 7, 2) := by decide +kernel
theorem dX2_digest_346 : decode cX2_digest 346 = .ok (.iconst 0, 1) := by decide +kernel
theorem dX2_digest_347 : decode cX2_digest 347 = .ok (.istore 8, 2) := by decide +kernel
theorem dX2_digest_349 : decode cX2_digest 349 = .ok (.iload 8, 2) := by decide +kernel
theorem dX2_digest_351 : decode cX2_digest 351 = .ok (.iload 7, 2) := by decide +kernel
theorem dX2_digest_353 : decode cX2_digest 353 = .ok (.if_icmp .ge 26, 3) := by decide +kernel
theorem dX2_digest_356 : decode cX2_digest 356 = .ok (.aload 6, 2) := by decide +kernel
theorem dX2_digest_358 : decode cX2_digest 358 = .ok (.iload 8, 2) := by decide +kernel
theorem dX2_digest_360 : decode cX2_digest 360 = .ok (.iaload, 1) := by decide +kernel
theorem dX2_digest_361 : decode cX2_digest 361 = .ok (.istore 9, 2) := by decide +kernel
theorem dX2_digest_363 : decode cX2_digest 363 = .ok (.lload_n 2, 1) := by decide +kernel
theorem dX2_digest_364 : decode cX2_digest 364 = .ok (.ldc2_w 151, 3) := by decide +kernel
theorem dX2_digest_367 : decode cX2_digest 367 = .ok (.lmul, 1) := by decide +kernel
theorem dX2_digest_368 : decode cX2_digest 368 = .ok (.iload 9, 2) := by decide +kernel
theorem dX2_digest_370 : decode cX2_digest 370 = .ok (.i2l, 1) := by decide +kernel
theorem dX2_digest_371 : decode cX2_digest 371 = .ok (.ladd, 1) := by decide +kernel
theorem dX2_digest_372 : decode cX2_digest 372 = .ok (.lstore_n 2, 1) := by decide +kernel
theorem dX2_digest_373 : decode cX2_digest 373 = .ok (.iinc 8 1, 3) := by decide +kernel
theorem dX2_digest_376 : decode cX2_digest 376 = .ok (.goto (-27), 3) := by decide +kernel
theorem dX2_digest_379 : decode cX2_digest 379 = .ok (.iinc 4 1, 3) := by decide +kernel
theorem dX2_digest_382 : decode cX2_digest 382 = .ok (.goto (-137), 3) := by decide +kernel
theorem dX2_digest_385 : decode cX2_digest 385 = .ok (.lload_n 2, 1) := by decide +kernel
theorem dX2_digest_386 : decode cX2_digest 386 = .ok (.lreturn, 1) := by decide +kernel
set_option maxRecDepth 20000 in
theorem ggL_addGate_X1_addGate : GoodIn wsL_addGate wsX1_addGate := goodIn_ca (goodIn_ca (goodIn_r _ [7, 8, 9, 10, 11, 12, 13, 14, 15, 6, 16, 17, 18, 19, 20, 21, 22, 23, 24, 25, 26, 27, 28, 29, 30, 31, 32, 33, 34, 35, 36, 37, 38, 39, 40, 41, 42, 43] (by decide +kernel) (by decide +kernel)) (goodIn_sub (fun _ h => List.mem_cons_of_mem _ (List.mem_append_left _ (List.mem_append_right _ h))) (by decide +kernel))) (goodIn_sub (fun _ h => List.mem_cons_of_mem _ (List.mem_append_right _ h)) (by decide +kernel))
set_option maxRecDepth 20000 in
theorem gL_addGate_X1_addGate : GoodIn wsL_addGate (wsV RL 7 RX1 yX1_addGate wsX1_addGate) := goodIn_app (goodIn_of _ (by decide +kernel)) ggL_addGate_X1_addGate
