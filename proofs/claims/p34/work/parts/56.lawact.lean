theorem dL_below_0 : decode cL_below 0 = .ok (.iload_n 0, 1) := by decide +kernel
theorem dL_below_1 : decode cL_below 1 = .ok (.ldc 7, 2) := by decide +kernel
theorem dL_below_3 : decode cL_below 3 = .ok (.iand, 1) := by decide +kernel
theorem dL_below_4 : decode cL_below 4 = .ok (.iload_n 1, 1) := by decide +kernel
theorem dL_below_5 : decode cL_below 5 = .ok (.irem, 1) := by decide +kernel
theorem dL_below_6 : decode cL_below 6 = .ok (.ireturn, 1) := by decide +kernel
theorem dL_cell_0 : decode cL_cell 0 = .ok (.iload_n 1, 1) := by decide +kernel
theorem dL_cell_1 : decode cL_cell 1 = .ok (.aload_n 0, 1) := by decide +kernel
theorem dL_cell_2 : decode cL_cell 2 = .ok (.arraylength, 1) := by decide +kernel
theorem dL_cell_3 : decode cL_cell 3 = .ok (.if_icmp .ge 9, 3) := by decide +kernel
theorem dL_cell_6 : decode cL_cell 6 = .ok (.aload_n 0, 1) := by decide +kernel
theorem dL_cell_7 : decode cL_cell 7 = .ok (.iload_n 1, 1) := by decide +kernel
theorem dL_cell_8 : decode cL_cell 8 = .ok (.iaload, 1) := by decide +kernel
theorem dL_cell_9 : decode cL_cell 9 = .ok (.goto 9, 3) := by decide +kernel
theorem dL_cell_12 : decode cL_cell 12 = .ok (.ldc 8, 2) := by decide +kernel
theorem dL_cell_14 : decode cL_cell 14 = .ok (.iload_n 1, 1) := by decide +kernel
theorem dL_cell_15 : decode cL_cell 15 = .ok (.iconst 3, 1) := by decide +kernel
theorem dL_cell_16 : decode cL_cell 16 = .ok (.iadd, 1) := by decide +kernel
theorem dL_cell_17 : decode cL_cell 17 = .ok (.imul, 1) := by decide +kernel
theorem dL_cell_18 : decode cL_cell 18 = .ok (.ireturn, 1) := by decide +kernel
set_option maxRecDepth 20000 in
theorem ggL_act_L_below : GoodIn wsL_act wsL_below := goodIn_r _ [9, 10] (by decide +kernel) (by decide +kernel)
set_option maxRecDepth 20000 in
theorem gL_act_L_below : GoodIn wsL_act (va_wsS RL 18 yL_below wsL_below) := goodIn_app (goodIn_of _ (by decide +kernel)) ggL_act_L_below
set_option maxRecDepth 20000 in
theorem ggL_act_X2_with : GoodIn wsL_act wsX2_with := goodIn_r _ [14, 15] (by decide +kernel) (by decide +kernel)
set_option maxRecDepth 20000 in
theorem gL_act_X2_with : GoodIn wsL_act (va_wsS RL 24 yX2_with wsX2_with) := goodIn_app (goodIn_of _ (by decide +kernel)) ggL_act_X2_with
set_option maxRecDepth 20000 in
theorem ggL_act_X1_addGate : GoodIn wsL_act wsX1_addGate := goodIn_ca (goodIn_ca (goodIn_r _ [20, 21, 22, 23, 24, 25, 26, 27, 28, 19, 29, 30, 31, 32, 33, 34, 35, 36, 37, 197, 198, 199, 200, 201, 202, 203, 204, 205, 206, 207, 208, 209, 210, 211, 212, 213, 214, 215] (by decide +kernel) (by decide +kernel)) (goodIn_sub (fun _ h => List.mem_cons_of_mem _ (List.mem_append_left _ (List.mem_append_left _ (List.mem_append_right _ h)))) (by decide +kernel))) (goodIn_sub (fun _ h => List.mem_cons_of_mem _ (List.mem_append_left _ (List.mem_append_right _ h))) (by decide +kernel))
set_option maxRecDepth 20000 in
theorem gL_act_X1_addGate : GoodIn wsL_act (wsV RL 31 RX1 yX1_addGate wsX1_addGate) := goodIn_app (goodIn_of _ (by decide +kernel)) ggL_act_X1_addGate
set_option maxRecDepth 20000 in
theorem ggL_act_X1_addGoat : GoodIn wsL_act wsX1_addGoat := goodIn_ca (goodIn_ca (goodIn_r _ [41, 23, 24, 25, 42, 27, 28, 19, 29, 21, 22, 43, 44, 45, 33, 46, 47, 48, 49, 50, 51, 52, 53, 54, 55, 56, 197, 198, 199, 200, 201, 202, 203, 204, 205, 206, 207, 208, 209, 210, 211, 212, 213, 214, 215] (by decide +kernel) (by decide +kernel)) (goodIn_sub (fun _ h => List.mem_cons_of_mem _ (List.mem_append_left _ (List.mem_append_right _ h))) (by decide +kernel))) (goodIn_sub (fun _ h => List.mem_cons_of_mem _ (List.mem_append_left _ (List.mem_append_left _ (List.mem_append_right _ h)))) (by decide +kernel))
set_option maxRecDepth 20000 in
theorem gL_act_X1_addGoat : GoodIn wsL_act (wsV RL 36 RX1 yX1_addGoat wsX1_addGoat) := goodIn_app (goodIn_of _ (by decide +kernel)) ggL_act_X1_addGoat
set_option maxRecDepth 20000 in
theorem ggL_act_X2_ask : GoodIn wsL_act wsX2_ask := goodIn_r _ [60, 61, 62, 63, 64, 13, 65, 4, 191, 192, 193, 194, 195, 196] (by decide +kernel) (by decide +kernel)
set_option maxRecDepth 20000 in
theorem gL_act_X2_ask : GoodIn wsL_act (wsV RL 40 RX2 yX2_ask wsX2_ask) := goodIn_app (goodIn_of _ (by decide +kernel)) ggL_act_X2_ask
set_option maxRecDepth 20000 in
theorem ggL_act_X1_ask : GoodIn wsL_act wsX1_ask := goodIn_ca (goodIn_ca (goodIn_ca (goodIn_r _ [69, 25, 70, 71, 72, 73, 19, 74, 75, 76, 42, 77, 78, 79, 80, 26, 27, 28, 29, 21, 22, 81, 82, 83, 84, 23, 24, 85, 86, 87, 88, 33, 89, 53, 54, 90, 91, 55, 92, 93, 94, 95, 96, 97, 47, 98, 99, 100, 101, 197, 198, 199, 200, 201, 202, 203, 204, 205, 206, 207, 208, 209, 210, 211, 212, 213, 214, 215] (by decide +kernel) (by decide +kernel)) (goodIn_sub (fun _ h => List.mem_cons_of_mem _ (List.mem_append_right _ h)) (by decide +kernel))) (goodIn_sub (fun _ h => List.mem_cons_of_mem _ (List.mem_append_left _ (List.mem_append_left _ (List.mem_append_right _ h)))) (by decide +kernel))) (goodIn_sub (fun _ h => List.mem_cons_of_mem _ (List.mem_append_left _ (List.mem_append_right _ h))) (by decide +kernel))
set_option maxRecDepth 20000 in
theorem gL_act_X1_ask : GoodIn wsL_act (wsV RL 44 RX1 yX1_ask wsX1_ask) := goodIn_app (goodIn_of _ (by decide +kernel)) ggL_act_X1_ask
set_option maxRecDepth 20000 in
theorem ggL_act_X2_free : GoodIn wsL_act wsX2_free := goodIn_r _ [105, 106, 61, 191, 192, 193, 194, 195, 196] (by decide +kernel) (by decide +kernel)
set_option maxRecDepth 20000 in
theorem gL_act_X2_free : GoodIn wsL_act (wsV RL 47 RX2 yX2_free wsX2_free) := goodIn_app (goodIn_of _ (by decide +kernel)) ggL_act_X2_free
set_option maxRecDepth 20000 in
theorem ggL_act_X1_barge : GoodIn wsL_act wsX1_barge := goodIn_ca (goodIn_ca (goodIn_ca (goodIn_r _ [110, 23, 24, 25, 70, 71, 72, 73, 19, 74, 75, 76, 42, 77, 78, 79, 80, 26, 27, 28, 29, 21, 22, 81, 82, 83, 84, 85, 111, 112, 113, 33, 114, 36, 47, 53, 54, 90, 115, 116, 117, 118, 55, 56, 197, 198, 199, 200, 201, 202, 203, 204, 205, 206, 207, 208, 209, 210, 211, 212, 213, 214, 215] (by decide +kernel) (by decide +kernel)) (goodIn_sub (fun _ h => List.mem_cons_of_mem _ (List.mem_append_left _ (List.mem_append_right _ h))) (by decide +kernel))) (goodIn_sub (fun _ h => List.mem_cons_of_mem _ (List.mem_append_right _ h)) (by decide +kernel))) (goodIn_sub (fun _ h => List.mem_cons_of_mem _ (List.mem_append_left _ (List.mem_append_left _ (List.mem_append_right _ h)))) (by decide +kernel))
set_option maxRecDepth 20000 in
theorem gL_act_X1_barge : GoodIn wsL_act (wsV RL 50 RX1 yX1_barge wsX1_barge) := goodIn_app (goodIn_of _ (by decide +kernel)) ggL_act_X1_barge
set_option maxRecDepth 20000 in
theorem ggL_act_X2_callBack : GoodIn wsL_act wsX2_callBack := goodIn_r _ [122, 61, 62, 123, 124, 13, 125, 4, 63, 64, 65, 191, 192, 193, 194, 195, 196] (by decide +kernel) (by decide +kernel)
set_option maxRecDepth 20000 in
theorem gL_act_X2_callBack : GoodIn wsL_act (wsV RL 54 RX2 yX2_callBack wsX2_callBack) := goodIn_app (goodIn_of _ (by decide +kernel)) ggL_act_X2_callBack
set_option maxRecDepth 20000 in
theorem ggL_act_X1_callBack : GoodIn wsL_act wsX1_callBack := goodIn_ca (goodIn_ca (goodIn_r _ [129, 23, 24, 25, 85, 71, 72, 73, 19, 74, 75, 76, 42, 130, 131, 132, 33, 133, 53, 90, 134, 50, 51, 52, 54, 55, 56, 197, 198, 199, 200, 201, 202, 203, 204, 205, 206, 207, 208, 209, 210, 211, 212, 213, 214, 215] (by decide +kernel) (by decide +kernel)) (goodIn_sub (fun _ h => List.mem_cons_of_mem _ (List.mem_append_left _ (List.mem_append_right _ h))) (by decide +kernel))) (goodIn_sub (fun _ h => List.mem_cons_of_mem _ (List.mem_append_right _ h)) (by decide +kernel))
set_option maxRecDepth 20000 in
theorem gL_act_X1_callBack : GoodIn wsL_act (wsV RL 57 RX1 yX1_callBack wsX1_callBack) := goodIn_app (goodIn_of _ (by decide +kernel)) ggL_act_X1_callBack
set_option maxRecDepth 20000 in
theorem ggL_act_X1_pass : GoodIn wsL_act wsX1_pass := goodIn_ca (goodIn_r _ [138, 25, 139, 27, 28, 19, 29, 21, 22, 140, 141, 142, 33, 143, 35, 144, 145, 146, 147, 148, 47, 53, 55, 49, 50, 51, 52, 54, 56, 149, 150, 151, 152, 90, 91, 153, 154, 155, 156, 157, 37, 92, 158, 112, 113, 114, 36, 98, 99, 100, 101, 159, 160, 161, 162, 48, 163, 116, 117, 118, 164, 165, 166, 167, 168, 169, 197, 198, 199, 200, 201, 202, 203, 204, 205, 206, 207, 208, 209, 210, 211, 212, 213, 214, 215] (by decide +kernel) (by decide +kernel)) (goodIn_sub (fun _ h => List.mem_cons_of_mem _ (List.mem_append_left _ (List.mem_append_left _ (List.mem_append_right _ h)))) (by decide +kernel))
set_option maxRecDepth 20000 in
theorem gL_act_X1_pass : GoodIn wsL_act (wsV RL 58 RX1 yX1_pass wsX1_pass) := goodIn_app (goodIn_of _ (by decide +kernel)) ggL_act_X1_pass
set_option maxRecDepth 20000 in
theorem ggL_act_X2_pass_ : GoodIn wsL_act wsX2_pass_ := goodIn_r _ [173, 174, 175, 176, 13, 177, 178, 61, 106, 62, 179, 180, 181, 182, 183, 184, 185, 103, 104, 105, 186, 187, 188, 189, 123, 124, 125, 4, 63, 64, 65, 190, 120, 121, 122, 191, 192, 193, 194, 195, 196] (by decide +kernel) (by decide +kernel)
set_option maxRecDepth 20000 in
theorem gL_act_X2_pass_ : GoodIn wsL_act (wsV RL 61 RX2 yX2_pass_ wsX2_pass_) := goodIn_app (goodIn_of _ (by decide +kernel)) ggL_act_X2_pass_
theorem dL_act_0 : decode cL_act 0 = .ok (.aload_n 1, 1) := by decide +kernel
theorem dL_act_1 : decode cL_act 1 = .ok (.getfield 9, 3) := by decide +kernel
theorem dL_act_4 : decode cL_act 4 = .ok (.arraylength, 1) := by decide +kernel
theorem dL_act_5 : decode cL_act 5 = .ok (.istore_n 3, 1) := by decide +kernel
theorem dL_act_6 : decode cL_act 6 = .ok (.aload_n 1, 1) := by decide +kernel
theorem dL_act_7 : decode cL_act 7 = .ok (.getfield 15, 3) := by decide +kernel
theorem dL_act_10 : decode cL_act 10 = .ok (.arraylength, 1) := by decide +kernel
theorem dL_act_11 : decode cL_act 11 = .ok (.istore 4, 2) := by decide +kernel
theorem dL_act_13 : decode cL_act 13 = .ok (.iconst 1, 1) := by decide +kernel
theorem dL_act_14 : decode cL_act 14 = .ok (.istore 5, 2) := by decide +kernel
theorem dL_act_16 : decode cL_act 16 = .ok (.iload 4, 2) := by decide +kernel
theorem dL_act_18 : decode cL_act 18 = .ok (.ifCond .eq 12, 3) := by decide +kernel
theorem dL_act_21 : decode cL_act 21 = .ok (.iload_n 2, 1) := by decide +kernel
theorem dL_act_22 : decode cL_act 22 = .ok (.bipush 18, 2) := by decide +kernel
theorem dL_act_24 : decode cL_act 24 = .ok (.invokestatic 18, 3) := by decide +kernel
theorem dL_act_27 : decode cL_act 27 = .ok (.ifCond .ne 105, 3) := by decide +kernel
theorem dL_act_30 : decode cL_act 30 = .ok (.iconst 2, 1) := by decide +kernel
theorem dL_act_31 : decode cL_act 31 = .ok (.newarray .int, 2) := by decide +kernel
theorem dL_act_33 : decode cL_act 33 = .ok (.dup, 1) := by decide +kernel
theorem dL_act_34 : decode cL_act 34 = .ok (.iconst 0, 1) := by decide +kernel
theorem dL_act_35 : decode cL_act 35 = .ok (.iconst 1, 1) := by decide +kernel
theorem dL_act_36 : decode cL_act 36 = .ok (.iload_n 2, 1) := by decide +kernel
theorem dL_act_37 : decode cL_act 37 = .ok (.iconst 4, 1) := by decide +kernel
theorem dL_act_38 : decode cL_act 38 = .ok (.ishr, 1) := by decide +kernel
theorem dL_act_39 : decode cL_act 39 = .ok (.bipush 9, 2) := by decide +kernel
theorem dL_act_41 : decode cL_act 41 = .ok (.invokestatic 18, 3) := by decide +kernel
theorem dL_act_44 : decode cL_act 44 = .ok (.iadd, 1) := by decide +kernel
theorem dL_act_45 : decode cL_act 45 = .ok (.iastore, 1) := by decide +kernel
theorem dL_act_46 : decode cL_act 46 = .ok (.dup, 1) := by decide +kernel
theorem dL_act_47 : decode cL_act 47 = .ok (.iconst 1, 1) := by decide +kernel
theorem dL_act_48 : decode cL_act 48 = .ok (.iload_n 2, 1) := by decide +kernel
theorem dL_act_49 : decode cL_act 49 = .ok (.bipush 6, 2) := by decide +kernel
theorem dL_act_51 : decode cL_act 51 = .ok (.ishr, 1) := by decide +kernel
theorem dL_act_52 : decode cL_act 52 = .ok (.iconst 2, 1) := by decide +kernel
theorem dL_act_53 : decode cL_act 53 = .ok (.invokestatic 18, 3) := by decide +kernel
theorem dL_act_56 : decode cL_act 56 = .ok (.iastore, 1) := by decide +kernel
theorem dL_act_57 : decode cL_act 57 = .ok (.astore 6, 2) := by decide +kernel
theorem dL_act_59 : decode cL_act 59 = .ok (.iload 4, 2) := by decide +kernel
theorem dL_act_61 : decode cL_act 61 = .ok (.iconst 4, 1) := by decide +kernel
theorem dL_act_62 : decode cL_act 62 = .ok (.if_icmp .ge 7, 3) := by decide +kernel
theorem dL_act_65 : decode cL_act 65 = .ok (.iconst 1, 1) := by decide +kernel
theorem dL_act_66 : decode cL_act 66 = .ok (.goto 4, 3) := by decide +kernel
theorem dL_act_69 : decode cL_act 69 = .ok (.iconst 0, 1) := by decide +kernel
theorem dL_act_70 : decode cL_act 70 = .ok (.istore 5, 2) := by decide +kernel
theorem dL_act_72 : decode cL_act 72 = .ok (.iload 5, 2) := by decide +kernel
theorem dL_act_74 : decode cL_act 74 = .ok (.ifCond .eq 30, 3) := by decide +kernel
theorem dL_act_77 : decode cL_act 77 = .ok (.aload_n 1, 1) := by decide +kernel
theorem dL_act_78 : decode cL_act 78 = .ok (.aload_n 1, 1) := by decide +kernel
theorem dL_act_79 : decode cL_act 79 = .ok (.getfield 15, 3) := by decide +kernel
theorem dL_act_82 : decode cL_act 82 = .ok (.aload 6, 2) := by decide +kernel
theorem dL_act_84 : decode cL_act 84 = .ok (.invokestatic 24, 3) := by decide +kernel
theorem dL_act_87 : decode cL_act 87 = .ok (.putfield 15, 3) := by decide +kernel
theorem dL_act_90 : decode cL_act 90 = .ok (.aload_n 1, 1) := by decide +kernel
theorem dL_act_91 : decode cL_act 91 = .ok (.aload_n 1, 1) := by decide +kernel
theorem dL_act_92 : decode cL_act 92 = .ok (.getfield 28, 3) := by decide +kernel
theorem dL_act_95 : decode cL_act 95 = .ok (.iconst 0, 1) := by decide +kernel
theorem dL_act_96 : decode cL_act 96 = .ok (.newarray .int, 2) := by decide +kernel
theorem dL_act_98 : decode cL_act 98 = .ok (.invokestatic 24, 3) := by decide +kernel
theorem dL_act_101 : decode cL_act 101 = .ok (.putfield 28, 3) := by decide +kernel
theorem dL_act_104 : decode cL_act 104 = .ok (.aload_n 0, 1) := by decide +kernel
theorem dL_act_105 : decode cL_act 105 = .ok (.aload 6, 2) := by decide +kernel
theorem dL_act_107 : decode cL_act 107 = .ok (.iconst 0, 1) := by decide +kernel
theorem dL_act_108 : decode cL_act 108 = .ok (.iaload, 1) := by decide +kernel
theorem dL_act_109 : decode cL_act 109 = .ok (.aload 6, 2) := by decide +kernel
theorem dL_act_111 : decode cL_act 111 = .ok (.iconst 1, 1) := by decide +kernel
theorem dL_act_112 : decode cL_act 112 = .ok (.iaload, 1) := by decide +kernel
theorem dL_act_113 : decode cL_act 113 = .ok (.invokevirtual 31, 3) := by decide +kernel
theorem dL_act_116 : decode cL_act 116 = .ok (.iload 4, 2) := by decide +kernel
theorem dL_act_118 : decode cL_act 118 = .ok (.if_icmp .ne 12, 3) := by decide +kernel
theorem dL_act_121 : decode cL_act 121 = .ok (.iload 5, 2) := by decide +kernel
theorem dL_act_123 : decode cL_act 123 = .ok (.ifCond .eq 7, 3) := by decide +kernel
theorem dL_act_126 : decode cL_act 126 = .ok (.iconst 1, 1) := by decide +kernel
theorem dL_act_127 : decode cL_act 127 = .ok (.goto 4, 3) := by decide +kernel
theorem dL_act_130 : decode cL_act 130 = .ok (.iconst 0, 1) := by decide +kernel
theorem dL_act_131 : decode cL_act 131 = .ok (.ireturn, 1) := by decide +kernel
theorem dL_act_132 : decode cL_act 132 = .ok (.iload_n 3, 1) := by decide +kernel
theorem dL_act_133 : decode cL_act 133 = .ok (.ifCond .eq 13, 3) := by decide +kernel
theorem dL_act_136 : decode cL_act 136 = .ok (.iload_n 2, 1) := by decide +kernel
theorem dL_act_137 : decode cL_act 137 = .ok (.bipush 18, 2) := by decide +kernel
theorem dL_act_139 : decode cL_act 139 = .ok (.invokestatic 18, 3) := by decide +kernel
theorem dL_act_142 : decode cL_act 142 = .ok (.iconst 1, 1) := by decide +kernel
theorem dL_act_143 : decode cL_act 143 = .ok (.if_icmp .ne 104, 3) := by decide +kernel
theorem dL_act_146 : decode cL_act 146 = .ok (.iconst 1, 1) := by decide +kernel
theorem dL_act_147 : decode cL_act 147 = .ok (.iload_n 2, 1) := by decide +kernel
theorem dL_act_148 : decode cL_act 148 = .ok (.iconst 4, 1) := by decide +kernel
theorem dL_act_149 : decode cL_act 149 = .ok (.ishr, 1) := by decide +kernel
theorem dL_act_150 : decode cL_act 150 = .ok (.bipush 9, 2) := by decide +kernel
theorem dL_act_152 : decode cL_act 152 = .ok (.invokestatic 18, 3) := by decide +kernel
theorem dL_act_155 : decode cL_act 155 = .ok (.iadd, 1) := by decide +kernel
theorem dL_act_156 : decode cL_act 156 = .ok (.istore 6, 2) := by decide +kernel
theorem dL_act_158 : decode cL_act 158 = .ok (.iload_n 3, 1) := by decide +kernel
theorem dL_act_159 : decode cL_act 159 = .ok (.bipush 12, 2) := by decide +kernel
theorem dL_act_161 : decode cL_act 161 = .ok (.if_icmp .ge 7, 3) := by decide +kernel
theorem dL_act_164 : decode cL_act 164 = .ok (.iconst 1, 1) := by decide +kernel
theorem dL_act_165 : decode cL_act 165 = .ok (.goto 4, 3) := by decide +kernel
theorem dL_act_168 : decode cL_act 168 = .ok (.iconst 0, 1) := by decide +kernel
theorem dL_act_169 : decode cL_act 169 = .ok (.istore 5, 2) := by decide +kernel
theorem dL_act_171 : decode cL_act 171 = .ok (.iload 5, 2) := by decide +kernel
theorem dL_act_173 : decode cL_act 173 = .ok (.ifCond .eq 53, 3) := by decide +kernel
theorem dL_act_176 : decode cL_act 176 = .ok (.aload_n 1, 1) := by decide +kernel
theorem dL_act_177 : decode cL_act 177 = .ok (.aload_n 1, 1) := by decide +kernel
theorem dL_act_178 : decode cL_act 178 = .ok (.getfield 9, 3) := by decide +kernel
theorem dL_act_181 : decode cL_act 181 = .ok (.bipush 8, 2) := by decide +kernel
theorem dL_act_183 : decode cL_act 183 = .ok (.newarray .int, 2) := by decide +kernel
theorem dL_act_185 : decode cL_act 185 = .ok (.dup, 1) := by decide +kernel
theorem dL_act_186 : decode cL_act 186 = .ok (.iconst 0, 1) := by decide +kernel
theorem dL_act_187 : decode cL_act 187 = .ok (.iload 6, 2) := by decide +kernel
theorem dL_act_189 : decode cL_act 189 = .ok (.iastore, 1) := by decide +kernel
theorem dL_act_190 : decode cL_act 190 = .ok (.dup, 1) := by decide +kernel
theorem dL_act_191 : decode cL_act 191 = .ok (.iconst 1, 1) := by decide +kernel
theorem dL_act_192 : decode cL_act 192 = .ok (.iconst 0, 1) := by decide +kernel
theorem dL_act_193 : decode cL_act 193 = .ok (.iastore, 1) := by decide +kernel
theorem dL_act_194 : decode cL_act 194 = .ok (.dup, 1) := by decide +kernel
theorem dL_act_195 : decode cL_act 195 = .ok (.iconst 2, 1) := by decide +kernel
theorem dL_act_196 : decode cL_act 196 = .ok (.iconst 0, 1) := by decide +kernel
theorem dL_act_197 : decode cL_act 197 = .ok (.iastore, 1) := by decide +kernel
theorem dL_act_198 : decode cL_act 198 = .ok (.dup, 1) := by decide +kernel
theorem dL_act_199 : decode cL_act 199 = .ok (.iconst 3, 1) := by decide +kernel
theorem dL_act_200 : decode cL_act 200 = .ok (.iconst 0, 1) := by decide +kernel
theorem dL_act_201 : decode cL_act 201 = .ok (.iastore, 1) := by decide +kernel
theorem dL_act_202 : decode cL_act 202 = .ok (.dup, 1) := by decide +kernel
theorem dL_act_203 : decode cL_act 203 = .ok (.iconst 4, 1) := by decide +kernel
theorem dL_act_204 : decode cL_act 204 = .ok (.iconst 0, 1) := by decide +kernel
theorem dL_act_205 : decode cL_act 205 = .ok (.iastore, 1) := by decide +kernel
theorem dL_act_206 : decode cL_act 206 = .ok (.dup, 1) := by decide +kernel
theorem dL_act_207 : decode cL_act 207 = .ok (.iconst 5, 1) := by decide +kernel
theorem dL_act_208 : decode cL_act 208 = .ok (.iconst 0, 1) := by decide +kernel
theorem dL_act_209 : decode cL_act 209 = .ok (.iastore, 1) := by decide +kernel
theorem dL_act_210 : decode cL_act 210 = .ok (.dup, 1) := by decide +kernel
theorem dL_act_211 : decode cL_act 211 = .ok (.bipush 6, 2) := by decide +kernel
theorem dL_act_213 : decode cL_act 213 = .ok (.iconst 0, 1) := by decide +kernel
theorem dL_act_214 : decode cL_act 214 = .ok (.iastore, 1) := by decide +kernel
theorem dL_act_215 : decode cL_act 215 = .ok (.dup, 1) := by decide +kernel
theorem dL_act_216 : decode cL_act 216 = .ok (.bipush 7, 2) := by decide +kernel
theorem dL_act_218 : decode cL_act 218 = .ok (.iconst 0, 1) := by decide +kernel
theorem dL_act_219 : decode cL_act 219 = .ok (.iastore, 1) := by decide +kernel
theorem dL_act_220 : decode cL_act 220 = .ok (.invokestatic 24, 3) := by decide +kernel
theorem dL_act_223 : decode cL_act 223 = .ok (.putfield 9, 3) := by decide +kernel
theorem dL_act_226 : decode cL_act 226 = .ok (.aload_n 0, 1) := by decide +kernel
theorem dL_act_227 : decode cL_act 227 = .ok (.iload 6, 2) := by decide +kernel
theorem dL_act_229 : decode cL_act 229 = .ok (.invokevirtual 36, 3) := by decide +kernel
theorem dL_act_232 : decode cL_act 232 = .ok (.iload_n 3, 1) := by decide +kernel
theorem dL_act_233 : decode cL_act 233 = .ok (.if_icmp .ne 12, 3) := by decide +kernel
theorem dL_act_236 : decode cL_act 236 = .ok (.iload 5, 2) := by decide +kernel
theorem dL_act_238 : decode cL_act 238 = .ok (.ifCond .eq 7, 3) := by decide +kernel
theorem dL_act_241 : decode cL_act 241 = .ok (.iconst 1, 1) := by decide +kernel
theorem dL_act_242 : decode cL_act 242 = .ok (.goto 4, 3) := by decide +kernel
theorem dL_act_245 : decode cL_act 245 = .ok (.iconst 0, 1) := by decide +kernel
theorem dL_act_246 : decode cL_act 246 = .ok (.ireturn, 1) := by decide +kernel
theorem dL_act_247 : decode cL_act 247 = .ok (.iload_n 2, 1) := by decide +kernel
theorem dL_act_248 : decode cL_act 248 = .ok (.iconst 3, 1) := by decide +kernel
theorem dL_act_249 : decode cL_act 249 = .ok (.ishr, 1) := by decide +kernel
theorem dL_act_250 : decode cL_act 250 = .ok (.iload_n 3, 1) := by decide +kernel
theorem dL_act_251 : decode cL_act 251 = .ok (.invokestatic 18, 3) := by decide +kernel
theorem dL_act_254 : decode cL_act 254 = .ok (.istore 6, 2) := by decide +kernel
theorem dL_act_256 : decode cL_act 256 = .ok (.iload_n 2, 1) := by decide +kernel
theorem dL_act_257 : decode cL_act 257 = .ok (.iconst 5, 1) := by decide +kernel
theorem dL_act_258 : decode cL_act 258 = .ok (.ishr, 1) := by decide +kernel
theorem dL_act_259 : decode cL_act 259 = .ok (.iload 4, 2) := by decide +kernel
theorem dL_act_261 : decode cL_act 261 = .ok (.invokestatic 18, 3) := by decide +kernel
theorem dL_act_264 : decode cL_act 264 = .ok (.istore 7, 2) := by decide +kernel
theorem dL_act_266 : decode cL_act 266 = .ok (.aload_n 1, 1) := by decide +kernel
theorem dL_act_267 : decode cL_act 267 = .ok (.getfield 9, 3) := by decide +kernel
theorem dL_act_270 : decode cL_act 270 = .ok (.iload 6, 2) := by decide +kernel
theorem dL_act_272 : decode cL_act 272 = .ok (.aaload, 1) := by decide +kernel
theorem dL_act_273 : decode cL_act 273 = .ok (.astore 8, 2) := by decide +kernel
theorem dL_act_275 : decode cL_act 275 = .ok (.iconst 1, 1) := by decide +kernel
theorem dL_act_276 : decode cL_act 276 = .ok (.iload_n 2, 1) := by decide +kernel
theorem dL_act_277 : decode cL_act 277 = .ok (.bipush 6, 2) := by decide +kernel
theorem dL_act_279 : decode cL_act 279 = .ok (.ishr, 1) := by decide +kernel
theorem dL_act_280 : decode cL_act 280 = .ok (.aload_n 1, 1) := by decide +kernel
theorem dL_act_281 : decode cL_act 281 = .ok (.getfield 15, 3) := by decide +kernel
theorem dL_act_284 : decode cL_act 284 = .ok (.iload 7, 2) := by decide +kernel
theorem dL_act_286 : decode cL_act 286 = .ok (.aaload, 1) := by decide +kernel
theorem dL_act_287 : decode cL_act 287 = .ok (.iconst 0, 1) := by decide +kernel
theorem dL_act_288 : decode cL_act 288 = .ok (.iaload, 1) := by decide +kernel
theorem dL_act_289 : decode cL_act 289 = .ok (.invokestatic 18, 3) := by decide +kernel
theorem dL_act_292 : decode cL_act 292 = .ok (.iadd, 1) := by decide +kernel
theorem dL_act_293 : decode cL_act 293 = .ok (.istore 9, 2) := by decide +kernel
theorem dL_act_295 : decode cL_act 295 = .ok (.iconst 1, 1) := by decide +kernel
theorem dL_act_296 : decode cL_act 296 = .ok (.iload_n 2, 1) := by decide +kernel
theorem dL_act_297 : decode cL_act 297 = .ok (.iconst 4, 1) := by decide +kernel
theorem dL_act_298 : decode cL_act 298 = .ok (.ishr, 1) := by decide +kernel
theorem dL_act_299 : decode cL_act 299 = .ok (.iload_n 2, 1) := by decide +kernel
theorem dL_act_300 : decode cL_act 300 = .ok (.bipush 8, 2) := by decide +kernel
theorem dL_act_302 : decode cL_act 302 = .ok (.ishr, 1) := by decide +kernel
theorem dL_act_303 : decode cL_act 303 = .ok (.iconst 2, 1) := by decide +kernel
theorem dL_act_304 : decode cL_act 304 = .ok (.invokestatic 18, 3) := by decide +kernel
theorem dL_act_307 : decode cL_act 307 = .ok (.ifCond .ne 8, 3) := by decide +kernel
theorem dL_act_310 : decode cL_act 310 = .ok (.bipush 30, 2) := by decide +kernel
theorem dL_act_312 : decode cL_act 312 = .ok (.goto 5, 3) := by decide +kernel
theorem dL_act_315 : decode cL_act 315 = .ok (.bipush 6, 2) := by decide +kernel
theorem dL_act_317 : decode cL_act 317 = .ok (.invokestatic 18, 3) := by decide +kernel
theorem dL_act_320 : decode cL_act 320 = .ok (.iadd, 1) := by decide +kernel
theorem dL_act_321 : decode cL_act 321 = .ok (.istore 10, 2) := by decide +kernel
theorem dL_act_323 : decode cL_act 323 = .ok (.iload_n 2, 1) := by decide +kernel
theorem dL_act_324 : decode cL_act 324 = .ok (.bipush 18, 2) := by decide +kernel
theorem dL_act_326 : decode cL_act 326 = .ok (.invokestatic 18, 3) := by decide +kernel
theorem dL_act_329 : decode cL_act 329 = .ok (.tableswitch 287 2 10 #[51, 51, 51, 51, 51, 51, 51, 149, 234], 51) := by decide +kernel
theorem dL_act_380 : decode cL_act 380 = .ok (.iconst 1, 1) := by decide +kernel
theorem dL_act_381 : decode cL_act 381 = .ok (.iload_n 2, 1) := by decide +kernel
theorem dL_act_382 : decode cL_act 382 = .ok (.bipush 7, 2) := by decide +kernel
theorem dL_act_384 : decode cL_act 384 = .ok (.ishr, 1) := by decide +kernel
theorem dL_act_385 : decode cL_act 385 = .ok (.iload_n 2, 1) := by decide +kernel
theorem dL_act_386 : decode cL_act 386 = .ok (.bipush 9, 2) := by decide +kernel
theorem dL_act_388 : decode cL_act 388 = .ok (.ishr, 1) := by decide +kernel
theorem dL_act_389 : decode cL_act 389 = .ok (.iconst 2, 1) := by decide +kernel
theorem dL_act_390 : decode cL_act 390 = .ok (.invokestatic 18, 3) := by decide +kernel
theorem dL_act_393 : decode cL_act 393 = .ok (.ifCond .ne 8, 3) := by decide +kernel
theorem dL_act_396 : decode cL_act 396 = .ok (.bipush 60, 2) := by decide +kernel
theorem dL_act_398 : decode cL_act 398 = .ok (.goto 5, 3) := by decide +kernel
theorem dL_act_401 : decode cL_act 401 = .ok (.bipush 12, 2) := by decide +kernel
theorem dL_act_403 : decode cL_act 403 = .ok (.invokestatic 18, 3) := by decide +kernel
theorem dL_act_406 : decode cL_act 406 = .ok (.iadd, 1) := by decide +kernel
theorem dL_act_407 : decode cL_act 407 = .ok (.istore 11, 2) := by decide +kernel
theorem dL_act_409 : decode cL_act 409 = .ok (.aload 8, 2) := by decide +kernel
theorem dL_act_411 : decode cL_act 411 = .ok (.iconst 1, 1) := by decide +kernel
theorem dL_act_412 : decode cL_act 412 = .ok (.iaload, 1) := by decide +kernel
theorem dL_act_413 : decode cL_act 413 = .ok (.ifCond .ne 7, 3) := by decide +kernel
theorem dL_act_416 : decode cL_act 416 = .ok (.iconst 1, 1) := by decide +kernel
theorem dL_act_417 : decode cL_act 417 = .ok (.goto 4, 3) := by decide +kernel
theorem dL_act_420 : decode cL_act 420 = .ok (.iconst 0, 1) := by decide +kernel
theorem dL_act_421 : decode cL_act 421 = .ok (.istore 5, 2) := by decide +kernel
theorem dL_act_423 : decode cL_act 423 = .ok (.iload 5, 2) := by decide +kernel
theorem dL_act_425 : decode cL_act 425 = .ok (.ifCond .eq 17, 3) := by decide +kernel
theorem dL_act_428 : decode cL_act 428 = .ok (.aload_n 1, 1) := by decide +kernel
theorem dL_act_429 : decode cL_act 429 = .ok (.iload 6, 2) := by decide +kernel
theorem dL_act_431 : decode cL_act 431 = .ok (.iload 7, 2) := by decide +kernel
theorem dL_act_433 : decode cL_act 433 = .ok (.iload 9, 2) := by decide +kernel
theorem dL_act_435 : decode cL_act 435 = .ok (.iload 10, 2) := by decide +kernel
theorem dL_act_437 : decode cL_act 437 = .ok (.iload 11, 2) := by decide +kernel
theorem dL_act_439 : decode cL_act 439 = .ok (.invokevirtual 40, 3) := by decide +kernel
theorem dL_act_442 : decode cL_act 442 = .ok (.aload_n 0, 1) := by decide +kernel
theorem dL_act_443 : decode cL_act 443 = .ok (.iload 6, 2) := by decide +kernel
theorem dL_act_445 : decode cL_act 445 = .ok (.iload 7, 2) := by decide +kernel
theorem dL_act_447 : decode cL_act 447 = .ok (.iload 9, 2) := by decide +kernel
theorem dL_act_449 : decode cL_act 449 = .ok (.iload 10, 2) := by decide +kernel
theorem dL_act_451 : decode cL_act 451 = .ok (.iload 11, 2) := by decide +kernel
theorem dL_act_453 : decode cL_act 453 = .ok (.invokevirtual 44, 3) := by decide +kernel
theorem dL_act_456 : decode cL_act 456 = .ok (.aload_n 1, 1) := by decide +kernel
theorem dL_act_457 : decode cL_act 457 = .ok (.getfield 28, 3) := by decide +kernel
theorem dL_act_460 : decode cL_act 460 = .ok (.iload 7, 2) := by decide +kernel
theorem dL_act_462 : decode cL_act 462 = .ok (.aaload, 1) := by decide +kernel
theorem dL_act_463 : decode cL_act 463 = .ok (.arraylength, 1) := by decide +kernel
theorem dL_act_464 : decode cL_act 464 = .ok (.if_icmp .ne 12, 3) := by decide +kernel
theorem dL_act_467 : decode cL_act 467 = .ok (.iload 5, 2) := by decide +kernel
theorem dL_act_469 : decode cL_act 469 = .ok (.ifCond .eq 7, 3) := by decide +kernel
theorem dL_act_472 : decode cL_act 472 = .ok (.iconst 1, 1) := by decide +kernel
theorem dL_act_473 : decode cL_act 473 = .ok (.goto 4, 3) := by decide +kernel
theorem dL_act_476 : decode cL_act 476 = .ok (.iconst 0, 1) := by decide +kernel
theorem dL_act_477 : decode cL_act 477 = .ok (.ireturn, 1) := by decide +kernel
theorem dL_act_478 : decode cL_act 478 = .ok (.aload 8, 2) := by decide +kernel
theorem dL_act_480 : decode cL_act 480 = .ok (.iconst 1, 1) := by decide +kernel
theorem dL_act_481 : decode cL_act 481 = .ok (.iaload, 1) := by decide +kernel
theorem dL_act_482 : decode cL_act 482 = .ok (.ifCond .ne 18, 3) := by decide +kernel
theorem dL_act_485 : decode cL_act 485 = .ok (.aload_n 1, 1) := by decide +kernel
theorem dL_act_486 : decode cL_act 486 = .ok (.iload 7, 2) := by decide +kernel
theorem dL_act_488 : decode cL_act 488 = .ok (.invokevirtual 47, 3) := by decide +kernel
theorem dL_act_491 : decode cL_act 491 = .ok (.iload 9, 2) := by decide +kernel
theorem dL_act_493 : decode cL_act 493 = .ok (.if_icmp .lt 7, 3) := by decide +kernel
theorem dL_act_496 : decode cL_act 496 = .ok (.iconst 1, 1) := by decide +kernel
theorem dL_act_497 : decode cL_act 497 = .ok (.goto 4, 3) := by decide +kernel
theorem dL_act_500 : decode cL_act 500 = .ok (.iconst 0, 1) := by decide +kernel
theorem dL_act_501 : decode cL_act 501 = .ok (.istore 5, 2) := by decide +kernel
theorem dL_act_503 : decode cL_act 503 = .ok (.iload 5, 2) := by decide +kernel
theorem dL_act_505 : decode cL_act 505 = .ok (.ifCond .eq 26, 3) := by decide +kernel
theorem dL_act_508 : decode cL_act 508 = .ok (.aload 8, 2) := by decide +kernel
theorem dL_act_510 : decode cL_act 510 = .ok (.iconst 1, 1) := by decide +kernel
theorem dL_act_511 : decode cL_act 511 = .ok (.iconst 2, 1) := by decide +kernel
theorem dL_act_512 : decode cL_act 512 = .ok (.iastore, 1) := by decide +kernel
theorem dL_act_513 : decode cL_act 513 = .ok (.aload 8, 2) := by decide +kernel
theorem dL_act_515 : decode cL_act 515 = .ok (.iconst 2, 1) := by decide +kernel
theorem dL_act_516 : decode cL_act 516 = .ok (.iload 7, 2) := by decide +kernel
theorem dL_act_518 : decode cL_act 518 = .ok (.iastore, 1) := by decide +kernel
theorem dL_act_519 : decode cL_act 519 = .ok (.aload 8, 2) := by decide +kernel
theorem dL_act_521 : decode cL_act 521 = .ok (.iconst 3, 1) := by decide +kernel
theorem dL_act_522 : decode cL_act 522 = .ok (.iload 9, 2) := by decide +kernel
theorem dL_act_524 : decode cL_act 524 = .ok (.iastore, 1) := by decide +kernel
theorem dL_act_525 : decode cL_act 525 = .ok (.aload 8, 2) := by decide +kernel
theorem dL_act_527 : decode cL_act 527 = .ok (.iconst 4, 1) := by decide +kernel
theorem dL_act_528 : decode cL_act 528 = .ok (.iload 10, 2) := by decide +kernel
theorem dL_act_530 : decode cL_act 530 = .ok (.iastore, 1) := by decide +kernel
theorem dL_act_531 : decode cL_act 531 = .ok (.aload_n 0, 1) := by decide +kernel
theorem dL_act_532 : decode cL_act 532 = .ok (.iload 6, 2) := by decide +kernel
theorem dL_act_534 : decode cL_act 534 = .ok (.iload 7, 2) := by decide +kernel
theorem dL_act_536 : decode cL_act 536 = .ok (.iload 9, 2) := by decide +kernel
theorem dL_act_538 : decode cL_act 538 = .ok (.iload 10, 2) := by decide +kernel
theorem dL_act_540 : decode cL_act 540 = .ok (.invokevirtual 50, 3) := by decide +kernel
theorem dL_act_543 : decode cL_act 543 = .ok (.aload_n 1, 1) := by decide +kernel
theorem dL_act_544 : decode cL_act 544 = .ok (.iload 7, 2) := by decide +kernel
theorem dL_act_546 : decode cL_act 546 = .ok (.invokevirtual 47, 3) := by decide +kernel
theorem dL_act_549 : decode cL_act 549 = .ok (.if_icmp .ne 12, 3) := by decide +kernel
theorem dL_act_552 : decode cL_act 552 = .ok (.iload 5, 2) := by decide +kernel
theorem dL_act_554 : decode cL_act 554 = .ok (.ifCond .eq 7, 3) := by decide +kernel
theorem dL_act_557 : decode cL_act 557 = .ok (.iconst 1, 1) := by decide +kernel
theorem dL_act_558 : decode cL_act 558 = .ok (.goto 4, 3) := by decide +kernel
theorem dL_act_561 : decode cL_act 561 = .ok (.iconst 0, 1) := by decide +kernel
theorem dL_act_562 : decode cL_act 562 = .ok (.ireturn, 1) := by decide +kernel
theorem dL_act_563 : decode cL_act 563 = .ok (.aload 8, 2) := by decide +kernel
theorem dL_act_565 : decode cL_act 565 = .ok (.iconst 1, 1) := by decide +kernel
theorem dL_act_566 : decode cL_act 566 = .ok (.iaload, 1) := by decide +kernel
theorem dL_act_567 : decode cL_act 567 = .ok (.ifCond .le 7, 3) := by decide +kernel
theorem dL_act_570 : decode cL_act 570 = .ok (.iconst 1, 1) := by decide +kernel
theorem dL_act_571 : decode cL_act 571 = .ok (.goto 4, 3) := by decide +kernel
theorem dL_act_574 : decode cL_act 574 = .ok (.iconst 0, 1) := by decide +kernel
theorem dL_act_575 : decode cL_act 575 = .ok (.istore 5, 2) := by decide +kernel
theorem dL_act_577 : decode cL_act 577 = .ok (.iload 5, 2) := by decide +kernel
theorem dL_act_579 : decode cL_act 579 = .ok (.ifCond .eq 12, 3) := by decide +kernel
theorem dL_act_582 : decode cL_act 582 = .ok (.aload_n 1, 1) := by decide +kernel
theorem dL_act_583 : decode cL_act 583 = .ok (.iload 6, 2) := by decide +kernel
theorem dL_act_585 : decode cL_act 585 = .ok (.invokevirtual 54, 3) := by decide +kernel
theorem dL_act_588 : decode cL_act 588 = .ok (.goto 4, 3) := by decide +kernel
theorem dL_act_591 : decode cL_act 591 = .ok (.iconst 0, 1) := by decide +kernel
theorem dL_act_592 : decode cL_act 592 = .ok (.istore 11, 2) := by decide +kernel
theorem dL_act_594 : decode cL_act 594 = .ok (.aload_n 0, 1) := by decide +kernel
theorem dL_act_595 : decode cL_act 595 = .ok (.iload 6, 2) := by decide +kernel
theorem dL_act_597 : decode cL_act 597 = .ok (.invokevirtual 57, 3) := by decide +kernel
theorem dL_act_600 : decode cL_act 600 = .ok (.iload 11, 2) := by decide +kernel
theorem dL_act_602 : decode cL_act 602 = .ok (.if_icmp .ne 12, 3) := by decide +kernel
theorem dL_act_605 : decode cL_act 605 = .ok (.iload 5, 2) := by decide +kernel
theorem dL_act_607 : decode cL_act 607 = .ok (.ifCond .eq 7, 3) := by decide +kernel
theorem dL_act_610 : decode cL_act 610 = .ok (.iconst 1, 1) := by decide +kernel
theorem dL_act_611 : decode cL_act 611 = .ok (.goto 4, 3) := by decide +kernel
theorem dL_act_614 : decode cL_act 614 = .ok (.iconst 0, 1) := by decide +kernel
theorem dL_act_615 : decode cL_act 615 = .ok (.ireturn, 1) := by decide +kernel
theorem dL_act_616 : decode cL_act 616 = .ok (.iconst 1, 1) := by decide +kernel
theorem dL_act_617 : decode cL_act 617 = .ok (.iload_n 2, 1) := by decide +kernel
theorem dL_act_618 : decode cL_act 618 = .ok (.iconst 4, 1) := by decide +kernel
theorem dL_act_619 : decode cL_act 619 = .ok (.ishr, 1) := by decide +kernel
theorem dL_act_620 : decode cL_act 620 = .ok (.iload_n 2, 1) := by decide +kernel
theorem dL_act_621 : decode cL_act 621 = .ok (.bipush 7, 2) := by decide +kernel
theorem dL_act_623 : decode cL_act 623 = .ok (.ishr, 1) := by decide +kernel
theorem dL_act_624 : decode cL_act 624 = .ok (.bipush 6, 2) := by decide +kernel
theorem dL_act_626 : decode cL_act 626 = .ok (.invokestatic 18, 3) := by decide +kernel
theorem dL_act_629 : decode cL_act 629 = .ok (.ifCond .ne 8, 3) := by decide +kernel
theorem dL_act_632 : decode cL_act 632 = .ok (.bipush 60, 2) := by decide +kernel
theorem dL_act_634 : decode cL_act 634 = .ok (.goto 4, 3) := by decide +kernel
theorem dL_act_637 : decode cL_act 637 = .ok (.iconst 3, 1) := by decide +kernel
theorem dL_act_638 : decode cL_act 638 = .ok (.invokestatic 18, 3) := by decide +kernel
theorem dL_act_641 : decode cL_act 641 = .ok (.iadd, 1) := by decide +kernel
theorem dL_act_642 : decode cL_act 642 = .ok (.istore 11, 2) := by decide +kernel
theorem dL_act_644 : decode cL_act 644 = .ok (.aload_n 0, 1) := by decide +kernel
theorem dL_act_645 : decode cL_act 645 = .ok (.iload 11, 2) := by decide +kernel
theorem dL_act_647 : decode cL_act 647 = .ok (.invokevirtual 58, 3) := by decide +kernel
theorem dL_act_650 : decode cL_act 650 = .ok (.aload_n 1, 1) := by decide +kernel
theorem dL_act_651 : decode cL_act 651 = .ok (.iload 11, 2) := by decide +kernel
theorem dL_act_653 : decode cL_act 653 = .ok (.invokevirtual 61, 3) := by decide +kernel
theorem dL_act_656 : decode cL_act 656 = .ok (.if_icmp .ne 7, 3) := by decide +kernel
theorem dL_act_659 : decode cL_act 659 = .ok (.iconst 1, 1) := by decide +kernel
theorem dL_act_660 : decode cL_act 660 = .ok (.goto 4, 3) := by decide +kernel
theorem dL_act_663 : decode cL_act 663 = .ok (.iconst 0, 1) := by decide +kernel
theorem dL_act_664 : decode cL_act 664 = .ok (.ireturn, 1) := by decide +kernel
theorem dL_act_665 : decode cL_act 665 = .ok (.astore 6, 2) := by decide +kernel
theorem dL_act_667 : decode cL_act 667 = .ok (.iload 5, 2) := by decide +kernel
theorem dL_act_669 : decode cL_act 669 = .ok (.ifCond .ne 7, 3) := by decide +kernel
theorem dL_act_672 : decode cL_act 672 = .ok (.iconst 1, 1) := by decide +kernel
theorem dL_act_673 : decode cL_act 673 = .ok (.goto 4, 3) := by decide +kernel
theorem dL_act_676 : decode cL_act 676 = .ok (.iconst 0, 1) := by decide +kernel
theorem dL_act_677 : decode cL_act 677 = .ok (.ireturn, 1) := by decide +kernel
