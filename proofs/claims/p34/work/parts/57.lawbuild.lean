theorem goodIn_cons {big b : List Cond} {c : Cond} (hm : c ∈ big) (hg : goodWord c = true) (hb : GoodIn big b) : GoodIn big (c :: b) := fun w h => (List.mem_cons.mp h).elim (fun e => e ▸ ⟨hm, good_of_word hg⟩) (hb w)
set_option maxRecDepth 20000 in
theorem ggL_build_X2_init : GoodIn wsL_build wsX2_init := goodIn_r _ [6, 7, 8, 9, 10, 11, 12, 13, 206, 207, 208, 209, 210, 211] (by decide +kernel) (by decide +kernel)
set_option maxRecDepth 20000 in
theorem gL_build_X2_init_n64 : GoodIn wsL_build (wsX2_init) := ggL_build_X2_init
set_option maxRecDepth 20000 in
theorem ggL_build_L_cell : GoodIn wsL_build wsL_cell := goodIn_r _ [17, 18] (by decide +kernel) (by decide +kernel)
set_option maxRecDepth 20000 in
theorem gL_build_L_cell : GoodIn wsL_build (va_wsS RL 65 yL_cell wsL_cell) := goodIn_app (goodIn_of _ (by decide +kernel)) ggL_build_L_cell
set_option maxRecDepth 20000 in
theorem ggL_build_L_below : GoodIn wsL_build wsL_below := goodIn_r _ [21, 22] (by decide +kernel) (by decide +kernel)
set_option maxRecDepth 20000 in
theorem gL_build_L_below : GoodIn wsL_build (va_wsS RL 18 yL_below wsL_below) := goodIn_app (goodIn_of _ (by decide +kernel)) ggL_build_L_below
set_option maxRecDepth 20000 in
theorem ggL_build_L_act : GoodIn wsL_build wsL_act := goodIn_cons (List.mem_of_getElem? (i := 25) rfl) rfl (goodIn_app (goodIn_app (goodIn_app (goodIn_r _ [26, 27, 28, 29, 30, 19, 20, 16, 21, 22, 31, 32, 3, 33, 10, 34, 35, 36, 37, 38, 39, 40, 41, 42, 43, 44, 45, 46, 47, 48, 49, 50, 51, 52, 53, 54, 55, 56, 57, 58, 59, 60, 61, 62, 63, 64, 65, 66, 67, 68, 69, 70, 71, 72, 73, 74, 75, 76, 77, 78, 12, 13, 79, 80, 81, 82, 83, 84, 85, 86, 87, 88, 89, 90, 91, 92, 93, 94, 95, 96, 97, 98, 99, 100, 101, 102, 103, 104, 105, 106, 107, 108, 109, 110, 111, 112, 113, 114, 115, 116, 117, 118, 119, 120, 121, 11, 122, 123, 124, 125, 126, 127, 128, 129, 130, 131, 132, 133, 134, 135, 136, 137, 138, 139, 140, 141, 142, 143, 144, 145, 146, 147, 148, 149, 150, 151, 152, 153, 154, 155, 156, 157, 158, 159, 160, 161, 162, 163, 164, 165, 166, 167, 168, 169, 170, 171, 172, 173, 174, 175, 176, 177, 178, 179, 180, 181, 182, 183, 184, 185, 186, 187, 188, 189, 190, 191, 192, 193, 194, 195, 196, 197, 198, 199, 200, 201, 202, 203, 204, 205, 206, 207, 208, 209, 210, 211, 212, 213, 214, 215, 216, 217, 218, 219, 220, 221, 222, 223, 224, 225, 226, 227, 228, 229, 230] (by decide +kernel) (by decide +kernel)) (goodIn_sub (fun _ h => List.mem_cons_of_mem _ (List.mem_append_left _ (List.mem_append_left _ (List.mem_append_right _ h)))) (by decide +kernel))) (goodIn_sub (fun _ h => List.mem_cons_of_mem _ (List.mem_append_left _ (List.mem_append_right _ h))) (by decide +kernel))) (goodIn_sub (fun _ h => List.mem_cons_of_mem _ (List.mem_append_right _ h)) (by decide +kernel)))
set_option maxRecDepth 20000 in
theorem gL_build_L_act : GoodIn wsL_build (va_wsS RL 70 yL_act wsL_act) := goodIn_app (goodIn_of _ (by decide +kernel)) ggL_build_L_act
theorem dL_build_0 : decode cL_build 0 = .ok (.new 10, 3) := by decide +kernel
theorem dL_build_3 : decode cL_build 3 = .ok (.dup, 1) := by decide +kernel
theorem dL_build_4 : decode cL_build 4 = .ok (.invokespecial 64, 3) := by decide +kernel
theorem dL_build_7 : decode cL_build 7 = .ok (.astore_n 2, 1) := by decide +kernel
theorem dL_build_8 : decode cL_build 8 = .ok (.iconst 1, 1) := by decide +kernel
theorem dL_build_9 : decode cL_build 9 = .ok (.aload_n 1, 1) := by decide +kernel
theorem dL_build_10 : decode cL_build 10 = .ok (.iconst 0, 1) := by decide +kernel
theorem dL_build_11 : decode cL_build 11 = .ok (.invokestatic 65, 3) := by decide +kernel
theorem dL_build_14 : decode cL_build 14 = .ok (.iconst 4, 1) := by decide +kernel
theorem dL_build_15 : decode cL_build 15 = .ok (.invokestatic 18, 3) := by decide +kernel
theorem dL_build_18 : decode cL_build 18 = .ok (.iadd, 1) := by decide +kernel
theorem dL_build_19 : decode cL_build 19 = .ok (.istore_n 3, 1) := by decide +kernel
theorem dL_build_20 : decode cL_build 20 = .ok (.iconst 2, 1) := by decide +kernel
theorem dL_build_21 : decode cL_build 21 = .ok (.aload_n 1, 1) := by decide +kernel
theorem dL_build_22 : decode cL_build 22 = .ok (.iconst 1, 1) := by decide +kernel
theorem dL_build_23 : decode cL_build 23 = .ok (.invokestatic 65, 3) := by decide +kernel
theorem dL_build_26 : decode cL_build 26 = .ok (.bipush 11, 2) := by decide +kernel
theorem dL_build_28 : decode cL_build 28 = .ok (.invokestatic 18, 3) := by decide +kernel
theorem dL_build_31 : decode cL_build 31 = .ok (.iadd, 1) := by decide +kernel
theorem dL_build_32 : decode cL_build 32 = .ok (.istore 4, 2) := by decide +kernel
theorem dL_build_34 : decode cL_build 34 = .ok (.iconst 0, 1) := by decide +kernel
theorem dL_build_35 : decode cL_build 35 = .ok (.istore 5, 2) := by decide +kernel
theorem dL_build_37 : decode cL_build 37 = .ok (.iload 5, 2) := by decide +kernel
theorem dL_build_39 : decode cL_build 39 = .ok (.iload_n 3, 1) := by decide +kernel
theorem dL_build_40 : decode cL_build 40 = .ok (.if_icmp .ge 35, 3) := by decide +kernel
theorem dL_build_43 : decode cL_build 43 = .ok (.aload_n 0, 1) := by decide +kernel
theorem dL_build_44 : decode cL_build 44 = .ok (.aload_n 2, 1) := by decide +kernel
theorem dL_build_45 : decode cL_build 45 = .ok (.bipush 18, 2) := by decide +kernel
theorem dL_build_47 : decode cL_build 47 = .ok (.aload_n 1, 1) := by decide +kernel
theorem dL_build_48 : decode cL_build 48 = .ok (.iconst 2, 1) := by decide +kernel
theorem dL_build_49 : decode cL_build 49 = .ok (.iload 5, 2) := by decide +kernel
theorem dL_build_51 : decode cL_build 51 = .ok (.iadd, 1) := by decide +kernel
theorem dL_build_52 : decode cL_build 52 = .ok (.invokestatic 65, 3) := by decide +kernel
theorem dL_build_55 : decode cL_build 55 = .ok (.iconst 5, 1) := by decide +kernel
theorem dL_build_56 : decode cL_build 56 = .ok (.ishr, 1) := by decide +kernel
theorem dL_build_57 : decode cL_build 57 = .ok (.ldc 69, 2) := by decide +kernel
theorem dL_build_59 : decode cL_build 59 = .ok (.iand, 1) := by decide +kernel
theorem dL_build_60 : decode cL_build 60 = .ok (.imul, 1) := by decide +kernel
theorem dL_build_61 : decode cL_build 61 = .ok (.invokestatic 70, 3) := by decide +kernel
theorem dL_build_64 : decode cL_build 64 = .ok (.ifCond .ne 5, 3) := by decide +kernel
theorem dL_build_67 : decode cL_build 67 = .ok (.aconst_null, 1) := by decide +kernel
theorem dL_build_68 : decode cL_build 68 = .ok (.areturn, 1) := by decide +kernel
theorem dL_build_69 : decode cL_build 69 = .ok (.iinc 5 1, 3) := by decide +kernel
theorem dL_build_72 : decode cL_build 72 = .ok (.goto (-35), 3) := by decide +kernel
theorem dL_build_75 : decode cL_build 75 = .ok (.iconst 0, 1) := by decide +kernel
theorem dL_build_76 : decode cL_build 76 = .ok (.istore 5, 2) := by decide +kernel
theorem dL_build_78 : decode cL_build 78 = .ok (.iload 5, 2) := by decide +kernel
theorem dL_build_80 : decode cL_build 80 = .ok (.iload 4, 2) := by decide +kernel
theorem dL_build_82 : decode cL_build 82 = .ok (.if_icmp .ge 37, 3) := by decide +kernel
theorem dL_build_85 : decode cL_build 85 = .ok (.aload_n 0, 1) := by decide +kernel
theorem dL_build_86 : decode cL_build 86 = .ok (.aload_n 2, 1) := by decide +kernel
theorem dL_build_87 : decode cL_build 87 = .ok (.bipush 18, 2) := by decide +kernel
theorem dL_build_89 : decode cL_build 89 = .ok (.aload_n 1, 1) := by decide +kernel
theorem dL_build_90 : decode cL_build 90 = .ok (.iconst 3, 1) := by decide +kernel
theorem dL_build_91 : decode cL_build 91 = .ok (.iload 5, 2) := by decide +kernel
theorem dL_build_93 : decode cL_build 93 = .ok (.iadd, 1) := by decide +kernel
theorem dL_build_94 : decode cL_build 94 = .ok (.invokestatic 65, 3) := by decide +kernel
theorem dL_build_97 : decode cL_build 97 = .ok (.iconst 5, 1) := by decide +kernel
theorem dL_build_98 : decode cL_build 98 = .ok (.ishr, 1) := by decide +kernel
theorem dL_build_99 : decode cL_build 99 = .ok (.ldc 69, 2) := by decide +kernel
theorem dL_build_101 : decode cL_build 101 = .ok (.iand, 1) := by decide +kernel
theorem dL_build_102 : decode cL_build 102 = .ok (.imul, 1) := by decide +kernel
theorem dL_build_103 : decode cL_build 103 = .ok (.iconst 1, 1) := by decide +kernel
theorem dL_build_104 : decode cL_build 104 = .ok (.iadd, 1) := by decide +kernel
theorem dL_build_105 : decode cL_build 105 = .ok (.invokestatic 70, 3) := by decide +kernel
theorem dL_build_108 : decode cL_build 108 = .ok (.ifCond .ne 5, 3) := by decide +kernel
theorem dL_build_111 : decode cL_build 111 = .ok (.aconst_null, 1) := by decide +kernel
theorem dL_build_112 : decode cL_build 112 = .ok (.areturn, 1) := by decide +kernel
theorem dL_build_113 : decode cL_build 113 = .ok (.iinc 5 1, 3) := by decide +kernel
theorem dL_build_116 : decode cL_build 116 = .ok (.goto (-38), 3) := by decide +kernel
theorem dL_build_119 : decode cL_build 119 = .ok (.iconst 0, 1) := by decide +kernel
theorem dL_build_120 : decode cL_build 120 = .ok (.istore 5, 2) := by decide +kernel
theorem dL_build_122 : decode cL_build 122 = .ok (.iload 5, 2) := by decide +kernel
theorem dL_build_124 : decode cL_build 124 = .ok (.bipush 16, 2) := by decide +kernel
theorem dL_build_126 : decode cL_build 126 = .ok (.if_icmp .ge 33, 3) := by decide +kernel
theorem dL_build_129 : decode cL_build 129 = .ok (.aload_n 0, 1) := by decide +kernel
theorem dL_build_130 : decode cL_build 130 = .ok (.aload_n 2, 1) := by decide +kernel
theorem dL_build_131 : decode cL_build 131 = .ok (.aload_n 1, 1) := by decide +kernel
theorem dL_build_132 : decode cL_build 132 = .ok (.iload 5, 2) := by decide +kernel
theorem dL_build_134 : decode cL_build 134 = .ok (.invokestatic 65, 3) := by decide +kernel
theorem dL_build_137 : decode cL_build 137 = .ok (.iconst 2, 1) := by decide +kernel
theorem dL_build_138 : decode cL_build 138 = .ok (.ishr, 1) := by decide +kernel
theorem dL_build_139 : decode cL_build 139 = .ok (.bipush 41, 2) := by decide +kernel
theorem dL_build_141 : decode cL_build 141 = .ok (.iload 5, 2) := by decide +kernel
theorem dL_build_143 : decode cL_build 143 = .ok (.imul, 1) := by decide +kernel
theorem dL_build_144 : decode cL_build 144 = .ok (.iadd, 1) := by decide +kernel
theorem dL_build_145 : decode cL_build 145 = .ok (.invokestatic 70, 3) := by decide +kernel
theorem dL_build_148 : decode cL_build 148 = .ok (.ifCond .ne 5, 3) := by decide +kernel
theorem dL_build_151 : decode cL_build 151 = .ok (.aconst_null, 1) := by decide +kernel
theorem dL_build_152 : decode cL_build 152 = .ok (.areturn, 1) := by decide +kernel
theorem dL_build_153 : decode cL_build 153 = .ok (.iinc 5 1, 3) := by decide +kernel
theorem dL_build_156 : decode cL_build 156 = .ok (.goto (-34), 3) := by decide +kernel
theorem dL_build_159 : decode cL_build 159 = .ok (.aload_n 2, 1) := by decide +kernel
theorem dL_build_160 : decode cL_build 160 = .ok (.areturn, 1) := by decide +kernel
