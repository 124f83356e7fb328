theorem dX2_init_0 : decode cX2_init 0 = .ok (.aload_n 0, 1) := by decide +kernel
theorem dX2_init_1 : decode cX2_init 1 = .ok (.invokespecial 1, 3) := by decide +kernel
theorem dX2_init_4 : decode cX2_init 4 = .ok (.aload_n 0, 1) := by decide +kernel
theorem dX2_init_5 : decode cX2_init 5 = .ok (.iconst 0, 1) := by decide +kernel
theorem dX2_init_6 : decode cX2_init 6 = .ok (.anewarray 7, 3) := by decide +kernel
theorem dX2_init_9 : decode cX2_init 9 = .ok (.putfield 9, 3) := by decide +kernel
theorem dX2_init_12 : decode cX2_init 12 = .ok (.aload_n 0, 1) := by decide +kernel
theorem dX2_init_13 : decode cX2_init 13 = .ok (.iconst 0, 1) := by decide +kernel
theorem dX2_init_14 : decode cX2_init 14 = .ok (.anewarray 7, 3) := by decide +kernel
theorem dX2_init_17 : decode cX2_init 17 = .ok (.putfield 15, 3) := by decide +kernel
theorem dX2_init_20 : decode cX2_init 20 = .ok (.aload_n 0, 1) := by decide +kernel
theorem dX2_init_21 : decode cX2_init 21 = .ok (.iconst 0, 1) := by decide +kernel
theorem dX2_init_22 : decode cX2_init 22 = .ok (.anewarray 7, 3) := by decide +kernel
theorem dX2_init_25 : decode cX2_init 25 = .ok (.putfield 18, 3) := by decide +kernel
theorem dX2_init_28 : decode cX2_init 28 = .ok (.return_, 1) := by decide +kernel
theorem dX2_with_0 : decode cX2_with 0 = .ok (.aload_n 0, 1) := by decide +kernel
theorem dX2_with_1 : decode cX2_with 1 = .ok (.arraylength, 1) := by decide +kernel
theorem dX2_with_2 : decode cX2_with 2 = .ok (.iconst 1, 1) := by decide +kernel
theorem dX2_with_3 : decode cX2_with 3 = .ok (.iadd, 1) := by decide +kernel
theorem dX2_with_4 : decode cX2_with 4 = .ok (.anewarray 7, 3) := by decide +kernel
theorem dX2_with_7 : decode cX2_with 7 = .ok (.astore_n 2, 1) := by decide +kernel
theorem dX2_with_8 : decode cX2_with 8 = .ok (.iconst 0, 1) := by decide +kernel
theorem dX2_with_9 : decode cX2_with 9 = .ok (.istore_n 3, 1) := by decide +kernel
theorem dX2_with_10 : decode cX2_with 10 = .ok (.iload_n 3, 1) := by decide +kernel
theorem dX2_with_11 : decode cX2_with 11 = .ok (.aload_n 0, 1) := by decide +kernel
theorem dX2_with_12 : decode cX2_with 12 = .ok (.arraylength, 1) := by decide +kernel
theorem dX2_with_13 : decode cX2_with 13 = .ok (.if_icmp .ge 15, 3) := by decide +kernel
theorem dX2_with_16 : decode cX2_with 16 = .ok (.aload_n 2, 1) := by decide +kernel
theorem dX2_with_17 : decode cX2_with 17 = .ok (.iload_n 3, 1) := by decide +kernel
theorem dX2_with_18 : decode cX2_with 18 = .ok (.aload_n 0, 1) := by decide +kernel
theorem dX2_with_19 : decode cX2_with 19 = .ok (.iload_n 3, 1) := by decide +kernel
theorem dX2_with_20 : decode cX2_with 20 = .ok (.aaload, 1) := by decide +kernel
theorem dX2_with_21 : decode cX2_with 21 = .ok (.aastore, 1) := by decide +kernel
theorem dX2_with_22 : decode cX2_with 22 = .ok (.iinc 3 1, 3) := by decide +kernel
theorem dX2_with_25 : decode cX2_with 25 = .ok (.goto (-15), 3) := by decide +kernel
theorem dX2_with_28 : decode cX2_with 28 = .ok (.aload_n 2, 1) := by decide +kernel
theorem dX2_with_29 : decode cX2_with 29 = .ok (.aload_n 0, 1) := by decide +kernel
theorem dX2_with_30 : decode cX2_with 30 = .ok (.arraylength, 1) := by decide +kernel
theorem dX2_with_31 : decode cX2_with 31 = .ok (.aload_n 1, 1) := by decide +kernel
theorem dX2_with_32 : decode cX2_with 32 = .ok (.aastore, 1) := by decide +kernel
theorem dX2_with_33 : decode cX2_with 33 = .ok (.aload_n 2, 1) := by decide +kernel
theorem dX2_with_34 : decode cX2_with 34 = .ok (.areturn, 1) := by decide +kernel
theorem dX2_with__0 : decode cX2_with_ 0 = .ok (.aload_n 0, 1) := by decide +kernel
theorem dX2_with__1 : decode cX2_with_ 1 = .ok (.arraylength, 1) := by decide +kernel
theorem dX2_with__2 : decode cX2_with_ 2 = .ok (.iconst 1, 1) := by decide +kernel
theorem dX2_with__3 : decode cX2_with_ 3 = .ok (.iadd, 1) := by decide +kernel
theorem dX2_with__4 : decode cX2_with_ 4 = .ok (.newarray .int, 2) := by decide +kernel
theorem dX2_with__6 : decode cX2_with_ 6 = .ok (.astore_n 2, 1) := by decide +kernel
theorem dX2_with__7 : decode cX2_with_ 7 = .ok (.iconst 0, 1) := by decide +kernel
theorem dX2_with__8 : decode cX2_with_ 8 = .ok (.istore_n 3, 1) := by decide +kernel
theorem dX2_with__9 : decode cX2_with_ 9 = .ok (.iload_n 3, 1) := by decide +kernel
theorem dX2_with__10 : decode cX2_with_ 10 = .ok (.aload_n 0, 1) := by decide +kernel
theorem dX2_with__11 : decode cX2_with_ 11 = .ok (.arraylength, 1) := by decide +kernel
theorem dX2_with__12 : decode cX2_with_ 12 = .ok (.if_icmp .ge 15, 3) := by decide +kernel
theorem dX2_with__15 : decode cX2_with_ 15 = .ok (.aload_n 2, 1) := by decide +kernel
theorem dX2_with__16 : decode cX2_with_ 16 = .ok (.iload_n 3, 1) := by decide +kernel
theorem dX2_with__17 : decode cX2_with_ 17 = .ok (.aload_n 0, 1) := by decide +kernel
theorem dX2_with__18 : decode cX2_with_ 18 = .ok (.iload_n 3, 1) := by decide +kernel
theorem dX2_with__19 : decode cX2_with_ 19 = .ok (.iaload, 1) := by decide +kernel
theorem dX2_with__20 : decode cX2_with_ 20 = .ok (.iastore, 1) := by decide +kernel
theorem dX2_with__21 : decode cX2_with_ 21 = .ok (.iinc 3 1, 3) := by decide +kernel
theorem dX2_with__24 : decode cX2_with_ 24 = .ok (.goto (-15), 3) := by decide +kernel
theorem dX2_with__27 : decode cX2_with_ 27 = .ok (.aload_n 2, 1) := by decide +kernel
theorem dX2_with__28 : decode cX2_with_ 28 = .ok (.aload_n 0, 1) := by decide +kernel
theorem dX2_with__29 : decode cX2_with_ 29 = .ok (.arraylength, 1) := by decide +kernel
theorem dX2_with__30 : decode cX2_with_ 30 = .ok (.iload_n 1, 1) := by decide +kernel
theorem dX2_with__31 : decode cX2_with_ 31 = .ok (.iastore, 1) := by decide +kernel
theorem dX2_with__32 : decode cX2_with_ 32 = .ok (.aload_n 2, 1) := by decide +kernel
theorem dX2_with__33 : decode cX2_with_ 33 = .ok (.areturn, 1) := by decide +kernel
set_option maxRecDepth 20000 in
theorem ggX2_without_X2_with_ : GoodIn wsX2_without wsX2_with_ := goodIn_r _ [5, 1] (by decide +kernel) (by decide +kernel)
set_option maxRecDepth 20000 in
theorem gX2_without_X2_with_ : GoodIn wsX2_without (va_wsS RX2 21 yX2_with_ wsX2_with_) := goodIn_app (goodIn_of _ (by decide +kernel)) ggX2_without_X2_with_
theorem dX2_without_0 : decode cX2_without 0 = .ok (.iconst 0, 1) := by decide +kernel
theorem dX2_without_1 : decode cX2_without 1 = .ok (.newarray .int, 2) := by decide +kernel
theorem dX2_without_3 : decode cX2_without 3 = .ok (.astore_n 2, 1) := by decide +kernel
theorem dX2_without_4 : decode cX2_without 4 = .ok (.aload_n 0, 1) := by decide +kernel
theorem dX2_without_5 : decode cX2_without 5 = .ok (.astore_n 3, 1) := by decide +kernel
theorem dX2_without_6 : decode cX2_without 6 = .ok (.aload_n 3, 1) := by decide +kernel
theorem dX2_without_7 : decode cX2_without 7 = .ok (.arraylength, 1) := by decide +kernel
theorem dX2_without_8 : decode cX2_without 8 = .ok (.istore 4, 2) := by decide +kernel
theorem dX2_without_10 : decode cX2_without 10 = .ok (.iconst 0, 1) := by decide +kernel
theorem dX2_without_11 : decode cX2_without 11 = .ok (.istore 5, 2) := by decide +kernel
theorem dX2_without_13 : decode cX2_without 13 = .ok (.iload 5, 2) := by decide +kernel
theorem dX2_without_15 : decode cX2_without 15 = .ok (.iload 4, 2) := by decide +kernel
theorem dX2_without_17 : decode cX2_without 17 = .ok (.if_icmp .ge 28, 3) := by decide +kernel
theorem dX2_without_20 : decode cX2_without 20 = .ok (.aload_n 3, 1) := by decide +kernel
theorem dX2_without_21 : decode cX2_without 21 = .ok (.iload 5, 2) := by decide +kernel
theorem dX2_without_23 : decode cX2_without 23 = .ok (.iaload, 1) := by decide +kernel
theorem dX2_without_24 : decode cX2_without 24 = .ok (.istore 6, 2) := by decide +kernel
theorem dX2_without_26 : decode cX2_without 26 = .ok (.iload 6, 2) := by decide +kernel
theorem dX2_without_28 : decode cX2_without 28 = .ok (.iload_n 1, 1) := by decide +kernel
theorem dX2_without_29 : decode cX2_without 29 = .ok (.if_icmp .eq 10, 3) := by decide +kernel
theorem dX2_without_32 : decode cX2_without 32 = .ok (.aload_n 2, 1) := by decide +kernel
theorem dX2_without_33 : decode cX2_without 33 = .ok (.iload 6, 2) := by decide +kernel
theorem dX2_without_35 : decode cX2_without 35 = .ok (.invokestatic 21, 3) := by decide +kernel
theorem dX2_without_38 : decode cX2_without 38 = .ok (.astore_n 2, 1) := by decide +kernel
theorem dX2_without_39 : decode cX2_without 39 = .ok (.iinc 5 1, 3) := by decide +kernel
theorem dX2_without_42 : decode cX2_without 42 = .ok (.goto (-29), 3) := by decide +kernel
theorem dX2_without_45 : decode cX2_without 45 = .ok (.aload_n 2, 1) := by decide +kernel
theorem dX2_without_46 : decode cX2_without 46 = .ok (.areturn, 1) := by decide +kernel
set_option maxRecDepth 20000 in
theorem ggX2_copy_X2_init : GoodIn wsX2_copy wsX2_init := goodIn_r _ [18, 19, 20, 21, 13, 7, 14, 15, 25, 26, 27, 28, 29, 30] (by decide +kernel) (by decide +kernel)
set_option maxRecDepth 20000 in
theorem gX2_copy_X2_init : GoodIn wsX2_copy (wsX2_init) := ggX2_copy_X2_init
set_option maxRecDepth 20000 in
theorem ggX2_copy_X2_with : GoodIn wsX2_copy wsX2_with := goodIn_r _ [24, 13] (by decide +kernel) (by decide +kernel)
set_option maxRecDepth 20000 in
theorem gX2_copy_X2_with : GoodIn wsX2_copy (va_wsS RX2 40 yX2_with wsX2_with) := goodIn_app (goodIn_of _ (by decide +kernel)) ggX2_copy_X2_with
theorem dX2_copy_0 : decode cX2_copy 0 = .ok (.new 10, 3) := by decide +kernel
theorem dX2_copy_3 : decode cX2_copy 3 = .ok (.dup, 1) := by decide +kernel
theorem dX2_copy_4 : decode cX2_copy 4 = .ok (.invokespecial 25, 3) := by decide +kernel
theorem dX2_copy_7 : decode cX2_copy 7 = .ok (.astore_n 1, 1) := by decide +kernel
theorem dX2_copy_8 : decode cX2_copy 8 = .ok (.aload_n 1, 1) := by decide +kernel
theorem dX2_copy_9 : decode cX2_copy 9 = .ok (.aload_n 0, 1) := by decide +kernel
theorem dX2_copy_10 : decode cX2_copy 10 = .ok (.getfield 26, 3) := by decide +kernel
theorem dX2_copy_13 : decode cX2_copy 13 = .ok (.putfield 26, 3) := by decide +kernel
theorem dX2_copy_16 : decode cX2_copy 16 = .ok (.aload_n 1, 1) := by decide +kernel
theorem dX2_copy_17 : decode cX2_copy 17 = .ok (.aload_n 0, 1) := by decide +kernel
theorem dX2_copy_18 : decode cX2_copy 18 = .ok (.getfield 30, 3) := by decide +kernel
theorem dX2_copy_21 : decode cX2_copy 21 = .ok (.putfield 30, 3) := by decide +kernel
theorem dX2_copy_24 : decode cX2_copy 24 = .ok (.aload_n 1, 1) := by decide +kernel
theorem dX2_copy_25 : decode cX2_copy 25 = .ok (.aload_n 0, 1) := by decide +kernel
theorem dX2_copy_26 : decode cX2_copy 26 = .ok (.getfield 33, 3) := by decide +kernel
theorem dX2_copy_29 : decode cX2_copy 29 = .ok (.putfield 33, 3) := by decide +kernel
theorem dX2_copy_32 : decode cX2_copy 32 = .ok (.aload_n 0, 1) := by decide +kernel
theorem dX2_copy_33 : decode cX2_copy 33 = .ok (.getfield 9, 3) := by decide +kernel
theorem dX2_copy_36 : decode cX2_copy 36 = .ok (.astore_n 2, 1) := by decide +kernel
theorem dX2_copy_37 : decode cX2_copy 37 = .ok (.aload_n 2, 1) := by decide +kernel
theorem dX2_copy_38 : decode cX2_copy 38 = .ok (.arraylength, 1) := by decide +kernel
theorem dX2_copy_39 : decode cX2_copy 39 = .ok (.istore_n 3, 1) := by decide +kernel
theorem dX2_copy_40 : decode cX2_copy 40 = .ok (.iconst 0, 1) := by decide +kernel
theorem dX2_copy_41 : decode cX2_copy 41 = .ok (.istore 4, 2) := by decide +kernel
theorem dX2_copy_43 : decode cX2_copy 43 = .ok (.iload 4, 2) := by decide +kernel
theorem dX2_copy_45 : decode cX2_copy 45 = .ok (.iload_n 3, 1) := by decide +kernel
theorem dX2_copy_46 : decode cX2_copy 46 = .ok (.if_icmp .ge 34, 3) := by decide +kernel
theorem dX2_copy_49 : decode cX2_copy 49 = .ok (.aload_n 2, 1) := by decide +kernel
theorem dX2_copy_50 : decode cX2_copy 50 = .ok (.iload 4, 2) := by decide +kernel
theorem dX2_copy_52 : decode cX2_copy 52 = .ok (.aaload, 1) := by decide +kernel
theorem dX2_copy_53 : decode cX2_copy 53 = .ok (.astore 5, 2) := by decide +kernel
theorem dX2_copy_55 : decode cX2_copy 55 = .ok (.aload_n 1, 1) := by decide +kernel
theorem dX2_copy_56 : decode cX2_copy 56 = .ok (.aload_n 1, 1) := by decide +kernel
theorem dX2_copy_57 : decode cX2_copy 57 = .ok (.getfield 9, 3) := by decide +kernel
theorem dX2_copy_60 : decode cX2_copy 60 = .ok (.aload 5, 2) := by decide +kernel
theorem dX2_copy_62 : decode cX2_copy 62 = .ok (.invokevirtual 36, 3) := by decide +kernel
theorem dX2_copy_65 : decode cX2_copy 65 = .ok (.checkcast 7, 3) := by decide +kernel
theorem dX2_copy_68 : decode cX2_copy 68 = .ok (.invokestatic 40, 3) := by decide +kernel
theorem dX2_copy_71 : decode cX2_copy 71 = .ok (.putfield 9, 3) := by decide +kernel
theorem dX2_copy_74 : decode cX2_copy 74 = .ok (.iinc 4 1, 3) := by decide +kernel
theorem dX2_copy_77 : decode cX2_copy 77 = .ok (.goto (-34), 3) := by decide +kernel
theorem dX2_copy_80 : decode cX2_copy 80 = .ok (.aload_n 0, 1) := by decide +kernel
theorem dX2_copy_81 : decode cX2_copy 81 = .ok (.getfield 15, 3) := by decide +kernel
theorem dX2_copy_84 : decode cX2_copy 84 = .ok (.astore_n 2, 1) := by decide +kernel
theorem dX2_copy_85 : decode cX2_copy 85 = .ok (.aload_n 2, 1) := by decide +kernel
theorem dX2_copy_86 : decode cX2_copy 86 = .ok (.arraylength, 1) := by decide +kernel
theorem dX2_copy_87 : decode cX2_copy 87 = .ok (.istore_n 3, 1) := by decide +kernel
theorem dX2_copy_88 : decode cX2_copy 88 = .ok (.iconst 0, 1) := by decide +kernel
theorem dX2_copy_89 : decode cX2_copy 89 = .ok (.istore 4, 2) := by decide +kernel
theorem dX2_copy_91 : decode cX2_copy 91 = .ok (.iload 4, 2) := by decide +kernel
theorem dX2_copy_93 : decode cX2_copy 93 = .ok (.iload_n 3, 1) := by decide +kernel
theorem dX2_copy_94 : decode cX2_copy 94 = .ok (.if_icmp .ge 34, 3) := by decide +kernel
theorem dX2_copy_97 : decode cX2_copy 97 = .ok (.aload_n 2, 1) := by decide +kernel
theorem dX2_copy_98 : decode cX2_copy 98 = .ok (.iload 4, 2) := by decide +kernel
theorem dX2_copy_100 : decode cX2_copy 100 = .ok (.aaload, 1) := by decide +kernel
theorem dX2_copy_101 : decode cX2_copy 101 = .ok (.astore 5, 2) := by decide +kernel
theorem dX2_copy_103 : decode cX2_copy 103 = .ok (.aload_n 1, 1) := by decide +kernel
theorem dX2_copy_104 : decode cX2_copy 104 = .ok (.aload_n 1, 1) := by decide +kernel
theorem dX2_copy_105 : decode cX2_copy 105 = .ok (.getfield 15, 3) := by decide +kernel
theorem dX2_copy_108 : decode cX2_copy 108 = .ok (.aload 5, 2) := by decide +kernel
theorem dX2_copy_110 : decode cX2_copy 110 = .ok (.invokevirtual 36, 3) := by decide +kernel
theorem dX2_copy_113 : decode cX2_copy 113 = .ok (.checkcast 7, 3) := by decide +kernel
theorem dX2_copy_116 : decode cX2_copy 116 = .ok (.invokestatic 40, 3) := by decide +kernel
theorem dX2_copy_119 : decode cX2_copy 119 = .ok (.putfield 15, 3) := by decide +kernel
theorem dX2_copy_122 : decode cX2_copy 122 = .ok (.iinc 4 1, 3) := by decide +kernel
theorem dX2_copy_125 : decode cX2_copy 125 = .ok (.goto (-34), 3) := by decide +kernel
theorem dX2_copy_128 : decode cX2_copy 128 = .ok (.aload_n 0, 1) := by decide +kernel
theorem dX2_copy_129 : decode cX2_copy 129 = .ok (.getfield 18, 3) := by decide +kernel
theorem dX2_copy_132 : decode cX2_copy 132 = .ok (.astore_n 2, 1) := by decide +kernel
theorem dX2_copy_133 : decode cX2_copy 133 = .ok (.aload_n 2, 1) := by decide +kernel
theorem dX2_copy_134 : decode cX2_copy 134 = .ok (.arraylength, 1) := by decide +kernel
theorem dX2_copy_135 : decode cX2_copy 135 = .ok (.istore_n 3, 1) := by decide +kernel
theorem dX2_copy_136 : decode cX2_copy 136 = .ok (.iconst 0, 1) := by decide +kernel
theorem dX2_copy_137 : decode cX2_copy 137 = .ok (.istore 4, 2) := by decide +kernel
theorem dX2_copy_139 : decode cX2_copy 139 = .ok (.iload 4, 2) := by decide +kernel
theorem dX2_copy_141 : decode cX2_copy 141 = .ok (.iload_n 3, 1) := by decide +kernel
theorem dX2_copy_142 : decode cX2_copy 142 = .ok (.if_icmp .ge 28, 3) := by decide +kernel
theorem dX2_copy_145 : decode cX2_copy 145 = .ok (.aload_n 2, 1) := by decide +kernel
theorem dX2_copy_146 : decode cX2_copy 146 = .ok (.iload 4, 2) := by decide +kernel
theorem dX2_copy_148 : decode cX2_copy 148 = .ok (.aaload, 1) := by decide +kernel
theorem dX2_copy_149 : decode cX2_copy 149 = .ok (.astore 5, 2) := by decide +kernel
theorem dX2_copy_151 : decode cX2_copy 151 = .ok (.aload_n 1, 1) := by decide +kernel
theorem dX2_copy_152 : decode cX2_copy 152 = .ok (.aload_n 1, 1) := by decide +kernel
theorem dX2_copy_153 : decode cX2_copy 153 = .ok (.getfield 18, 3) := by decide +kernel
theorem dX2_copy_156 : decode cX2_copy 156 = .ok (.aload 5, 2) := by decide +kernel
theorem dX2_copy_158 : decode cX2_copy 158 = .ok (.invokestatic 40, 3) := by decide +kernel
theorem dX2_copy_161 : decode cX2_copy 161 = .ok (.putfield 18, 3) := by decide +kernel
theorem dX2_copy_164 : decode cX2_copy 164 = .ok (.iinc 4 1, 3) := by decide +kernel
theorem dX2_copy_167 : decode cX2_copy 167 = .ok (.goto (-28), 3) := by decide +kernel
theorem dX2_copy_170 : decode cX2_copy 170 = .ok (.aload_n 1, 1) := by decide +kernel
theorem dX2_copy_171 : decode cX2_copy 171 = .ok (.areturn, 1) := by decide +kernel
theorem dX2_free_0 : decode cX2_free 0 = .ok (.aload_n 0, 1) := by decide +kernel
theorem dX2_free_1 : decode cX2_free 1 = .ok (.getfield 9, 3) := by decide +kernel
theorem dX2_free_4 : decode cX2_free 4 = .ok (.iload_n 1, 1) := by decide +kernel
theorem dX2_free_5 : decode cX2_free 5 = .ok (.aaload, 1) := by decide +kernel
theorem dX2_free_6 : decode cX2_free 6 = .ok (.iconst 0, 1) := by decide +kernel
theorem dX2_free_7 : decode cX2_free 7 = .ok (.iaload, 1) := by decide +kernel
theorem dX2_free_8 : decode cX2_free 8 = .ok (.istore_n 2, 1) := by decide +kernel
theorem dX2_free_9 : decode cX2_free 9 = .ok (.aload_n 0, 1) := by decide +kernel
theorem dX2_free_10 : decode cX2_free 10 = .ok (.getfield 15, 3) := by decide +kernel
theorem dX2_free_13 : decode cX2_free 13 = .ok (.astore_n 3, 1) := by decide +kernel
theorem dX2_free_14 : decode cX2_free 14 = .ok (.aload_n 3, 1) := by decide +kernel
theorem dX2_free_15 : decode cX2_free 15 = .ok (.arraylength, 1) := by decide +kernel
theorem dX2_free_16 : decode cX2_free 16 = .ok (.istore 4, 2) := by decide +kernel
theorem dX2_free_18 : decode cX2_free 18 = .ok (.iconst 0, 1) := by decide +kernel
theorem dX2_free_19 : decode cX2_free 19 = .ok (.istore 5, 2) := by decide +kernel
theorem dX2_free_21 : decode cX2_free 21 = .ok (.iload 5, 2) := by decide +kernel
theorem dX2_free_23 : decode cX2_free 23 = .ok (.iload 4, 2) := by decide +kernel
theorem dX2_free_25 : decode cX2_free 25 = .ok (.if_icmp .ge 42, 3) := by decide +kernel
theorem dX2_free_28 : decode cX2_free 28 = .ok (.aload_n 3, 1) := by decide +kernel
theorem dX2_free_29 : decode cX2_free 29 = .ok (.iload 5, 2) := by decide +kernel
theorem dX2_free_31 : decode cX2_free 31 = .ok (.aaload, 1) := by decide +kernel
theorem dX2_free_32 : decode cX2_free 32 = .ok (.astore 6, 2) := by decide +kernel
theorem dX2_free_34 : decode cX2_free 34 = .ok (.iload_n 2, 1) := by decide +kernel
theorem dX2_free_35 : decode cX2_free 35 = .ok (.aload 6, 2) := by decide +kernel
theorem dX2_free_37 : decode cX2_free 37 = .ok (.iconst 1, 1) := by decide +kernel
theorem dX2_free_38 : decode cX2_free 38 = .ok (.iaload, 1) := by decide +kernel
theorem dX2_free_39 : decode cX2_free 39 = .ok (.iconst 2, 1) := by decide +kernel
theorem dX2_free_40 : decode cX2_free 40 = .ok (.if_icmp .ne 18, 3) := by decide +kernel
theorem dX2_free_43 : decode cX2_free 43 = .ok (.aload 6, 2) := by decide +kernel
theorem dX2_free_45 : decode cX2_free 45 = .ok (.iconst 2, 1) := by decide +kernel
theorem dX2_free_46 : decode cX2_free 46 = .ok (.iaload, 1) := by decide +kernel
theorem dX2_free_47 : decode cX2_free 47 = .ok (.iload_n 1, 1) := by decide +kernel
theorem dX2_free_48 : decode cX2_free 48 = .ok (.if_icmp .ne 10, 3) := by decide +kernel
theorem dX2_free_51 : decode cX2_free 51 = .ok (.aload 6, 2) := by decide +kernel
theorem dX2_free_53 : decode cX2_free 53 = .ok (.iconst 3, 1) := by decide +kernel
theorem dX2_free_54 : decode cX2_free 54 = .ok (.iaload, 1) := by decide +kernel
theorem dX2_free_55 : decode cX2_free 55 = .ok (.goto 4, 3) := by decide +kernel
theorem dX2_free_58 : decode cX2_free 58 = .ok (.iconst 0, 1) := by decide +kernel
theorem dX2_free_59 : decode cX2_free 59 = .ok (.isub, 1) := by decide +kernel
theorem dX2_free_60 : decode cX2_free 60 = .ok (.istore_n 2, 1) := by decide +kernel
theorem dX2_free_61 : decode cX2_free 61 = .ok (.iinc 5 1, 3) := by decide +kernel
theorem dX2_free_64 : decode cX2_free 64 = .ok (.goto (-43), 3) := by decide +kernel
theorem dX2_free_67 : decode cX2_free 67 = .ok (.iload_n 2, 1) := by decide +kernel
theorem dX2_free_68 : decode cX2_free 68 = .ok (.ireturn, 1) := by decide +kernel
theorem dX2_seem_0 : decode cX2_seem 0 = .ok (.aload_n 0, 1) := by decide +kernel
theorem dX2_seem_1 : decode cX2_seem 1 = .ok (.getfield 15, 3) := by decide +kernel
theorem dX2_seem_4 : decode cX2_seem 4 = .ok (.iload_n 1, 1) := by decide +kernel
theorem dX2_seem_5 : decode cX2_seem 5 = .ok (.aaload, 1) := by decide +kernel
theorem dX2_seem_6 : decode cX2_seem 6 = .ok (.iconst 0, 1) := by decide +kernel
theorem dX2_seem_7 : decode cX2_seem 7 = .ok (.iaload, 1) := by decide +kernel
theorem dX2_seem_8 : decode cX2_seem 8 = .ok (.aload_n 0, 1) := by decide +kernel
theorem dX2_seem_9 : decode cX2_seem 9 = .ok (.getfield 15, 3) := by decide +kernel
theorem dX2_seem_12 : decode cX2_seem 12 = .ok (.iload_n 1, 1) := by decide +kernel
theorem dX2_seem_13 : decode cX2_seem 13 = .ok (.aaload, 1) := by decide +kernel
theorem dX2_seem_14 : decode cX2_seem 14 = .ok (.iconst 1, 1) := by decide +kernel
theorem dX2_seem_15 : decode cX2_seem 15 = .ok (.iaload, 1) := by decide +kernel
theorem dX2_seem_16 : decode cX2_seem 16 = .ok (.iconst 1, 1) := by decide +kernel
theorem dX2_seem_17 : decode cX2_seem 17 = .ok (.if_icmp .ne 17, 3) := by decide +kernel
theorem dX2_seem_20 : decode cX2_seem 20 = .ok (.aload_n 0, 1) := by decide +kernel
theorem dX2_seem_21 : decode cX2_seem 21 = .ok (.getfield 15, 3) := by decide +kernel
theorem dX2_seem_24 : decode cX2_seem 24 = .ok (.iload_n 1, 1) := by decide +kernel
theorem dX2_seem_25 : decode cX2_seem 25 = .ok (.aaload, 1) := by decide +kernel
theorem dX2_seem_26 : decode cX2_seem 26 = .ok (.bipush 6, 2) := by decide +kernel
theorem dX2_seem_28 : decode cX2_seem 28 = .ok (.iaload, 1) := by decide +kernel
theorem dX2_seem_29 : decode cX2_seem 29 = .ok (.iconst 3, 1) := by decide +kernel
theorem dX2_seem_30 : decode cX2_seem 30 = .ok (.idiv, 1) := by decide +kernel
theorem dX2_seem_31 : decode cX2_seem 31 = .ok (.goto 4, 3) := by decide +kernel
theorem dX2_seem_34 : decode cX2_seem 34 = .ok (.iconst 0, 1) := by decide +kernel
theorem dX2_seem_35 : decode cX2_seem 35 = .ok (.iadd, 1) := by decide +kernel
theorem dX2_seem_36 : decode cX2_seem 36 = .ok (.ireturn, 1) := by decide +kernel
set_option maxRecDepth 20000 in
theorem ggX2_next_X2_free : GoodIn wsX2_next wsX2_free := goodIn_r _ [8, 3, 2, 13, 14, 15, 16, 17, 18] (by decide +kernel) (by decide +kernel)
set_option maxRecDepth 20000 in
theorem gX2_next_X2_free : GoodIn wsX2_next (wsV RX2 43 RX2 yX2_free wsX2_free) := goodIn_app (goodIn_of _ (by decide +kernel)) ggX2_next_X2_free
set_option maxRecDepth 20000 in
theorem ggX2_next_X2_seem : GoodIn wsX2_next wsX2_seem := goodIn_r _ [12, 2, 13, 14, 15, 16, 17, 18] (by decide +kernel) (by decide +kernel)
set_option maxRecDepth 20000 in
theorem gX2_next_X2_seem : GoodIn wsX2_next (wsV RX2 47 RX2 yX2_seem wsX2_seem) := goodIn_app (goodIn_of _ (by decide +kernel)) ggX2_next_X2_seem
theorem dX2_next_0 : decode cX2_next 0 = .ok (.iconst (-1), 1) := by decide +kernel
theorem dX2_next_1 : decode cX2_next 1 = .ok (.istore_n 2, 1) := by decide +kernel
theorem dX2_next_2 : decode cX2_next 2 = .ok (.aload_n 0, 1) := by decide +kernel
theorem dX2_next_3 : decode cX2_next 3 = .ok (.getfield 18, 3) := by decide +kernel
theorem dX2_next_6 : decode cX2_next 6 = .ok (.iload_n 1, 1) := by decide +kernel
theorem dX2_next_7 : decode cX2_next 7 = .ok (.aaload, 1) := by decide +kernel
theorem dX2_next_8 : decode cX2_next 8 = .ok (.astore_n 3, 1) := by decide +kernel
theorem dX2_next_9 : decode cX2_next 9 = .ok (.aload_n 3, 1) := by decide +kernel
theorem dX2_next_10 : decode cX2_next 10 = .ok (.arraylength, 1) := by decide +kernel
theorem dX2_next_11 : decode cX2_next 11 = .ok (.istore 4, 2) := by decide +kernel
theorem dX2_next_13 : decode cX2_next 13 = .ok (.iconst 0, 1) := by decide +kernel
theorem dX2_next_14 : decode cX2_next 14 = .ok (.istore 5, 2) := by decide +kernel
theorem dX2_next_16 : decode cX2_next 16 = .ok (.iload 5, 2) := by decide +kernel
theorem dX2_next_18 : decode cX2_next 18 = .ok (.iload 4, 2) := by decide +kernel
theorem dX2_next_20 : decode cX2_next 20 = .ok (.if_icmp .ge 88, 3) := by decide +kernel
theorem dX2_next_23 : decode cX2_next 23 = .ok (.aload_n 3, 1) := by decide +kernel
theorem dX2_next_24 : decode cX2_next 24 = .ok (.iload 5, 2) := by decide +kernel
theorem dX2_next_26 : decode cX2_next 26 = .ok (.iaload, 1) := by decide +kernel
theorem dX2_next_27 : decode cX2_next 27 = .ok (.istore 6, 2) := by decide +kernel
theorem dX2_next_29 : decode cX2_next 29 = .ok (.aload_n 0, 1) := by decide +kernel
theorem dX2_next_30 : decode cX2_next 30 = .ok (.getfield 15, 3) := by decide +kernel
theorem dX2_next_33 : decode cX2_next 33 = .ok (.iload 6, 2) := by decide +kernel
theorem dX2_next_35 : decode cX2_next 35 = .ok (.aaload, 1) := by decide +kernel
theorem dX2_next_36 : decode cX2_next 36 = .ok (.iconst 3, 1) := by decide +kernel
theorem dX2_next_37 : decode cX2_next 37 = .ok (.iaload, 1) := by decide +kernel
theorem dX2_next_38 : decode cX2_next 38 = .ok (.aload_n 0, 1) := by decide +kernel
theorem dX2_next_39 : decode cX2_next 39 = .ok (.iload_n 1, 1) := by decide +kernel
theorem dX2_next_40 : decode cX2_next 40 = .ok (.invokevirtual 43, 3) := by decide +kernel
theorem dX2_next_43 : decode cX2_next 43 = .ok (.if_icmp .gt 7, 3) := by decide +kernel
theorem dX2_next_46 : decode cX2_next 46 = .ok (.iconst 1, 1) := by decide +kernel
theorem dX2_next_47 : decode cX2_next 47 = .ok (.goto 4, 3) := by decide +kernel
theorem dX2_next_50 : decode cX2_next 50 = .ok (.iconst 0, 1) := by decide +kernel
theorem dX2_next_51 : decode cX2_next 51 = .ok (.istore 7, 2) := by decide +kernel
theorem dX2_next_53 : decode cX2_next 53 = .ok (.aload_n 0, 1) := by decide +kernel
theorem dX2_next_54 : decode cX2_next 54 = .ok (.getfield 9, 3) := by decide +kernel
theorem dX2_next_57 : decode cX2_next 57 = .ok (.iload_n 1, 1) := by decide +kernel
theorem dX2_next_58 : decode cX2_next 58 = .ok (.aaload, 1) := by decide +kernel
theorem dX2_next_59 : decode cX2_next 59 = .ok (.iconst 1, 1) := by decide +kernel
theorem dX2_next_60 : decode cX2_next 60 = .ok (.iaload, 1) := by decide +kernel
theorem dX2_next_61 : decode cX2_next 61 = .ok (.ifCond .ne 15, 3) := by decide +kernel
theorem dX2_next_64 : decode cX2_next 64 = .ok (.iload 7, 2) := by decide +kernel
theorem dX2_next_66 : decode cX2_next 66 = .ok (.ifCond .eq 8, 3) := by decide +kernel
theorem dX2_next_69 : decode cX2_next 69 = .ok (.iload 6, 2) := by decide +kernel
theorem dX2_next_71 : decode cX2_next 71 = .ok (.goto 4, 3) := by decide +kernel
theorem dX2_next_74 : decode cX2_next 74 = .ok (.iconst (-1), 1) := by decide +kernel
theorem dX2_next_75 : decode cX2_next 75 = .ok (.ireturn, 1) := by decide +kernel
theorem dX2_next_76 : decode cX2_next 76 = .ok (.iload 7, 2) := by decide +kernel
theorem dX2_next_78 : decode cX2_next 78 = .ok (.ifCond .eq 24, 3) := by decide +kernel
theorem dX2_next_81 : decode cX2_next 81 = .ok (.iload_n 2, 1) := by decide +kernel
theorem dX2_next_82 : decode cX2_next 82 = .ok (.ifCond .lt 17, 3) := by decide +kernel
theorem dX2_next_85 : decode cX2_next 85 = .ok (.aload_n 0, 1) := by decide +kernel
theorem dX2_next_86 : decode cX2_next 86 = .ok (.iload 6, 2) := by decide +kernel
theorem dX2_next_88 : decode cX2_next 88 = .ok (.invokevirtual 47, 3) := by decide +kernel
theorem dX2_next_91 : decode cX2_next 91 = .ok (.aload_n 0, 1) := by decide +kernel
theorem dX2_next_92 : decode cX2_next 92 = .ok (.iload_n 2, 1) := by decide +kernel
theorem dX2_next_93 : decode cX2_next 93 = .ok (.invokevirtual 47, 3) := by decide +kernel
theorem dX2_next_96 : decode cX2_next 96 = .ok (.if_icmp .le 6, 3) := by decide +kernel
theorem dX2_next_99 : decode cX2_next 99 = .ok (.iload 6, 2) := by decide +kernel
theorem dX2_next_101 : decode cX2_next 101 = .ok (.istore_n 2, 1) := by decide +kernel
theorem dX2_next_102 : decode cX2_next 102 = .ok (.iinc 5 1, 3) := by decide +kernel
theorem dX2_next_105 : decode cX2_next 105 = .ok (.goto (-89), 3) := by decide +kernel
theorem dX2_next_108 : decode cX2_next 108 = .ok (.iload_n 2, 1) := by decide +kernel
theorem dX2_next_109 : decode cX2_next 109 = .ok (.ireturn, 1) := by decide +kernel
theorem dX2_place_0 : decode cX2_place 0 = .ok (.aload_n 0, 1) := by decide +kernel
theorem dX2_place_1 : decode cX2_place 1 = .ok (.getfield 15, 3) := by decide +kernel
theorem dX2_place_4 : decode cX2_place 4 = .ok (.iload_n 1, 1) := by decide +kernel
theorem dX2_place_5 : decode cX2_place 5 = .ok (.aaload, 1) := by decide +kernel
theorem dX2_place_6 : decode cX2_place 6 = .ok (.iconst 1, 1) := by decide +kernel
theorem dX2_place_7 : decode cX2_place 7 = .ok (.iaload, 1) := by decide +kernel
theorem dX2_place_8 : decode cX2_place 8 = .ok (.iconst 1, 1) := by decide +kernel
theorem dX2_place_9 : decode cX2_place 9 = .ok (.if_icmp .eq 5, 3) := by decide +kernel
theorem dX2_place_12 : decode cX2_place 12 = .ok (.iconst (-1), 1) := by decide +kernel
theorem dX2_place_13 : decode cX2_place 13 = .ok (.ireturn, 1) := by decide +kernel
theorem dX2_place_14 : decode cX2_place 14 = .ok (.aload_n 0, 1) := by decide +kernel
theorem dX2_place_15 : decode cX2_place 15 = .ok (.getfield 18, 3) := by decide +kernel
theorem dX2_place_18 : decode cX2_place 18 = .ok (.aload_n 0, 1) := by decide +kernel
theorem dX2_place_19 : decode cX2_place 19 = .ok (.getfield 15, 3) := by decide +kernel
theorem dX2_place_22 : decode cX2_place 22 = .ok (.iload_n 1, 1) := by decide +kernel
theorem dX2_place_23 : decode cX2_place 23 = .ok (.aaload, 1) := by decide +kernel
theorem dX2_place_24 : decode cX2_place 24 = .ok (.iconst 2, 1) := by decide +kernel
theorem dX2_place_25 : decode cX2_place 25 = .ok (.iaload, 1) := by decide +kernel
theorem dX2_place_26 : decode cX2_place 26 = .ok (.aaload, 1) := by decide +kernel
theorem dX2_place_27 : decode cX2_place 27 = .ok (.astore_n 2, 1) := by decide +kernel
theorem dX2_place_28 : decode cX2_place 28 = .ok (.iconst 0, 1) := by decide +kernel
theorem dX2_place_29 : decode cX2_place 29 = .ok (.istore_n 3, 1) := by decide +kernel
theorem dX2_place_30 : decode cX2_place 30 = .ok (.aload_n 2, 1) := by decide +kernel
theorem dX2_place_31 : decode cX2_place 31 = .ok (.iload_n 3, 1) := by decide +kernel
theorem dX2_place_32 : decode cX2_place 32 = .ok (.iaload, 1) := by decide +kernel
theorem dX2_place_33 : decode cX2_place 33 = .ok (.iload_n 1, 1) := by decide +kernel
theorem dX2_place_34 : decode cX2_place 34 = .ok (.if_icmp .eq 9, 3) := by decide +kernel
theorem dX2_place_37 : decode cX2_place 37 = .ok (.iinc 3 1, 3) := by decide +kernel
theorem dX2_place_40 : decode cX2_place 40 = .ok (.goto (-10), 3) := by decide +kernel
theorem dX2_place_43 : decode cX2_place 43 = .ok (.iload_n 3, 1) := by decide +kernel
theorem dX2_place_44 : decode cX2_place 44 = .ok (.ireturn, 1) := by decide +kernel
set_option maxRecDepth 20000 in
theorem ggX2_ask_X2_with_ : GoodIn wsX2_ask wsX2_with_ := goodIn_r _ [6, 7] (by decide +kernel) (by decide +kernel)
set_option maxRecDepth 20000 in
theorem gX2_ask_X2_with_ : GoodIn wsX2_ask (va_wsS RX2 21 yX2_with_ wsX2_with_) := goodIn_app (goodIn_of _ (by decide +kernel)) ggX2_ask_X2_with_
theorem dX2_ask_0 : decode cX2_ask 0 = .ok (.aload_n 0, 1) := by decide +kernel
theorem dX2_ask_1 : decode cX2_ask 1 = .ok (.getfield 15, 3) := by decide +kernel
theorem dX2_ask_4 : decode cX2_ask 4 = .ok (.iload_n 1, 1) := by decide +kernel
theorem dX2_ask_5 : decode cX2_ask 5 = .ok (.aaload, 1) := by decide +kernel
theorem dX2_ask_6 : decode cX2_ask 6 = .ok (.astore 6, 2) := by decide +kernel
theorem dX2_ask_8 : decode cX2_ask 8 = .ok (.aload 6, 2) := by decide +kernel
theorem dX2_ask_10 : decode cX2_ask 10 = .ok (.iconst 1, 1) := by decide +kernel
theorem dX2_ask_11 : decode cX2_ask 11 = .ok (.iconst 1, 1) := by decide +kernel
theorem dX2_ask_12 : decode cX2_ask 12 = .ok (.iastore, 1) := by decide +kernel
theorem dX2_ask_13 : decode cX2_ask 13 = .ok (.aload 6, 2) := by decide +kernel
theorem dX2_ask_15 : decode cX2_ask 15 = .ok (.iconst 2, 1) := by decide +kernel
theorem dX2_ask_16 : decode cX2_ask 16 = .ok (.iload_n 2, 1) := by decide +kernel
theorem dX2_ask_17 : decode cX2_ask 17 = .ok (.iastore, 1) := by decide +kernel
theorem dX2_ask_18 : decode cX2_ask 18 = .ok (.aload 6, 2) := by decide +kernel
theorem dX2_ask_20 : decode cX2_ask 20 = .ok (.iconst 3, 1) := by decide +kernel
theorem dX2_ask_21 : decode cX2_ask 21 = .ok (.iload_n 3, 1) := by decide +kernel
theorem dX2_ask_22 : decode cX2_ask 22 = .ok (.iastore, 1) := by decide +kernel
theorem dX2_ask_23 : decode cX2_ask 23 = .ok (.aload 6, 2) := by decide +kernel
theorem dX2_ask_25 : decode cX2_ask 25 = .ok (.iconst 4, 1) := by decide +kernel
theorem dX2_ask_26 : decode cX2_ask 26 = .ok (.iload 4, 2) := by decide +kernel
theorem dX2_ask_28 : decode cX2_ask 28 = .ok (.iastore, 1) := by decide +kernel
theorem dX2_ask_29 : decode cX2_ask 29 = .ok (.aload 6, 2) := by decide +kernel
theorem dX2_ask_31 : decode cX2_ask 31 = .ok (.iconst 5, 1) := by decide +kernel
theorem dX2_ask_32 : decode cX2_ask 32 = .ok (.iload 5, 2) := by decide +kernel
theorem dX2_ask_34 : decode cX2_ask 34 = .ok (.iastore, 1) := by decide +kernel
theorem dX2_ask_35 : decode cX2_ask 35 = .ok (.aload 6, 2) := by decide +kernel
theorem dX2_ask_37 : decode cX2_ask 37 = .ok (.bipush 6, 2) := by decide +kernel
theorem dX2_ask_39 : decode cX2_ask 39 = .ok (.iconst 0, 1) := by decide +kernel
theorem dX2_ask_40 : decode cX2_ask 40 = .ok (.iastore, 1) := by decide +kernel
theorem dX2_ask_41 : decode cX2_ask 41 = .ok (.aload_n 0, 1) := by decide +kernel
theorem dX2_ask_42 : decode cX2_ask 42 = .ok (.getfield 18, 3) := by decide +kernel
theorem dX2_ask_45 : decode cX2_ask 45 = .ok (.iload_n 2, 1) := by decide +kernel
theorem dX2_ask_46 : decode cX2_ask 46 = .ok (.aload_n 0, 1) := by decide +kernel
theorem dX2_ask_47 : decode cX2_ask 47 = .ok (.getfield 18, 3) := by decide +kernel
theorem dX2_ask_50 : decode cX2_ask 50 = .ok (.iload_n 2, 1) := by decide +kernel
theorem dX2_ask_51 : decode cX2_ask 51 = .ok (.aaload, 1) := by decide +kernel
theorem dX2_ask_52 : decode cX2_ask 52 = .ok (.iload_n 1, 1) := by decide +kernel
theorem dX2_ask_53 : decode cX2_ask 53 = .ok (.invokestatic 21, 3) := by decide +kernel
theorem dX2_ask_56 : decode cX2_ask 56 = .ok (.aastore, 1) := by decide +kernel
theorem dX2_ask_57 : decode cX2_ask 57 = .ok (.return_, 1) := by decide +kernel
set_option maxRecDepth 20000 in
theorem ggX2_callBack_X2_without : GoodIn wsX2_callBack wsX2_without := goodIn_r _ [6, 7, 8, 9, 5, 10] (by decide +kernel) (by decide +kernel)
set_option maxRecDepth 20000 in
theorem gX2_callBack_X2_without : GoodIn wsX2_callBack (va_wsS RX2 50 yX2_without wsX2_without) := goodIn_app (goodIn_of _ (by decide +kernel)) ggX2_callBack_X2_without
theorem dX2_callBack_0 : decode cX2_callBack 0 = .ok (.aload_n 0, 1) := by decide +kernel
theorem dX2_callBack_1 : decode cX2_callBack 1 = .ok (.getfield 15, 3) := by decide +kernel
theorem dX2_callBack_4 : decode cX2_callBack 4 = .ok (.iload_n 1, 1) := by decide +kernel
theorem dX2_callBack_5 : decode cX2_callBack 5 = .ok (.aaload, 1) := by decide +kernel
theorem dX2_callBack_6 : decode cX2_callBack 6 = .ok (.astore_n 2, 1) := by decide +kernel
theorem dX2_callBack_7 : decode cX2_callBack 7 = .ok (.aload_n 2, 1) := by decide +kernel
theorem dX2_callBack_8 : decode cX2_callBack 8 = .ok (.iconst 1, 1) := by decide +kernel
theorem dX2_callBack_9 : decode cX2_callBack 9 = .ok (.iaload, 1) := by decide +kernel
theorem dX2_callBack_10 : decode cX2_callBack 10 = .ok (.iconst 2, 1) := by decide +kernel
theorem dX2_callBack_11 : decode cX2_callBack 11 = .ok (.if_icmp .ne 9, 3) := by decide +kernel
theorem dX2_callBack_14 : decode cX2_callBack 14 = .ok (.aload_n 2, 1) := by decide +kernel
theorem dX2_callBack_15 : decode cX2_callBack 15 = .ok (.iconst 3, 1) := by decide +kernel
theorem dX2_callBack_16 : decode cX2_callBack 16 = .ok (.iaload, 1) := by decide +kernel
theorem dX2_callBack_17 : decode cX2_callBack 17 = .ok (.goto 4, 3) := by decide +kernel
theorem dX2_callBack_20 : decode cX2_callBack 20 = .ok (.iconst 0, 1) := by decide +kernel
theorem dX2_callBack_21 : decode cX2_callBack 21 = .ok (.istore_n 3, 1) := by decide +kernel
theorem dX2_callBack_22 : decode cX2_callBack 22 = .ok (.aload_n 2, 1) := by decide +kernel
theorem dX2_callBack_23 : decode cX2_callBack 23 = .ok (.iconst 1, 1) := by decide +kernel
theorem dX2_callBack_24 : decode cX2_callBack 24 = .ok (.iaload, 1) := by decide +kernel
theorem dX2_callBack_25 : decode cX2_callBack 25 = .ok (.iconst 1, 1) := by decide +kernel
theorem dX2_callBack_26 : decode cX2_callBack 26 = .ok (.if_icmp .ne 23, 3) := by decide +kernel
theorem dX2_callBack_29 : decode cX2_callBack 29 = .ok (.aload_n 0, 1) := by decide +kernel
theorem dX2_callBack_30 : decode cX2_callBack 30 = .ok (.getfield 18, 3) := by decide +kernel
theorem dX2_callBack_33 : decode cX2_callBack 33 = .ok (.aload_n 2, 1) := by decide +kernel
theorem dX2_callBack_34 : decode cX2_callBack 34 = .ok (.iconst 2, 1) := by decide +kernel
theorem dX2_callBack_35 : decode cX2_callBack 35 = .ok (.iaload, 1) := by decide +kernel
theorem dX2_callBack_36 : decode cX2_callBack 36 = .ok (.aload_n 0, 1) := by decide +kernel
theorem dX2_callBack_37 : decode cX2_callBack 37 = .ok (.getfield 18, 3) := by decide +kernel
theorem dX2_callBack_40 : decode cX2_callBack 40 = .ok (.aload_n 2, 1) := by decide +kernel
theorem dX2_callBack_41 : decode cX2_callBack 41 = .ok (.iconst 2, 1) := by decide +kernel
theorem dX2_callBack_42 : decode cX2_callBack 42 = .ok (.iaload, 1) := by decide +kernel
theorem dX2_callBack_43 : decode cX2_callBack 43 = .ok (.aaload, 1) := by decide +kernel
theorem dX2_callBack_44 : decode cX2_callBack 44 = .ok (.iload_n 1, 1) := by decide +kernel
theorem dX2_callBack_45 : decode cX2_callBack 45 = .ok (.invokestatic 50, 3) := by decide +kernel
theorem dX2_callBack_48 : decode cX2_callBack 48 = .ok (.aastore, 1) := by decide +kernel
theorem dX2_callBack_49 : decode cX2_callBack 49 = .ok (.aload_n 2, 1) := by decide +kernel
theorem dX2_callBack_50 : decode cX2_callBack 50 = .ok (.iconst 1, 1) := by decide +kernel
theorem dX2_callBack_51 : decode cX2_callBack 51 = .ok (.iconst 0, 1) := by decide +kernel
theorem dX2_callBack_52 : decode cX2_callBack 52 = .ok (.iastore, 1) := by decide +kernel
theorem dX2_callBack_53 : decode cX2_callBack 53 = .ok (.iload_n 3, 1) := by decide +kernel
theorem dX2_callBack_54 : decode cX2_callBack 54 = .ok (.ireturn, 1) := by decide +kernel
set_option maxRecDepth 20000 in
theorem ggX2_pass_X2_next : GoodIn wsX2_pass wsX2_next := goodIn_r _ [11, 4, 2, 3, 12, 13, 14, 10, 15, 16, 17, 18, 19, 31, 32, 33, 34, 35, 36] (by decide +kernel) (by decide +kernel)
set_option maxRecDepth 20000 in
theorem gX2_pass_X2_next : GoodIn wsX2_pass (wsV RX2 53 RX2 yX2_next wsX2_next) := goodIn_app (goodIn_of _ (by decide +kernel)) ggX2_pass_X2_next
set_option maxRecDepth 20000 in
theorem ggX2_pass_X2_without : GoodIn wsX2_pass wsX2_without := goodIn_r _ [22, 23, 24, 25, 10, 26] (by decide +kernel) (by decide +kernel)
set_option maxRecDepth 20000 in
theorem gX2_pass_X2_without : GoodIn wsX2_pass (va_wsS RX2 50 yX2_without wsX2_without) := goodIn_app (goodIn_of _ (by decide +kernel)) ggX2_pass_X2_without
set_option maxRecDepth 20000 in
theorem ggX2_pass_X2_callBack : GoodIn wsX2_pass wsX2_callBack := goodIn_r _ [30, 2, 4, 20, 21, 10, 22, 23, 24, 25, 26, 31, 32, 33, 34, 35, 36] (by decide +kernel) (by decide +kernel)
set_option maxRecDepth 20000 in
theorem gX2_pass_X2_callBack : GoodIn wsX2_pass (wsV RX2 56 RX2 yX2_callBack wsX2_callBack) := goodIn_app (goodIn_of _ (by decide +kernel)) ggX2_pass_X2_callBack
theorem dX2_pass_0 : decode cX2_pass 0 = .ok (.aload_n 0, 1) := by decide +kernel
theorem dX2_pass_1 : decode cX2_pass 1 = .ok (.getfield 30, 3) := by decide +kernel
theorem dX2_pass_4 : decode cX2_pass 4 = .ok (.istore_n 1, 1) := by decide +kernel
theorem dX2_pass_5 : decode cX2_pass 5 = .ok (.aload_n 0, 1) := by decide +kernel
theorem dX2_pass_6 : decode cX2_pass 6 = .ok (.getfield 15, 3) := by decide +kernel
theorem dX2_pass_9 : decode cX2_pass 9 = .ok (.astore_n 2, 1) := by decide +kernel
theorem dX2_pass_10 : decode cX2_pass 10 = .ok (.aload_n 2, 1) := by decide +kernel
theorem dX2_pass_11 : decode cX2_pass 11 = .ok (.arraylength, 1) := by decide +kernel
theorem dX2_pass_12 : decode cX2_pass 12 = .ok (.istore_n 3, 1) := by decide +kernel
theorem dX2_pass_13 : decode cX2_pass 13 = .ok (.iconst 0, 1) := by decide +kernel
theorem dX2_pass_14 : decode cX2_pass 14 = .ok (.istore 4, 2) := by decide +kernel
theorem dX2_pass_16 : decode cX2_pass 16 = .ok (.iload 4, 2) := by decide +kernel
theorem dX2_pass_18 : decode cX2_pass 18 = .ok (.iload_n 3, 1) := by decide +kernel
theorem dX2_pass_19 : decode cX2_pass 19 = .ok (.if_icmp .ge 46, 3) := by decide +kernel
theorem dX2_pass_22 : decode cX2_pass 22 = .ok (.aload_n 2, 1) := by decide +kernel
theorem dX2_pass_23 : decode cX2_pass 23 = .ok (.iload 4, 2) := by decide +kernel
theorem dX2_pass_25 : decode cX2_pass 25 = .ok (.aaload, 1) := by decide +kernel
theorem dX2_pass_26 : decode cX2_pass 26 = .ok (.astore 5, 2) := by decide +kernel
theorem dX2_pass_28 : decode cX2_pass 28 = .ok (.aload 5, 2) := by decide +kernel
theorem dX2_pass_30 : decode cX2_pass 30 = .ok (.iconst 1, 1) := by decide +kernel
theorem dX2_pass_31 : decode cX2_pass 31 = .ok (.iaload, 1) := by decide +kernel
theorem dX2_pass_32 : decode cX2_pass 32 = .ok (.iconst 2, 1) := by decide +kernel
theorem dX2_pass_33 : decode cX2_pass 33 = .ok (.if_icmp .eq 6, 3) := by decide +kernel
theorem dX2_pass_36 : decode cX2_pass 36 = .ok (.goto 23, 3) := by decide +kernel
theorem dX2_pass_39 : decode cX2_pass 39 = .ok (.aload 5, 2) := by decide +kernel
theorem dX2_pass_41 : decode cX2_pass 41 = .ok (.iconst 4, 1) := by decide +kernel
theorem dX2_pass_42 : decode cX2_pass 42 = .ok (.dup2, 1) := by decide +kernel
theorem dX2_pass_43 : decode cX2_pass 43 = .ok (.iaload, 1) := by decide +kernel
theorem dX2_pass_44 : decode cX2_pass 44 = .ok (.iconst 1, 1) := by decide +kernel
theorem dX2_pass_45 : decode cX2_pass 45 = .ok (.isub, 1) := by decide +kernel
theorem dX2_pass_46 : decode cX2_pass 46 = .ok (.iastore, 1) := by decide +kernel
theorem dX2_pass_47 : decode cX2_pass 47 = .ok (.aload 5, 2) := by decide +kernel
theorem dX2_pass_49 : decode cX2_pass 49 = .ok (.iconst 4, 1) := by decide +kernel
theorem dX2_pass_50 : decode cX2_pass 50 = .ok (.iaload, 1) := by decide +kernel
theorem dX2_pass_51 : decode cX2_pass 51 = .ok (.ifCond .ne 8, 3) := by decide +kernel
theorem dX2_pass_54 : decode cX2_pass 54 = .ok (.aload 5, 2) := by decide +kernel
theorem dX2_pass_56 : decode cX2_pass 56 = .ok (.iconst 1, 1) := by decide +kernel
theorem dX2_pass_57 : decode cX2_pass 57 = .ok (.iconst 0, 1) := by decide +kernel
theorem dX2_pass_58 : decode cX2_pass 58 = .ok (.iastore, 1) := by decide +kernel
theorem dX2_pass_59 : decode cX2_pass 59 = .ok (.iinc 4 1, 3) := by decide +kernel
theorem dX2_pass_62 : decode cX2_pass 62 = .ok (.goto (-46), 3) := by decide +kernel
theorem dX2_pass_65 : decode cX2_pass 65 = .ok (.iconst 0, 1) := by decide +kernel
theorem dX2_pass_66 : decode cX2_pass 66 = .ok (.istore_n 2, 1) := by decide +kernel
theorem dX2_pass_67 : decode cX2_pass 67 = .ok (.iload_n 2, 1) := by decide +kernel
theorem dX2_pass_68 : decode cX2_pass 68 = .ok (.aload_n 0, 1) := by decide +kernel
theorem dX2_pass_69 : decode cX2_pass 69 = .ok (.getfield 9, 3) := by decide +kernel
theorem dX2_pass_72 : decode cX2_pass 72 = .ok (.arraylength, 1) := by decide +kernel
theorem dX2_pass_73 : decode cX2_pass 73 = .ok (.if_icmp .ge 63, 3) := by decide +kernel
theorem dX2_pass_76 : decode cX2_pass 76 = .ok (.aload_n 0, 1) := by decide +kernel
theorem dX2_pass_77 : decode cX2_pass 77 = .ok (.iload_n 2, 1) := by decide +kernel
theorem dX2_pass_78 : decode cX2_pass 78 = .ok (.invokevirtual 53, 3) := by decide +kernel
theorem dX2_pass_81 : decode cX2_pass 81 = .ok (.istore_n 3, 1) := by decide +kernel
theorem dX2_pass_82 : decode cX2_pass 82 = .ok (.iload_n 3, 1) := by decide +kernel
theorem dX2_pass_83 : decode cX2_pass 83 = .ok (.ifCond .lt 47, 3) := by decide +kernel
theorem dX2_pass_86 : decode cX2_pass 86 = .ok (.aload_n 0, 1) := by decide +kernel
theorem dX2_pass_87 : decode cX2_pass 87 = .ok (.getfield 15, 3) := by decide +kernel
theorem dX2_pass_90 : decode cX2_pass 90 = .ok (.iload_n 3, 1) := by decide +kernel
theorem dX2_pass_91 : decode cX2_pass 91 = .ok (.aaload, 1) := by decide +kernel
theorem dX2_pass_92 : decode cX2_pass 92 = .ok (.iconst 1, 1) := by decide +kernel
theorem dX2_pass_93 : decode cX2_pass 93 = .ok (.iconst 2, 1) := by decide +kernel
theorem dX2_pass_94 : decode cX2_pass 94 = .ok (.iastore, 1) := by decide +kernel
theorem dX2_pass_95 : decode cX2_pass 95 = .ok (.aload_n 0, 1) := by decide +kernel
theorem dX2_pass_96 : decode cX2_pass 96 = .ok (.getfield 18, 3) := by decide +kernel
theorem dX2_pass_99 : decode cX2_pass 99 = .ok (.iload_n 2, 1) := by decide +kernel
theorem dX2_pass_100 : decode cX2_pass 100 = .ok (.aload_n 0, 1) := by decide +kernel
theorem dX2_pass_101 : decode cX2_pass 101 = .ok (.getfield 18, 3) := by decide +kernel
theorem dX2_pass_104 : decode cX2_pass 104 = .ok (.iload_n 2, 1) := by decide +kernel
theorem dX2_pass_105 : decode cX2_pass 105 = .ok (.aaload, 1) := by decide +kernel
theorem dX2_pass_106 : decode cX2_pass 106 = .ok (.iload_n 3, 1) := by decide +kernel
theorem dX2_pass_107 : decode cX2_pass 107 = .ok (.invokestatic 50, 3) := by decide +kernel
theorem dX2_pass_110 : decode cX2_pass 110 = .ok (.aastore, 1) := by decide +kernel
theorem dX2_pass_111 : decode cX2_pass 111 = .ok (.aload_n 0, 1) := by decide +kernel
theorem dX2_pass_112 : decode cX2_pass 112 = .ok (.dup, 1) := by decide +kernel
theorem dX2_pass_113 : decode cX2_pass 113 = .ok (.getfield 30, 3) := by decide +kernel
theorem dX2_pass_116 : decode cX2_pass 116 = .ok (.iconst 1, 1) := by decide +kernel
theorem dX2_pass_117 : decode cX2_pass 117 = .ok (.iadd, 1) := by decide +kernel
theorem dX2_pass_118 : decode cX2_pass 118 = .ok (.putfield 30, 3) := by decide +kernel
theorem dX2_pass_121 : decode cX2_pass 121 = .ok (.aload_n 0, 1) := by decide +kernel
theorem dX2_pass_122 : decode cX2_pass 122 = .ok (.iload_n 2, 1) := by decide +kernel
theorem dX2_pass_123 : decode cX2_pass 123 = .ok (.invokevirtual 53, 3) := by decide +kernel
theorem dX2_pass_126 : decode cX2_pass 126 = .ok (.istore_n 3, 1) := by decide +kernel
theorem dX2_pass_127 : decode cX2_pass 127 = .ok (.goto (-45), 3) := by decide +kernel
theorem dX2_pass_130 : decode cX2_pass 130 = .ok (.iinc 2 1, 3) := by decide +kernel
theorem dX2_pass_133 : decode cX2_pass 133 = .ok (.goto (-66), 3) := by decide +kernel
theorem dX2_pass_136 : decode cX2_pass 136 = .ok (.iconst 0, 1) := by decide +kernel
theorem dX2_pass_137 : decode cX2_pass 137 = .ok (.istore_n 2, 1) := by decide +kernel
theorem dX2_pass_138 : decode cX2_pass 138 = .ok (.iload_n 2, 1) := by decide +kernel
theorem dX2_pass_139 : decode cX2_pass 139 = .ok (.aload_n 0, 1) := by decide +kernel
theorem dX2_pass_140 : decode cX2_pass 140 = .ok (.getfield 15, 3) := by decide +kernel
theorem dX2_pass_143 : decode cX2_pass 143 = .ok (.arraylength, 1) := by decide +kernel
theorem dX2_pass_144 : decode cX2_pass 144 = .ok (.if_icmp .ge 71, 3) := by decide +kernel
theorem dX2_pass_147 : decode cX2_pass 147 = .ok (.aload_n 0, 1) := by decide +kernel
theorem dX2_pass_148 : decode cX2_pass 148 = .ok (.getfield 15, 3) := by decide +kernel
theorem dX2_pass_151 : decode cX2_pass 151 = .ok (.iload_n 2, 1) := by decide +kernel
theorem dX2_pass_152 : decode cX2_pass 152 = .ok (.aaload, 1) := by decide +kernel
theorem dX2_pass_153 : decode cX2_pass 153 = .ok (.astore_n 3, 1) := by decide +kernel
theorem dX2_pass_154 : decode cX2_pass 154 = .ok (.aload_n 3, 1) := by decide +kernel
theorem dX2_pass_155 : decode cX2_pass 155 = .ok (.iconst 1, 1) := by decide +kernel
theorem dX2_pass_156 : decode cX2_pass 156 = .ok (.iaload, 1) := by decide +kernel
theorem dX2_pass_157 : decode cX2_pass 157 = .ok (.iconst 1, 1) := by decide +kernel
theorem dX2_pass_158 : decode cX2_pass 158 = .ok (.if_icmp .eq 6, 3) := by decide +kernel
theorem dX2_pass_161 : decode cX2_pass 161 = .ok (.goto 48, 3) := by decide +kernel
theorem dX2_pass_164 : decode cX2_pass 164 = .ok (.aload_n 3, 1) := by decide +kernel
theorem dX2_pass_165 : decode cX2_pass 165 = .ok (.bipush 6, 2) := by decide +kernel
theorem dX2_pass_167 : decode cX2_pass 167 = .ok (.dup2, 1) := by decide +kernel
theorem dX2_pass_168 : decode cX2_pass 168 = .ok (.iaload, 1) := by decide +kernel
theorem dX2_pass_169 : decode cX2_pass 169 = .ok (.iconst 1, 1) := by decide +kernel
theorem dX2_pass_170 : decode cX2_pass 170 = .ok (.iadd, 1) := by decide +kernel
theorem dX2_pass_171 : decode cX2_pass 171 = .ok (.iastore, 1) := by decide +kernel
theorem dX2_pass_172 : decode cX2_pass 172 = .ok (.aload_n 3, 1) := by decide +kernel
theorem dX2_pass_173 : decode cX2_pass 173 = .ok (.bipush 7, 2) := by decide +kernel
theorem dX2_pass_175 : decode cX2_pass 175 = .ok (.dup2, 1) := by decide +kernel
theorem dX2_pass_176 : decode cX2_pass 176 = .ok (.iaload, 1) := by decide +kernel
theorem dX2_pass_177 : decode cX2_pass 177 = .ok (.iconst 1, 1) := by decide +kernel
theorem dX2_pass_178 : decode cX2_pass 178 = .ok (.iadd, 1) := by decide +kernel
theorem dX2_pass_179 : decode cX2_pass 179 = .ok (.iastore, 1) := by decide +kernel
theorem dX2_pass_180 : decode cX2_pass 180 = .ok (.aload_n 3, 1) := by decide +kernel
theorem dX2_pass_181 : decode cX2_pass 181 = .ok (.bipush 6, 2) := by decide +kernel
theorem dX2_pass_183 : decode cX2_pass 183 = .ok (.iaload, 1) := by decide +kernel
theorem dX2_pass_184 : decode cX2_pass 184 = .ok (.aload_n 3, 1) := by decide +kernel
theorem dX2_pass_185 : decode cX2_pass 185 = .ok (.iconst 5, 1) := by decide +kernel
theorem dX2_pass_186 : decode cX2_pass 186 = .ok (.iaload, 1) := by decide +kernel
theorem dX2_pass_187 : decode cX2_pass 187 = .ok (.if_icmp .ge 6, 3) := by decide +kernel
theorem dX2_pass_190 : decode cX2_pass 190 = .ok (.goto 19, 3) := by decide +kernel
theorem dX2_pass_193 : decode cX2_pass 193 = .ok (.aload_n 0, 1) := by decide +kernel
theorem dX2_pass_194 : decode cX2_pass 194 = .ok (.iload_n 2, 1) := by decide +kernel
theorem dX2_pass_195 : decode cX2_pass 195 = .ok (.invokevirtual 56, 3) := by decide +kernel
theorem dX2_pass_198 : decode cX2_pass 198 = .ok (.pop, 1) := by decide +kernel
theorem dX2_pass_199 : decode cX2_pass 199 = .ok (.aload_n 0, 1) := by decide +kernel
theorem dX2_pass_200 : decode cX2_pass 200 = .ok (.dup, 1) := by decide +kernel
theorem dX2_pass_201 : decode cX2_pass 201 = .ok (.getfield 33, 3) := by decide +kernel
theorem dX2_pass_204 : decode cX2_pass 204 = .ok (.iconst 1, 1) := by decide +kernel
theorem dX2_pass_205 : decode cX2_pass 205 = .ok (.iadd, 1) := by decide +kernel
theorem dX2_pass_206 : decode cX2_pass 206 = .ok (.putfield 33, 3) := by decide +kernel
theorem dX2_pass_209 : decode cX2_pass 209 = .ok (.iinc 2 1, 3) := by decide +kernel
theorem dX2_pass_212 : decode cX2_pass 212 = .ok (.goto (-74), 3) := by decide +kernel
theorem dX2_pass_215 : decode cX2_pass 215 = .ok (.aload_n 0, 1) := by decide +kernel
theorem dX2_pass_216 : decode cX2_pass 216 = .ok (.dup, 1) := by decide +kernel
theorem dX2_pass_217 : decode cX2_pass 217 = .ok (.getfield 26, 3) := by decide +kernel
theorem dX2_pass_220 : decode cX2_pass 220 = .ok (.iconst 1, 1) := by decide +kernel
theorem dX2_pass_221 : decode cX2_pass 221 = .ok (.iadd, 1) := by decide +kernel
theorem dX2_pass_222 : decode cX2_pass 222 = .ok (.putfield 26, 3) := by decide +kernel
theorem dX2_pass_225 : decode cX2_pass 225 = .ok (.aload_n 0, 1) := by decide +kernel
theorem dX2_pass_226 : decode cX2_pass 226 = .ok (.getfield 30, 3) := by decide +kernel
theorem dX2_pass_229 : decode cX2_pass 229 = .ok (.iload_n 1, 1) := by decide +kernel
theorem dX2_pass_230 : decode cX2_pass 230 = .ok (.isub, 1) := by decide +kernel
theorem dX2_pass_231 : decode cX2_pass 231 = .ok (.ireturn, 1) := by decide +kernel
set_option maxRecDepth 20000 in
theorem ggX2_pass__X2_pass : GoodIn wsX2_pass_ wsX2_pass := goodIn_r _ [5, 6, 7, 8, 9, 10, 11, 12, 13, 14, 4, 15, 16, 17, 18, 19, 20, 21, 22, 23, 24, 25, 26, 27, 28, 29, 30, 31, 32, 33, 34, 35, 36, 37, 38, 39, 40] (by decide +kernel) (by decide +kernel)
set_option maxRecDepth 20000 in
theorem gX2_pass__X2_pass : GoodIn wsX2_pass_ (wsV RX2 59 RX2 yX2_pass wsX2_pass) := goodIn_app (goodIn_of _ (by decide +kernel)) ggX2_pass__X2_pass
theorem dX2_pass__0 : decode cX2_pass_ 0 = .ok (.iconst 0, 1) := by decide +kernel
theorem dX2_pass__1 : decode cX2_pass_ 1 = .ok (.istore_n 2, 1) := by decide +kernel
theorem dX2_pass__2 : decode cX2_pass_ 2 = .ok (.iconst 0, 1) := by decide +kernel
theorem dX2_pass__3 : decode cX2_pass_ 3 = .ok (.istore_n 3, 1) := by decide +kernel
theorem dX2_pass__4 : decode cX2_pass_ 4 = .ok (.iload_n 3, 1) := by decide +kernel
theorem dX2_pass__5 : decode cX2_pass_ 5 = .ok (.iload_n 1, 1) := by decide +kernel
theorem dX2_pass__6 : decode cX2_pass_ 6 = .ok (.if_icmp .ge 16, 3) := by decide +kernel
theorem dX2_pass__9 : decode cX2_pass_ 9 = .ok (.iload_n 2, 1) := by decide +kernel
theorem dX2_pass__10 : decode cX2_pass_ 10 = .ok (.aload_n 0, 1) := by decide +kernel
theorem dX2_pass__11 : decode cX2_pass_ 11 = .ok (.invokevirtual 59, 3) := by decide +kernel
theorem dX2_pass__14 : decode cX2_pass_ 14 = .ok (.iadd, 1) := by decide +kernel
theorem dX2_pass__15 : decode cX2_pass_ 15 = .ok (.istore_n 2, 1) := by decide +kernel
theorem dX2_pass__16 : decode cX2_pass_ 16 = .ok (.iinc 3 1, 3) := by decide +kernel
theorem dX2_pass__19 : decode cX2_pass_ 19 = .ok (.goto (-15), 3) := by decide +kernel
theorem dX2_pass__22 : decode cX2_pass_ 22 = .ok (.iload_n 2, 1) := by decide +kernel
theorem dX2_pass__23 : decode cX2_pass_ 23 = .ok (.ireturn, 1) := by decide +kernel
set_option maxRecDepth 20000 in
theorem ggX2_until_X2_copy : GoodIn wsX2_until wsX2_copy := goodIn_r _ [6, 7, 8, 5, 9, 10, 11, 12, 13, 14, 15, 16, 17, 18, 1, 19, 20, 21, 22, 23, 24, 25, 26, 27, 28, 56, 57, 58, 59, 60, 61] (by decide +kernel) (by decide +kernel)
set_option maxRecDepth 20000 in
theorem gX2_until_X2_copy : GoodIn wsX2_until (wsV RX2 63 RX2 yX2_copy wsX2_copy) := goodIn_app (goodIn_of _ (by decide +kernel)) ggX2_until_X2_copy
set_option maxRecDepth 20000 in
theorem ggX2_until_X2_pass : GoodIn wsX2_until wsX2_pass := goodIn_r _ [32, 10, 1, 12, 19, 11, 9, 33, 34, 35, 5, 36, 37, 38, 39, 40, 41, 42, 43, 44, 45, 46, 47, 48, 49, 50, 51, 52, 53, 54, 55, 56, 57, 58, 59, 60, 61] (by decide +kernel) (by decide +kernel)
set_option maxRecDepth 20000 in
theorem gX2_until_X2_pass : GoodIn wsX2_until (wsV RX2 59 RX2 yX2_pass wsX2_pass) := goodIn_app (goodIn_of _ (by decide +kernel)) ggX2_until_X2_pass
theorem dX2_until_0 : decode cX2_until 0 = .ok (.aload_n 0, 1) := by decide +kernel
theorem dX2_until_1 : decode cX2_until 1 = .ok (.invokevirtual 63, 3) := by decide +kernel
theorem dX2_until_4 : decode cX2_until 4 = .ok (.astore_n 2, 1) := by decide +kernel
theorem dX2_until_5 : decode cX2_until 5 = .ok (.iconst 1, 1) := by decide +kernel
theorem dX2_until_6 : decode cX2_until 6 = .ok (.istore_n 3, 1) := by decide +kernel
theorem dX2_until_7 : decode cX2_until 7 = .ok (.aload_n 2, 1) := by decide +kernel
theorem dX2_until_8 : decode cX2_until 8 = .ok (.getfield 15, 3) := by decide +kernel
theorem dX2_until_11 : decode cX2_until 11 = .ok (.iload_n 1, 1) := by decide +kernel
theorem dX2_until_12 : decode cX2_until 12 = .ok (.aaload, 1) := by decide +kernel
theorem dX2_until_13 : decode cX2_until 13 = .ok (.iconst 1, 1) := by decide +kernel
theorem dX2_until_14 : decode cX2_until 14 = .ok (.iaload, 1) := by decide +kernel
theorem dX2_until_15 : decode cX2_until 15 = .ok (.iconst 1, 1) := by decide +kernel
theorem dX2_until_16 : decode cX2_until 16 = .ok (.if_icmp .ne 28, 3) := by decide +kernel
theorem dX2_until_19 : decode cX2_until 19 = .ok (.aload_n 2, 1) := by decide +kernel
theorem dX2_until_20 : decode cX2_until 20 = .ok (.invokevirtual 59, 3) := by decide +kernel
theorem dX2_until_23 : decode cX2_until 23 = .ok (.pop, 1) := by decide +kernel
theorem dX2_until_24 : decode cX2_until 24 = .ok (.aload_n 2, 1) := by decide +kernel
theorem dX2_until_25 : decode cX2_until 25 = .ok (.getfield 15, 3) := by decide +kernel
theorem dX2_until_28 : decode cX2_until 28 = .ok (.iload_n 1, 1) := by decide +kernel
theorem dX2_until_29 : decode cX2_until 29 = .ok (.aaload, 1) := by decide +kernel
theorem dX2_until_30 : decode cX2_until 30 = .ok (.iconst 1, 1) := by decide +kernel
theorem dX2_until_31 : decode cX2_until 31 = .ok (.iaload, 1) := by decide +kernel
theorem dX2_until_32 : decode cX2_until 32 = .ok (.iconst 2, 1) := by decide +kernel
theorem dX2_until_33 : decode cX2_until 33 = .ok (.if_icmp .ne 5, 3) := by decide +kernel
theorem dX2_until_36 : decode cX2_until 36 = .ok (.iload_n 3, 1) := by decide +kernel
theorem dX2_until_37 : decode cX2_until 37 = .ok (.ireturn, 1) := by decide +kernel
theorem dX2_until_38 : decode cX2_until 38 = .ok (.iinc 3 1, 3) := by decide +kernel
theorem dX2_until_41 : decode cX2_until 41 = .ok (.goto (-34), 3) := by decide +kernel
theorem dX2_until_44 : decode cX2_until 44 = .ok (.iconst (-1), 1) := by decide +kernel
theorem dX2_until_45 : decode cX2_until 45 = .ok (.ireturn, 1) := by decide +kernel
set_option maxRecDepth 20000 in
theorem ggX2_lost_X2_copy : GoodIn wsX2_lost wsX2_copy := goodIn_r _ [7, 8, 9, 6, 10, 11, 12, 1, 13, 14, 15, 16, 17, 18, 19, 2, 20, 21, 22, 23, 24, 25, 26, 27, 28, 60, 61, 62, 63, 64, 65] (by decide +kernel) (by decide +kernel)
set_option maxRecDepth 20000 in
theorem gX2_lost_X2_copy : GoodIn wsX2_lost (wsV RX2 63 RX2 yX2_copy wsX2_copy) := goodIn_app (goodIn_of _ (by decide +kernel)) ggX2_lost_X2_copy
set_option maxRecDepth 20000 in
theorem ggX2_lost_X2_until : GoodIn wsX2_lost wsX2_until := goodIn_r _ [32, 19, 3, 4, 5, 6, 7, 8, 9, 10, 11, 12, 1, 13, 14, 15, 16, 17, 18, 2, 20, 21, 22, 23, 24, 25, 26, 27, 28, 33, 34, 35, 36, 37, 38, 39, 40, 41, 42, 43, 44, 45, 46, 47, 48, 49, 50, 51, 52, 53, 54, 55, 56, 57, 58, 59, 60, 61, 62, 63, 64, 65] (by decide +kernel) (by decide +kernel)
set_option maxRecDepth 20000 in
theorem gX2_lost_X2_until : GoodIn wsX2_lost (wsV RX2 67 RX2 yX2_until wsX2_until) := goodIn_app (goodIn_of _ (by decide +kernel)) ggX2_lost_X2_until
theorem dX2_lost_0 : decode cX2_lost 0 = .ok (.aload_n 0, 1) := by decide +kernel
theorem dX2_lost_1 : decode cX2_lost 1 = .ok (.invokevirtual 63, 3) := by decide +kernel
theorem dX2_lost_4 : decode cX2_lost 4 = .ok (.astore 4, 2) := by decide +kernel
theorem dX2_lost_6 : decode cX2_lost 6 = .ok (.aload 4, 2) := by decide +kernel
theorem dX2_lost_8 : decode cX2_lost 8 = .ok (.getfield 9, 3) := by decide +kernel
theorem dX2_lost_11 : decode cX2_lost 11 = .ok (.iload_n 1, 1) := by decide +kernel
theorem dX2_lost_12 : decode cX2_lost 12 = .ok (.aaload, 1) := by decide +kernel
theorem dX2_lost_13 : decode cX2_lost 13 = .ok (.iconst 0, 1) := by decide +kernel
theorem dX2_lost_14 : decode cX2_lost 14 = .ok (.iload_n 2, 1) := by decide +kernel
theorem dX2_lost_15 : decode cX2_lost 15 = .ok (.iastore, 1) := by decide +kernel
theorem dX2_lost_16 : decode cX2_lost 16 = .ok (.aload 4, 2) := by decide +kernel
theorem dX2_lost_18 : decode cX2_lost 18 = .ok (.getfield 9, 3) := by decide +kernel
theorem dX2_lost_21 : decode cX2_lost 21 = .ok (.iload_n 1, 1) := by decide +kernel
theorem dX2_lost_22 : decode cX2_lost 22 = .ok (.aaload, 1) := by decide +kernel
theorem dX2_lost_23 : decode cX2_lost 23 = .ok (.iconst 1, 1) := by decide +kernel
theorem dX2_lost_24 : decode cX2_lost 24 = .ok (.iload_n 3, 1) := by decide +kernel
theorem dX2_lost_25 : decode cX2_lost 25 = .ok (.iastore, 1) := by decide +kernel
theorem dX2_lost_26 : decode cX2_lost 26 = .ok (.iconst 0, 1) := by decide +kernel
theorem dX2_lost_27 : decode cX2_lost 27 = .ok (.istore 5, 2) := by decide +kernel
theorem dX2_lost_29 : decode cX2_lost 29 = .ok (.aload_n 0, 1) := by decide +kernel
theorem dX2_lost_30 : decode cX2_lost 30 = .ok (.getfield 18, 3) := by decide +kernel
theorem dX2_lost_33 : decode cX2_lost 33 = .ok (.iload_n 1, 1) := by decide +kernel
theorem dX2_lost_34 : decode cX2_lost 34 = .ok (.aaload, 1) := by decide +kernel
theorem dX2_lost_35 : decode cX2_lost 35 = .ok (.astore 6, 2) := by decide +kernel
theorem dX2_lost_37 : decode cX2_lost 37 = .ok (.aload 6, 2) := by decide +kernel
theorem dX2_lost_39 : decode cX2_lost 39 = .ok (.arraylength, 1) := by decide +kernel
theorem dX2_lost_40 : decode cX2_lost 40 = .ok (.istore 7, 2) := by decide +kernel
theorem dX2_lost_42 : decode cX2_lost 42 = .ok (.iconst 0, 1) := by decide +kernel
theorem dX2_lost_43 : decode cX2_lost 43 = .ok (.istore 8, 2) := by decide +kernel
theorem dX2_lost_45 : decode cX2_lost 45 = .ok (.iload 8, 2) := by decide +kernel
theorem dX2_lost_47 : decode cX2_lost 47 = .ok (.iload 7, 2) := by decide +kernel
theorem dX2_lost_49 : decode cX2_lost 49 = .ok (.if_icmp .ge 36, 3) := by decide +kernel
theorem dX2_lost_52 : decode cX2_lost 52 = .ok (.aload 6, 2) := by decide +kernel
theorem dX2_lost_54 : decode cX2_lost 54 = .ok (.iload 8, 2) := by decide +kernel
theorem dX2_lost_56 : decode cX2_lost 56 = .ok (.iaload, 1) := by decide +kernel
theorem dX2_lost_57 : decode cX2_lost 57 = .ok (.istore 9, 2) := by decide +kernel
theorem dX2_lost_59 : decode cX2_lost 59 = .ok (.iload 5, 2) := by decide +kernel
theorem dX2_lost_61 : decode cX2_lost 61 = .ok (.aload 4, 2) := by decide +kernel
theorem dX2_lost_63 : decode cX2_lost 63 = .ok (.iload 9, 2) := by decide +kernel
theorem dX2_lost_65 : decode cX2_lost 65 = .ok (.invokevirtual 67, 3) := by decide +kernel
theorem dX2_lost_68 : decode cX2_lost 68 = .ok (.ifCond .ge 7, 3) := by decide +kernel
theorem dX2_lost_71 : decode cX2_lost 71 = .ok (.iconst 1, 1) := by decide +kernel
theorem dX2_lost_72 : decode cX2_lost 72 = .ok (.goto 4, 3) := by decide +kernel
theorem dX2_lost_75 : decode cX2_lost 75 = .ok (.iconst 0, 1) := by decide +kernel
theorem dX2_lost_76 : decode cX2_lost 76 = .ok (.iadd, 1) := by decide +kernel
theorem dX2_lost_77 : decode cX2_lost 77 = .ok (.istore 5, 2) := by decide +kernel
theorem dX2_lost_79 : decode cX2_lost 79 = .ok (.iinc 8 1, 3) := by decide +kernel
theorem dX2_lost_82 : decode cX2_lost 82 = .ok (.goto (-37), 3) := by decide +kernel
theorem dX2_lost_85 : decode cX2_lost 85 = .ok (.iload 5, 2) := by decide +kernel
theorem dX2_lost_87 : decode cX2_lost 87 = .ok (.ireturn, 1) := by decide +kernel
theorem dX2_many_0 : decode cX2_many 0 = .ok (.iconst 0, 1) := by decide +kernel
theorem dX2_many_1 : decode cX2_many 1 = .ok (.istore_n 2, 1) := by decide +kernel
theorem dX2_many_2 : decode cX2_many 2 = .ok (.aload_n 0, 1) := by decide +kernel
theorem dX2_many_3 : decode cX2_many 3 = .ok (.getfield 15, 3) := by decide +kernel
theorem dX2_many_6 : decode cX2_many 6 = .ok (.astore_n 3, 1) := by decide +kernel
theorem dX2_many_7 : decode cX2_many 7 = .ok (.aload_n 3, 1) := by decide +kernel
theorem dX2_many_8 : decode cX2_many 8 = .ok (.arraylength, 1) := by decide +kernel
theorem dX2_many_9 : decode cX2_many 9 = .ok (.istore 4, 2) := by decide +kernel
theorem dX2_many_11 : decode cX2_many 11 = .ok (.iconst 0, 1) := by decide +kernel
theorem dX2_many_12 : decode cX2_many 12 = .ok (.istore 5, 2) := by decide +kernel
theorem dX2_many_14 : decode cX2_many 14 = .ok (.iload 5, 2) := by decide +kernel
theorem dX2_many_16 : decode cX2_many 16 = .ok (.iload 4, 2) := by decide +kernel
theorem dX2_many_18 : decode cX2_many 18 = .ok (.if_icmp .ge 31, 3) := by decide +kernel
theorem dX2_many_21 : decode cX2_many 21 = .ok (.aload_n 3, 1) := by decide +kernel
theorem dX2_many_22 : decode cX2_many 22 = .ok (.iload 5, 2) := by decide +kernel
theorem dX2_many_24 : decode cX2_many 24 = .ok (.aaload, 1) := by decide +kernel
theorem dX2_many_25 : decode cX2_many 25 = .ok (.astore 6, 2) := by decide +kernel
theorem dX2_many_27 : decode cX2_many 27 = .ok (.iload_n 2, 1) := by decide +kernel
theorem dX2_many_28 : decode cX2_many 28 = .ok (.aload 6, 2) := by decide +kernel
theorem dX2_many_30 : decode cX2_many 30 = .ok (.iconst 1, 1) := by decide +kernel
theorem dX2_many_31 : decode cX2_many 31 = .ok (.iaload, 1) := by decide +kernel
theorem dX2_many_32 : decode cX2_many 32 = .ok (.iload_n 1, 1) := by decide +kernel
theorem dX2_many_33 : decode cX2_many 33 = .ok (.if_icmp .ne 7, 3) := by decide +kernel
theorem dX2_many_36 : decode cX2_many 36 = .ok (.iconst 1, 1) := by decide +kernel
theorem dX2_many_37 : decode cX2_many 37 = .ok (.goto 4, 3) := by decide +kernel
theorem dX2_many_40 : decode cX2_many 40 = .ok (.iconst 0, 1) := by decide +kernel
theorem dX2_many_41 : decode cX2_many 41 = .ok (.iadd, 1) := by decide +kernel
theorem dX2_many_42 : decode cX2_many 42 = .ok (.istore_n 2, 1) := by decide +kernel
theorem dX2_many_43 : decode cX2_many 43 = .ok (.iinc 5 1, 3) := by decide +kernel
theorem dX2_many_46 : decode cX2_many 46 = .ok (.goto (-32), 3) := by decide +kernel
theorem dX2_many_49 : decode cX2_many 49 = .ok (.iload_n 2, 1) := by decide +kernel
theorem dX2_many_50 : decode cX2_many 50 = .ok (.ireturn, 1) := by decide +kernel
set_option maxRecDepth 20000 in
theorem ggX2_isSame_X1_stateOf : GoodIn wsX2_isSame wsX1_stateOf := goodIn_ca (goodIn_r _ [11, 12, 13, 14, 15, 16, 10, 17, 18, 19, 20, 194, 195, 196, 197, 198, 199, 200, 201, 202, 203, 204, 205, 206, 207, 208, 209, 210, 211, 212] (by decide +kernel) (by decide +kernel)) (goodIn_sub (fun _ h => List.mem_cons_of_mem _ (List.mem_append_right _ h)) (by decide +kernel))
set_option maxRecDepth 20000 in
theorem gX2_isSame_X1_stateOf : GoodIn wsX2_isSame (wsV RX2 70 RX1 yX1_stateOf wsX1_stateOf) := goodIn_app (goodIn_of _ (by decide +kernel)) ggX2_isSame_X1_stateOf
set_option maxRecDepth 20000 in
theorem ggX2_isSame_X1_gateOf : GoodIn wsX2_isSame wsX1_gateOf := goodIn_ca (goodIn_r _ [24, 12, 25, 14, 15, 16, 10, 17, 18, 19, 20, 194, 195, 196, 197, 198, 199, 200, 201, 202, 203, 204, 205, 206, 207, 208, 209, 210, 211, 212] (by decide +kernel) (by decide +kernel)) (goodIn_sub (fun _ h => List.mem_cons_of_mem _ (List.mem_append_right _ h)) (by decide +kernel))
set_option maxRecDepth 20000 in
theorem gX2_isSame_X1_gateOf : GoodIn wsX2_isSame (wsV RX2 75 RX1 yX1_gateOf wsX1_gateOf) := goodIn_app (goodIn_of _ (by decide +kernel)) ggX2_isSame_X1_gateOf
set_option maxRecDepth 20000 in
theorem ggX2_isSame_X1_holds : GoodIn wsX2_isSame wsX1_holds := goodIn_ca (goodIn_r _ [29, 12, 14, 15, 16, 10, 17, 18, 19, 20, 30, 31, 32, 33, 34, 35, 36, 194, 195, 196, 197, 198, 199, 200, 201, 202, 203, 204, 205, 206, 207, 208, 209, 210, 211, 212] (by decide +kernel) (by decide +kernel)) (goodIn_sub (fun _ h => List.mem_cons_of_mem _ (List.mem_append_right _ h)) (by decide +kernel))
set_option maxRecDepth 20000 in
theorem gX2_isSame_X1_holds : GoodIn wsX2_isSame (wsV RX2 78 RX1 yX1_holds wsX1_holds) := goodIn_app (goodIn_of _ (by decide +kernel)) ggX2_isSame_X1_holds
set_option maxRecDepth 20000 in
theorem ggX2_isSame_X1_seemingHorns : GoodIn wsX2_isSame wsX1_seemingHorns := goodIn_ca (goodIn_r _ [40, 12, 14, 15, 16, 10, 17, 18, 19, 20, 41, 42, 43, 33, 44, 45, 46, 194, 195, 196, 197, 198, 199, 200, 201, 202, 203, 204, 205, 206, 207, 208, 209, 210, 211, 212] (by decide +kernel) (by decide +kernel)) (goodIn_sub (fun _ h => List.mem_cons_of_mem _ (List.mem_append_right _ h)) (by decide +kernel))
set_option maxRecDepth 20000 in
theorem gX2_isSame_X1_seemingHorns : GoodIn wsX2_isSame (wsV RX2 81 RX1 yX1_seemingHorns wsX1_seemingHorns) := goodIn_app (goodIn_of _ (by decide +kernel)) ggX2_isSame_X1_seemingHorns
set_option maxRecDepth 20000 in
theorem ggX2_isSame_X2_seem : GoodIn wsX2_isSame wsX2_seem := goodIn_r _ [51, 1, 188, 189, 190, 191, 192, 193] (by decide +kernel) (by decide +kernel)
set_option maxRecDepth 20000 in
theorem gX2_isSame_X2_seem : GoodIn wsX2_isSame (wsV RX2 47 RX2 yX2_seem wsX2_seem) := goodIn_app (goodIn_of _ (by decide +kernel)) ggX2_isSame_X2_seem
set_option maxRecDepth 20000 in
theorem ggX2_isSame_X1_minutesLeft : GoodIn wsX2_isSame wsX1_minutesLeft := goodIn_ca (goodIn_r _ [55, 12, 56, 14, 15, 16, 10, 17, 18, 19, 20, 194, 195, 196, 197, 198, 199, 200, 201, 202, 203, 204, 205, 206, 207, 208, 209, 210, 211, 212] (by decide +kernel) (by decide +kernel)) (goodIn_sub (fun _ h => List.mem_cons_of_mem _ (List.mem_append_right _ h)) (by decide +kernel))
set_option maxRecDepth 20000 in
theorem gX2_isSame_X1_minutesLeft : GoodIn wsX2_isSame (wsV RX2 84 RX1 yX1_minutesLeft wsX1_minutesLeft) := goodIn_app (goodIn_of _ (by decide +kernel)) ggX2_isSame_X1_minutesLeft
set_option maxRecDepth 20000 in
theorem ggX2_isSame_X1_waitedOf : GoodIn wsX2_isSame wsX1_waitedOf := goodIn_ca (goodIn_r _ [60, 12, 61, 14, 15, 16, 10, 17, 18, 19, 20, 194, 195, 196, 197, 198, 199, 200, 201, 202, 203, 204, 205, 206, 207, 208, 209, 210, 211, 212] (by decide +kernel) (by decide +kernel)) (goodIn_sub (fun _ h => List.mem_cons_of_mem _ (List.mem_append_right _ h)) (by decide +kernel))
set_option maxRecDepth 20000 in
theorem gX2_isSame_X1_waitedOf : GoodIn wsX2_isSame (wsV RX2 87 RX1 yX1_waitedOf wsX1_waitedOf) := goodIn_app (goodIn_of _ (by decide +kernel)) ggX2_isSame_X1_waitedOf
set_option maxRecDepth 20000 in
theorem ggX2_isSame_X1_placeInLine : GoodIn wsX2_isSame wsX1_placeInLine := goodIn_ca (goodIn_r _ [65, 12, 13, 14, 15, 16, 10, 17, 18, 19, 20, 66, 67, 68, 33, 69, 70, 71, 72, 73, 74, 75, 76, 35, 194, 195, 196, 197, 198, 199, 200, 201, 202, 203, 204, 205, 206, 207, 208, 209, 210, 211, 212] (by decide +kernel) (by decide +kernel)) (goodIn_sub (fun _ h => List.mem_cons_of_mem _ (List.mem_append_right _ h)) (by decide +kernel))
set_option maxRecDepth 20000 in
theorem gX2_isSame_X1_placeInLine : GoodIn wsX2_isSame (wsV RX2 90 RX1 yX1_placeInLine wsX1_placeInLine) := goodIn_app (goodIn_of _ (by decide +kernel)) ggX2_isSame_X1_placeInLine
set_option maxRecDepth 20000 in
theorem ggX2_isSame_X2_place : GoodIn wsX2_isSame wsX2_place := goodIn_r _ [80, 1, 3, 188, 189, 190, 191, 192, 193] (by decide +kernel) (by decide +kernel)
set_option maxRecDepth 20000 in
theorem gX2_isSame_X2_place : GoodIn wsX2_isSame (wsV RX2 93 RX2 yX2_place wsX2_place) := goodIn_app (goodIn_of _ (by decide +kernel)) ggX2_isSame_X2_place
set_option maxRecDepth 20000 in
theorem ggX2_isSame_X1_permitsOf : GoodIn wsX2_isSame wsX1_permitsOf := goodIn_ca (goodIn_r _ [84, 12, 85, 86, 87, 88, 10, 89, 18, 19, 90, 194, 195, 196, 197, 198, 199, 200, 201, 202, 203, 204, 205, 206, 207, 208, 209, 210, 211, 212] (by decide +kernel) (by decide +kernel)) (goodIn_sub (fun _ h => List.mem_cons_of_mem _ (List.mem_append_right _ h)) (by decide +kernel))
set_option maxRecDepth 20000 in
theorem gX2_isSame_X1_permitsOf : GoodIn wsX2_isSame (wsV RX2 96 RX1 yX1_permitsOf wsX1_permitsOf) := goodIn_app (goodIn_of _ (by decide +kernel)) ggX2_isSame_X1_permitsOf
set_option maxRecDepth 20000 in
theorem ggX2_isSame_X1_freeOf : GoodIn wsX2_isSame wsX1_freeOf := goodIn_ca (goodIn_r _ [94, 12, 86, 87, 88, 10, 89, 18, 19, 90, 95, 96, 97, 33, 98, 99, 70, 35, 71, 36, 194, 195, 196, 197, 198, 199, 200, 201, 202, 203, 204, 205, 206, 207, 208, 209, 210, 211, 212] (by decide +kernel) (by decide +kernel)) (goodIn_sub (fun _ h => List.mem_cons_of_mem _ (List.mem_append_right _ h)) (by decide +kernel))
set_option maxRecDepth 20000 in
theorem gX2_isSame_X1_freeOf : GoodIn wsX2_isSame (wsV RX2 99 RX1 yX1_freeOf wsX1_freeOf) := goodIn_app (goodIn_of _ (by decide +kernel)) ggX2_isSame_X1_freeOf
set_option maxRecDepth 20000 in
theorem ggX2_isSame_X2_free : GoodIn wsX2_isSame wsX2_free := goodIn_r _ [103, 2, 1, 188, 189, 190, 191, 192, 193] (by decide +kernel) (by decide +kernel)
set_option maxRecDepth 20000 in
theorem gX2_isSame_X2_free : GoodIn wsX2_isSame (wsV RX2 43 RX2 yX2_free wsX2_free) := goodIn_app (goodIn_of _ (by decide +kernel)) ggX2_isSame_X2_free
set_option maxRecDepth 20000 in
theorem ggX2_isSame_X1_waitingAt : GoodIn wsX2_isSame wsX1_waitingAt := goodIn_ca (goodIn_r _ [107, 12, 86, 87, 88, 10, 89, 18, 19, 90, 108, 109, 110, 33, 111, 70, 73, 74, 75, 76, 35, 71, 194, 195, 196, 197, 198, 199, 200, 201, 202, 203, 204, 205, 206, 207, 208, 209, 210, 211, 212] (by decide +kernel) (by decide +kernel)) (goodIn_sub (fun _ h => List.mem_cons_of_mem _ (List.mem_append_right _ h)) (by decide +kernel))
set_option maxRecDepth 20000 in
theorem gX2_isSame_X1_waitingAt : GoodIn wsX2_isSame (wsV RX2 102 RX1 yX1_waitingAt wsX1_waitingAt) := goodIn_app (goodIn_of _ (by decide +kernel)) ggX2_isSame_X1_waitingAt
set_option maxRecDepth 20000 in
theorem ggX2_isSame_X1_nextAt : GoodIn wsX2_isSame wsX1_nextAt := goodIn_ca (goodIn_r _ [115, 12, 86, 87, 88, 10, 89, 18, 19, 90, 116, 117, 118, 33, 119, 120, 70, 36, 72, 121, 96, 97, 98, 99, 35, 71, 73, 74, 75, 76, 122, 42, 43, 44, 45, 46, 194, 195, 196, 197, 198, 199, 200, 201, 202, 203, 204, 205, 206, 207, 208, 209, 210, 211, 212] (by decide +kernel) (by decide +kernel)) (goodIn_sub (fun _ h => List.mem_cons_of_mem _ (List.mem_append_right _ h)) (by decide +kernel))
set_option maxRecDepth 20000 in
theorem gX2_isSame_X1_nextAt : GoodIn wsX2_isSame (wsV RX2 105 RX1 yX1_nextAt wsX1_nextAt) := goodIn_app (goodIn_of _ (by decide +kernel)) ggX2_isSame_X1_nextAt
set_option maxRecDepth 20000 in
theorem ggX2_isSame_X2_next : GoodIn wsX2_isSame wsX2_next := goodIn_r _ [126, 3, 1, 2, 100, 101, 102, 50, 103, 47, 48, 49, 51, 188, 189, 190, 191, 192, 193] (by decide +kernel) (by decide +kernel)
set_option maxRecDepth 20000 in
theorem gX2_isSame_X2_next : GoodIn wsX2_isSame (wsV RX2 53 RX2 yX2_next wsX2_next) := goodIn_app (goodIn_of _ (by decide +kernel)) ggX2_isSame_X2_next
set_option maxRecDepth 20000 in
theorem ggX2_isSame_X1_minute : GoodIn wsX2_isSame wsX1_minute := goodIn_r _ [130, 12, 131, 194, 195, 196, 197, 198, 199, 200, 201, 202, 203, 204, 205, 206, 207, 208, 209, 210, 211, 212] (by decide +kernel) (by decide +kernel)
set_option maxRecDepth 20000 in
theorem gX2_isSame_X1_minute : GoodIn wsX2_isSame (wsV RX2 108 RX1 yX1_minute wsX1_minute) := goodIn_app (goodIn_of _ (by decide +kernel)) ggX2_isSame_X1_minute
set_option maxRecDepth 20000 in
theorem ggX2_isSame_X1_gates : GoodIn wsX2_isSame wsX1_gates := goodIn_r _ [135, 12, 90, 194, 195, 196, 197, 198, 199, 200, 201, 202, 203, 204, 205, 206, 207, 208, 209, 210, 211, 212] (by decide +kernel) (by decide +kernel)
set_option maxRecDepth 20000 in
theorem gX2_isSame_X1_gates : GoodIn wsX2_isSame (wsV RX2 110 RX1 yX1_gates wsX1_gates) := goodIn_app (goodIn_of _ (by decide +kernel)) ggX2_isSame_X1_gates
set_option maxRecDepth 20000 in
theorem ggX2_isSame_X1_goats : GoodIn wsX2_isSame wsX1_goats := goodIn_r _ [139, 12, 20, 194, 195, 196, 197, 198, 199, 200, 201, 202, 203, 204, 205, 206, 207, 208, 209, 210, 211, 212] (by decide +kernel) (by decide +kernel)
set_option maxRecDepth 20000 in
theorem gX2_isSame_X1_goats : GoodIn wsX2_isSame (wsV RX2 112 RX1 yX1_goats wsX1_goats) := goodIn_app (goodIn_of _ (by decide +kernel)) ggX2_isSame_X1_goats
set_option maxRecDepth 20000 in
theorem ggX2_isSame_X1_waiting : GoodIn wsX2_isSame wsX1_waiting := goodIn_r _ [143, 12, 144, 145, 146, 33, 147, 70, 35, 194, 195, 196, 197, 198, 199, 200, 201, 202, 203, 204, 205, 206, 207, 208, 209, 210, 211, 212] (by decide +kernel) (by decide +kernel)
set_option maxRecDepth 20000 in
theorem gX2_isSame_X1_waiting : GoodIn wsX2_isSame (wsV RX2 114 RX1 yX1_waiting wsX1_waiting) := goodIn_app (goodIn_of _ (by decide +kernel)) ggX2_isSame_X1_waiting
set_option maxRecDepth 20000 in
theorem ggX2_isSame_X2_many : GoodIn wsX2_isSame wsX2_many := goodIn_r _ [151, 1, 188, 189, 190, 191, 192, 193] (by decide +kernel) (by decide +kernel)
set_option maxRecDepth 20000 in
theorem gX2_isSame_X2_many : GoodIn wsX2_isSame (wsV RX2 117 RX2 yX2_many wsX2_many) := goodIn_app (goodIn_of _ (by decide +kernel)) ggX2_isSame_X2_many
set_option maxRecDepth 20000 in
theorem ggX2_isSame_X1_inside : GoodIn wsX2_isSame wsX1_inside := goodIn_r _ [155, 12, 144, 145, 146, 33, 147, 70, 35, 194, 195, 196, 197, 198, 199, 200, 201, 202, 203, 204, 205, 206, 207, 208, 209, 210, 211, 212] (by decide +kernel) (by decide +kernel)
set_option maxRecDepth 20000 in
theorem gX2_isSame_X1_inside : GoodIn wsX2_isSame (wsV RX2 120 RX1 yX1_inside wsX1_inside) := goodIn_app (goodIn_of _ (by decide +kernel)) ggX2_isSame_X1_inside
set_option maxRecDepth 20000 in
theorem ggX2_isSame_X1_starving : GoodIn wsX2_isSame wsX1_starving := goodIn_r _ [159, 12, 160, 161, 162, 33, 163, 70, 35, 46, 194, 195, 196, 197, 198, 199, 200, 201, 202, 203, 204, 205, 206, 207, 208, 209, 210, 211, 212] (by decide +kernel) (by decide +kernel)
set_option maxRecDepth 20000 in
theorem gX2_isSame_X1_starving : GoodIn wsX2_isSame (wsV RX2 123 RX1 yX1_starving wsX1_starving) := goodIn_app (goodIn_of _ (by decide +kernel)) ggX2_isSame_X1_starving
set_option maxRecDepth 20000 in
theorem ggX2_isSame_X1_letIn : GoodIn wsX2_isSame wsX1_letIn := goodIn_r _ [167, 12, 168, 194, 195, 196, 197, 198, 199, 200, 201, 202, 203, 204, 205, 206, 207, 208, 209, 210, 211, 212] (by decide +kernel) (by decide +kernel)
set_option maxRecDepth 20000 in
theorem gX2_isSame_X1_letIn : GoodIn wsX2_isSame (wsV RX2 126 RX1 yX1_letIn wsX1_letIn) := goodIn_app (goodIn_of _ (by decide +kernel)) ggX2_isSame_X1_letIn
set_option maxRecDepth 20000 in
theorem ggX2_isSame_X1_givenUp : GoodIn wsX2_isSame wsX1_givenUp := goodIn_r _ [172, 12, 173, 174, 175, 33, 176, 177, 178, 194, 195, 196, 197, 198, 199, 200, 201, 202, 203, 204, 205, 206, 207, 208, 209, 210, 211, 212] (by decide +kernel) (by decide +kernel)
set_option maxRecDepth 20000 in
theorem gX2_isSame_X1_givenUp : GoodIn wsX2_isSame (wsV RX2 128 RX1 yX1_givenUp wsX1_givenUp) := goodIn_app (goodIn_of _ (by decide +kernel)) ggX2_isSame_X1_givenUp
set_option maxRecDepth 20000 in
theorem ggX2_isSame_X1_meanWaited : GoodIn wsX2_isSame wsX1_meanWaited := goodIn_r _ [182, 12, 20, 183, 184, 185, 33, 186, 70, 187, 194, 195, 196, 197, 198, 199, 200, 201, 202, 203, 204, 205, 206, 207, 208, 209, 210, 211, 212] (by decide +kernel) (by decide +kernel)
set_option maxRecDepth 20000 in
theorem gX2_isSame_X1_meanWaited : GoodIn wsX2_isSame (wsV RX2 131 RX1 yX1_meanWaited wsX1_meanWaited) := goodIn_app (goodIn_of _ (by decide +kernel)) ggX2_isSame_X1_meanWaited
theorem dX2_isSame_0 : decode cX2_isSame 0 = .ok (.iconst 0, 1) := by decide +kernel
theorem dX2_isSame_1 : decode cX2_isSame 1 = .ok (.istore_n 2, 1) := by decide +kernel
theorem dX2_isSame_2 : decode cX2_isSame 2 = .ok (.iconst 0, 1) := by decide +kernel
theorem dX2_isSame_3 : decode cX2_isSame 3 = .ok (.istore_n 3, 1) := by decide +kernel
theorem dX2_isSame_4 : decode cX2_isSame 4 = .ok (.iconst 0, 1) := by decide +kernel
theorem dX2_isSame_5 : decode cX2_isSame 5 = .ok (.istore 4, 2) := by decide +kernel
theorem dX2_isSame_7 : decode cX2_isSame 7 = .ok (.iload 4, 2) := by decide +kernel
theorem dX2_isSame_9 : decode cX2_isSame 9 = .ok (.aload_n 0, 1) := by decide +kernel
theorem dX2_isSame_10 : decode cX2_isSame 10 = .ok (.getfield 15, 3) := by decide +kernel
theorem dX2_isSame_13 : decode cX2_isSame 13 = .ok (.arraylength, 1) := by decide +kernel
theorem dX2_isSame_14 : decode cX2_isSame 14 = .ok (.if_icmp .ge 209, 3) := by decide +kernel
theorem dX2_isSame_17 : decode cX2_isSame 17 = .ok (.aload_n 0, 1) := by decide +kernel
theorem dX2_isSame_18 : decode cX2_isSame 18 = .ok (.getfield 15, 3) := by decide +kernel
theorem dX2_isSame_21 : decode cX2_isSame 21 = .ok (.iload 4, 2) := by decide +kernel
theorem dX2_isSame_23 : decode cX2_isSame 23 = .ok (.aaload, 1) := by decide +kernel
theorem dX2_isSame_24 : decode cX2_isSame 24 = .ok (.astore 5, 2) := by decide +kernel
theorem dX2_isSame_26 : decode cX2_isSame 26 = .ok (.iload_n 2, 1) := by decide +kernel
theorem dX2_isSame_27 : decode cX2_isSame 27 = .ok (.aload 5, 2) := by decide +kernel
theorem dX2_isSame_29 : decode cX2_isSame 29 = .ok (.iconst 1, 1) := by decide +kernel
theorem dX2_isSame_30 : decode cX2_isSame 30 = .ok (.iaload, 1) := by decide +kernel
theorem dX2_isSame_31 : decode cX2_isSame 31 = .ok (.iconst 1, 1) := by decide +kernel
theorem dX2_isSame_32 : decode cX2_isSame 32 = .ok (.if_icmp .ne 17, 3) := by decide +kernel
theorem dX2_isSame_35 : decode cX2_isSame 35 = .ok (.aload 5, 2) := by decide +kernel
theorem dX2_isSame_37 : decode cX2_isSame 37 = .ok (.bipush 6, 2) := by decide +kernel
theorem dX2_isSame_39 : decode cX2_isSame 39 = .ok (.iaload, 1) := by decide +kernel
theorem dX2_isSame_40 : decode cX2_isSame 40 = .ok (.bipush 8, 2) := by decide +kernel
theorem dX2_isSame_42 : decode cX2_isSame 42 = .ok (.if_icmp .lt 7, 3) := by decide +kernel
theorem dX2_isSame_45 : decode cX2_isSame 45 = .ok (.iconst 1, 1) := by decide +kernel
theorem dX2_isSame_46 : decode cX2_isSame 46 = .ok (.goto 4, 3) := by decide +kernel
theorem dX2_isSame_49 : decode cX2_isSame 49 = .ok (.iconst 0, 1) := by decide +kernel
theorem dX2_isSame_50 : decode cX2_isSame 50 = .ok (.iadd, 1) := by decide +kernel
theorem dX2_isSame_51 : decode cX2_isSame 51 = .ok (.istore_n 2, 1) := by decide +kernel
theorem dX2_isSame_52 : decode cX2_isSame 52 = .ok (.iload_n 3, 1) := by decide +kernel
theorem dX2_isSame_53 : decode cX2_isSame 53 = .ok (.aload 5, 2) := by decide +kernel
theorem dX2_isSame_55 : decode cX2_isSame 55 = .ok (.bipush 7, 2) := by decide +kernel
theorem dX2_isSame_57 : decode cX2_isSame 57 = .ok (.iaload, 1) := by decide +kernel
theorem dX2_isSame_58 : decode cX2_isSame 58 = .ok (.iadd, 1) := by decide +kernel
theorem dX2_isSame_59 : decode cX2_isSame 59 = .ok (.istore_n 3, 1) := by decide +kernel
theorem dX2_isSame_60 : decode cX2_isSame 60 = .ok (.aload 5, 2) := by decide +kernel
theorem dX2_isSame_62 : decode cX2_isSame 62 = .ok (.iconst 1, 1) := by decide +kernel
theorem dX2_isSame_63 : decode cX2_isSame 63 = .ok (.iaload, 1) := by decide +kernel
theorem dX2_isSame_64 : decode cX2_isSame 64 = .ok (.ifCond .ne 7, 3) := by decide +kernel
theorem dX2_isSame_67 : decode cX2_isSame 67 = .ok (.iconst 0, 1) := by decide +kernel
theorem dX2_isSame_68 : decode cX2_isSame 68 = .ok (.goto 28, 3) := by decide +kernel
theorem dX2_isSame_71 : decode cX2_isSame 71 = .ok (.aload 5, 2) := by decide +kernel
theorem dX2_isSame_73 : decode cX2_isSame 73 = .ok (.iconst 1, 1) := by decide +kernel
theorem dX2_isSame_74 : decode cX2_isSame 74 = .ok (.iaload, 1) := by decide +kernel
theorem dX2_isSame_75 : decode cX2_isSame 75 = .ok (.iconst 1, 1) := by decide +kernel
theorem dX2_isSame_76 : decode cX2_isSame 76 = .ok (.if_icmp .ne 16, 3) := by decide +kernel
theorem dX2_isSame_79 : decode cX2_isSame 79 = .ok (.aload 5, 2) := by decide +kernel
theorem dX2_isSame_81 : decode cX2_isSame 81 = .ok (.iconst 5, 1) := by decide +kernel
theorem dX2_isSame_82 : decode cX2_isSame 82 = .ok (.iaload, 1) := by decide +kernel
theorem dX2_isSame_83 : decode cX2_isSame 83 = .ok (.aload 5, 2) := by decide +kernel
theorem dX2_isSame_85 : decode cX2_isSame 85 = .ok (.bipush 6, 2) := by decide +kernel
theorem dX2_isSame_87 : decode cX2_isSame 87 = .ok (.iaload, 1) := by decide +kernel
theorem dX2_isSame_88 : decode cX2_isSame 88 = .ok (.isub, 1) := by decide +kernel
theorem dX2_isSame_89 : decode cX2_isSame 89 = .ok (.goto 7, 3) := by decide +kernel
theorem dX2_isSame_92 : decode cX2_isSame 92 = .ok (.aload 5, 2) := by decide +kernel
theorem dX2_isSame_94 : decode cX2_isSame 94 = .ok (.iconst 4, 1) := by decide +kernel
theorem dX2_isSame_95 : decode cX2_isSame 95 = .ok (.iaload, 1) := by decide +kernel
theorem dX2_isSame_96 : decode cX2_isSame 96 = .ok (.istore 6, 2) := by decide +kernel
theorem dX2_isSame_98 : decode cX2_isSame 98 = .ok (.aload_n 1, 1) := by decide +kernel
theorem dX2_isSame_99 : decode cX2_isSame 99 = .ok (.iload 4, 2) := by decide +kernel
theorem dX2_isSame_101 : decode cX2_isSame 101 = .ok (.invokevirtual 70, 3) := by decide +kernel
theorem dX2_isSame_104 : decode cX2_isSame 104 = .ok (.aload 5, 2) := by decide +kernel
theorem dX2_isSame_106 : decode cX2_isSame 106 = .ok (.iconst 1, 1) := by decide +kernel
theorem dX2_isSame_107 : decode cX2_isSame 107 = .ok (.iaload, 1) := by decide +kernel
theorem dX2_isSame_108 : decode cX2_isSame 108 = .ok (.if_icmp .ne 107, 3) := by decide +kernel
theorem dX2_isSame_111 : decode cX2_isSame 111 = .ok (.aload_n 1, 1) := by decide +kernel
theorem dX2_isSame_112 : decode cX2_isSame 112 = .ok (.iload 4, 2) := by decide +kernel
theorem dX2_isSame_114 : decode cX2_isSame 114 = .ok (.invokevirtual 75, 3) := by decide +kernel
theorem dX2_isSame_117 : decode cX2_isSame 117 = .ok (.aload 5, 2) := by decide +kernel
theorem dX2_isSame_119 : decode cX2_isSame 119 = .ok (.iconst 1, 1) := by decide +kernel
theorem dX2_isSame_120 : decode cX2_isSame 120 = .ok (.iaload, 1) := by decide +kernel
theorem dX2_isSame_121 : decode cX2_isSame 121 = .ok (.ifCond .ne 7, 3) := by decide +kernel
theorem dX2_isSame_124 : decode cX2_isSame 124 = .ok (.iconst (-1), 1) := by decide +kernel
theorem dX2_isSame_125 : decode cX2_isSame 125 = .ok (.goto 7, 3) := by decide +kernel
theorem dX2_isSame_128 : decode cX2_isSame 128 = .ok (.aload 5, 2) := by decide +kernel
theorem dX2_isSame_130 : decode cX2_isSame 130 = .ok (.iconst 2, 1) := by decide +kernel
theorem dX2_isSame_131 : decode cX2_isSame 131 = .ok (.iaload, 1) := by decide +kernel
theorem dX2_isSame_132 : decode cX2_isSame 132 = .ok (.if_icmp .ne 83, 3) := by decide +kernel
theorem dX2_isSame_135 : decode cX2_isSame 135 = .ok (.aload_n 1, 1) := by decide +kernel
theorem dX2_isSame_136 : decode cX2_isSame 136 = .ok (.iload 4, 2) := by decide +kernel
theorem dX2_isSame_138 : decode cX2_isSame 138 = .ok (.invokevirtual 78, 3) := by decide +kernel
theorem dX2_isSame_141 : decode cX2_isSame 141 = .ok (.aload 5, 2) := by decide +kernel
theorem dX2_isSame_143 : decode cX2_isSame 143 = .ok (.iconst 1, 1) := by decide +kernel
theorem dX2_isSame_144 : decode cX2_isSame 144 = .ok (.iaload, 1) := by decide +kernel
theorem dX2_isSame_145 : decode cX2_isSame 145 = .ok (.iconst 2, 1) := by decide +kernel
theorem dX2_isSame_146 : decode cX2_isSame 146 = .ok (.if_icmp .ne 10, 3) := by decide +kernel
theorem dX2_isSame_149 : decode cX2_isSame 149 = .ok (.aload 5, 2) := by decide +kernel
theorem dX2_isSame_151 : decode cX2_isSame 151 = .ok (.iconst 3, 1) := by decide +kernel
theorem dX2_isSame_152 : decode cX2_isSame 152 = .ok (.iaload, 1) := by decide +kernel
theorem dX2_isSame_153 : decode cX2_isSame 153 = .ok (.goto 4, 3) := by decide +kernel
theorem dX2_isSame_156 : decode cX2_isSame 156 = .ok (.iconst 0, 1) := by decide +kernel
theorem dX2_isSame_157 : decode cX2_isSame 157 = .ok (.if_icmp .ne 58, 3) := by decide +kernel
theorem dX2_isSame_160 : decode cX2_isSame 160 = .ok (.aload_n 1, 1) := by decide +kernel
theorem dX2_isSame_161 : decode cX2_isSame 161 = .ok (.iload 4, 2) := by decide +kernel
theorem dX2_isSame_163 : decode cX2_isSame 163 = .ok (.invokevirtual 81, 3) := by decide +kernel
theorem dX2_isSame_166 : decode cX2_isSame 166 = .ok (.aload_n 0, 1) := by decide +kernel
theorem dX2_isSame_167 : decode cX2_isSame 167 = .ok (.iload 4, 2) := by decide +kernel
theorem dX2_isSame_169 : decode cX2_isSame 169 = .ok (.invokevirtual 47, 3) := by decide +kernel
theorem dX2_isSame_172 : decode cX2_isSame 172 = .ok (.if_icmp .ne 43, 3) := by decide +kernel
theorem dX2_isSame_175 : decode cX2_isSame 175 = .ok (.aload_n 1, 1) := by decide +kernel
theorem dX2_isSame_176 : decode cX2_isSame 176 = .ok (.iload 4, 2) := by decide +kernel
theorem dX2_isSame_178 : decode cX2_isSame 178 = .ok (.invokevirtual 84, 3) := by decide +kernel
theorem dX2_isSame_181 : decode cX2_isSame 181 = .ok (.iload 6, 2) := by decide +kernel
theorem dX2_isSame_183 : decode cX2_isSame 183 = .ok (.if_icmp .ne 32, 3) := by decide +kernel
theorem dX2_isSame_186 : decode cX2_isSame 186 = .ok (.aload_n 1, 1) := by decide +kernel
theorem dX2_isSame_187 : decode cX2_isSame 187 = .ok (.iload 4, 2) := by decide +kernel
theorem dX2_isSame_189 : decode cX2_isSame 189 = .ok (.invokevirtual 87, 3) := by decide +kernel
theorem dX2_isSame_192 : decode cX2_isSame 192 = .ok (.aload 5, 2) := by decide +kernel
theorem dX2_isSame_194 : decode cX2_isSame 194 = .ok (.bipush 7, 2) := by decide +kernel
theorem dX2_isSame_196 : decode cX2_isSame 196 = .ok (.iaload, 1) := by decide +kernel
theorem dX2_isSame_197 : decode cX2_isSame 197 = .ok (.if_icmp .ne 18, 3) := by decide +kernel
theorem dX2_isSame_200 : decode cX2_isSame 200 = .ok (.aload_n 1, 1) := by decide +kernel
theorem dX2_isSame_201 : decode cX2_isSame 201 = .ok (.iload 4, 2) := by decide +kernel
theorem dX2_isSame_203 : decode cX2_isSame 203 = .ok (.invokevirtual 90, 3) := by decide +kernel
theorem dX2_isSame_206 : decode cX2_isSame 206 = .ok (.aload_n 0, 1) := by decide +kernel
theorem dX2_isSame_207 : decode cX2_isSame 207 = .ok (.iload 4, 2) := by decide +kernel
theorem dX2_isSame_209 : decode cX2_isSame 209 = .ok (.invokevirtual 93, 3) := by decide +kernel
theorem dX2_isSame_212 : decode cX2_isSame 212 = .ok (.if_icmp .eq 5, 3) := by decide +kernel
theorem dX2_isSame_215 : decode cX2_isSame 215 = .ok (.iconst 0, 1) := by decide +kernel
theorem dX2_isSame_216 : decode cX2_isSame 216 = .ok (.ireturn, 1) := by decide +kernel
theorem dX2_isSame_217 : decode cX2_isSame 217 = .ok (.iinc 4 1, 3) := by decide +kernel
theorem dX2_isSame_220 : decode cX2_isSame 220 = .ok (.goto (-213), 3) := by decide +kernel
theorem dX2_isSame_223 : decode cX2_isSame 223 = .ok (.iconst 0, 1) := by decide +kernel
theorem dX2_isSame_224 : decode cX2_isSame 224 = .ok (.istore 4, 2) := by decide +kernel
theorem dX2_isSame_226 : decode cX2_isSame 226 = .ok (.iload 4, 2) := by decide +kernel
theorem dX2_isSame_228 : decode cX2_isSame 228 = .ok (.aload_n 0, 1) := by decide +kernel
theorem dX2_isSame_229 : decode cX2_isSame 229 = .ok (.getfield 9, 3) := by decide +kernel
theorem dX2_isSame_232 : decode cX2_isSame 232 = .ok (.arraylength, 1) := by decide +kernel
theorem dX2_isSame_233 : decode cX2_isSame 233 = .ok (.if_icmp .ge 76, 3) := by decide +kernel
theorem dX2_isSame_236 : decode cX2_isSame 236 = .ok (.aload_n 1, 1) := by decide +kernel
theorem dX2_isSame_237 : decode cX2_isSame 237 = .ok (.iload 4, 2) := by decide +kernel
theorem dX2_isSame_239 : decode cX2_isSame 239 = .ok (.invokevirtual 96, 3) := by decide +kernel
theorem dX2_isSame_242 : decode cX2_isSame 242 = .ok (.aload_n 0, 1) := by decide +kernel
theorem dX2_isSame_243 : decode cX2_isSame 243 = .ok (.getfield 9, 3) := by decide +kernel
theorem dX2_isSame_246 : decode cX2_isSame 246 = .ok (.iload 4, 2) := by decide +kernel
theorem dX2_isSame_248 : decode cX2_isSame 248 = .ok (.aaload, 1) := by decide +kernel
theorem dX2_isSame_249 : decode cX2_isSame 249 = .ok (.iconst 0, 1) := by decide +kernel
theorem dX2_isSame_250 : decode cX2_isSame 250 = .ok (.iaload, 1) := by decide +kernel
theorem dX2_isSame_251 : decode cX2_isSame 251 = .ok (.if_icmp .ne 50, 3) := by decide +kernel
theorem dX2_isSame_254 : decode cX2_isSame 254 = .ok (.aload_n 1, 1) := by decide +kernel
theorem dX2_isSame_255 : decode cX2_isSame 255 = .ok (.iload 4, 2) := by decide +kernel
theorem dX2_isSame_257 : decode cX2_isSame 257 = .ok (.invokevirtual 99, 3) := by decide +kernel
theorem dX2_isSame_260 : decode cX2_isSame 260 = .ok (.aload_n 0, 1) := by decide +kernel
theorem dX2_isSame_261 : decode cX2_isSame 261 = .ok (.iload 4, 2) := by decide +kernel
theorem dX2_isSame_263 : decode cX2_isSame 263 = .ok (.invokevirtual 43, 3) := by decide +kernel
theorem dX2_isSame_266 : decode cX2_isSame 266 = .ok (.if_icmp .ne 35, 3) := by decide +kernel
theorem dX2_isSame_269 : decode cX2_isSame 269 = .ok (.aload_n 1, 1) := by decide +kernel
theorem dX2_isSame_270 : decode cX2_isSame 270 = .ok (.iload 4, 2) := by decide +kernel
theorem dX2_isSame_272 : decode cX2_isSame 272 = .ok (.invokevirtual 102, 3) := by decide +kernel
theorem dX2_isSame_275 : decode cX2_isSame 275 = .ok (.aload_n 0, 1) := by decide +kernel
theorem dX2_isSame_276 : decode cX2_isSame 276 = .ok (.getfield 18, 3) := by decide +kernel
theorem dX2_isSame_279 : decode cX2_isSame 279 = .ok (.iload 4, 2) := by decide +kernel
theorem dX2_isSame_281 : decode cX2_isSame 281 = .ok (.aaload, 1) := by decide +kernel
theorem dX2_isSame_282 : decode cX2_isSame 282 = .ok (.arraylength, 1) := by decide +kernel
theorem dX2_isSame_283 : decode cX2_isSame 283 = .ok (.if_icmp .ne 18, 3) := by decide +kernel
theorem dX2_isSame_286 : decode cX2_isSame 286 = .ok (.aload_n 1, 1) := by decide +kernel
theorem dX2_isSame_287 : decode cX2_isSame 287 = .ok (.iload 4, 2) := by decide +kernel
theorem dX2_isSame_289 : decode cX2_isSame 289 = .ok (.invokevirtual 105, 3) := by decide +kernel
theorem dX2_isSame_292 : decode cX2_isSame 292 = .ok (.aload_n 0, 1) := by decide +kernel
theorem dX2_isSame_293 : decode cX2_isSame 293 = .ok (.iload 4, 2) := by decide +kernel
theorem dX2_isSame_295 : decode cX2_isSame 295 = .ok (.invokevirtual 53, 3) := by decide +kernel
theorem dX2_isSame_298 : decode cX2_isSame 298 = .ok (.if_icmp .eq 5, 3) := by decide +kernel
theorem dX2_isSame_301 : decode cX2_isSame 301 = .ok (.iconst 0, 1) := by decide +kernel
theorem dX2_isSame_302 : decode cX2_isSame 302 = .ok (.ireturn, 1) := by decide +kernel
theorem dX2_isSame_303 : decode cX2_isSame 303 = .ok (.iinc 4 1, 3) := by decide +kernel
theorem dX2_isSame_306 : decode cX2_isSame 306 = .ok (.goto (-80), 3) := by decide +kernel
theorem dX2_isSame_309 : decode cX2_isSame 309 = .ok (.aload_n 1, 1) := by decide +kernel
theorem dX2_isSame_310 : decode cX2_isSame 310 = .ok (.invokevirtual 108, 3) := by decide +kernel
theorem dX2_isSame_313 : decode cX2_isSame 313 = .ok (.aload_n 0, 1) := by decide +kernel
theorem dX2_isSame_314 : decode cX2_isSame 314 = .ok (.getfield 26, 3) := by decide +kernel
theorem dX2_isSame_317 : decode cX2_isSame 317 = .ok (.if_icmp .ne 114, 3) := by decide +kernel
theorem dX2_isSame_320 : decode cX2_isSame 320 = .ok (.aload_n 1, 1) := by decide +kernel
theorem dX2_isSame_321 : decode cX2_isSame 321 = .ok (.invokevirtual 110, 3) := by decide +kernel
theorem dX2_isSame_324 : decode cX2_isSame 324 = .ok (.aload_n 0, 1) := by decide +kernel
theorem dX2_isSame_325 : decode cX2_isSame 325 = .ok (.getfield 9, 3) := by decide +kernel
theorem dX2_isSame_328 : decode cX2_isSame 328 = .ok (.arraylength, 1) := by decide +kernel
theorem dX2_isSame_329 : decode cX2_isSame 329 = .ok (.if_icmp .ne 102, 3) := by decide +kernel
theorem dX2_isSame_332 : decode cX2_isSame 332 = .ok (.aload_n 1, 1) := by decide +kernel
theorem dX2_isSame_333 : decode cX2_isSame 333 = .ok (.invokevirtual 112, 3) := by decide +kernel
theorem dX2_isSame_336 : decode cX2_isSame 336 = .ok (.aload_n 0, 1) := by decide +kernel
theorem dX2_isSame_337 : decode cX2_isSame 337 = .ok (.getfield 15, 3) := by decide +kernel
theorem dX2_isSame_340 : decode cX2_isSame 340 = .ok (.arraylength, 1) := by decide +kernel
theorem dX2_isSame_341 : decode cX2_isSame 341 = .ok (.if_icmp .ne 90, 3) := by decide +kernel
theorem dX2_isSame_344 : decode cX2_isSame 344 = .ok (.aload_n 1, 1) := by decide +kernel
theorem dX2_isSame_345 : decode cX2_isSame 345 = .ok (.invokevirtual 114, 3) := by decide +kernel
theorem dX2_isSame_348 : decode cX2_isSame 348 = .ok (.aload_n 0, 1) := by decide +kernel
theorem dX2_isSame_349 : decode cX2_isSame 349 = .ok (.iconst 1, 1) := by decide +kernel
theorem dX2_isSame_350 : decode cX2_isSame 350 = .ok (.invokevirtual 117, 3) := by decide +kernel
theorem dX2_isSame_353 : decode cX2_isSame 353 = .ok (.if_icmp .ne 78, 3) := by decide +kernel
theorem dX2_isSame_356 : decode cX2_isSame 356 = .ok (.aload_n 1, 1) := by decide +kernel
theorem dX2_isSame_357 : decode cX2_isSame 357 = .ok (.invokevirtual 120, 3) := by decide +kernel
theorem dX2_isSame_360 : decode cX2_isSame 360 = .ok (.aload_n 0, 1) := by decide +kernel
theorem dX2_isSame_361 : decode cX2_isSame 361 = .ok (.iconst 2, 1) := by decide +kernel
theorem dX2_isSame_362 : decode cX2_isSame 362 = .ok (.invokevirtual 117, 3) := by decide +kernel
theorem dX2_isSame_365 : decode cX2_isSame 365 = .ok (.if_icmp .ne 66, 3) := by decide +kernel
theorem dX2_isSame_368 : decode cX2_isSame 368 = .ok (.aload_n 1, 1) := by decide +kernel
theorem dX2_isSame_369 : decode cX2_isSame 369 = .ok (.invokevirtual 123, 3) := by decide +kernel
theorem dX2_isSame_372 : decode cX2_isSame 372 = .ok (.iload_n 2, 1) := by decide +kernel
theorem dX2_isSame_373 : decode cX2_isSame 373 = .ok (.if_icmp .ne 58, 3) := by decide +kernel
theorem dX2_isSame_376 : decode cX2_isSame 376 = .ok (.aload_n 1, 1) := by decide +kernel
theorem dX2_isSame_377 : decode cX2_isSame 377 = .ok (.invokevirtual 126, 3) := by decide +kernel
theorem dX2_isSame_380 : decode cX2_isSame 380 = .ok (.aload_n 0, 1) := by decide +kernel
theorem dX2_isSame_381 : decode cX2_isSame 381 = .ok (.getfield 30, 3) := by decide +kernel
theorem dX2_isSame_384 : decode cX2_isSame 384 = .ok (.if_icmp .ne 47, 3) := by decide +kernel
theorem dX2_isSame_387 : decode cX2_isSame 387 = .ok (.aload_n 1, 1) := by decide +kernel
theorem dX2_isSame_388 : decode cX2_isSame 388 = .ok (.invokevirtual 128, 3) := by decide +kernel
theorem dX2_isSame_391 : decode cX2_isSame 391 = .ok (.aload_n 0, 1) := by decide +kernel
theorem dX2_isSame_392 : decode cX2_isSame 392 = .ok (.getfield 33, 3) := by decide +kernel
theorem dX2_isSame_395 : decode cX2_isSame 395 = .ok (.if_icmp .ne 36, 3) := by decide +kernel
theorem dX2_isSame_398 : decode cX2_isSame 398 = .ok (.aload_n 1, 1) := by decide +kernel
theorem dX2_isSame_399 : decode cX2_isSame 399 = .ok (.invokevirtual 131, 3) := by decide +kernel
theorem dX2_isSame_402 : decode cX2_isSame 402 = .ok (.aload_n 0, 1) := by decide +kernel
theorem dX2_isSame_403 : decode cX2_isSame 403 = .ok (.getfield 15, 3) := by decide +kernel
theorem dX2_isSame_406 : decode cX2_isSame 406 = .ok (.arraylength, 1) := by decide +kernel
theorem dX2_isSame_407 : decode cX2_isSame 407 = .ok (.ifCond .ne 7, 3) := by decide +kernel
theorem dX2_isSame_410 : decode cX2_isSame 410 = .ok (.dconst 0, 1) := by decide +kernel
theorem dX2_isSame_411 : decode cX2_isSame 411 = .ok (.goto 12, 3) := by decide +kernel
theorem dX2_isSame_414 : decode cX2_isSame 414 = .ok (.iload_n 3, 1) := by decide +kernel
theorem dX2_isSame_415 : decode cX2_isSame 415 = .ok (.i2d, 1) := by decide +kernel
theorem dX2_isSame_416 : decode cX2_isSame 416 = .ok (.aload_n 0, 1) := by decide +kernel
theorem dX2_isSame_417 : decode cX2_isSame 417 = .ok (.getfield 15, 3) := by decide +kernel
theorem dX2_isSame_420 : decode cX2_isSame 420 = .ok (.arraylength, 1) := by decide +kernel
theorem dX2_isSame_421 : decode cX2_isSame 421 = .ok (.i2d, 1) := by decide +kernel
theorem dX2_isSame_422 : decode cX2_isSame 422 = .ok (.ddiv, 1) := by decide +kernel
theorem dX2_isSame_423 : decode cX2_isSame 423 = .ok (.dcmp .l, 1) := by decide +kernel
theorem dX2_isSame_424 : decode cX2_isSame 424 = .ok (.ifCond .ne 7, 3) := by decide +kernel
theorem dX2_isSame_427 : decode cX2_isSame 427 = .ok (.iconst 1, 1) := by decide +kernel
theorem dX2_isSame_428 : decode cX2_isSame 428 = .ok (.goto 4, 3) := by decide +kernel
theorem dX2_isSame_431 : decode cX2_isSame 431 = .ok (.iconst 0, 1) := by decide +kernel
theorem dX2_isSame_432 : decode cX2_isSame 432 = .ok (.ireturn, 1) := by decide +kernel
