set_option maxRecDepth 20000 in
theorem ggX8_init_X8_makeTable : GoodIn wsX8_init wsX8_makeTable := goodIn_ca (goodIn_r _ [20, 5, 6, 21, 22, 19, 23, 24, 25, 26, 27, 28, 29, 30, 31, 32, 33, 34, 35, 36, 37, 38, 39, 40, 41, 42, 43, 44, 45, 46, 47, 48, 49, 50, 51] (by decide +kernel) (by decide +kernel)) (goodIn_sub (fun _ h => List.mem_cons_of_mem _ (List.mem_append_right _ h)) (by decide +kernel))
set_option maxRecDepth 20000 in
theorem gX8_init_X8_makeTable : GoodIn wsX8_init (wsV RX8 40 RX8 yX8_makeTable wsX8_makeTable) := goodIn_app (goodIn_of _ (by decide +kernel)) ggX8_init_X8_makeTable
theorem dX8_init_0 : decode cX8_init 0 = .ok (.aload_n 0, 1) := by decide +kernel
theorem dX8_init_1 : decode cX8_init 1 = .ok (.invokespecial 1, 3) := by decide +kernel
theorem dX8_init_4 : decode cX8_init 4 = .ok (.aload_n 0, 1) := by decide +kernel
theorem dX8_init_5 : decode cX8_init 5 = .ok (.sipush 1408, 3) := by decide +kernel
theorem dX8_init_8 : decode cX8_init 8 = .ok (.newarray .int, 2) := by decide +kernel
theorem dX8_init_10 : decode cX8_init 10 = .ok (.putfield 7, 3) := by decide +kernel
theorem dX8_init_13 : decode cX8_init 13 = .ok (.aload_n 0, 1) := by decide +kernel
theorem dX8_init_14 : decode cX8_init 14 = .ok (.sipush 1408, 3) := by decide +kernel
theorem dX8_init_17 : decode cX8_init 17 = .ok (.newarray .int, 2) := by decide +kernel
theorem dX8_init_19 : decode cX8_init 19 = .ok (.putfield 13, 3) := by decide +kernel
theorem dX8_init_22 : decode cX8_init 22 = .ok (.aload_n 0, 1) := by decide +kernel
theorem dX8_init_23 : decode cX8_init 23 = .ok (.iconst 4, 1) := by decide +kernel
theorem dX8_init_24 : decode cX8_init 24 = .ok (.newarray .boolean, 2) := by decide +kernel
theorem dX8_init_26 : decode cX8_init 26 = .ok (.putfield 16, 3) := by decide +kernel
theorem dX8_init_29 : decode cX8_init 29 = .ok (.aload_n 0, 1) := by decide +kernel
theorem dX8_init_30 : decode cX8_init 30 = .ok (.sipush 16800, 3) := by decide +kernel
theorem dX8_init_33 : decode cX8_init 33 = .ok (.newarray .boolean, 2) := by decide +kernel
theorem dX8_init_35 : decode cX8_init 35 = .ok (.putfield 20, 3) := by decide +kernel
theorem dX8_init_38 : decode cX8_init 38 = .ok (.aload_n 0, 1) := by decide +kernel
theorem dX8_init_39 : decode cX8_init 39 = .ok (.bipush 24, 2) := by decide +kernel
theorem dX8_init_41 : decode cX8_init 41 = .ok (.newarray .int, 2) := by decide +kernel
theorem dX8_init_43 : decode cX8_init 43 = .ok (.putfield 23, 3) := by decide +kernel
theorem dX8_init_46 : decode cX8_init 46 = .ok (.aload_n 0, 1) := by decide +kernel
theorem dX8_init_47 : decode cX8_init 47 = .ok (.sipush 400, 3) := by decide +kernel
theorem dX8_init_50 : decode cX8_init 50 = .ok (.newarray .int, 2) := by decide +kernel
theorem dX8_init_52 : decode cX8_init 52 = .ok (.putfield 26, 3) := by decide +kernel
theorem dX8_init_55 : decode cX8_init 55 = .ok (.aload_n 0, 1) := by decide +kernel
theorem dX8_init_56 : decode cX8_init 56 = .ok (.ldc 29, 2) := by decide +kernel
theorem dX8_init_58 : decode cX8_init 58 = .ok (.newarray .boolean, 2) := by decide +kernel
theorem dX8_init_60 : decode cX8_init 60 = .ok (.putfield 30, 3) := by decide +kernel
theorem dX8_init_63 : decode cX8_init 63 = .ok (.aload_n 0, 1) := by decide +kernel
theorem dX8_init_64 : decode cX8_init 64 = .ok (.iload_n 1, 1) := by decide +kernel
theorem dX8_init_65 : decode cX8_init 65 = .ok (.ifCond .ge 7, 3) := by decide +kernel
theorem dX8_init_68 : decode cX8_init 68 = .ok (.iconst 0, 1) := by decide +kernel
theorem dX8_init_69 : decode cX8_init 69 = .ok (.goto 13, 3) := by decide +kernel
theorem dX8_init_72 : decode cX8_init 72 = .ok (.iload_n 1, 1) := by decide +kernel
theorem dX8_init_73 : decode cX8_init 73 = .ok (.iconst 2, 1) := by decide +kernel
theorem dX8_init_74 : decode cX8_init 74 = .ok (.if_icmp .le 7, 3) := by decide +kernel
theorem dX8_init_77 : decode cX8_init 77 = .ok (.iconst 2, 1) := by decide +kernel
theorem dX8_init_78 : decode cX8_init 78 = .ok (.goto 4, 3) := by decide +kernel
theorem dX8_init_81 : decode cX8_init 81 = .ok (.iload_n 1, 1) := by decide +kernel
theorem dX8_init_82 : decode cX8_init 82 = .ok (.putfield 33, 3) := by decide +kernel
theorem dX8_init_85 : decode cX8_init 85 = .ok (.aload_n 0, 1) := by decide +kernel
theorem dX8_init_86 : decode cX8_init 86 = .ok (.iload_n 2, 1) := by decide +kernel
theorem dX8_init_87 : decode cX8_init 87 = .ok (.iconst 1, 1) := by decide +kernel
theorem dX8_init_88 : decode cX8_init 88 = .ok (.if_icmp .ge 7, 3) := by decide +kernel
theorem dX8_init_91 : decode cX8_init 91 = .ok (.iconst 1, 1) := by decide +kernel
theorem dX8_init_92 : decode cX8_init 92 = .ok (.goto 17, 3) := by decide +kernel
theorem dX8_init_95 : decode cX8_init 95 = .ok (.iload_n 2, 1) := by decide +kernel
theorem dX8_init_96 : decode cX8_init 96 = .ok (.sipush 700, 3) := by decide +kernel
theorem dX8_init_99 : decode cX8_init 99 = .ok (.if_icmp .le 9, 3) := by decide +kernel
theorem dX8_init_102 : decode cX8_init 102 = .ok (.sipush 700, 3) := by decide +kernel
theorem dX8_init_105 : decode cX8_init 105 = .ok (.goto 4, 3) := by decide +kernel
theorem dX8_init_108 : decode cX8_init 108 = .ok (.iload_n 2, 1) := by decide +kernel
theorem dX8_init_109 : decode cX8_init 109 = .ok (.putfield 37, 3) := by decide +kernel
theorem dX8_init_112 : decode cX8_init 112 = .ok (.aload_n 0, 1) := by decide +kernel
theorem dX8_init_113 : decode cX8_init 113 = .ok (.iconst 0, 1) := by decide +kernel
theorem dX8_init_114 : decode cX8_init 114 = .ok (.invokevirtual 40, 3) := by decide +kernel
theorem dX8_init_117 : decode cX8_init 117 = .ok (.aload_n 0, 1) := by decide +kernel
theorem dX8_init_118 : decode cX8_init 118 = .ok (.iconst 1, 1) := by decide +kernel
theorem dX8_init_119 : decode cX8_init 119 = .ok (.invokevirtual 40, 3) := by decide +kernel
theorem dX8_init_122 : decode cX8_init 122 = .ok (.return_, 1) := by decide +kernel
theorem dX8_thrown_0 : decode cX8_thrown 0 = .ok (.aload_n 0, 1) := by decide +kernel
theorem dX8_thrown_1 : decode cX8_thrown 1 = .ok (.getfield 44, 3) := by decide +kernel
theorem dX8_thrown_4 : decode cX8_thrown 4 = .ok (.ireturn, 1) := by decide +kernel
theorem dX8_isRun_0 : decode cX8_isRun 0 = .ok (.iload_n 0, 1) := by decide +kernel
theorem dX8_isRun_1 : decode cX8_isRun 1 = .ok (.ifCond .lt 9, 3) := by decide +kernel
theorem dX8_isRun_4 : decode cX8_isRun 4 = .ok (.iload_n 0, 1) := by decide +kernel
theorem dX8_isRun_5 : decode cX8_isRun 5 = .ok (.bipush 64, 2) := by decide +kernel
theorem dX8_isRun_7 : decode cX8_isRun 7 = .ok (.if_icmp .lt 21, 3) := by decide +kernel
theorem dX8_isRun_10 : decode cX8_isRun 10 = .ok (.iload_n 0, 1) := by decide +kernel
theorem dX8_isRun_11 : decode cX8_isRun 11 = .ok (.ifCond .le 21, 3) := by decide +kernel
theorem dX8_isRun_14 : decode cX8_isRun 14 = .ok (.iload_n 0, 1) := by decide +kernel
theorem dX8_isRun_15 : decode cX8_isRun 15 = .ok (.sipush 640, 3) := by decide +kernel
theorem dX8_isRun_18 : decode cX8_isRun 18 = .ok (.if_icmp .gt 14, 3) := by decide +kernel
theorem dX8_isRun_21 : decode cX8_isRun 21 = .ok (.iload_n 0, 1) := by decide +kernel
theorem dX8_isRun_22 : decode cX8_isRun 22 = .ok (.bipush 64, 2) := by decide +kernel
theorem dX8_isRun_24 : decode cX8_isRun 24 = .ok (.irem, 1) := by decide +kernel
theorem dX8_isRun_25 : decode cX8_isRun 25 = .ok (.ifCond .ne 7, 3) := by decide +kernel
theorem dX8_isRun_28 : decode cX8_isRun 28 = .ok (.iconst 1, 1) := by decide +kernel
theorem dX8_isRun_29 : decode cX8_isRun 29 = .ok (.goto 4, 3) := by decide +kernel
theorem dX8_isRun_32 : decode cX8_isRun 32 = .ok (.iconst 0, 1) := by decide +kernel
theorem dX8_isRun_33 : decode cX8_isRun 33 = .ok (.ireturn, 1) := by decide +kernel
theorem dX8_in_0 : decode cX8_in 0 = .ok (.iload_n 0, 1) := by decide +kernel
theorem dX8_in_1 : decode cX8_in 1 = .ok (.iload_n 1, 1) := by decide +kernel
theorem dX8_in_2 : decode cX8_in 2 = .ok (.if_icmp .lt 12, 3) := by decide +kernel
theorem dX8_in_5 : decode cX8_in 5 = .ok (.iload_n 0, 1) := by decide +kernel
theorem dX8_in_6 : decode cX8_in 6 = .ok (.iload_n 2, 1) := by decide +kernel
theorem dX8_in_7 : decode cX8_in 7 = .ok (.if_icmp .gt 7, 3) := by decide +kernel
theorem dX8_in_10 : decode cX8_in 10 = .ok (.iconst 1, 1) := by decide +kernel
theorem dX8_in_11 : decode cX8_in 11 = .ok (.goto 4, 3) := by decide +kernel
theorem dX8_in_14 : decode cX8_in 14 = .ok (.iconst 0, 1) := by decide +kernel
theorem dX8_in_15 : decode cX8_in 15 = .ok (.ireturn, 1) := by decide +kernel
set_option maxRecDepth 20000 in
theorem ggX8_bitsOf_X8_in : GoodIn wsX8_bitsOf wsX8_in := goodIn_r _ [4] (by decide +kernel) (by decide +kernel)
set_option maxRecDepth 20000 in
theorem gX8_bitsOf_X8_in : GoodIn wsX8_bitsOf (va_wsS RX8 47 yX8_in wsX8_in) := goodIn_app (goodIn_of _ (by decide +kernel)) ggX8_bitsOf_X8_in
theorem dX8_bitsOf_0 : decode cX8_bitsOf 0 = .ok (.iload_n 0, 1) := by decide +kernel
theorem dX8_bitsOf_1 : decode cX8_bitsOf 1 = .ok (.ifCond .ne 81, 3) := by decide +kernel
theorem dX8_bitsOf_4 : decode cX8_bitsOf 4 = .ok (.iload_n 1, 1) := by decide +kernel
theorem dX8_bitsOf_5 : decode cX8_bitsOf 5 = .ok (.iconst 2, 1) := by decide +kernel
theorem dX8_bitsOf_6 : decode cX8_bitsOf 6 = .ok (.bipush 7, 2) := by decide +kernel
theorem dX8_bitsOf_8 : decode cX8_bitsOf 8 = .ok (.invokestatic 47, 3) := by decide +kernel
theorem dX8_bitsOf_11 : decode cX8_bitsOf 11 = .ok (.ifCond .eq 5, 3) := by decide +kernel
theorem dX8_bitsOf_14 : decode cX8_bitsOf 14 = .ok (.iconst 4, 1) := by decide +kernel
theorem dX8_bitsOf_15 : decode cX8_bitsOf 15 = .ok (.ireturn, 1) := by decide +kernel
theorem dX8_bitsOf_16 : decode cX8_bitsOf 16 = .ok (.iload_n 1, 1) := by decide +kernel
theorem dX8_bitsOf_17 : decode cX8_bitsOf 17 = .ok (.bipush 8, 2) := by decide +kernel
theorem dX8_bitsOf_19 : decode cX8_bitsOf 19 = .ok (.bipush 11, 2) := by decide +kernel
theorem dX8_bitsOf_21 : decode cX8_bitsOf 21 = .ok (.invokestatic 47, 3) := by decide +kernel
theorem dX8_bitsOf_24 : decode cX8_bitsOf 24 = .ok (.ifCond .ne 16, 3) := by decide +kernel
theorem dX8_bitsOf_27 : decode cX8_bitsOf 27 = .ok (.iload_n 1, 1) := by decide +kernel
theorem dX8_bitsOf_28 : decode cX8_bitsOf 28 = .ok (.bipush 64, 2) := by decide +kernel
theorem dX8_bitsOf_30 : decode cX8_bitsOf 30 = .ok (.if_icmp .eq 10, 3) := by decide +kernel
theorem dX8_bitsOf_33 : decode cX8_bitsOf 33 = .ok (.iload_n 1, 1) := by decide +kernel
theorem dX8_bitsOf_34 : decode cX8_bitsOf 34 = .ok (.sipush 128, 3) := by decide +kernel
theorem dX8_bitsOf_37 : decode cX8_bitsOf 37 = .ok (.if_icmp .ne 5, 3) := by decide +kernel
theorem dX8_bitsOf_40 : decode cX8_bitsOf 40 = .ok (.iconst 5, 1) := by decide +kernel
theorem dX8_bitsOf_41 : decode cX8_bitsOf 41 = .ok (.ireturn, 1) := by decide +kernel
theorem dX8_bitsOf_42 : decode cX8_bitsOf 42 = .ok (.iload_n 1, 1) := by decide +kernel
theorem dX8_bitsOf_43 : decode cX8_bitsOf 43 = .ok (.iconst 1, 1) := by decide +kernel
theorem dX8_bitsOf_44 : decode cX8_bitsOf 44 = .ok (.if_icmp .eq 14, 3) := by decide +kernel
theorem dX8_bitsOf_47 : decode cX8_bitsOf 47 = .ok (.iload_n 1, 1) := by decide +kernel
theorem dX8_bitsOf_48 : decode cX8_bitsOf 48 = .ok (.bipush 12, 2) := by decide +kernel
theorem dX8_bitsOf_50 : decode cX8_bitsOf 50 = .ok (.bipush 17, 2) := by decide +kernel
theorem dX8_bitsOf_52 : decode cX8_bitsOf 52 = .ok (.invokestatic 47, 3) := by decide +kernel
theorem dX8_bitsOf_55 : decode cX8_bitsOf 55 = .ok (.ifCond .eq 8, 3) := by decide +kernel
theorem dX8_bitsOf_58 : decode cX8_bitsOf 58 = .ok (.bipush 6, 2) := by decide +kernel
theorem dX8_bitsOf_60 : decode cX8_bitsOf 60 = .ok (.goto 21, 3) := by decide +kernel
theorem dX8_bitsOf_63 : decode cX8_bitsOf 63 = .ok (.iload_n 1, 1) := by decide +kernel
theorem dX8_bitsOf_64 : decode cX8_bitsOf 64 = .ok (.bipush 18, 2) := by decide +kernel
theorem dX8_bitsOf_66 : decode cX8_bitsOf 66 = .ok (.bipush 27, 2) := by decide +kernel
theorem dX8_bitsOf_68 : decode cX8_bitsOf 68 = .ok (.invokestatic 47, 3) := by decide +kernel
theorem dX8_bitsOf_71 : decode cX8_bitsOf 71 = .ok (.ifCond .eq 8, 3) := by decide +kernel
theorem dX8_bitsOf_74 : decode cX8_bitsOf 74 = .ok (.bipush 7, 2) := by decide +kernel
theorem dX8_bitsOf_76 : decode cX8_bitsOf 76 = .ok (.goto 5, 3) := by decide +kernel
theorem dX8_bitsOf_79 : decode cX8_bitsOf 79 = .ok (.bipush 8, 2) := by decide +kernel
theorem dX8_bitsOf_81 : decode cX8_bitsOf 81 = .ok (.ireturn, 1) := by decide +kernel
theorem dX8_bitsOf_82 : decode cX8_bitsOf 82 = .ok (.iload_n 1, 1) := by decide +kernel
theorem dX8_bitsOf_83 : decode cX8_bitsOf 83 = .ok (.iconst 2, 1) := by decide +kernel
theorem dX8_bitsOf_84 : decode cX8_bitsOf 84 = .ok (.iconst 3, 1) := by decide +kernel
theorem dX8_bitsOf_85 : decode cX8_bitsOf 85 = .ok (.invokestatic 47, 3) := by decide +kernel
theorem dX8_bitsOf_88 : decode cX8_bitsOf 88 = .ok (.ifCond .ne 13, 3) := by decide +kernel
theorem dX8_bitsOf_91 : decode cX8_bitsOf 91 = .ok (.iload_n 1, 1) := by decide +kernel
theorem dX8_bitsOf_92 : decode cX8_bitsOf 92 = .ok (.iconst 1, 1) := by decide +kernel
theorem dX8_bitsOf_93 : decode cX8_bitsOf 93 = .ok (.if_icmp .eq 8, 3) := by decide +kernel
theorem dX8_bitsOf_96 : decode cX8_bitsOf 96 = .ok (.iload_n 1, 1) := by decide +kernel
theorem dX8_bitsOf_97 : decode cX8_bitsOf 97 = .ok (.iconst 4, 1) := by decide +kernel
theorem dX8_bitsOf_98 : decode cX8_bitsOf 98 = .ok (.if_icmp .ne 19, 3) := by decide +kernel
theorem dX8_bitsOf_101 : decode cX8_bitsOf 101 = .ok (.iload_n 1, 1) := by decide +kernel
theorem dX8_bitsOf_102 : decode cX8_bitsOf 102 = .ok (.iconst 2, 1) := by decide +kernel
theorem dX8_bitsOf_103 : decode cX8_bitsOf 103 = .ok (.if_icmp .eq 8, 3) := by decide +kernel
theorem dX8_bitsOf_106 : decode cX8_bitsOf 106 = .ok (.iload_n 1, 1) := by decide +kernel
theorem dX8_bitsOf_107 : decode cX8_bitsOf 107 = .ok (.iconst 3, 1) := by decide +kernel
theorem dX8_bitsOf_108 : decode cX8_bitsOf 108 = .ok (.if_icmp .ne 7, 3) := by decide +kernel
theorem dX8_bitsOf_111 : decode cX8_bitsOf 111 = .ok (.iconst 2, 1) := by decide +kernel
theorem dX8_bitsOf_112 : decode cX8_bitsOf 112 = .ok (.goto 4, 3) := by decide +kernel
theorem dX8_bitsOf_115 : decode cX8_bitsOf 115 = .ok (.iconst 3, 1) := by decide +kernel
theorem dX8_bitsOf_116 : decode cX8_bitsOf 116 = .ok (.ireturn, 1) := by decide +kernel
theorem dX8_bitsOf_117 : decode cX8_bitsOf 117 = .ok (.iload_n 1, 1) := by decide +kernel
theorem dX8_bitsOf_118 : decode cX8_bitsOf 118 = .ok (.iconst 5, 1) := by decide +kernel
theorem dX8_bitsOf_119 : decode cX8_bitsOf 119 = .ok (.bipush 8, 2) := by decide +kernel
theorem dX8_bitsOf_121 : decode cX8_bitsOf 121 = .ok (.invokestatic 47, 3) := by decide +kernel
theorem dX8_bitsOf_124 : decode cX8_bitsOf 124 = .ok (.ifCond .eq 15, 3) := by decide +kernel
theorem dX8_bitsOf_127 : decode cX8_bitsOf 127 = .ok (.iload_n 1, 1) := by decide +kernel
theorem dX8_bitsOf_128 : decode cX8_bitsOf 128 = .ok (.bipush 7, 2) := by decide +kernel
theorem dX8_bitsOf_130 : decode cX8_bitsOf 130 = .ok (.if_icmp .ge 7, 3) := by decide +kernel
theorem dX8_bitsOf_133 : decode cX8_bitsOf 133 = .ok (.iconst 4, 1) := by decide +kernel
theorem dX8_bitsOf_134 : decode cX8_bitsOf 134 = .ok (.goto 4, 3) := by decide +kernel
theorem dX8_bitsOf_137 : decode cX8_bitsOf 137 = .ok (.iconst 5, 1) := by decide +kernel
theorem dX8_bitsOf_138 : decode cX8_bitsOf 138 = .ok (.ireturn, 1) := by decide +kernel
theorem dX8_bitsOf_139 : decode cX8_bitsOf 139 = .ok (.iload_n 1, 1) := by decide +kernel
theorem dX8_bitsOf_140 : decode cX8_bitsOf 140 = .ok (.bipush 9, 2) := by decide +kernel
theorem dX8_bitsOf_142 : decode cX8_bitsOf 142 = .ok (.bipush 12, 2) := by decide +kernel
theorem dX8_bitsOf_144 : decode cX8_bitsOf 144 = .ok (.invokestatic 47, 3) := by decide +kernel
theorem dX8_bitsOf_147 : decode cX8_bitsOf 147 = .ok (.ifCond .eq 8, 3) := by decide +kernel
theorem dX8_bitsOf_150 : decode cX8_bitsOf 150 = .ok (.bipush 7, 2) := by decide +kernel
theorem dX8_bitsOf_152 : decode cX8_bitsOf 152 = .ok (.goto 25, 3) := by decide +kernel
theorem dX8_bitsOf_155 : decode cX8_bitsOf 155 = .ok (.iload_n 1, 1) := by decide +kernel
theorem dX8_bitsOf_156 : decode cX8_bitsOf 156 = .ok (.ifCond .eq 14, 3) := by decide +kernel
theorem dX8_bitsOf_159 : decode cX8_bitsOf 159 = .ok (.iload_n 1, 1) := by decide +kernel
theorem dX8_bitsOf_160 : decode cX8_bitsOf 160 = .ok (.bipush 13, 2) := by decide +kernel
theorem dX8_bitsOf_162 : decode cX8_bitsOf 162 = .ok (.bipush 20, 2) := by decide +kernel
theorem dX8_bitsOf_164 : decode cX8_bitsOf 164 = .ok (.invokestatic 47, 3) := by decide +kernel
theorem dX8_bitsOf_167 : decode cX8_bitsOf 167 = .ok (.ifCond .eq 8, 3) := by decide +kernel
theorem dX8_bitsOf_170 : decode cX8_bitsOf 170 = .ok (.bipush 9, 2) := by decide +kernel
theorem dX8_bitsOf_172 : decode cX8_bitsOf 172 = .ok (.goto 5, 3) := by decide +kernel
theorem dX8_bitsOf_175 : decode cX8_bitsOf 175 = .ok (.bipush 12, 2) := by decide +kernel
theorem dX8_bitsOf_177 : decode cX8_bitsOf 177 = .ok (.ireturn, 1) := by decide +kernel
set_option maxRecDepth 20000 in
theorem ggX8_makeTable_X8_isRun : GoodIn wsX8_makeTable wsX8_isRun := goodIn_r _ [6] (by decide +kernel) (by decide +kernel)
set_option maxRecDepth 20000 in
theorem gX8_makeTable_X8_isRun : GoodIn wsX8_makeTable (va_wsS RX8 51 yX8_isRun wsX8_isRun) := goodIn_app (goodIn_of _ (by decide +kernel)) ggX8_makeTable_X8_isRun
set_option maxRecDepth 20000 in
theorem ggX8_makeTable_X8_bitsOf : GoodIn wsX8_makeTable wsX8_bitsOf := goodIn_r _ [9, 10, 11, 5, 12] (by decide +kernel) (by decide +kernel)
set_option maxRecDepth 20000 in
theorem gX8_makeTable_X8_bitsOf : GoodIn wsX8_makeTable (va_wsS RX8 55 yX8_bitsOf wsX8_bitsOf) := goodIn_app (goodIn_of _ (by decide +kernel)) ggX8_makeTable_X8_bitsOf
theorem dX8_makeTable_0 : decode cX8_makeTable 0 = .ok (.sipush 4096, 3) := by decide +kernel
theorem dX8_makeTable_3 : decode cX8_makeTable 3 = .ok (.istore_n 2, 1) := by decide +kernel
theorem dX8_makeTable_4 : decode cX8_makeTable 4 = .ok (.iconst 1, 1) := by decide +kernel
theorem dX8_makeTable_5 : decode cX8_makeTable 5 = .ok (.istore_n 3, 1) := by decide +kernel
theorem dX8_makeTable_6 : decode cX8_makeTable 6 = .ok (.iload_n 3, 1) := by decide +kernel
theorem dX8_makeTable_7 : decode cX8_makeTable 7 = .ok (.bipush 12, 2) := by decide +kernel
theorem dX8_makeTable_9 : decode cX8_makeTable 9 = .ok (.if_icmp .gt 85, 3) := by decide +kernel
theorem dX8_makeTable_12 : decode cX8_makeTable 12 = .ok (.iconst 0, 1) := by decide +kernel
theorem dX8_makeTable_13 : decode cX8_makeTable 13 = .ok (.istore 4, 2) := by decide +kernel
theorem dX8_makeTable_15 : decode cX8_makeTable 15 = .ok (.iload 4, 2) := by decide +kernel
theorem dX8_makeTable_17 : decode cX8_makeTable 17 = .ok (.sipush 640, 3) := by decide +kernel
theorem dX8_makeTable_20 : decode cX8_makeTable 20 = .ok (.if_icmp .gt 68, 3) := by decide +kernel
theorem dX8_makeTable_23 : decode cX8_makeTable 23 = .ok (.iload 4, 2) := by decide +kernel
theorem dX8_makeTable_25 : decode cX8_makeTable 25 = .ok (.invokestatic 51, 3) := by decide +kernel
theorem dX8_makeTable_28 : decode cX8_makeTable 28 = .ok (.ifCond .eq 54, 3) := by decide +kernel
theorem dX8_makeTable_31 : decode cX8_makeTable 31 = .ok (.iload_n 1, 1) := by decide +kernel
theorem dX8_makeTable_32 : decode cX8_makeTable 32 = .ok (.iload 4, 2) := by decide +kernel
theorem dX8_makeTable_34 : decode cX8_makeTable 34 = .ok (.invokestatic 55, 3) := by decide +kernel
theorem dX8_makeTable_37 : decode cX8_makeTable 37 = .ok (.iload_n 3, 1) := by decide +kernel
theorem dX8_makeTable_38 : decode cX8_makeTable 38 = .ok (.if_icmp .ne 44, 3) := by decide +kernel
theorem dX8_makeTable_41 : decode cX8_makeTable 41 = .ok (.iload_n 2, 1) := by decide +kernel
theorem dX8_makeTable_42 : decode cX8_makeTable 42 = .ok (.sipush 4096, 3) := by decide +kernel
theorem dX8_makeTable_45 : decode cX8_makeTable 45 = .ok (.iload_n 3, 1) := by decide +kernel
theorem dX8_makeTable_46 : decode cX8_makeTable 46 = .ok (.ishr, 1) := by decide +kernel
theorem dX8_makeTable_47 : decode cX8_makeTable 47 = .ok (.isub, 1) := by decide +kernel
theorem dX8_makeTable_48 : decode cX8_makeTable 48 = .ok (.istore_n 2, 1) := by decide +kernel
theorem dX8_makeTable_49 : decode cX8_makeTable 49 = .ok (.aload_n 0, 1) := by decide +kernel
theorem dX8_makeTable_50 : decode cX8_makeTable 50 = .ok (.getfield 7, 3) := by decide +kernel
theorem dX8_makeTable_53 : decode cX8_makeTable 53 = .ok (.sipush 704, 3) := by decide +kernel
theorem dX8_makeTable_56 : decode cX8_makeTable 56 = .ok (.iload_n 1, 1) := by decide +kernel
theorem dX8_makeTable_57 : decode cX8_makeTable 57 = .ok (.imul, 1) := by decide +kernel
theorem dX8_makeTable_58 : decode cX8_makeTable 58 = .ok (.iload 4, 2) := by decide +kernel
theorem dX8_makeTable_60 : decode cX8_makeTable 60 = .ok (.iadd, 1) := by decide +kernel
theorem dX8_makeTable_61 : decode cX8_makeTable 61 = .ok (.iload_n 2, 1) := by decide +kernel
theorem dX8_makeTable_62 : decode cX8_makeTable 62 = .ok (.bipush 12, 2) := by decide +kernel
theorem dX8_makeTable_64 : decode cX8_makeTable 64 = .ok (.iload_n 3, 1) := by decide +kernel
theorem dX8_makeTable_65 : decode cX8_makeTable 65 = .ok (.isub, 1) := by decide +kernel
theorem dX8_makeTable_66 : decode cX8_makeTable 66 = .ok (.ishr, 1) := by decide +kernel
theorem dX8_makeTable_67 : decode cX8_makeTable 67 = .ok (.iastore, 1) := by decide +kernel
theorem dX8_makeTable_68 : decode cX8_makeTable 68 = .ok (.aload_n 0, 1) := by decide +kernel
theorem dX8_makeTable_69 : decode cX8_makeTable 69 = .ok (.getfield 13, 3) := by decide +kernel
theorem dX8_makeTable_72 : decode cX8_makeTable 72 = .ok (.sipush 704, 3) := by decide +kernel
theorem dX8_makeTable_75 : decode cX8_makeTable 75 = .ok (.iload_n 1, 1) := by decide +kernel
theorem dX8_makeTable_76 : decode cX8_makeTable 76 = .ok (.imul, 1) := by decide +kernel
theorem dX8_makeTable_77 : decode cX8_makeTable 77 = .ok (.iload 4, 2) := by decide +kernel
theorem dX8_makeTable_79 : decode cX8_makeTable 79 = .ok (.iadd, 1) := by decide +kernel
theorem dX8_makeTable_80 : decode cX8_makeTable 80 = .ok (.iload_n 3, 1) := by decide +kernel
theorem dX8_makeTable_81 : decode cX8_makeTable 81 = .ok (.iastore, 1) := by decide +kernel
theorem dX8_makeTable_82 : decode cX8_makeTable 82 = .ok (.iinc 4 1, 3) := by decide +kernel
theorem dX8_makeTable_85 : decode cX8_makeTable 85 = .ok (.goto (-70), 3) := by decide +kernel
theorem dX8_makeTable_88 : decode cX8_makeTable 88 = .ok (.iinc 3 1, 3) := by decide +kernel
theorem dX8_makeTable_91 : decode cX8_makeTable 91 = .ok (.goto (-85), 3) := by decide +kernel
theorem dX8_makeTable_94 : decode cX8_makeTable 94 = .ok (.return_, 1) := by decide +kernel
set_option maxRecDepth 20000 in
theorem ggX8_code_X8_isRun : GoodIn wsX8_code wsX8_isRun := goodIn_r _ [8] (by decide +kernel) (by decide +kernel)
set_option maxRecDepth 20000 in
theorem gX8_code_X8_isRun : GoodIn wsX8_code (va_wsS RX8 51 yX8_isRun wsX8_isRun) := goodIn_app (goodIn_of _ (by decide +kernel)) ggX8_code_X8_isRun
theorem dX8_code_0 : decode cX8_code 0 = .ok (.aload_n 0, 1) := by decide +kernel
theorem dX8_code_1 : decode cX8_code 1 = .ok (.iload_n 2, 1) := by decide +kernel
theorem dX8_code_2 : decode cX8_code 2 = .ok (.invokestatic 51, 3) := by decide +kernel
theorem dX8_code_5 : decode cX8_code 5 = .ok (.ifCond .eq 7, 3) := by decide +kernel
theorem dX8_code_8 : decode cX8_code 8 = .ok (.iconst 0, 1) := by decide +kernel
theorem dX8_code_9 : decode cX8_code 9 = .ok (.goto 4, 3) := by decide +kernel
theorem dX8_code_12 : decode cX8_code 12 = .ok (.iconst 1, 1) := by decide +kernel
theorem dX8_code_13 : decode cX8_code 13 = .ok (.putfield 44, 3) := by decide +kernel
theorem dX8_code_16 : decode cX8_code 16 = .ok (.sipush 704, 3) := by decide +kernel
theorem dX8_code_19 : decode cX8_code 19 = .ok (.iload_n 1, 1) := by decide +kernel
theorem dX8_code_20 : decode cX8_code 20 = .ok (.ifCond .eq 7, 3) := by decide +kernel
theorem dX8_code_23 : decode cX8_code 23 = .ok (.iconst 1, 1) := by decide +kernel
theorem dX8_code_24 : decode cX8_code 24 = .ok (.goto 4, 3) := by decide +kernel
theorem dX8_code_27 : decode cX8_code 27 = .ok (.iconst 0, 1) := by decide +kernel
theorem dX8_code_28 : decode cX8_code 28 = .ok (.imul, 1) := by decide +kernel
theorem dX8_code_29 : decode cX8_code 29 = .ok (.iload_n 2, 1) := by decide +kernel
theorem dX8_code_30 : decode cX8_code 30 = .ok (.iadd, 1) := by decide +kernel
theorem dX8_code_31 : decode cX8_code 31 = .ok (.istore_n 3, 1) := by decide +kernel
theorem dX8_code_32 : decode cX8_code 32 = .ok (.aload_n 0, 1) := by decide +kernel
theorem dX8_code_33 : decode cX8_code 33 = .ok (.getfield 44, 3) := by decide +kernel
theorem dX8_code_36 : decode cX8_code 36 = .ok (.ifCond .le 7, 3) := by decide +kernel
theorem dX8_code_39 : decode cX8_code 39 = .ok (.iconst 0, 1) := by decide +kernel
theorem dX8_code_40 : decode cX8_code 40 = .ok (.goto 19, 3) := by decide +kernel
theorem dX8_code_43 : decode cX8_code 43 = .ok (.aload_n 0, 1) := by decide +kernel
theorem dX8_code_44 : decode cX8_code 44 = .ok (.getfield 7, 3) := by decide +kernel
theorem dX8_code_47 : decode cX8_code 47 = .ok (.iload_n 3, 1) := by decide +kernel
theorem dX8_code_48 : decode cX8_code 48 = .ok (.iaload, 1) := by decide +kernel
theorem dX8_code_49 : decode cX8_code 49 = .ok (.ldc 59, 2) := by decide +kernel
theorem dX8_code_51 : decode cX8_code 51 = .ok (.aload_n 0, 1) := by decide +kernel
theorem dX8_code_52 : decode cX8_code 52 = .ok (.getfield 13, 3) := by decide +kernel
theorem dX8_code_55 : decode cX8_code 55 = .ok (.iload_n 3, 1) := by decide +kernel
theorem dX8_code_56 : decode cX8_code 56 = .ok (.iaload, 1) := by decide +kernel
theorem dX8_code_57 : decode cX8_code 57 = .ok (.imul, 1) := by decide +kernel
theorem dX8_code_58 : decode cX8_code 58 = .ok (.iadd, 1) := by decide +kernel
theorem dX8_code_59 : decode cX8_code 59 = .ok (.ireturn, 1) := by decide +kernel
theorem dX8_told_0 : decode cX8_told 0 = .ok (.aload_n 0, 1) := by decide +kernel
theorem dX8_told_1 : decode cX8_told 1 = .ok (.iload_n 1, 1) := by decide +kernel
theorem dX8_told_2 : decode cX8_told 2 = .ok (.ifCond .lt 9, 3) := by decide +kernel
theorem dX8_told_5 : decode cX8_told 5 = .ok (.iload_n 1, 1) := by decide +kernel
theorem dX8_told_6 : decode cX8_told 6 = .ok (.bipush 6, 2) := by decide +kernel
theorem dX8_told_8 : decode cX8_told 8 = .ok (.if_icmp .le 7, 3) := by decide +kernel
theorem dX8_told_11 : decode cX8_told 11 = .ok (.iconst 1, 1) := by decide +kernel
theorem dX8_told_12 : decode cX8_told 12 = .ok (.goto 4, 3) := by decide +kernel
theorem dX8_told_15 : decode cX8_told 15 = .ok (.iconst 0, 1) := by decide +kernel
theorem dX8_told_16 : decode cX8_told 16 = .ok (.putfield 44, 3) := by decide +kernel
theorem dX8_told_19 : decode cX8_told 19 = .ok (.aload_n 0, 1) := by decide +kernel
theorem dX8_told_20 : decode cX8_told 20 = .ok (.getfield 44, 3) := by decide +kernel
theorem dX8_told_23 : decode cX8_told 23 = .ok (.ifCond .le 5, 3) := by decide +kernel
theorem dX8_told_26 : decode cX8_told 26 = .ok (.iconst 0, 1) := by decide +kernel
theorem dX8_told_27 : decode cX8_told 27 = .ok (.ireturn, 1) := by decide +kernel
theorem dX8_told_28 : decode cX8_told 28 = .ok (.iload_n 1, 1) := by decide +kernel
theorem dX8_told_29 : decode cX8_told 29 = .ok (.iconst 3, 1) := by decide +kernel
theorem dX8_told_30 : decode cX8_told 30 = .ok (.if_icmp .ge 31, 3) := by decide +kernel
theorem dX8_told_33 : decode cX8_told 33 = .ok (.iload_n 1, 1) := by decide +kernel
theorem dX8_told_34 : decode cX8_told 34 = .ok (.ifCond .ne 10, 3) := by decide +kernel
theorem dX8_told_37 : decode cX8_told 37 = .ok (.aload_n 0, 1) := by decide +kernel
theorem dX8_told_38 : decode cX8_told 38 = .ok (.getfield 33, 3) := by decide +kernel
theorem dX8_told_41 : decode cX8_told 41 = .ok (.goto 19, 3) := by decide +kernel
theorem dX8_told_44 : decode cX8_told 44 = .ok (.iload_n 1, 1) := by decide +kernel
theorem dX8_told_45 : decode cX8_told 45 = .ok (.iconst 1, 1) := by decide +kernel
theorem dX8_told_46 : decode cX8_told 46 = .ok (.if_icmp .ne 10, 3) := by decide +kernel
theorem dX8_told_49 : decode cX8_told 49 = .ok (.aload_n 0, 1) := by decide +kernel
theorem dX8_told_50 : decode cX8_told 50 = .ok (.getfield 37, 3) := by decide +kernel
theorem dX8_told_53 : decode cX8_told 53 = .ok (.goto 7, 3) := by decide +kernel
theorem dX8_told_56 : decode cX8_told 56 = .ok (.aload_n 0, 1) := by decide +kernel
theorem dX8_told_57 : decode cX8_told 57 = .ok (.getfield 60, 3) := by decide +kernel
theorem dX8_told_60 : decode cX8_told 60 = .ok (.ireturn, 1) := by decide +kernel
theorem dX8_told_61 : decode cX8_told 61 = .ok (.iload_n 1, 1) := by decide +kernel
theorem dX8_told_62 : decode cX8_told 62 = .ok (.iconst 3, 1) := by decide +kernel
theorem dX8_told_63 : decode cX8_told 63 = .ok (.if_icmp .ne 10, 3) := by decide +kernel
theorem dX8_told_66 : decode cX8_told 66 = .ok (.aload_n 0, 1) := by decide +kernel
theorem dX8_told_67 : decode cX8_told 67 = .ok (.getfield 63, 3) := by decide +kernel
theorem dX8_told_70 : decode cX8_told 70 = .ok (.goto 34, 3) := by decide +kernel
theorem dX8_told_73 : decode cX8_told 73 = .ok (.iload_n 1, 1) := by decide +kernel
theorem dX8_told_74 : decode cX8_told 74 = .ok (.iconst 4, 1) := by decide +kernel
theorem dX8_told_75 : decode cX8_told 75 = .ok (.if_icmp .ne 13, 3) := by decide +kernel
theorem dX8_told_78 : decode cX8_told 78 = .ok (.aload_n 0, 1) := by decide +kernel
theorem dX8_told_79 : decode cX8_told 79 = .ok (.getfield 66, 3) := by decide +kernel
theorem dX8_told_82 : decode cX8_told 82 = .ok (.bipush 8, 2) := by decide +kernel
theorem dX8_told_84 : decode cX8_told 84 = .ok (.idiv, 1) := by decide +kernel
theorem dX8_told_85 : decode cX8_told 85 = .ok (.goto 19, 3) := by decide +kernel
theorem dX8_told_88 : decode cX8_told 88 = .ok (.iload_n 1, 1) := by decide +kernel
theorem dX8_told_89 : decode cX8_told 89 = .ok (.iconst 5, 1) := by decide +kernel
theorem dX8_told_90 : decode cX8_told 90 = .ok (.if_icmp .ne 10, 3) := by decide +kernel
theorem dX8_told_93 : decode cX8_told 93 = .ok (.aload_n 0, 1) := by decide +kernel
theorem dX8_told_94 : decode cX8_told 94 = .ok (.getfield 69, 3) := by decide +kernel
theorem dX8_told_97 : decode cX8_told 97 = .ok (.goto 7, 3) := by decide +kernel
theorem dX8_told_100 : decode cX8_told 100 = .ok (.aload_n 0, 1) := by decide +kernel
theorem dX8_told_101 : decode cX8_told 101 = .ok (.getfield 72, 3) := by decide +kernel
theorem dX8_told_104 : decode cX8_told 104 = .ok (.ireturn, 1) := by decide +kernel
theorem dX8_setting_0 : decode cX8_setting 0 = .ok (.aload_n 0, 1) := by decide +kernel
theorem dX8_setting_1 : decode cX8_setting 1 = .ok (.iload_n 1, 1) := by decide +kernel
theorem dX8_setting_2 : decode cX8_setting 2 = .ok (.ifCond .lt 8, 3) := by decide +kernel
theorem dX8_setting_5 : decode cX8_setting 5 = .ok (.iload_n 1, 1) := by decide +kernel
theorem dX8_setting_6 : decode cX8_setting 6 = .ok (.iconst 3, 1) := by decide +kernel
theorem dX8_setting_7 : decode cX8_setting 7 = .ok (.if_icmp .le 7, 3) := by decide +kernel
theorem dX8_setting_10 : decode cX8_setting 10 = .ok (.iconst 1, 1) := by decide +kernel
theorem dX8_setting_11 : decode cX8_setting 11 = .ok (.goto 4, 3) := by decide +kernel
theorem dX8_setting_14 : decode cX8_setting 14 = .ok (.iconst 0, 1) := by decide +kernel
theorem dX8_setting_15 : decode cX8_setting 15 = .ok (.putfield 44, 3) := by decide +kernel
theorem dX8_setting_18 : decode cX8_setting 18 = .ok (.aload_n 0, 1) := by decide +kernel
theorem dX8_setting_19 : decode cX8_setting 19 = .ok (.getfield 44, 3) := by decide +kernel
theorem dX8_setting_22 : decode cX8_setting 22 = .ok (.ifCond .ne 10, 3) := by decide +kernel
theorem dX8_setting_25 : decode cX8_setting 25 = .ok (.aload_n 0, 1) := by decide +kernel
theorem dX8_setting_26 : decode cX8_setting 26 = .ok (.getfield 16, 3) := by decide +kernel
theorem dX8_setting_29 : decode cX8_setting 29 = .ok (.iload_n 1, 1) := by decide +kernel
theorem dX8_setting_30 : decode cX8_setting 30 = .ok (.iload_n 2, 1) := by decide +kernel
theorem dX8_setting_31 : decode cX8_setting 31 = .ok (.bastore, 1) := by decide +kernel
theorem dX8_setting_32 : decode cX8_setting 32 = .ok (.return_, 1) := by decide +kernel
theorem dX8_add_0 : decode cX8_add 0 = .ok (.aload_n 0, 1) := by decide +kernel
theorem dX8_add_1 : decode cX8_add 1 = .ok (.iconst 0, 1) := by decide +kernel
theorem dX8_add_2 : decode cX8_add 2 = .ok (.putfield 44, 3) := by decide +kernel
theorem dX8_add_5 : decode cX8_add 5 = .ok (.iload_n 3, 1) := by decide +kernel
theorem dX8_add_6 : decode cX8_add 6 = .ok (.iconst 1, 1) := by decide +kernel
theorem dX8_add_7 : decode cX8_add 7 = .ok (.if_icmp .lt 21, 3) := by decide +kernel
theorem dX8_add_10 : decode cX8_add 10 = .ok (.iload_n 3, 1) := by decide +kernel
theorem dX8_add_11 : decode cX8_add 11 = .ok (.bipush 8, 2) := by decide +kernel
theorem dX8_add_13 : decode cX8_add 13 = .ok (.if_icmp .gt 15, 3) := by decide +kernel
theorem dX8_add_16 : decode cX8_add 16 = .ok (.aload_n 0, 1) := by decide +kernel
theorem dX8_add_17 : decode cX8_add 17 = .ok (.getfield 63, 3) := by decide +kernel
theorem dX8_add_20 : decode cX8_add 20 = .ok (.iload_n 3, 1) := by decide +kernel
theorem dX8_add_21 : decode cX8_add 21 = .ok (.iadd, 1) := by decide +kernel
theorem dX8_add_22 : decode cX8_add 22 = .ok (.sipush 400, 3) := by decide +kernel
theorem dX8_add_25 : decode cX8_add 25 = .ok (.if_icmp .le 5, 3) := by decide +kernel
theorem dX8_add_28 : decode cX8_add 28 = .ok (.iconst 0, 1) := by decide +kernel
theorem dX8_add_29 : decode cX8_add 29 = .ok (.ireturn, 1) := by decide +kernel
theorem dX8_add_30 : decode cX8_add 30 = .ok (.iconst 0, 1) := by decide +kernel
theorem dX8_add_31 : decode cX8_add 31 = .ok (.istore 4, 2) := by decide +kernel
theorem dX8_add_33 : decode cX8_add 33 = .ok (.iload 4, 2) := by decide +kernel
theorem dX8_add_35 : decode cX8_add 35 = .ok (.iload_n 3, 1) := by decide +kernel
theorem dX8_add_36 : decode cX8_add 36 = .ok (.if_icmp .ge 40, 3) := by decide +kernel
theorem dX8_add_39 : decode cX8_add 39 = .ok (.aload_n 0, 1) := by decide +kernel
theorem dX8_add_40 : decode cX8_add 40 = .ok (.getfield 26, 3) := by decide +kernel
theorem dX8_add_43 : decode cX8_add 43 = .ok (.aload_n 0, 1) := by decide +kernel
theorem dX8_add_44 : decode cX8_add 44 = .ok (.getfield 63, 3) := by decide +kernel
theorem dX8_add_47 : decode cX8_add 47 = .ok (.lload_n 1, 1) := by decide +kernel
theorem dX8_add_48 : decode cX8_add 48 = .ok (.bipush 8, 2) := by decide +kernel
theorem dX8_add_50 : decode cX8_add 50 = .ok (.iload 4, 2) := by decide +kernel
theorem dX8_add_52 : decode cX8_add 52 = .ok (.imul, 1) := by decide +kernel
theorem dX8_add_53 : decode cX8_add 53 = .ok (.lshr, 1) := by decide +kernel
theorem dX8_add_54 : decode cX8_add 54 = .ok (.ldc2_w 75, 3) := by decide +kernel
theorem dX8_add_57 : decode cX8_add 57 = .ok (.land, 1) := by decide +kernel
theorem dX8_add_58 : decode cX8_add 58 = .ok (.l2i, 1) := by decide +kernel
theorem dX8_add_59 : decode cX8_add 59 = .ok (.iastore, 1) := by decide +kernel
theorem dX8_add_60 : decode cX8_add 60 = .ok (.aload_n 0, 1) := by decide +kernel
theorem dX8_add_61 : decode cX8_add 61 = .ok (.dup, 1) := by decide +kernel
theorem dX8_add_62 : decode cX8_add 62 = .ok (.getfield 63, 3) := by decide +kernel
theorem dX8_add_65 : decode cX8_add 65 = .ok (.iconst 1, 1) := by decide +kernel
theorem dX8_add_66 : decode cX8_add 66 = .ok (.iadd, 1) := by decide +kernel
theorem dX8_add_67 : decode cX8_add 67 = .ok (.putfield 63, 3) := by decide +kernel
theorem dX8_add_70 : decode cX8_add 70 = .ok (.iinc 4 1, 3) := by decide +kernel
theorem dX8_add_73 : decode cX8_add 73 = .ok (.goto (-40), 3) := by decide +kernel
theorem dX8_add_76 : decode cX8_add 76 = .ok (.iconst 1, 1) := by decide +kernel
theorem dX8_add_77 : decode cX8_add 77 = .ok (.ireturn, 1) := by decide +kernel
theorem dX8_byteOf_0 : decode cX8_byteOf 0 = .ok (.iconst 0, 1) := by decide +kernel
theorem dX8_byteOf_1 : decode cX8_byteOf 1 = .ok (.istore_n 2, 1) := by decide +kernel
theorem dX8_byteOf_2 : decode cX8_byteOf 2 = .ok (.iconst 0, 1) := by decide +kernel
theorem dX8_byteOf_3 : decode cX8_byteOf 3 = .ok (.istore_n 3, 1) := by decide +kernel
theorem dX8_byteOf_4 : decode cX8_byteOf 4 = .ok (.iload_n 3, 1) := by decide +kernel
theorem dX8_byteOf_5 : decode cX8_byteOf 5 = .ok (.bipush 8, 2) := by decide +kernel
theorem dX8_byteOf_7 : decode cX8_byteOf 7 = .ok (.if_icmp .ge 33, 3) := by decide +kernel
theorem dX8_byteOf_10 : decode cX8_byteOf 10 = .ok (.iconst 2, 1) := by decide +kernel
theorem dX8_byteOf_11 : decode cX8_byteOf 11 = .ok (.iload_n 2, 1) := by decide +kernel
theorem dX8_byteOf_12 : decode cX8_byteOf 12 = .ok (.imul, 1) := by decide +kernel
theorem dX8_byteOf_13 : decode cX8_byteOf 13 = .ok (.aload_n 0, 1) := by decide +kernel
theorem dX8_byteOf_14 : decode cX8_byteOf 14 = .ok (.getfield 30, 3) := by decide +kernel
theorem dX8_byteOf_17 : decode cX8_byteOf 17 = .ok (.bipush 8, 2) := by decide +kernel
theorem dX8_byteOf_19 : decode cX8_byteOf 19 = .ok (.iload_n 1, 1) := by decide +kernel
theorem dX8_byteOf_20 : decode cX8_byteOf 20 = .ok (.imul, 1) := by decide +kernel
theorem dX8_byteOf_21 : decode cX8_byteOf 21 = .ok (.iload_n 3, 1) := by decide +kernel
theorem dX8_byteOf_22 : decode cX8_byteOf 22 = .ok (.iadd, 1) := by decide +kernel
theorem dX8_byteOf_23 : decode cX8_byteOf 23 = .ok (.baload, 1) := by decide +kernel
theorem dX8_byteOf_24 : decode cX8_byteOf 24 = .ok (.ifCond .eq 7, 3) := by decide +kernel
theorem dX8_byteOf_27 : decode cX8_byteOf 27 = .ok (.iconst 1, 1) := by decide +kernel
theorem dX8_byteOf_28 : decode cX8_byteOf 28 = .ok (.goto 4, 3) := by decide +kernel
theorem dX8_byteOf_31 : decode cX8_byteOf 31 = .ok (.iconst 0, 1) := by decide +kernel
theorem dX8_byteOf_32 : decode cX8_byteOf 32 = .ok (.iadd, 1) := by decide +kernel
theorem dX8_byteOf_33 : decode cX8_byteOf 33 = .ok (.istore_n 2, 1) := by decide +kernel
theorem dX8_byteOf_34 : decode cX8_byteOf 34 = .ok (.iinc 3 1, 3) := by decide +kernel
theorem dX8_byteOf_37 : decode cX8_byteOf 37 = .ok (.goto (-33), 3) := by decide +kernel
theorem dX8_byteOf_40 : decode cX8_byteOf 40 = .ok (.iload_n 2, 1) := by decide +kernel
theorem dX8_byteOf_41 : decode cX8_byteOf 41 = .ok (.ireturn, 1) := by decide +kernel
set_option maxRecDepth 20000 in
theorem ggX8_take_X8_byteOf : GoodIn wsX8_take wsX8_byteOf := goodIn_ca (goodIn_r _ [9, 10, 11, 12, 13, 14, 15, 16, 17, 18, 19, 20, 21, 22, 23, 24, 25, 26, 27, 28, 29, 30, 31, 32] (by decide +kernel) (by decide +kernel)) (goodIn_sub (fun _ h => List.mem_cons_of_mem _ (List.mem_append_right _ h)) (by decide +kernel))
set_option maxRecDepth 20000 in
theorem gX8_take_X8_byteOf : GoodIn wsX8_take (wsV RX8 77 RX8 yX8_byteOf wsX8_byteOf) := goodIn_app (goodIn_of _ (by decide +kernel)) ggX8_take_X8_byteOf
theorem dX8_take_0 : decode cX8_take 0 = .ok (.aload_n 0, 1) := by decide +kernel
theorem dX8_take_1 : decode cX8_take 1 = .ok (.iconst 0, 1) := by decide +kernel
theorem dX8_take_2 : decode cX8_take 2 = .ok (.putfield 44, 3) := by decide +kernel
theorem dX8_take_5 : decode cX8_take 5 = .ok (.aload_n 0, 1) := by decide +kernel
theorem dX8_take_6 : decode cX8_take 6 = .ok (.aload_n 0, 1) := by decide +kernel
theorem dX8_take_7 : decode cX8_take 7 = .ok (.getfield 66, 3) := by decide +kernel
theorem dX8_take_10 : decode cX8_take 10 = .ok (.bipush 8, 2) := by decide +kernel
theorem dX8_take_12 : decode cX8_take 12 = .ok (.idiv, 1) := by decide +kernel
theorem dX8_take_13 : decode cX8_take 13 = .ok (.sipush 400, 3) := by decide +kernel
theorem dX8_take_16 : decode cX8_take 16 = .ok (.if_icmp .ge 13, 3) := by decide +kernel
theorem dX8_take_19 : decode cX8_take 19 = .ok (.aload_n 0, 1) := by decide +kernel
theorem dX8_take_20 : decode cX8_take 20 = .ok (.getfield 66, 3) := by decide +kernel
theorem dX8_take_23 : decode cX8_take 23 = .ok (.bipush 8, 2) := by decide +kernel
theorem dX8_take_25 : decode cX8_take 25 = .ok (.idiv, 1) := by decide +kernel
theorem dX8_take_26 : decode cX8_take 26 = .ok (.goto 6, 3) := by decide +kernel
theorem dX8_take_29 : decode cX8_take 29 = .ok (.sipush 400, 3) := by decide +kernel
theorem dX8_take_32 : decode cX8_take 32 = .ok (.putfield 63, 3) := by decide +kernel
theorem dX8_take_35 : decode cX8_take 35 = .ok (.iconst 0, 1) := by decide +kernel
theorem dX8_take_36 : decode cX8_take 36 = .ok (.istore_n 1, 1) := by decide +kernel
theorem dX8_take_37 : decode cX8_take 37 = .ok (.iload_n 1, 1) := by decide +kernel
theorem dX8_take_38 : decode cX8_take 38 = .ok (.aload_n 0, 1) := by decide +kernel
theorem dX8_take_39 : decode cX8_take 39 = .ok (.getfield 63, 3) := by decide +kernel
theorem dX8_take_42 : decode cX8_take 42 = .ok (.if_icmp .ge 20, 3) := by decide +kernel
theorem dX8_take_45 : decode cX8_take 45 = .ok (.aload_n 0, 1) := by decide +kernel
theorem dX8_take_46 : decode cX8_take 46 = .ok (.getfield 26, 3) := by decide +kernel
theorem dX8_take_49 : decode cX8_take 49 = .ok (.iload_n 1, 1) := by decide +kernel
theorem dX8_take_50 : decode cX8_take 50 = .ok (.aload_n 0, 1) := by decide +kernel
theorem dX8_take_51 : decode cX8_take 51 = .ok (.iload_n 1, 1) := by decide +kernel
theorem dX8_take_52 : decode cX8_take 52 = .ok (.invokevirtual 77, 3) := by decide +kernel
theorem dX8_take_55 : decode cX8_take 55 = .ok (.iastore, 1) := by decide +kernel
theorem dX8_take_56 : decode cX8_take 56 = .ok (.iinc 1 1, 3) := by decide +kernel
theorem dX8_take_59 : decode cX8_take 59 = .ok (.goto (-22), 3) := by decide +kernel
theorem dX8_take_62 : decode cX8_take 62 = .ok (.aload_n 0, 1) := by decide +kernel
theorem dX8_take_63 : decode cX8_take 63 = .ok (.getfield 63, 3) := by decide +kernel
theorem dX8_take_66 : decode cX8_take 66 = .ok (.ireturn, 1) := by decide +kernel
theorem dX8_drop_0 : decode cX8_drop 0 = .ok (.aload_n 0, 1) := by decide +kernel
theorem dX8_drop_1 : decode cX8_drop 1 = .ok (.iconst 0, 1) := by decide +kernel
theorem dX8_drop_2 : decode cX8_drop 2 = .ok (.putfield 44, 3) := by decide +kernel
theorem dX8_drop_5 : decode cX8_drop 5 = .ok (.aload_n 0, 1) := by decide +kernel
theorem dX8_drop_6 : decode cX8_drop 6 = .ok (.iconst 0, 1) := by decide +kernel
theorem dX8_drop_7 : decode cX8_drop 7 = .ok (.putfield 63, 3) := by decide +kernel
theorem dX8_drop_10 : decode cX8_drop 10 = .ok (.return_, 1) := by decide +kernel
theorem dX8_isRow_0 : decode cX8_isRow 0 = .ok (.iload_n 1, 1) := by decide +kernel
theorem dX8_isRow_1 : decode cX8_isRow 1 = .ok (.ifCond .lt 15, 3) := by decide +kernel
theorem dX8_isRow_4 : decode cX8_isRow 4 = .ok (.iload_n 1, 1) := by decide +kernel
theorem dX8_isRow_5 : decode cX8_isRow 5 = .ok (.aload_n 0, 1) := by decide +kernel
theorem dX8_isRow_6 : decode cX8_isRow 6 = .ok (.getfield 60, 3) := by decide +kernel
theorem dX8_isRow_9 : decode cX8_isRow 9 = .ok (.if_icmp .ge 7, 3) := by decide +kernel
theorem dX8_isRow_12 : decode cX8_isRow 12 = .ok (.iconst 1, 1) := by decide +kernel
theorem dX8_isRow_13 : decode cX8_isRow 13 = .ok (.goto 4, 3) := by decide +kernel
theorem dX8_isRow_16 : decode cX8_isRow 16 = .ok (.iconst 0, 1) := by decide +kernel
theorem dX8_isRow_17 : decode cX8_isRow 17 = .ok (.ireturn, 1) := by decide +kernel
set_option maxRecDepth 20000 in
theorem ggX8_state_X8_isRow : GoodIn wsX8_state wsX8_isRow := goodIn_r _ [7, 8, 9, 10, 11, 12, 13, 14, 15, 16, 17, 18, 19, 20, 21, 22, 23, 24, 25, 26, 27, 28, 29, 30] (by decide +kernel) (by decide +kernel)
set_option maxRecDepth 20000 in
theorem gX8_state_X8_isRow : GoodIn wsX8_state (wsV RX8 81 RX8 yX8_isRow wsX8_isRow) := goodIn_app (goodIn_of _ (by decide +kernel)) ggX8_state_X8_isRow
theorem dX8_state_0 : decode cX8_state 0 = .ok (.aload_n 0, 1) := by decide +kernel
theorem dX8_state_1 : decode cX8_state 1 = .ok (.aload_n 0, 1) := by decide +kernel
theorem dX8_state_2 : decode cX8_state 2 = .ok (.iload_n 1, 1) := by decide +kernel
theorem dX8_state_3 : decode cX8_state 3 = .ok (.invokevirtual 81, 3) := by decide +kernel
theorem dX8_state_6 : decode cX8_state 6 = .ok (.ifCond .eq 7, 3) := by decide +kernel
theorem dX8_state_9 : decode cX8_state 9 = .ok (.iconst 0, 1) := by decide +kernel
theorem dX8_state_10 : decode cX8_state 10 = .ok (.goto 4, 3) := by decide +kernel
theorem dX8_state_13 : decode cX8_state 13 = .ok (.iconst 1, 1) := by decide +kernel
theorem dX8_state_14 : decode cX8_state 14 = .ok (.putfield 44, 3) := by decide +kernel
theorem dX8_state_17 : decode cX8_state 17 = .ok (.aload_n 0, 1) := by decide +kernel
theorem dX8_state_18 : decode cX8_state 18 = .ok (.getfield 44, 3) := by decide +kernel
theorem dX8_state_21 : decode cX8_state 21 = .ok (.ifCond .le 7, 3) := by decide +kernel
theorem dX8_state_24 : decode cX8_state 24 = .ok (.iconst 0, 1) := by decide +kernel
theorem dX8_state_25 : decode cX8_state 25 = .ok (.goto 9, 3) := by decide +kernel
theorem dX8_state_28 : decode cX8_state 28 = .ok (.aload_n 0, 1) := by decide +kernel
theorem dX8_state_29 : decode cX8_state 29 = .ok (.getfield 23, 3) := by decide +kernel
theorem dX8_state_32 : decode cX8_state 32 = .ok (.iload_n 1, 1) := by decide +kernel
theorem dX8_state_33 : decode cX8_state 33 = .ok (.iaload, 1) := by decide +kernel
theorem dX8_state_34 : decode cX8_state 34 = .ok (.ireturn, 1) := by decide +kernel
theorem dX8_paint_0 : decode cX8_paint 0 = .ok (.iload_n 2, 1) := by decide +kernel
theorem dX8_paint_1 : decode cX8_paint 1 = .ok (.istore 5, 2) := by decide +kernel
theorem dX8_paint_3 : decode cX8_paint 3 = .ok (.iload 5, 2) := by decide +kernel
theorem dX8_paint_5 : decode cX8_paint 5 = .ok (.iload_n 3, 1) := by decide +kernel
theorem dX8_paint_6 : decode cX8_paint 6 = .ok (.if_icmp .ge 24, 3) := by decide +kernel
theorem dX8_paint_9 : decode cX8_paint 9 = .ok (.aload_n 0, 1) := by decide +kernel
theorem dX8_paint_10 : decode cX8_paint 10 = .ok (.getfield 20, 3) := by decide +kernel
theorem dX8_paint_13 : decode cX8_paint 13 = .ok (.sipush 700, 3) := by decide +kernel
theorem dX8_paint_16 : decode cX8_paint 16 = .ok (.iload_n 1, 1) := by decide +kernel
theorem dX8_paint_17 : decode cX8_paint 17 = .ok (.imul, 1) := by decide +kernel
theorem dX8_paint_18 : decode cX8_paint 18 = .ok (.iload 5, 2) := by decide +kernel
theorem dX8_paint_20 : decode cX8_paint 20 = .ok (.iadd, 1) := by decide +kernel
theorem dX8_paint_21 : decode cX8_paint 21 = .ok (.iload 4, 2) := by decide +kernel
theorem dX8_paint_23 : decode cX8_paint 23 = .ok (.bastore, 1) := by decide +kernel
theorem dX8_paint_24 : decode cX8_paint 24 = .ok (.iinc 5 1, 3) := by decide +kernel
theorem dX8_paint_27 : decode cX8_paint 27 = .ok (.goto (-24), 3) := by decide +kernel
theorem dX8_paint_30 : decode cX8_paint 30 = .ok (.return_, 1) := by decide +kernel
set_option maxRecDepth 20000 in
theorem ggX8_row_X8_paint : GoodIn wsX8_row wsX8_paint := goodIn_ca (goodIn_r _ [8, 9, 10, 11, 12, 13, 14, 15, 16, 17, 18, 19, 20, 21, 22, 23, 24, 25, 26, 27, 28, 29, 30, 31] (by decide +kernel) (by decide +kernel)) (goodIn_sub (fun _ h => List.mem_cons_of_mem _ (List.mem_append_right _ h)) (by decide +kernel))
set_option maxRecDepth 20000 in
theorem gX8_row_X8_paint : GoodIn wsX8_row (wsV RX8 84 RX8 yX8_paint wsX8_paint) := goodIn_app (goodIn_of _ (by decide +kernel)) ggX8_row_X8_paint
theorem dX8_row_0 : decode cX8_row 0 = .ok (.aload_n 0, 1) := by decide +kernel
theorem dX8_row_1 : decode cX8_row 1 = .ok (.aload_n 0, 1) := by decide +kernel
theorem dX8_row_2 : decode cX8_row 2 = .ok (.getfield 60, 3) := by decide +kernel
theorem dX8_row_5 : decode cX8_row 5 = .ok (.bipush 24, 2) := by decide +kernel
theorem dX8_row_7 : decode cX8_row 7 = .ok (.if_icmp .ne 7, 3) := by decide +kernel
theorem dX8_row_10 : decode cX8_row 10 = .ok (.iconst 1, 1) := by decide +kernel
theorem dX8_row_11 : decode cX8_row 11 = .ok (.goto 4, 3) := by decide +kernel
theorem dX8_row_14 : decode cX8_row 14 = .ok (.iconst 0, 1) := by decide +kernel
theorem dX8_row_15 : decode cX8_row 15 = .ok (.putfield 44, 3) := by decide +kernel
theorem dX8_row_18 : decode cX8_row 18 = .ok (.aload_n 0, 1) := by decide +kernel
theorem dX8_row_19 : decode cX8_row 19 = .ok (.getfield 44, 3) := by decide +kernel
theorem dX8_row_22 : decode cX8_row 22 = .ok (.ifCond .le 5, 3) := by decide +kernel
theorem dX8_row_25 : decode cX8_row 25 = .ok (.iconst 0, 1) := by decide +kernel
theorem dX8_row_26 : decode cX8_row 26 = .ok (.ireturn, 1) := by decide +kernel
theorem dX8_row_27 : decode cX8_row 27 = .ok (.aload_n 0, 1) := by decide +kernel
theorem dX8_row_28 : decode cX8_row 28 = .ok (.aload_n 0, 1) := by decide +kernel
theorem dX8_row_29 : decode cX8_row 29 = .ok (.getfield 60, 3) := by decide +kernel
theorem dX8_row_32 : decode cX8_row 32 = .ok (.iconst 0, 1) := by decide +kernel
theorem dX8_row_33 : decode cX8_row 33 = .ok (.sipush 700, 3) := by decide +kernel
theorem dX8_row_36 : decode cX8_row 36 = .ok (.iconst 0, 1) := by decide +kernel
theorem dX8_row_37 : decode cX8_row 37 = .ok (.invokevirtual 84, 3) := by decide +kernel
theorem dX8_row_40 : decode cX8_row 40 = .ok (.aload_n 0, 1) := by decide +kernel
theorem dX8_row_41 : decode cX8_row 41 = .ok (.getfield 23, 3) := by decide +kernel
theorem dX8_row_44 : decode cX8_row 44 = .ok (.aload_n 0, 1) := by decide +kernel
theorem dX8_row_45 : decode cX8_row 45 = .ok (.getfield 60, 3) := by decide +kernel
theorem dX8_row_48 : decode cX8_row 48 = .ok (.iconst 0, 1) := by decide +kernel
theorem dX8_row_49 : decode cX8_row 49 = .ok (.iastore, 1) := by decide +kernel
theorem dX8_row_50 : decode cX8_row 50 = .ok (.aload_n 0, 1) := by decide +kernel
theorem dX8_row_51 : decode cX8_row 51 = .ok (.dup, 1) := by decide +kernel
theorem dX8_row_52 : decode cX8_row 52 = .ok (.getfield 60, 3) := by decide +kernel
theorem dX8_row_55 : decode cX8_row 55 = .ok (.iconst 1, 1) := by decide +kernel
theorem dX8_row_56 : decode cX8_row 56 = .ok (.iadd, 1) := by decide +kernel
