theorem dX5_init_0 : decode cX5_init 0 = .ok (.aload_n 0, 1) := by decide +kernel
theorem dX5_init_1 : decode cX5_init 1 = .ok (.invokespecial 3, 3) := by decide +kernel
theorem dX5_init_4 : decode cX5_init 4 = .ok (.aload_n 0, 1) := by decide +kernel
theorem dX5_init_5 : decode cX5_init 5 = .ok (.iload_n 1, 1) := by decide +kernel
theorem dX5_init_6 : decode cX5_init 6 = .ok (.putfield 9, 3) := by decide +kernel
theorem dX5_init_9 : decode cX5_init 9 = .ok (.return_, 1) := by decide +kernel
theorem dX5_hasMarks_0 : decode cX5_hasMarks 0 = .ok (.aload_n 0, 1) := by decide +kernel
theorem dX5_hasMarks_1 : decode cX5_hasMarks 1 = .ok (.getfield 9, 3) := by decide +kernel
theorem dX5_hasMarks_4 : decode cX5_hasMarks 4 = .ok (.iconst 1, 1) := by decide +kernel
theorem dX5_hasMarks_5 : decode cX5_hasMarks 5 = .ok (.if_icmp .eq 17, 3) := by decide +kernel
theorem dX5_hasMarks_8 : decode cX5_hasMarks 8 = .ok (.aload_n 0, 1) := by decide +kernel
theorem dX5_hasMarks_9 : decode cX5_hasMarks 9 = .ok (.getfield 9, 3) := by decide +kernel
theorem dX5_hasMarks_12 : decode cX5_hasMarks 12 = .ok (.ifCond .ne 14, 3) := by decide +kernel
theorem dX5_hasMarks_15 : decode cX5_hasMarks 15 = .ok (.aload_n 0, 1) := by decide +kernel
theorem dX5_hasMarks_16 : decode cX5_hasMarks 16 = .ok (.getfield 15, 3) := by decide +kernel
theorem dX5_hasMarks_19 : decode cX5_hasMarks 19 = .ok (.ifCond .eq 7, 3) := by decide +kernel
theorem dX5_hasMarks_22 : decode cX5_hasMarks 22 = .ok (.iconst 1, 1) := by decide +kernel
theorem dX5_hasMarks_23 : decode cX5_hasMarks 23 = .ok (.goto 4, 3) := by decide +kernel
theorem dX5_hasMarks_26 : decode cX5_hasMarks 26 = .ok (.iconst 0, 1) := by decide +kernel
theorem dX5_hasMarks_27 : decode cX5_hasMarks 27 = .ok (.ireturn, 1) := by decide +kernel
theorem dX6_init_0 : decode cX6_init 0 = .ok (.aload_n 0, 1) := by decide +kernel
theorem dX6_init_1 : decode cX6_init 1 = .ok (.invokespecial 3, 3) := by decide +kernel
theorem dX6_init_4 : decode cX6_init 4 = .ok (.aload_n 0, 1) := by decide +kernel
theorem dX6_init_5 : decode cX6_init 5 = .ok (.bipush 74, 2) := by decide +kernel
theorem dX6_init_7 : decode cX6_init 7 = .ok (.newarray .int, 2) := by decide +kernel
theorem dX6_init_9 : decode cX6_init 9 = .ok (.putfield 11, 3) := by decide +kernel
theorem dX6_init_12 : decode cX6_init 12 = .ok (.aload_n 0, 1) := by decide +kernel
theorem dX6_init_13 : decode cX6_init 13 = .ok (.bipush 74, 2) := by decide +kernel
theorem dX6_init_15 : decode cX6_init 15 = .ok (.newarray .int, 2) := by decide +kernel
theorem dX6_init_17 : decode cX6_init 17 = .ok (.putfield 15, 3) := by decide +kernel
theorem dX6_init_20 : decode cX6_init 20 = .ok (.aload_n 0, 1) := by decide +kernel
theorem dX6_init_21 : decode cX6_init 21 = .ok (.bipush 74, 2) := by decide +kernel
theorem dX6_init_23 : decode cX6_init 23 = .ok (.newarray .int, 2) := by decide +kernel
theorem dX6_init_25 : decode cX6_init 25 = .ok (.putfield 18, 3) := by decide +kernel
theorem dX6_init_28 : decode cX6_init 28 = .ok (.aload_n 0, 1) := by decide +kernel
theorem dX6_init_29 : decode cX6_init 29 = .ok (.bipush 74, 2) := by decide +kernel
theorem dX6_init_31 : decode cX6_init 31 = .ok (.newarray .int, 2) := by decide +kernel
theorem dX6_init_33 : decode cX6_init 33 = .ok (.putfield 21, 3) := by decide +kernel
theorem dX6_init_36 : decode cX6_init 36 = .ok (.sipush 4096, 3) := by decide +kernel
theorem dX6_init_39 : decode cX6_init 39 = .ok (.istore_n 2, 1) := by decide +kernel
theorem dX6_init_40 : decode cX6_init 40 = .ok (.iconst 0, 1) := by decide +kernel
theorem dX6_init_41 : decode cX6_init 41 = .ok (.istore_n 3, 1) := by decide +kernel
theorem dX6_init_42 : decode cX6_init 42 = .ok (.iconst 1, 1) := by decide +kernel
theorem dX6_init_43 : decode cX6_init 43 = .ok (.istore 4, 2) := by decide +kernel
theorem dX6_init_45 : decode cX6_init 45 = .ok (.iload 4, 2) := by decide +kernel
theorem dX6_init_47 : decode cX6_init 47 = .ok (.bipush 12, 2) := by decide +kernel
theorem dX6_init_49 : decode cX6_init 49 = .ok (.if_icmp .gt 99, 3) := by decide +kernel
theorem dX6_init_52 : decode cX6_init 52 = .ok (.bipush 12, 2) := by decide +kernel
theorem dX6_init_54 : decode cX6_init 54 = .ok (.iload 4, 2) := by decide +kernel
theorem dX6_init_56 : decode cX6_init 56 = .ok (.isub, 1) := by decide +kernel
theorem dX6_init_57 : decode cX6_init 57 = .ok (.istore 5, 2) := by decide +kernel
theorem dX6_init_59 : decode cX6_init 59 = .ok (.iconst 0, 1) := by decide +kernel
theorem dX6_init_60 : decode cX6_init 60 = .ok (.istore 6, 2) := by decide +kernel
theorem dX6_init_62 : decode cX6_init 62 = .ok (.iload 6, 2) := by decide +kernel
theorem dX6_init_64 : decode cX6_init 64 = .ok (.bipush 74, 2) := by decide +kernel
theorem dX6_init_66 : decode cX6_init 66 = .ok (.if_icmp .ge 76, 3) := by decide +kernel
theorem dX6_init_69 : decode cX6_init 69 = .ok (.iload 6, 2) := by decide +kernel
theorem dX6_init_71 : decode cX6_init 71 = .ok (.aload_n 1, 1) := by decide +kernel
theorem dX6_init_72 : decode cX6_init 72 = .ok (.arraylength, 1) := by decide +kernel
theorem dX6_init_73 : decode cX6_init 73 = .ok (.if_icmp .ge 69, 3) := by decide +kernel
theorem dX6_init_76 : decode cX6_init 76 = .ok (.aload_n 1, 1) := by decide +kernel
theorem dX6_init_77 : decode cX6_init 77 = .ok (.iload 6, 2) := by decide +kernel
theorem dX6_init_79 : decode cX6_init 79 = .ok (.baload, 1) := by decide +kernel
theorem dX6_init_80 : decode cX6_init 80 = .ok (.iload 4, 2) := by decide +kernel
theorem dX6_init_82 : decode cX6_init 82 = .ok (.if_icmp .ne 54, 3) := by decide +kernel
theorem dX6_init_85 : decode cX6_init 85 = .ok (.iload_n 3, 1) := by decide +kernel
theorem dX6_init_86 : decode cX6_init 86 = .ok (.bipush 74, 2) := by decide +kernel
theorem dX6_init_88 : decode cX6_init 88 = .ok (.if_icmp .ge 48, 3) := by decide +kernel
theorem dX6_init_91 : decode cX6_init 91 = .ok (.iload_n 2, 1) := by decide +kernel
theorem dX6_init_92 : decode cX6_init 92 = .ok (.iconst 1, 1) := by decide +kernel
theorem dX6_init_93 : decode cX6_init 93 = .ok (.iload 5, 2) := by decide +kernel
theorem dX6_init_95 : decode cX6_init 95 = .ok (.ishl, 1) := by decide +kernel
theorem dX6_init_96 : decode cX6_init 96 = .ok (.isub, 1) := by decide +kernel
theorem dX6_init_97 : decode cX6_init 97 = .ok (.istore_n 2, 1) := by decide +kernel
theorem dX6_init_98 : decode cX6_init 98 = .ok (.aload_n 0, 1) := by decide +kernel
theorem dX6_init_99 : decode cX6_init 99 = .ok (.getfield 11, 3) := by decide +kernel
theorem dX6_init_102 : decode cX6_init 102 = .ok (.iload 6, 2) := by decide +kernel
theorem dX6_init_104 : decode cX6_init 104 = .ok (.iload 4, 2) := by decide +kernel
theorem dX6_init_106 : decode cX6_init 106 = .ok (.iastore, 1) := by decide +kernel
theorem dX6_init_107 : decode cX6_init 107 = .ok (.aload_n 0, 1) := by decide +kernel
theorem dX6_init_108 : decode cX6_init 108 = .ok (.getfield 15, 3) := by decide +kernel
theorem dX6_init_111 : decode cX6_init 111 = .ok (.iload 6, 2) := by decide +kernel
theorem dX6_init_113 : decode cX6_init 113 = .ok (.iload_n 2, 1) := by decide +kernel
theorem dX6_init_114 : decode cX6_init 114 = .ok (.iload 5, 2) := by decide +kernel
theorem dX6_init_116 : decode cX6_init 116 = .ok (.ishr, 1) := by decide +kernel
theorem dX6_init_117 : decode cX6_init 117 = .ok (.iastore, 1) := by decide +kernel
theorem dX6_init_118 : decode cX6_init 118 = .ok (.aload_n 0, 1) := by decide +kernel
theorem dX6_init_119 : decode cX6_init 119 = .ok (.getfield 18, 3) := by decide +kernel
theorem dX6_init_122 : decode cX6_init 122 = .ok (.iload_n 3, 1) := by decide +kernel
theorem dX6_init_123 : decode cX6_init 123 = .ok (.iload 6, 2) := by decide +kernel
theorem dX6_init_125 : decode cX6_init 125 = .ok (.iastore, 1) := by decide +kernel
theorem dX6_init_126 : decode cX6_init 126 = .ok (.aload_n 0, 1) := by decide +kernel
theorem dX6_init_127 : decode cX6_init 127 = .ok (.getfield 21, 3) := by decide +kernel
theorem dX6_init_130 : decode cX6_init 130 = .ok (.iload_n 3, 1) := by decide +kernel
theorem dX6_init_131 : decode cX6_init 131 = .ok (.iload_n 2, 1) := by decide +kernel
theorem dX6_init_132 : decode cX6_init 132 = .ok (.iastore, 1) := by decide +kernel
theorem dX6_init_133 : decode cX6_init 133 = .ok (.iinc 3 1, 3) := by decide +kernel
theorem dX6_init_136 : decode cX6_init 136 = .ok (.iinc 6 1, 3) := by decide +kernel
theorem dX6_init_139 : decode cX6_init 139 = .ok (.goto (-77), 3) := by decide +kernel
theorem dX6_init_142 : decode cX6_init 142 = .ok (.iinc 4 1, 3) := by decide +kernel
theorem dX6_init_145 : decode cX6_init 145 = .ok (.goto (-100), 3) := by decide +kernel
theorem dX6_init_148 : decode cX6_init 148 = .ok (.return_, 1) := by decide +kernel
set_option maxRecDepth 20000 in
theorem ggX6_slotOf_X6_slotOfMake : GoodIn wsX6_slotOf wsX6_slotOfMake := goodIn_r _ [4] (by decide +kernel) (by decide +kernel)
set_option maxRecDepth 20000 in
theorem gX6_slotOf_X6_slotOfMake : GoodIn wsX6_slotOf (va_wsS RX6 24 yX6_slotOfMake wsX6_slotOfMake) := goodIn_app (goodIn_of _ (by decide +kernel)) ggX6_slotOf_X6_slotOfMake
theorem dX6_slotOf_0 : decode cX6_slotOf 0 = .ok (.iload_n 0, 1) := by decide +kernel
theorem dX6_slotOf_1 : decode cX6_slotOf 1 = .ok (.ifCond .lt 10, 3) := by decide +kernel
theorem dX6_slotOf_4 : decode cX6_slotOf 4 = .ok (.iload_n 0, 1) := by decide +kernel
theorem dX6_slotOf_5 : decode cX6_slotOf 5 = .ok (.sipush 640, 3) := by decide +kernel
theorem dX6_slotOf_8 : decode cX6_slotOf 8 = .ok (.if_icmp .le 6, 3) := by decide +kernel
theorem dX6_slotOf_11 : decode cX6_slotOf 11 = .ok (.bipush (-2), 2) := by decide +kernel
theorem dX6_slotOf_13 : decode cX6_slotOf 13 = .ok (.ireturn, 1) := by decide +kernel
theorem dX6_slotOf_14 : decode cX6_slotOf 14 = .ok (.iload_n 0, 1) := by decide +kernel
theorem dX6_slotOf_15 : decode cX6_slotOf 15 = .ok (.bipush 64, 2) := by decide +kernel
theorem dX6_slotOf_17 : decode cX6_slotOf 17 = .ok (.if_icmp .ge 5, 3) := by decide +kernel
theorem dX6_slotOf_20 : decode cX6_slotOf 20 = .ok (.iload_n 0, 1) := by decide +kernel
theorem dX6_slotOf_21 : decode cX6_slotOf 21 = .ok (.ireturn, 1) := by decide +kernel
theorem dX6_slotOf_22 : decode cX6_slotOf 22 = .ok (.iload_n 0, 1) := by decide +kernel
theorem dX6_slotOf_23 : decode cX6_slotOf 23 = .ok (.bipush 64, 2) := by decide +kernel
theorem dX6_slotOf_25 : decode cX6_slotOf 25 = .ok (.irem, 1) := by decide +kernel
theorem dX6_slotOf_26 : decode cX6_slotOf 26 = .ok (.ifCond .ne 10, 3) := by decide +kernel
theorem dX6_slotOf_29 : decode cX6_slotOf 29 = .ok (.iload_n 0, 1) := by decide +kernel
theorem dX6_slotOf_30 : decode cX6_slotOf 30 = .ok (.invokestatic 24, 3) := by decide +kernel
theorem dX6_slotOf_33 : decode cX6_slotOf 33 = .ok (.goto 5, 3) := by decide +kernel
theorem dX6_slotOf_36 : decode cX6_slotOf 36 = .ok (.bipush (-2), 2) := by decide +kernel
theorem dX6_slotOf_38 : decode cX6_slotOf 38 = .ok (.ireturn, 1) := by decide +kernel
theorem dX6_slotOfMake_0 : decode cX6_slotOfMake 0 = .ok (.bipush 63, 2) := by decide +kernel
theorem dX6_slotOfMake_2 : decode cX6_slotOfMake 2 = .ok (.iload_n 0, 1) := by decide +kernel
theorem dX6_slotOfMake_3 : decode cX6_slotOfMake 3 = .ok (.bipush 64, 2) := by decide +kernel
theorem dX6_slotOfMake_5 : decode cX6_slotOfMake 5 = .ok (.idiv, 1) := by decide +kernel
theorem dX6_slotOfMake_6 : decode cX6_slotOfMake 6 = .ok (.iadd, 1) := by decide +kernel
theorem dX6_slotOfMake_7 : decode cX6_slotOfMake 7 = .ok (.ireturn, 1) := by decide +kernel
theorem dX6_runOf_0 : decode cX6_runOf 0 = .ok (.iload_n 0, 1) := by decide +kernel
theorem dX6_runOf_1 : decode cX6_runOf 1 = .ok (.bipush 64, 2) := by decide +kernel
theorem dX6_runOf_3 : decode cX6_runOf 3 = .ok (.if_icmp .ge 7, 3) := by decide +kernel
theorem dX6_runOf_6 : decode cX6_runOf 6 = .ok (.iload_n 0, 1) := by decide +kernel
theorem dX6_runOf_7 : decode cX6_runOf 7 = .ok (.goto 12, 3) := by decide +kernel
theorem dX6_runOf_10 : decode cX6_runOf 10 = .ok (.iload_n 0, 1) := by decide +kernel
theorem dX6_runOf_11 : decode cX6_runOf 11 = .ok (.bipush 64, 2) := by decide +kernel
theorem dX6_runOf_13 : decode cX6_runOf 13 = .ok (.isub, 1) := by decide +kernel
theorem dX6_runOf_14 : decode cX6_runOf 14 = .ok (.iconst 1, 1) := by decide +kernel
theorem dX6_runOf_15 : decode cX6_runOf 15 = .ok (.iadd, 1) := by decide +kernel
theorem dX6_runOf_16 : decode cX6_runOf 16 = .ok (.bipush 64, 2) := by decide +kernel
theorem dX6_runOf_18 : decode cX6_runOf 18 = .ok (.imul, 1) := by decide +kernel
theorem dX6_runOf_19 : decode cX6_runOf 19 = .ok (.ireturn, 1) := by decide +kernel
theorem dX6_bitsOf_0 : decode cX6_bitsOf 0 = .ok (.iload_n 1, 1) := by decide +kernel
theorem dX6_bitsOf_1 : decode cX6_bitsOf 1 = .ok (.ifCond .lt 18, 3) := by decide +kernel
theorem dX6_bitsOf_4 : decode cX6_bitsOf 4 = .ok (.iload_n 1, 1) := by decide +kernel
theorem dX6_bitsOf_5 : decode cX6_bitsOf 5 = .ok (.bipush 74, 2) := by decide +kernel
theorem dX6_bitsOf_7 : decode cX6_bitsOf 7 = .ok (.if_icmp .ge 12, 3) := by decide +kernel
theorem dX6_bitsOf_10 : decode cX6_bitsOf 10 = .ok (.aload_n 0, 1) := by decide +kernel
theorem dX6_bitsOf_11 : decode cX6_bitsOf 11 = .ok (.getfield 11, 3) := by decide +kernel
theorem dX6_bitsOf_14 : decode cX6_bitsOf 14 = .ok (.iload_n 1, 1) := by decide +kernel
theorem dX6_bitsOf_15 : decode cX6_bitsOf 15 = .ok (.iaload, 1) := by decide +kernel
theorem dX6_bitsOf_16 : decode cX6_bitsOf 16 = .ok (.goto 4, 3) := by decide +kernel
theorem dX6_bitsOf_19 : decode cX6_bitsOf 19 = .ok (.iconst 0, 1) := by decide +kernel
theorem dX6_bitsOf_20 : decode cX6_bitsOf 20 = .ok (.ireturn, 1) := by decide +kernel
theorem dX6_codeOf_0 : decode cX6_codeOf 0 = .ok (.iload_n 1, 1) := by decide +kernel
theorem dX6_codeOf_1 : decode cX6_codeOf 1 = .ok (.ifCond .lt 18, 3) := by decide +kernel
theorem dX6_codeOf_4 : decode cX6_codeOf 4 = .ok (.iload_n 1, 1) := by decide +kernel
theorem dX6_codeOf_5 : decode cX6_codeOf 5 = .ok (.bipush 74, 2) := by decide +kernel
theorem dX6_codeOf_7 : decode cX6_codeOf 7 = .ok (.if_icmp .ge 12, 3) := by decide +kernel
theorem dX6_codeOf_10 : decode cX6_codeOf 10 = .ok (.aload_n 0, 1) := by decide +kernel
theorem dX6_codeOf_11 : decode cX6_codeOf 11 = .ok (.getfield 15, 3) := by decide +kernel
theorem dX6_codeOf_14 : decode cX6_codeOf 14 = .ok (.iload_n 1, 1) := by decide +kernel
theorem dX6_codeOf_15 : decode cX6_codeOf 15 = .ok (.iaload, 1) := by decide +kernel
theorem dX6_codeOf_16 : decode cX6_codeOf 16 = .ok (.goto 4, 3) := by decide +kernel
theorem dX6_codeOf_19 : decode cX6_codeOf 19 = .ok (.iconst 0, 1) := by decide +kernel
theorem dX6_codeOf_20 : decode cX6_codeOf 20 = .ok (.ireturn, 1) := by decide +kernel
theorem dX6_slotBeginning_0 : decode cX6_slotBeginning 0 = .ok (.iconst 0, 1) := by decide +kernel
theorem dX6_slotBeginning_1 : decode cX6_slotBeginning 1 = .ok (.istore_n 2, 1) := by decide +kernel
theorem dX6_slotBeginning_2 : decode cX6_slotBeginning 2 = .ok (.iload_n 2, 1) := by decide +kernel
theorem dX6_slotBeginning_3 : decode cX6_slotBeginning 3 = .ok (.bipush 74, 2) := by decide +kernel
theorem dX6_slotBeginning_5 : decode cX6_slotBeginning 5 = .ok (.if_icmp .ge 26, 3) := by decide +kernel
theorem dX6_slotBeginning_8 : decode cX6_slotBeginning 8 = .ok (.aload_n 0, 1) := by decide +kernel
theorem dX6_slotBeginning_9 : decode cX6_slotBeginning 9 = .ok (.getfield 21, 3) := by decide +kernel
theorem dX6_slotBeginning_12 : decode cX6_slotBeginning 12 = .ok (.iload_n 2, 1) := by decide +kernel
theorem dX6_slotBeginning_13 : decode cX6_slotBeginning 13 = .ok (.iaload, 1) := by decide +kernel
theorem dX6_slotBeginning_14 : decode cX6_slotBeginning 14 = .ok (.iload_n 1, 1) := by decide +kernel
theorem dX6_slotBeginning_15 : decode cX6_slotBeginning 15 = .ok (.if_icmp .gt 10, 3) := by decide +kernel
theorem dX6_slotBeginning_18 : decode cX6_slotBeginning 18 = .ok (.aload_n 0, 1) := by decide +kernel
theorem dX6_slotBeginning_19 : decode cX6_slotBeginning 19 = .ok (.getfield 18, 3) := by decide +kernel
theorem dX6_slotBeginning_22 : decode cX6_slotBeginning 22 = .ok (.iload_n 2, 1) := by decide +kernel
theorem dX6_slotBeginning_23 : decode cX6_slotBeginning 23 = .ok (.iaload, 1) := by decide +kernel
theorem dX6_slotBeginning_24 : decode cX6_slotBeginning 24 = .ok (.ireturn, 1) := by decide +kernel
theorem dX6_slotBeginning_25 : decode cX6_slotBeginning 25 = .ok (.iinc 2 1, 3) := by decide +kernel
theorem dX6_slotBeginning_28 : decode cX6_slotBeginning 28 = .ok (.goto (-26), 3) := by decide +kernel
theorem dX6_slotBeginning_31 : decode cX6_slotBeginning 31 = .ok (.bipush (-2), 2) := by decide +kernel
theorem dX6_slotBeginning_33 : decode cX6_slotBeginning 33 = .ok (.ireturn, 1) := by decide +kernel
theorem dX0_init_0 : decode cX0_init 0 = .ok (.aload_n 0, 1) := by decide +kernel
theorem dX0_init_1 : decode cX0_init 1 = .ok (.invokespecial 3, 3) := by decide +kernel
theorem dX0_init_4 : decode cX0_init 4 = .ok (.aload_n 0, 1) := by decide +kernel
theorem dX0_init_5 : decode cX0_init 5 = .ok (.sipush 400, 3) := by decide +kernel
theorem dX0_init_8 : decode cX0_init 8 = .ok (.newarray .byte, 2) := by decide +kernel
theorem dX0_init_10 : decode cX0_init 10 = .ok (.putfield 9, 3) := by decide +kernel
theorem dX0_init_13 : decode cX0_init 13 = .ok (.return_, 1) := by decide +kernel
theorem dX0_empty_0 : decode cX0_empty 0 = .ok (.aload_n 0, 1) := by decide +kernel
theorem dX0_empty_1 : decode cX0_empty 1 = .ok (.iconst 0, 1) := by decide +kernel
theorem dX0_empty_2 : decode cX0_empty 2 = .ok (.putfield 15, 3) := by decide +kernel
theorem dX0_empty_5 : decode cX0_empty 5 = .ok (.return_, 1) := by decide +kernel
theorem dX0_append_0 : decode cX0_append 0 = .ok (.aload_n 0, 1) := by decide +kernel
theorem dX0_append_1 : decode cX0_append 1 = .ok (.getfield 15, 3) := by decide +kernel
theorem dX0_append_4 : decode cX0_append 4 = .ok (.ifCond .lt 36, 3) := by decide +kernel
theorem dX0_append_7 : decode cX0_append 7 = .ok (.aload_n 0, 1) := by decide +kernel
theorem dX0_append_8 : decode cX0_append 8 = .ok (.getfield 15, 3) := by decide +kernel
theorem dX0_append_11 : decode cX0_append 11 = .ok (.aload_n 0, 1) := by decide +kernel
theorem dX0_append_12 : decode cX0_append 12 = .ok (.getfield 9, 3) := by decide +kernel
theorem dX0_append_15 : decode cX0_append 15 = .ok (.arraylength, 1) := by decide +kernel
theorem dX0_append_16 : decode cX0_append 16 = .ok (.if_icmp .ge 24, 3) := by decide +kernel
theorem dX0_append_19 : decode cX0_append 19 = .ok (.aload_n 0, 1) := by decide +kernel
theorem dX0_append_20 : decode cX0_append 20 = .ok (.getfield 9, 3) := by decide +kernel
theorem dX0_append_23 : decode cX0_append 23 = .ok (.aload_n 0, 1) := by decide +kernel
theorem dX0_append_24 : decode cX0_append 24 = .ok (.getfield 15, 3) := by decide +kernel
theorem dX0_append_27 : decode cX0_append 27 = .ok (.iload_n 1, 1) := by decide +kernel
theorem dX0_append_28 : decode cX0_append 28 = .ok (.i2b, 1) := by decide +kernel
theorem dX0_append_29 : decode cX0_append 29 = .ok (.bastore, 1) := by decide +kernel
theorem dX0_append_30 : decode cX0_append 30 = .ok (.aload_n 0, 1) := by decide +kernel
theorem dX0_append_31 : decode cX0_append 31 = .ok (.dup, 1) := by decide +kernel
theorem dX0_append_32 : decode cX0_append 32 = .ok (.getfield 15, 3) := by decide +kernel
theorem dX0_append_35 : decode cX0_append 35 = .ok (.iconst 1, 1) := by decide +kernel
theorem dX0_append_36 : decode cX0_append 36 = .ok (.iadd, 1) := by decide +kernel
theorem dX0_append_37 : decode cX0_append 37 = .ok (.putfield 15, 3) := by decide +kernel
theorem dX0_append_40 : decode cX0_append 40 = .ok (.return_, 1) := by decide +kernel
theorem dX0_restart_0 : decode cX0_restart 0 = .ok (.aload_n 0, 1) := by decide +kernel
theorem dX0_restart_1 : decode cX0_restart 1 = .ok (.iconst 0, 1) := by decide +kernel
theorem dX0_restart_2 : decode cX0_restart 2 = .ok (.putfield 19, 3) := by decide +kernel
theorem dX0_restart_5 : decode cX0_restart 5 = .ok (.return_, 1) := by decide +kernel
theorem dX0_left_0 : decode cX0_left 0 = .ok (.bipush 8, 2) := by decide +kernel
theorem dX0_left_2 : decode cX0_left 2 = .ok (.aload_n 0, 1) := by decide +kernel
theorem dX0_left_3 : decode cX0_left 3 = .ok (.getfield 15, 3) := by decide +kernel
theorem dX0_left_6 : decode cX0_left 6 = .ok (.imul, 1) := by decide +kernel
theorem dX0_left_7 : decode cX0_left 7 = .ok (.aload_n 0, 1) := by decide +kernel
theorem dX0_left_8 : decode cX0_left 8 = .ok (.getfield 19, 3) := by decide +kernel
theorem dX0_left_11 : decode cX0_left 11 = .ok (.isub, 1) := by decide +kernel
theorem dX0_left_12 : decode cX0_left 12 = .ok (.ireturn, 1) := by decide +kernel
set_option maxRecDepth 20000 in
theorem ggX0_pass_X0_left : GoodIn wsX0_pass wsX0_left := goodIn_r _ [10, 11, 1, 12, 13, 14] (by decide +kernel) (by decide +kernel)
set_option maxRecDepth 20000 in
theorem gX0_pass_X0_left : GoodIn wsX0_pass (wsV RX0 22 RX0 yX0_left wsX0_left) := goodIn_app (goodIn_of _ (by decide +kernel)) ggX0_pass_X0_left
theorem dX0_pass_0 : decode cX0_pass 0 = .ok (.aload_n 0, 1) := by decide +kernel
theorem dX0_pass_1 : decode cX0_pass 1 = .ok (.dup, 1) := by decide +kernel
theorem dX0_pass_2 : decode cX0_pass 2 = .ok (.getfield 19, 3) := by decide +kernel
theorem dX0_pass_5 : decode cX0_pass 5 = .ok (.iload_n 1, 1) := by decide +kernel
theorem dX0_pass_6 : decode cX0_pass 6 = .ok (.aload_n 0, 1) := by decide +kernel
theorem dX0_pass_7 : decode cX0_pass 7 = .ok (.invokevirtual 22, 3) := by decide +kernel
theorem dX0_pass_10 : decode cX0_pass 10 = .ok (.invokestatic 26, 3) := by decide +kernel
theorem dX0_pass_13 : decode cX0_pass 13 = .ok (.iadd, 1) := by decide +kernel
theorem dX0_pass_14 : decode cX0_pass 14 = .ok (.putfield 19, 3) := by decide +kernel
theorem dX0_pass_17 : decode cX0_pass 17 = .ok (.return_, 1) := by decide +kernel
set_option maxRecDepth 20000 in
theorem ggX0_passToByte_X0_pass : GoodIn wsX0_passToByte wsX0_pass := goodIn_r _ [6, 1, 7, 8, 9, 10, 11, 12, 13, 5, 14, 15, 16, 17, 18] (by decide +kernel) (by decide +kernel)
set_option maxRecDepth 20000 in
theorem gX0_passToByte_X0_pass : GoodIn wsX0_passToByte (wsV RX0 32 RX0 yX0_pass wsX0_pass) := goodIn_app (goodIn_of _ (by decide +kernel)) ggX0_passToByte_X0_pass
theorem dX0_passToByte_0 : decode cX0_passToByte 0 = .ok (.aload_n 0, 1) := by decide +kernel
theorem dX0_passToByte_1 : decode cX0_passToByte 1 = .ok (.aload_n 0, 1) := by decide +kernel
theorem dX0_passToByte_2 : decode cX0_passToByte 2 = .ok (.getfield 19, 3) := by decide +kernel
theorem dX0_passToByte_5 : decode cX0_passToByte 5 = .ok (.ineg, 1) := by decide +kernel
theorem dX0_passToByte_6 : decode cX0_passToByte 6 = .ok (.bipush 7, 2) := by decide +kernel
theorem dX0_passToByte_8 : decode cX0_passToByte 8 = .ok (.iand, 1) := by decide +kernel
theorem dX0_passToByte_9 : decode cX0_passToByte 9 = .ok (.invokevirtual 32, 3) := by decide +kernel
theorem dX0_passToByte_12 : decode cX0_passToByte 12 = .ok (.return_, 1) := by decide +kernel
set_option maxRecDepth 20000 in
theorem ggX0_peek_X0_byteAt : GoodIn wsX0_peek wsX0_byteAt := goodIn_ca (goodIn_r _ [6, 7, 8, 9, 10, 11] (by decide +kernel) (by decide +kernel)) (goodIn_sub (fun _ h => List.mem_cons_of_mem _ (List.mem_append_right _ h)) (by decide +kernel))
set_option maxRecDepth 20000 in
theorem gX0_peek_X0_byteAt : GoodIn wsX0_peek (wsV RX0 36 RX0 yX0_byteAt wsX0_byteAt) := goodIn_app (goodIn_of _ (by decide +kernel)) ggX0_peek_X0_byteAt
theorem dX0_peek_0 : decode cX0_peek 0 = .ok (.aload_n 0, 1) := by decide +kernel
theorem dX0_peek_1 : decode cX0_peek 1 = .ok (.getfield 19, 3) := by decide +kernel
theorem dX0_peek_4 : decode cX0_peek 4 = .ok (.bipush 8, 2) := by decide +kernel
theorem dX0_peek_6 : decode cX0_peek 6 = .ok (.idiv, 1) := by decide +kernel
theorem dX0_peek_7 : decode cX0_peek 7 = .ok (.istore_n 2, 1) := by decide +kernel
theorem dX0_peek_8 : decode cX0_peek 8 = .ok (.aload_n 0, 1) := by decide +kernel
theorem dX0_peek_9 : decode cX0_peek 9 = .ok (.iload_n 2, 1) := by decide +kernel
theorem dX0_peek_10 : decode cX0_peek 10 = .ok (.invokevirtual 36, 3) := by decide +kernel
theorem dX0_peek_13 : decode cX0_peek 13 = .ok (.bipush 16, 2) := by decide +kernel
theorem dX0_peek_15 : decode cX0_peek 15 = .ok (.ishl, 1) := by decide +kernel
theorem dX0_peek_16 : decode cX0_peek 16 = .ok (.aload_n 0, 1) := by decide +kernel
theorem dX0_peek_17 : decode cX0_peek 17 = .ok (.iload_n 2, 1) := by decide +kernel
theorem dX0_peek_18 : decode cX0_peek 18 = .ok (.iconst 1, 1) := by decide +kernel
theorem dX0_peek_19 : decode cX0_peek 19 = .ok (.iadd, 1) := by decide +kernel
theorem dX0_peek_20 : decode cX0_peek 20 = .ok (.invokevirtual 36, 3) := by decide +kernel
theorem dX0_peek_23 : decode cX0_peek 23 = .ok (.bipush 8, 2) := by decide +kernel
theorem dX0_peek_25 : decode cX0_peek 25 = .ok (.ishl, 1) := by decide +kernel
theorem dX0_peek_26 : decode cX0_peek 26 = .ok (.ior, 1) := by decide +kernel
theorem dX0_peek_27 : decode cX0_peek 27 = .ok (.aload_n 0, 1) := by decide +kernel
theorem dX0_peek_28 : decode cX0_peek 28 = .ok (.iload_n 2, 1) := by decide +kernel
theorem dX0_peek_29 : decode cX0_peek 29 = .ok (.iconst 2, 1) := by decide +kernel
theorem dX0_peek_30 : decode cX0_peek 30 = .ok (.iadd, 1) := by decide +kernel
theorem dX0_peek_31 : decode cX0_peek 31 = .ok (.invokevirtual 36, 3) := by decide +kernel
theorem dX0_peek_34 : decode cX0_peek 34 = .ok (.ior, 1) := by decide +kernel
theorem dX0_peek_35 : decode cX0_peek 35 = .ok (.istore_n 3, 1) := by decide +kernel
theorem dX0_peek_36 : decode cX0_peek 36 = .ok (.iload_n 3, 1) := by decide +kernel
theorem dX0_peek_37 : decode cX0_peek 37 = .ok (.bipush 24, 2) := by decide +kernel
theorem dX0_peek_39 : decode cX0_peek 39 = .ok (.aload_n 0, 1) := by decide +kernel
theorem dX0_peek_40 : decode cX0_peek 40 = .ok (.getfield 19, 3) := by decide +kernel
theorem dX0_peek_43 : decode cX0_peek 43 = .ok (.bipush 8, 2) := by decide +kernel
theorem dX0_peek_45 : decode cX0_peek 45 = .ok (.irem, 1) := by decide +kernel
theorem dX0_peek_46 : decode cX0_peek 46 = .ok (.isub, 1) := by decide +kernel
theorem dX0_peek_47 : decode cX0_peek 47 = .ok (.iload_n 1, 1) := by decide +kernel
theorem dX0_peek_48 : decode cX0_peek 48 = .ok (.isub, 1) := by decide +kernel
theorem dX0_peek_49 : decode cX0_peek 49 = .ok (.ishr, 1) := by decide +kernel
theorem dX0_peek_50 : decode cX0_peek 50 = .ok (.iconst 1, 1) := by decide +kernel
theorem dX0_peek_51 : decode cX0_peek 51 = .ok (.iload_n 1, 1) := by decide +kernel
theorem dX0_peek_52 : decode cX0_peek 52 = .ok (.ishl, 1) := by decide +kernel
theorem dX0_peek_53 : decode cX0_peek 53 = .ok (.iconst 1, 1) := by decide +kernel
theorem dX0_peek_54 : decode cX0_peek 54 = .ok (.isub, 1) := by decide +kernel
theorem dX0_peek_55 : decode cX0_peek 55 = .ok (.iand, 1) := by decide +kernel
theorem dX0_peek_56 : decode cX0_peek 56 = .ok (.ireturn, 1) := by decide +kernel
set_option maxRecDepth 20000 in
theorem ggX0_zeros_X0_left : GoodIn wsX0_zeros wsX0_left := goodIn_r _ [6, 7, 1, 13, 14, 15] (by decide +kernel) (by decide +kernel)
set_option maxRecDepth 20000 in
theorem gX0_zeros_X0_left : GoodIn wsX0_zeros (wsV RX0 22 RX0 yX0_left wsX0_left) := goodIn_app (goodIn_of _ (by decide +kernel)) ggX0_zeros_X0_left
set_option maxRecDepth 20000 in
theorem ggX0_zeros_X0_bitAt : GoodIn wsX0_zeros wsX0_bitAt := goodIn_ca (goodIn_r _ [11, 7, 12, 13, 14, 15] (by decide +kernel) (by decide +kernel)) (goodIn_sub (fun _ h => List.mem_cons_of_mem _ (List.mem_append_right _ h)) (by decide +kernel))
set_option maxRecDepth 20000 in
theorem gX0_zeros_X0_bitAt : GoodIn wsX0_zeros (wsV RX0 40 RX0 yX0_bitAt wsX0_bitAt) := goodIn_app (goodIn_of _ (by decide +kernel)) ggX0_zeros_X0_bitAt
theorem dX0_zeros_0 : decode cX0_zeros 0 = .ok (.aload_n 0, 1) := by decide +kernel
theorem dX0_zeros_1 : decode cX0_zeros 1 = .ok (.invokevirtual 22, 3) := by decide +kernel
theorem dX0_zeros_4 : decode cX0_zeros 4 = .ok (.istore_n 1, 1) := by decide +kernel
theorem dX0_zeros_5 : decode cX0_zeros 5 = .ok (.iconst 0, 1) := by decide +kernel
theorem dX0_zeros_6 : decode cX0_zeros 6 = .ok (.istore_n 2, 1) := by decide +kernel
theorem dX0_zeros_7 : decode cX0_zeros 7 = .ok (.iload_n 2, 1) := by decide +kernel
theorem dX0_zeros_8 : decode cX0_zeros 8 = .ok (.iload_n 1, 1) := by decide +kernel
theorem dX0_zeros_9 : decode cX0_zeros 9 = .ok (.if_icmp .ge 24, 3) := by decide +kernel
theorem dX0_zeros_12 : decode cX0_zeros 12 = .ok (.aload_n 0, 1) := by decide +kernel
theorem dX0_zeros_13 : decode cX0_zeros 13 = .ok (.aload_n 0, 1) := by decide +kernel
theorem dX0_zeros_14 : decode cX0_zeros 14 = .ok (.getfield 19, 3) := by decide +kernel
theorem dX0_zeros_17 : decode cX0_zeros 17 = .ok (.iload_n 2, 1) := by decide +kernel
theorem dX0_zeros_18 : decode cX0_zeros 18 = .ok (.iadd, 1) := by decide +kernel
theorem dX0_zeros_19 : decode cX0_zeros 19 = .ok (.invokevirtual 40, 3) := by decide +kernel
theorem dX0_zeros_22 : decode cX0_zeros 22 = .ok (.ifCond .eq 5, 3) := by decide +kernel
theorem dX0_zeros_25 : decode cX0_zeros 25 = .ok (.iload_n 2, 1) := by decide +kernel
theorem dX0_zeros_26 : decode cX0_zeros 26 = .ok (.ireturn, 1) := by decide +kernel
theorem dX0_zeros_27 : decode cX0_zeros 27 = .ok (.iinc 2 1, 3) := by decide +kernel
theorem dX0_zeros_30 : decode cX0_zeros 30 = .ok (.goto (-23), 3) := by decide +kernel
theorem dX0_zeros_33 : decode cX0_zeros 33 = .ok (.iload_n 1, 1) := by decide +kernel
theorem dX0_zeros_34 : decode cX0_zeros 34 = .ok (.ireturn, 1) := by decide +kernel
set_option maxRecDepth 20000 in
theorem ggX0_isMarkNext_X0_zeros : GoodIn wsX0_isMarkNext wsX0_zeros := goodIn_ca (goodIn_r _ [5, 6, 7, 8, 9, 4, 10, 11, 12, 13, 14, 15, 16, 17, 18, 19] (by decide +kernel) (by decide +kernel)) (goodIn_sub (fun _ h => List.mem_cons_of_mem _ (List.mem_append_right _ h)) (by decide +kernel))
set_option maxRecDepth 20000 in
theorem gX0_isMarkNext_X0_zeros : GoodIn wsX0_isMarkNext (wsV RX0 43 RX0 yX0_zeros wsX0_zeros) := goodIn_app (goodIn_of _ (by decide +kernel)) ggX0_isMarkNext_X0_zeros
set_option maxRecDepth 20000 in
theorem ggX0_isMarkNext_X0_left : GoodIn wsX0_isMarkNext wsX0_left := goodIn_r _ [10, 11, 6, 17, 18, 19] (by decide +kernel) (by decide +kernel)
set_option maxRecDepth 20000 in
theorem gX0_isMarkNext_X0_left : GoodIn wsX0_isMarkNext (wsV RX0 22 RX0 yX0_left wsX0_left) := goodIn_app (goodIn_of _ (by decide +kernel)) ggX0_isMarkNext_X0_left
theorem dX0_isMarkNext_0 : decode cX0_isMarkNext 0 = .ok (.aload_n 0, 1) := by decide +kernel
theorem dX0_isMarkNext_1 : decode cX0_isMarkNext 1 = .ok (.invokevirtual 43, 3) := by decide +kernel
theorem dX0_isMarkNext_4 : decode cX0_isMarkNext 4 = .ok (.istore_n 1, 1) := by decide +kernel
theorem dX0_isMarkNext_5 : decode cX0_isMarkNext 5 = .ok (.iload_n 1, 1) := by decide +kernel
theorem dX0_isMarkNext_6 : decode cX0_isMarkNext 6 = .ok (.bipush 11, 2) := by decide +kernel
theorem dX0_isMarkNext_8 : decode cX0_isMarkNext 8 = .ok (.if_icmp .lt 15, 3) := by decide +kernel
theorem dX0_isMarkNext_11 : decode cX0_isMarkNext 11 = .ok (.iload_n 1, 1) := by decide +kernel
theorem dX0_isMarkNext_12 : decode cX0_isMarkNext 12 = .ok (.aload_n 0, 1) := by decide +kernel
theorem dX0_isMarkNext_13 : decode cX0_isMarkNext 13 = .ok (.invokevirtual 22, 3) := by decide +kernel
theorem dX0_isMarkNext_16 : decode cX0_isMarkNext 16 = .ok (.if_icmp .ge 7, 3) := by decide +kernel
theorem dX0_isMarkNext_19 : decode cX0_isMarkNext 19 = .ok (.iconst 1, 1) := by decide +kernel
theorem dX0_isMarkNext_20 : decode cX0_isMarkNext 20 = .ok (.goto 4, 3) := by decide +kernel
theorem dX0_isMarkNext_23 : decode cX0_isMarkNext 23 = .ok (.iconst 0, 1) := by decide +kernel
theorem dX0_isMarkNext_24 : decode cX0_isMarkNext 24 = .ok (.ireturn, 1) := by decide +kernel
set_option maxRecDepth 20000 in
theorem ggX0_passMark_X0_bitAt : GoodIn wsX0_passMark wsX0_bitAt := goodIn_ca (goodIn_r _ [7, 1, 8, 9, 10, 11] (by decide +kernel) (by decide +kernel)) (goodIn_sub (fun _ h => List.mem_cons_of_mem _ (List.mem_append_right _ h)) (by decide +kernel))
set_option maxRecDepth 20000 in
theorem gX0_passMark_X0_bitAt : GoodIn wsX0_passMark (wsV RX0 40 RX0 yX0_bitAt wsX0_bitAt) := goodIn_app (goodIn_of _ (by decide +kernel)) ggX0_passMark_X0_bitAt
theorem dX0_passMark_0 : decode cX0_passMark 0 = .ok (.iconst 0, 1) := by decide +kernel
theorem dX0_passMark_1 : decode cX0_passMark 1 = .ok (.istore_n 1, 1) := by decide +kernel
theorem dX0_passMark_2 : decode cX0_passMark 2 = .ok (.bipush 8, 2) := by decide +kernel
theorem dX0_passMark_4 : decode cX0_passMark 4 = .ok (.aload_n 0, 1) := by decide +kernel
theorem dX0_passMark_5 : decode cX0_passMark 5 = .ok (.getfield 15, 3) := by decide +kernel
theorem dX0_passMark_8 : decode cX0_passMark 8 = .ok (.imul, 1) := by decide +kernel
theorem dX0_passMark_9 : decode cX0_passMark 9 = .ok (.istore_n 2, 1) := by decide +kernel
theorem dX0_passMark_10 : decode cX0_passMark 10 = .ok (.aload_n 0, 1) := by decide +kernel
theorem dX0_passMark_11 : decode cX0_passMark 11 = .ok (.getfield 19, 3) := by decide +kernel
theorem dX0_passMark_14 : decode cX0_passMark 14 = .ok (.istore_n 3, 1) := by decide +kernel
theorem dX0_passMark_15 : decode cX0_passMark 15 = .ok (.iload_n 3, 1) := by decide +kernel
theorem dX0_passMark_16 : decode cX0_passMark 16 = .ok (.iload_n 2, 1) := by decide +kernel
theorem dX0_passMark_17 : decode cX0_passMark 17 = .ok (.if_icmp .ge 57, 3) := by decide +kernel
theorem dX0_passMark_20 : decode cX0_passMark 20 = .ok (.aload_n 0, 1) := by decide +kernel
theorem dX0_passMark_21 : decode cX0_passMark 21 = .ok (.iload_n 3, 1) := by decide +kernel
theorem dX0_passMark_22 : decode cX0_passMark 22 = .ok (.invokevirtual 40, 3) := by decide +kernel
theorem dX0_passMark_25 : decode cX0_passMark 25 = .ok (.ifCond .eq 7, 3) := by decide +kernel
theorem dX0_passMark_28 : decode cX0_passMark 28 = .ok (.iconst 1, 1) := by decide +kernel
theorem dX0_passMark_29 : decode cX0_passMark 29 = .ok (.goto 4, 3) := by decide +kernel
theorem dX0_passMark_32 : decode cX0_passMark 32 = .ok (.iconst 0, 1) := by decide +kernel
theorem dX0_passMark_33 : decode cX0_passMark 33 = .ok (.istore 4, 2) := by decide +kernel
theorem dX0_passMark_35 : decode cX0_passMark 35 = .ok (.iload 4, 2) := by decide +kernel
theorem dX0_passMark_37 : decode cX0_passMark 37 = .ok (.ifCond .eq 18, 3) := by decide +kernel
theorem dX0_passMark_40 : decode cX0_passMark 40 = .ok (.iload_n 1, 1) := by decide +kernel
theorem dX0_passMark_41 : decode cX0_passMark 41 = .ok (.bipush 11, 2) := by decide +kernel
theorem dX0_passMark_43 : decode cX0_passMark 43 = .ok (.if_icmp .lt 12, 3) := by decide +kernel
theorem dX0_passMark_46 : decode cX0_passMark 46 = .ok (.aload_n 0, 1) := by decide +kernel
theorem dX0_passMark_47 : decode cX0_passMark 47 = .ok (.iload_n 3, 1) := by decide +kernel
theorem dX0_passMark_48 : decode cX0_passMark 48 = .ok (.iconst 1, 1) := by decide +kernel
theorem dX0_passMark_49 : decode cX0_passMark 49 = .ok (.iadd, 1) := by decide +kernel
theorem dX0_passMark_50 : decode cX0_passMark 50 = .ok (.putfield 19, 3) := by decide +kernel
theorem dX0_passMark_53 : decode cX0_passMark 53 = .ok (.iconst 1, 1) := by decide +kernel
theorem dX0_passMark_54 : decode cX0_passMark 54 = .ok (.ireturn, 1) := by decide +kernel
theorem dX0_passMark_55 : decode cX0_passMark 55 = .ok (.iload 4, 2) := by decide +kernel
theorem dX0_passMark_57 : decode cX0_passMark 57 = .ok (.ifCond .eq 7, 3) := by decide +kernel
theorem dX0_passMark_60 : decode cX0_passMark 60 = .ok (.iconst 0, 1) := by decide +kernel
theorem dX0_passMark_61 : decode cX0_passMark 61 = .ok (.goto 6, 3) := by decide +kernel
theorem dX0_passMark_64 : decode cX0_passMark 64 = .ok (.iload_n 1, 1) := by decide +kernel
theorem dX0_passMark_65 : decode cX0_passMark 65 = .ok (.iconst 1, 1) := by decide +kernel
theorem dX0_passMark_66 : decode cX0_passMark 66 = .ok (.iadd, 1) := by decide +kernel
theorem dX0_passMark_67 : decode cX0_passMark 67 = .ok (.istore_n 1, 1) := by decide +kernel
theorem dX0_passMark_68 : decode cX0_passMark 68 = .ok (.iinc 3 1, 3) := by decide +kernel
theorem dX0_passMark_71 : decode cX0_passMark 71 = .ok (.goto (-56), 3) := by decide +kernel
theorem dX0_passMark_74 : decode cX0_passMark 74 = .ok (.aload_n 0, 1) := by decide +kernel
theorem dX0_passMark_75 : decode cX0_passMark 75 = .ok (.iload_n 2, 1) := by decide +kernel
theorem dX0_passMark_76 : decode cX0_passMark 76 = .ok (.putfield 19, 3) := by decide +kernel
theorem dX0_passMark_79 : decode cX0_passMark 79 = .ok (.iconst 0, 1) := by decide +kernel
theorem dX0_passMark_80 : decode cX0_passMark 80 = .ok (.ireturn, 1) := by decide +kernel
theorem dX0_bitAt_0 : decode cX0_bitAt 0 = .ok (.iload_n 1, 1) := by decide +kernel
theorem dX0_bitAt_1 : decode cX0_bitAt 1 = .ok (.bipush 8, 2) := by decide +kernel
theorem dX0_bitAt_3 : decode cX0_bitAt 3 = .ok (.idiv, 1) := by decide +kernel
theorem dX0_bitAt_4 : decode cX0_bitAt 4 = .ok (.istore_n 2, 1) := by decide +kernel
theorem dX0_bitAt_5 : decode cX0_bitAt 5 = .ok (.iload_n 1, 1) := by decide +kernel
theorem dX0_bitAt_6 : decode cX0_bitAt 6 = .ok (.ifCond .lt 39, 3) := by decide +kernel
theorem dX0_bitAt_9 : decode cX0_bitAt 9 = .ok (.iload_n 2, 1) := by decide +kernel
theorem dX0_bitAt_10 : decode cX0_bitAt 10 = .ok (.aload_n 0, 1) := by decide +kernel
theorem dX0_bitAt_11 : decode cX0_bitAt 11 = .ok (.getfield 15, 3) := by decide +kernel
theorem dX0_bitAt_14 : decode cX0_bitAt 14 = .ok (.if_icmp .ge 31, 3) := by decide +kernel
theorem dX0_bitAt_17 : decode cX0_bitAt 17 = .ok (.iload_n 2, 1) := by decide +kernel
theorem dX0_bitAt_18 : decode cX0_bitAt 18 = .ok (.aload_n 0, 1) := by decide +kernel
theorem dX0_bitAt_19 : decode cX0_bitAt 19 = .ok (.getfield 9, 3) := by decide +kernel
theorem dX0_bitAt_22 : decode cX0_bitAt 22 = .ok (.arraylength, 1) := by decide +kernel
theorem dX0_bitAt_23 : decode cX0_bitAt 23 = .ok (.if_icmp .ge 22, 3) := by decide +kernel
theorem dX0_bitAt_26 : decode cX0_bitAt 26 = .ok (.aload_n 0, 1) := by decide +kernel
theorem dX0_bitAt_27 : decode cX0_bitAt 27 = .ok (.getfield 9, 3) := by decide +kernel
theorem dX0_bitAt_30 : decode cX0_bitAt 30 = .ok (.iload_n 2, 1) := by decide +kernel
theorem dX0_bitAt_31 : decode cX0_bitAt 31 = .ok (.baload, 1) := by decide +kernel
theorem dX0_bitAt_32 : decode cX0_bitAt 32 = .ok (.bipush 7, 2) := by decide +kernel
theorem dX0_bitAt_34 : decode cX0_bitAt 34 = .ok (.iload_n 1, 1) := by decide +kernel
theorem dX0_bitAt_35 : decode cX0_bitAt 35 = .ok (.bipush 8, 2) := by decide +kernel
theorem dX0_bitAt_37 : decode cX0_bitAt 37 = .ok (.irem, 1) := by decide +kernel
theorem dX0_bitAt_38 : decode cX0_bitAt 38 = .ok (.isub, 1) := by decide +kernel
theorem dX0_bitAt_39 : decode cX0_bitAt 39 = .ok (.ishr, 1) := by decide +kernel
theorem dX0_bitAt_40 : decode cX0_bitAt 40 = .ok (.iconst 1, 1) := by decide +kernel
theorem dX0_bitAt_41 : decode cX0_bitAt 41 = .ok (.iand, 1) := by decide +kernel
theorem dX0_bitAt_42 : decode cX0_bitAt 42 = .ok (.goto 4, 3) := by decide +kernel
theorem dX0_bitAt_45 : decode cX0_bitAt 45 = .ok (.iconst 0, 1) := by decide +kernel
theorem dX0_bitAt_46 : decode cX0_bitAt 46 = .ok (.ireturn, 1) := by decide +kernel
theorem dX0_byteAt_0 : decode cX0_byteAt 0 = .ok (.iload_n 1, 1) := by decide +kernel
theorem dX0_byteAt_1 : decode cX0_byteAt 1 = .ok (.ifCond .lt 33, 3) := by decide +kernel
theorem dX0_byteAt_4 : decode cX0_byteAt 4 = .ok (.iload_n 1, 1) := by decide +kernel
theorem dX0_byteAt_5 : decode cX0_byteAt 5 = .ok (.aload_n 0, 1) := by decide +kernel
theorem dX0_byteAt_6 : decode cX0_byteAt 6 = .ok (.getfield 15, 3) := by decide +kernel
theorem dX0_byteAt_9 : decode cX0_byteAt 9 = .ok (.if_icmp .ge 25, 3) := by decide +kernel
theorem dX0_byteAt_12 : decode cX0_byteAt 12 = .ok (.iload_n 1, 1) := by decide +kernel
theorem dX0_byteAt_13 : decode cX0_byteAt 13 = .ok (.aload_n 0, 1) := by decide +kernel
theorem dX0_byteAt_14 : decode cX0_byteAt 14 = .ok (.getfield 9, 3) := by decide +kernel
theorem dX0_byteAt_17 : decode cX0_byteAt 17 = .ok (.arraylength, 1) := by decide +kernel
theorem dX0_byteAt_18 : decode cX0_byteAt 18 = .ok (.if_icmp .ge 16, 3) := by decide +kernel
theorem dX0_byteAt_21 : decode cX0_byteAt 21 = .ok (.aload_n 0, 1) := by decide +kernel
theorem dX0_byteAt_22 : decode cX0_byteAt 22 = .ok (.getfield 9, 3) := by decide +kernel
theorem dX0_byteAt_25 : decode cX0_byteAt 25 = .ok (.iload_n 1, 1) := by decide +kernel
theorem dX0_byteAt_26 : decode cX0_byteAt 26 = .ok (.baload, 1) := by decide +kernel
theorem dX0_byteAt_27 : decode cX0_byteAt 27 = .ok (.sipush 255, 3) := by decide +kernel
theorem dX0_byteAt_30 : decode cX0_byteAt 30 = .ok (.iand, 1) := by decide +kernel
theorem dX0_byteAt_31 : decode cX0_byteAt 31 = .ok (.goto 4, 3) := by decide +kernel
theorem dX0_byteAt_34 : decode cX0_byteAt 34 = .ok (.iconst 0, 1) := by decide +kernel
theorem dX0_byteAt_35 : decode cX0_byteAt 35 = .ok (.ireturn, 1) := by decide +kernel
theorem dX1_init_0 : decode cX1_init 0 = .ok (.aload_n 0, 1) := by decide +kernel
theorem dX1_init_1 : decode cX1_init 1 = .ok (.invokespecial 3, 3) := by decide +kernel
theorem dX1_init_4 : decode cX1_init 4 = .ok (.aload_n 0, 1) := by decide +kernel
theorem dX1_init_5 : decode cX1_init 5 = .ok (.bipush 24, 2) := by decide +kernel
theorem dX1_init_7 : decode cX1_init 7 = .ok (.bipush 7, 2) := by decide +kernel
theorem dX1_init_9 : decode cX1_init 9 = .ok (.iload_n 1, 1) := by decide +kernel
theorem dX1_init_10 : decode cX1_init 10 = .ok (.imul, 1) := by decide +kernel
theorem dX1_init_11 : decode cX1_init 11 = .ok (.bipush 60, 2) := by decide +kernel
theorem dX1_init_13 : decode cX1_init 13 = .ok (.iadd, 1) := by decide +kernel
theorem dX1_init_14 : decode cX1_init 14 = .ok (.imul, 1) := by decide +kernel
theorem dX1_init_15 : decode cX1_init 15 = .ok (.bipush 64, 2) := by decide +kernel
theorem dX1_init_17 : decode cX1_init 17 = .ok (.idiv, 1) := by decide +kernel
theorem dX1_init_18 : decode cX1_init 18 = .ok (.iconst 4, 1) := by decide +kernel
theorem dX1_init_19 : decode cX1_init 19 = .ok (.iadd, 1) := by decide +kernel
theorem dX1_init_20 : decode cX1_init 20 = .ok (.newarray .long, 2) := by decide +kernel
theorem dX1_init_22 : decode cX1_init 22 = .ok (.putfield 9, 3) := by decide +kernel
theorem dX1_init_25 : decode cX1_init 25 = .ok (.return_, 1) := by decide +kernel
theorem dX1_restart_0 : decode cX1_restart 0 = .ok (.aload_n 0, 1) := by decide +kernel
theorem dX1_restart_1 : decode cX1_restart 1 = .ok (.iconst 0, 1) := by decide +kernel
theorem dX1_restart_2 : decode cX1_restart 2 = .ok (.putfield 15, 3) := by decide +kernel
theorem dX1_restart_5 : decode cX1_restart 5 = .ok (.return_, 1) := by decide +kernel
theorem dX1_size_0 : decode cX1_size 0 = .ok (.aload_n 0, 1) := by decide +kernel
theorem dX1_size_1 : decode cX1_size 1 = .ok (.getfield 15, 3) := by decide +kernel
theorem dX1_size_4 : decode cX1_size 4 = .ok (.bipush 7, 2) := by decide +kernel
theorem dX1_size_6 : decode cX1_size 6 = .ok (.iadd, 1) := by decide +kernel
theorem dX1_size_7 : decode cX1_size 7 = .ok (.bipush 8, 2) := by decide +kernel
theorem dX1_size_9 : decode cX1_size 9 = .ok (.idiv, 1) := by decide +kernel
theorem dX1_size_10 : decode cX1_size 10 = .ok (.ireturn, 1) := by decide +kernel
theorem dX1_byteAt_0 : decode cX1_byteAt 0 = .ok (.iload_n 1, 1) := by decide +kernel
theorem dX1_byteAt_1 : decode cX1_byteAt 1 = .ok (.bipush 8, 2) := by decide +kernel
theorem dX1_byteAt_3 : decode cX1_byteAt 3 = .ok (.idiv, 1) := by decide +kernel
theorem dX1_byteAt_4 : decode cX1_byteAt 4 = .ok (.istore_n 2, 1) := by decide +kernel
theorem dX1_byteAt_5 : decode cX1_byteAt 5 = .ok (.iload_n 1, 1) := by decide +kernel
theorem dX1_byteAt_6 : decode cX1_byteAt 6 = .ok (.ifCond .lt 37, 3) := by decide +kernel
theorem dX1_byteAt_9 : decode cX1_byteAt 9 = .ok (.iload_n 2, 1) := by decide +kernel
theorem dX1_byteAt_10 : decode cX1_byteAt 10 = .ok (.aload_n 0, 1) := by decide +kernel
theorem dX1_byteAt_11 : decode cX1_byteAt 11 = .ok (.getfield 9, 3) := by decide +kernel
theorem dX1_byteAt_14 : decode cX1_byteAt 14 = .ok (.arraylength, 1) := by decide +kernel
theorem dX1_byteAt_15 : decode cX1_byteAt 15 = .ok (.if_icmp .ge 28, 3) := by decide +kernel
theorem dX1_byteAt_18 : decode cX1_byteAt 18 = .ok (.aload_n 0, 1) := by decide +kernel
theorem dX1_byteAt_19 : decode cX1_byteAt 19 = .ok (.getfield 9, 3) := by decide +kernel
theorem dX1_byteAt_22 : decode cX1_byteAt 22 = .ok (.iload_n 2, 1) := by decide +kernel
theorem dX1_byteAt_23 : decode cX1_byteAt 23 = .ok (.laload, 1) := by decide +kernel
theorem dX1_byteAt_24 : decode cX1_byteAt 24 = .ok (.bipush 56, 2) := by decide +kernel
theorem dX1_byteAt_26 : decode cX1_byteAt 26 = .ok (.iload_n 1, 1) := by decide +kernel
theorem dX1_byteAt_27 : decode cX1_byteAt 27 = .ok (.bipush 8, 2) := by decide +kernel
theorem dX1_byteAt_29 : decode cX1_byteAt 29 = .ok (.irem, 1) := by decide +kernel
theorem dX1_byteAt_30 : decode cX1_byteAt 30 = .ok (.bipush 8, 2) := by decide +kernel
theorem dX1_byteAt_32 : decode cX1_byteAt 32 = .ok (.imul, 1) := by decide +kernel
theorem dX1_byteAt_33 : decode cX1_byteAt 33 = .ok (.isub, 1) := by decide +kernel
theorem dX1_byteAt_34 : decode cX1_byteAt 34 = .ok (.lushr, 1) := by decide +kernel
theorem dX1_byteAt_35 : decode cX1_byteAt 35 = .ok (.l2i, 1) := by decide +kernel
theorem dX1_byteAt_36 : decode cX1_byteAt 36 = .ok (.sipush 255, 3) := by decide +kernel
theorem dX1_byteAt_39 : decode cX1_byteAt 39 = .ok (.iand, 1) := by decide +kernel
theorem dX1_byteAt_40 : decode cX1_byteAt 40 = .ok (.goto 4, 3) := by decide +kernel
theorem dX1_byteAt_43 : decode cX1_byteAt 43 = .ok (.iconst 0, 1) := by decide +kernel
theorem dX1_byteAt_44 : decode cX1_byteAt 44 = .ok (.ireturn, 1) := by decide +kernel
theorem dX1_send_0 : decode cX1_send 0 = .ok (.aload_n 0, 1) := by decide +kernel
theorem dX1_send_1 : decode cX1_send 1 = .ok (.getfield 15, 3) := by decide +kernel
theorem dX1_send_4 : decode cX1_send 4 = .ok (.bipush 64, 2) := by decide +kernel
theorem dX1_send_6 : decode cX1_send 6 = .ok (.idiv, 1) := by decide +kernel
theorem dX1_send_7 : decode cX1_send 7 = .ok (.istore_n 3, 1) := by decide +kernel
theorem dX1_send_8 : decode cX1_send 8 = .ok (.bipush 64, 2) := by decide +kernel
theorem dX1_send_10 : decode cX1_send 10 = .ok (.aload_n 0, 1) := by decide +kernel
theorem dX1_send_11 : decode cX1_send 11 = .ok (.getfield 15, 3) := by decide +kernel
theorem dX1_send_14 : decode cX1_send 14 = .ok (.bipush 64, 2) := by decide +kernel
theorem dX1_send_16 : decode cX1_send 16 = .ok (.irem, 1) := by decide +kernel
theorem dX1_send_17 : decode cX1_send 17 = .ok (.isub, 1) := by decide +kernel
theorem dX1_send_18 : decode cX1_send 18 = .ok (.istore 4, 2) := by decide +kernel
theorem dX1_send_20 : decode cX1_send 20 = .ok (.iload_n 3, 1) := by decide +kernel
theorem dX1_send_21 : decode cX1_send 21 = .ok (.ifCond .lt 14, 3) := by decide +kernel
theorem dX1_send_24 : decode cX1_send 24 = .ok (.iload_n 3, 1) := by decide +kernel
theorem dX1_send_25 : decode cX1_send 25 = .ok (.iconst 1, 1) := by decide +kernel
theorem dX1_send_26 : decode cX1_send 26 = .ok (.iadd, 1) := by decide +kernel
theorem dX1_send_27 : decode cX1_send 27 = .ok (.aload_n 0, 1) := by decide +kernel
theorem dX1_send_28 : decode cX1_send 28 = .ok (.getfield 9, 3) := by decide +kernel
theorem dX1_send_31 : decode cX1_send 31 = .ok (.arraylength, 1) := by decide +kernel
theorem dX1_send_32 : decode cX1_send 32 = .ok (.if_icmp .lt 4, 3) := by decide +kernel
theorem dX1_send_35 : decode cX1_send 35 = .ok (.return_, 1) := by decide +kernel
theorem dX1_send_36 : decode cX1_send 36 = .ok (.iload 4, 2) := by decide +kernel
theorem dX1_send_38 : decode cX1_send 38 = .ok (.bipush 64, 2) := by decide +kernel
theorem dX1_send_40 : decode cX1_send 40 = .ok (.if_icmp .ne 7, 3) := by decide +kernel
theorem dX1_send_43 : decode cX1_send 43 = .ok (.lconst 0, 1) := by decide +kernel
theorem dX1_send_44 : decode cX1_send 44 = .ok (.goto 9, 3) := by decide +kernel
theorem dX1_send_47 : decode cX1_send 47 = .ok (.aload_n 0, 1) := by decide +kernel
theorem dX1_send_48 : decode cX1_send 48 = .ok (.getfield 9, 3) := by decide +kernel
theorem dX1_send_51 : decode cX1_send 51 = .ok (.iload_n 3, 1) := by decide +kernel
theorem dX1_send_52 : decode cX1_send 52 = .ok (.laload, 1) := by decide +kernel
theorem dX1_send_53 : decode cX1_send 53 = .ok (.lstore 5, 2) := by decide +kernel
theorem dX1_send_55 : decode cX1_send 55 = .ok (.iload_n 2, 1) := by decide +kernel
theorem dX1_send_56 : decode cX1_send 56 = .ok (.iload 4, 2) := by decide +kernel
theorem dX1_send_58 : decode cX1_send 58 = .ok (.if_icmp .gt 22, 3) := by decide +kernel
theorem dX1_send_61 : decode cX1_send 61 = .ok (.aload_n 0, 1) := by decide +kernel
theorem dX1_send_62 : decode cX1_send 62 = .ok (.getfield 9, 3) := by decide +kernel
theorem dX1_send_65 : decode cX1_send 65 = .ok (.iload_n 3, 1) := by decide +kernel
theorem dX1_send_66 : decode cX1_send 66 = .ok (.lload 5, 2) := by decide +kernel
theorem dX1_send_68 : decode cX1_send 68 = .ok (.iload_n 1, 1) := by decide +kernel
theorem dX1_send_69 : decode cX1_send 69 = .ok (.i2l, 1) := by decide +kernel
theorem dX1_send_70 : decode cX1_send 70 = .ok (.iload 4, 2) := by decide +kernel
theorem dX1_send_72 : decode cX1_send 72 = .ok (.iload_n 2, 1) := by decide +kernel
theorem dX1_send_73 : decode cX1_send 73 = .ok (.isub, 1) := by decide +kernel
theorem dX1_send_74 : decode cX1_send 74 = .ok (.lshl, 1) := by decide +kernel
theorem dX1_send_75 : decode cX1_send 75 = .ok (.lor, 1) := by decide +kernel
theorem dX1_send_76 : decode cX1_send 76 = .ok (.lastore, 1) := by decide +kernel
theorem dX1_send_77 : decode cX1_send 77 = .ok (.goto 39, 3) := by decide +kernel
theorem dX1_send_80 : decode cX1_send 80 = .ok (.iload_n 2, 1) := by decide +kernel
theorem dX1_send_81 : decode cX1_send 81 = .ok (.iload 4, 2) := by decide +kernel
theorem dX1_send_83 : decode cX1_send 83 = .ok (.isub, 1) := by decide +kernel
theorem dX1_send_84 : decode cX1_send 84 = .ok (.istore 7, 2) := by decide +kernel
theorem dX1_send_86 : decode cX1_send 86 = .ok (.aload_n 0, 1) := by decide +kernel
theorem dX1_send_87 : decode cX1_send 87 = .ok (.getfield 9, 3) := by decide +kernel
theorem dX1_send_90 : decode cX1_send 90 = .ok (.iload_n 3, 1) := by decide +kernel
theorem dX1_send_91 : decode cX1_send 91 = .ok (.lload 5, 2) := by decide +kernel
theorem dX1_send_93 : decode cX1_send 93 = .ok (.iload_n 1, 1) := by decide +kernel
theorem dX1_send_94 : decode cX1_send 94 = .ok (.iload 7, 2) := by decide +kernel
theorem dX1_send_96 : decode cX1_send 96 = .ok (.iushr, 1) := by decide +kernel
theorem dX1_send_97 : decode cX1_send 97 = .ok (.i2l, 1) := by decide +kernel
theorem dX1_send_98 : decode cX1_send 98 = .ok (.lor, 1) := by decide +kernel
theorem dX1_send_99 : decode cX1_send 99 = .ok (.lastore, 1) := by decide +kernel
theorem dX1_send_100 : decode cX1_send 100 = .ok (.aload_n 0, 1) := by decide +kernel
theorem dX1_send_101 : decode cX1_send 101 = .ok (.getfield 9, 3) := by decide +kernel
theorem dX1_send_104 : decode cX1_send 104 = .ok (.iload_n 3, 1) := by decide +kernel
theorem dX1_send_105 : decode cX1_send 105 = .ok (.iconst 1, 1) := by decide +kernel
theorem dX1_send_106 : decode cX1_send 106 = .ok (.iadd, 1) := by decide +kernel
theorem dX1_send_107 : decode cX1_send 107 = .ok (.iload_n 1, 1) := by decide +kernel
theorem dX1_send_108 : decode cX1_send 108 = .ok (.i2l, 1) := by decide +kernel
theorem dX1_send_109 : decode cX1_send 109 = .ok (.bipush 64, 2) := by decide +kernel
theorem dX1_send_111 : decode cX1_send 111 = .ok (.iload 7, 2) := by decide +kernel
theorem dX1_send_113 : decode cX1_send 113 = .ok (.isub, 1) := by decide +kernel
theorem dX1_send_114 : decode cX1_send 114 = .ok (.lshl, 1) := by decide +kernel
theorem dX1_send_115 : decode cX1_send 115 = .ok (.lastore, 1) := by decide +kernel
theorem dX1_send_116 : decode cX1_send 116 = .ok (.aload_n 0, 1) := by decide +kernel
theorem dX1_send_117 : decode cX1_send 117 = .ok (.dup, 1) := by decide +kernel
theorem dX1_send_118 : decode cX1_send 118 = .ok (.getfield 15, 3) := by decide +kernel
theorem dX1_send_121 : decode cX1_send 121 = .ok (.iload_n 2, 1) := by decide +kernel
theorem dX1_send_122 : decode cX1_send 122 = .ok (.iadd, 1) := by decide +kernel
theorem dX1_send_123 : decode cX1_send 123 = .ok (.putfield 15, 3) := by decide +kernel
theorem dX1_send_126 : decode cX1_send 126 = .ok (.return_, 1) := by decide +kernel
set_option maxRecDepth 20000 in
theorem ggX1_alignFor_X1_send : GoodIn wsX1_alignFor wsX1_send := goodIn_ca (goodIn_r _ [6, 1, 7, 8, 9] (by decide +kernel) (by decide +kernel)) (goodIn_sub (fun _ h => List.mem_cons_of_mem _ (List.mem_append_right _ h)) (by decide +kernel))
set_option maxRecDepth 20000 in
theorem gX1_alignFor_X1_send : GoodIn wsX1_alignFor (wsV RX1 19 RX1 yX1_send wsX1_send) := goodIn_app (goodIn_of _ (by decide +kernel)) ggX1_alignFor_X1_send
theorem dX1_alignFor_0 : decode cX1_alignFor 0 = .ok (.aload_n 0, 1) := by decide +kernel
theorem dX1_alignFor_1 : decode cX1_alignFor 1 = .ok (.iconst 0, 1) := by decide +kernel
theorem dX1_alignFor_2 : decode cX1_alignFor 2 = .ok (.aload_n 0, 1) := by decide +kernel
theorem dX1_alignFor_3 : decode cX1_alignFor 3 = .ok (.getfield 15, 3) := by decide +kernel
theorem dX1_alignFor_6 : decode cX1_alignFor 6 = .ok (.iload_n 1, 1) := by decide +kernel
theorem dX1_alignFor_7 : decode cX1_alignFor 7 = .ok (.iadd, 1) := by decide +kernel
theorem dX1_alignFor_8 : decode cX1_alignFor 8 = .ok (.ineg, 1) := by decide +kernel
theorem dX1_alignFor_9 : decode cX1_alignFor 9 = .ok (.bipush 7, 2) := by decide +kernel
theorem dX1_alignFor_11 : decode cX1_alignFor 11 = .ok (.iand, 1) := by decide +kernel
theorem dX1_alignFor_12 : decode cX1_alignFor 12 = .ok (.invokevirtual 19, 3) := by decide +kernel
theorem dX1_alignFor_15 : decode cX1_alignFor 15 = .ok (.return_, 1) := by decide +kernel
theorem dX2_init_0 : decode cX2_init 0 = .ok (.aload_n 0, 1) := by decide +kernel
theorem dX2_init_1 : decode cX2_init 1 = .ok (.invokespecial 3, 3) := by decide +kernel
theorem dX2_init_4 : decode cX2_init 4 = .ok (.aload_n 0, 1) := by decide +kernel
theorem dX2_init_5 : decode cX2_init 5 = .ok (.bipush 24, 2) := by decide +kernel
theorem dX2_init_7 : decode cX2_init 7 = .ok (.newarray .int, 2) := by decide +kernel
theorem dX2_init_9 : decode cX2_init 9 = .ok (.putfield 9, 3) := by decide +kernel
theorem dX2_init_12 : decode cX2_init 12 = .ok (.aload_n 0, 1) := by decide +kernel
theorem dX2_init_13 : decode cX2_init 13 = .ok (.iload_n 1, 1) := by decide +kernel
theorem dX2_init_14 : decode cX2_init 14 = .ok (.putfield 15, 3) := by decide +kernel
theorem dX2_init_17 : decode cX2_init 17 = .ok (.aload_n 0, 1) := by decide +kernel
theorem dX2_init_18 : decode cX2_init 18 = .ok (.iload_n 1, 1) := by decide +kernel
theorem dX2_init_19 : decode cX2_init 19 = .ok (.bipush 63, 2) := by decide +kernel
theorem dX2_init_21 : decode cX2_init 21 = .ok (.iadd, 1) := by decide +kernel
theorem dX2_init_22 : decode cX2_init 22 = .ok (.bipush 64, 2) := by decide +kernel
theorem dX2_init_24 : decode cX2_init 24 = .ok (.idiv, 1) := by decide +kernel
theorem dX2_init_25 : decode cX2_init 25 = .ok (.putfield 19, 3) := by decide +kernel
theorem dX2_init_28 : decode cX2_init 28 = .ok (.aload_n 0, 1) := by decide +kernel
theorem dX2_init_29 : decode cX2_init 29 = .ok (.bipush 24, 2) := by decide +kernel
theorem dX2_init_31 : decode cX2_init 31 = .ok (.aload_n 0, 1) := by decide +kernel
theorem dX2_init_32 : decode cX2_init 32 = .ok (.getfield 19, 3) := by decide +kernel
theorem dX2_init_35 : decode cX2_init 35 = .ok (.imul, 1) := by decide +kernel
theorem dX2_init_36 : decode cX2_init 36 = .ok (.newarray .long, 2) := by decide +kernel
theorem dX2_init_38 : decode cX2_init 38 = .ok (.putfield 22, 3) := by decide +kernel
theorem dX2_init_41 : decode cX2_init 41 = .ok (.return_, 1) := by decide +kernel
theorem dX2_has_0 : decode cX2_has 0 = .ok (.iload_n 1, 1) := by decide +kernel
theorem dX2_has_1 : decode cX2_has 1 = .ok (.ifCond .lt 15, 3) := by decide +kernel
theorem dX2_has_4 : decode cX2_has 4 = .ok (.iload_n 1, 1) := by decide +kernel
theorem dX2_has_5 : decode cX2_has 5 = .ok (.aload_n 0, 1) := by decide +kernel
theorem dX2_has_6 : decode cX2_has 6 = .ok (.getfield 26, 3) := by decide +kernel
theorem dX2_has_9 : decode cX2_has 9 = .ok (.if_icmp .ge 7, 3) := by decide +kernel
theorem dX2_has_12 : decode cX2_has 12 = .ok (.iconst 1, 1) := by decide +kernel
theorem dX2_has_13 : decode cX2_has 13 = .ok (.goto 4, 3) := by decide +kernel
theorem dX2_has_16 : decode cX2_has 16 = .ok (.iconst 0, 1) := by decide +kernel
theorem dX2_has_17 : decode cX2_has 17 = .ok (.ireturn, 1) := by decide +kernel
theorem dX2_stateOf_0 : decode cX2_stateOf 0 = .ok (.iload_n 1, 1) := by decide +kernel
theorem dX2_stateOf_1 : decode cX2_stateOf 1 = .ok (.ifCond .lt 18, 3) := by decide +kernel
theorem dX2_stateOf_4 : decode cX2_stateOf 4 = .ok (.iload_n 1, 1) := by decide +kernel
theorem dX2_stateOf_5 : decode cX2_stateOf 5 = .ok (.bipush 24, 2) := by decide +kernel
theorem dX2_stateOf_7 : decode cX2_stateOf 7 = .ok (.if_icmp .ge 12, 3) := by decide +kernel
theorem dX2_stateOf_10 : decode cX2_stateOf 10 = .ok (.aload_n 0, 1) := by decide +kernel
theorem dX2_stateOf_11 : decode cX2_stateOf 11 = .ok (.getfield 9, 3) := by decide +kernel
theorem dX2_stateOf_14 : decode cX2_stateOf 14 = .ok (.iload_n 1, 1) := by decide +kernel
theorem dX2_stateOf_15 : decode cX2_stateOf 15 = .ok (.iaload, 1) := by decide +kernel
theorem dX2_stateOf_16 : decode cX2_stateOf 16 = .ok (.goto 4, 3) := by decide +kernel
theorem dX2_stateOf_19 : decode cX2_stateOf 19 = .ok (.iconst 0, 1) := by decide +kernel
theorem dX2_stateOf_20 : decode cX2_stateOf 20 = .ok (.ireturn, 1) := by decide +kernel
theorem dX2_mend_0 : decode cX2_mend 0 = .ok (.iload_n 1, 1) := by decide +kernel
theorem dX2_mend_1 : decode cX2_mend 1 = .ok (.ifCond .lt 16, 3) := by decide +kernel
theorem dX2_mend_4 : decode cX2_mend 4 = .ok (.iload_n 1, 1) := by decide +kernel
theorem dX2_mend_5 : decode cX2_mend 5 = .ok (.bipush 24, 2) := by decide +kernel
theorem dX2_mend_7 : decode cX2_mend 7 = .ok (.if_icmp .ge 10, 3) := by decide +kernel
theorem dX2_mend_10 : decode cX2_mend 10 = .ok (.aload_n 0, 1) := by decide +kernel
theorem dX2_mend_11 : decode cX2_mend 11 = .ok (.getfield 9, 3) := by decide +kernel
theorem dX2_mend_14 : decode cX2_mend 14 = .ok (.iload_n 1, 1) := by decide +kernel
theorem dX2_mend_15 : decode cX2_mend 15 = .ok (.iconst 0, 1) := by decide +kernel
theorem dX2_mend_16 : decode cX2_mend 16 = .ok (.iastore, 1) := by decide +kernel
theorem dX2_mend_17 : decode cX2_mend 17 = .ok (.return_, 1) := by decide +kernel
theorem dX2_keep_0 : decode cX2_keep 0 = .ok (.aload_n 0, 1) := by decide +kernel
theorem dX2_keep_1 : decode cX2_keep 1 = .ok (.getfield 26, 3) := by decide +kernel
theorem dX2_keep_4 : decode cX2_keep 4 = .ok (.ifCond .lt 32, 3) := by decide +kernel
theorem dX2_keep_7 : decode cX2_keep 7 = .ok (.aload_n 0, 1) := by decide +kernel
theorem dX2_keep_8 : decode cX2_keep 8 = .ok (.getfield 26, 3) := by decide +kernel
theorem dX2_keep_11 : decode cX2_keep 11 = .ok (.bipush 24, 2) := by decide +kernel
theorem dX2_keep_13 : decode cX2_keep 13 = .ok (.if_icmp .ge 23, 3) := by decide +kernel
theorem dX2_keep_16 : decode cX2_keep 16 = .ok (.aload_n 0, 1) := by decide +kernel
theorem dX2_keep_17 : decode cX2_keep 17 = .ok (.getfield 9, 3) := by decide +kernel
theorem dX2_keep_20 : decode cX2_keep 20 = .ok (.aload_n 0, 1) := by decide +kernel
theorem dX2_keep_21 : decode cX2_keep 21 = .ok (.getfield 26, 3) := by decide +kernel
theorem dX2_keep_24 : decode cX2_keep 24 = .ok (.iload_n 1, 1) := by decide +kernel
theorem dX2_keep_25 : decode cX2_keep 25 = .ok (.iastore, 1) := by decide +kernel
theorem dX2_keep_26 : decode cX2_keep 26 = .ok (.aload_n 0, 1) := by decide +kernel
theorem dX2_keep_27 : decode cX2_keep 27 = .ok (.dup, 1) := by decide +kernel
theorem dX2_keep_28 : decode cX2_keep 28 = .ok (.getfield 26, 3) := by decide +kernel
theorem dX2_keep_31 : decode cX2_keep 31 = .ok (.iconst 1, 1) := by decide +kernel
theorem dX2_keep_32 : decode cX2_keep 32 = .ok (.iadd, 1) := by decide +kernel
theorem dX2_keep_33 : decode cX2_keep 33 = .ok (.putfield 26, 3) := by decide +kernel
theorem dX2_keep_36 : decode cX2_keep 36 = .ok (.return_, 1) := by decide +kernel
set_option maxRecDepth 20000 in
theorem ggX2_whiten_X2_paint : GoodIn wsX2_whiten wsX2_paint := goodIn_ca (goodIn_r _ [6, 1, 7, 8, 9, 10, 11, 12, 13, 14, 15, 16, 17, 18, 5, 19, 20, 21, 22, 23, 24, 25] (by decide +kernel) (by decide +kernel)) (goodIn_sub (fun _ h => List.mem_cons_of_mem _ (List.mem_append_right _ h)) (by decide +kernel))
set_option maxRecDepth 20000 in
theorem gX2_whiten_X2_paint : GoodIn wsX2_whiten (wsV RX2 29 RX2 yX2_paint wsX2_paint) := goodIn_app (goodIn_of _ (by decide +kernel)) ggX2_whiten_X2_paint
theorem dX2_whiten_0 : decode cX2_whiten 0 = .ok (.aload_n 0, 1) := by decide +kernel
theorem dX2_whiten_1 : decode cX2_whiten 1 = .ok (.iload_n 1, 1) := by decide +kernel
theorem dX2_whiten_2 : decode cX2_whiten 2 = .ok (.iconst 0, 1) := by decide +kernel
theorem dX2_whiten_3 : decode cX2_whiten 3 = .ok (.aload_n 0, 1) := by decide +kernel
theorem dX2_whiten_4 : decode cX2_whiten 4 = .ok (.getfield 15, 3) := by decide +kernel
theorem dX2_whiten_7 : decode cX2_whiten 7 = .ok (.iconst 0, 1) := by decide +kernel
theorem dX2_whiten_8 : decode cX2_whiten 8 = .ok (.invokevirtual 29, 3) := by decide +kernel
theorem dX2_whiten_11 : decode cX2_whiten 11 = .ok (.return_, 1) := by decide +kernel
set_option maxRecDepth 20000 in
theorem ggX2_copyAbove_X2_indexOf : GoodIn wsX2_copyAbove wsX2_indexOf := goodIn_r _ [7, 1, 12, 13, 14, 15, 16] (by decide +kernel) (by decide +kernel)
set_option maxRecDepth 20000 in
theorem gX2_copyAbove_X2_indexOf : GoodIn wsX2_copyAbove (wsV RX2 33 RX2 yX2_indexOf wsX2_indexOf) := goodIn_app (goodIn_of _ (by decide +kernel)) ggX2_copyAbove_X2_indexOf
set_option maxRecDepth 20000 in
theorem ggX2_copyAbove_X2_wordOf : GoodIn wsX2_copyAbove wsX2_wordOf := goodIn_ca (goodIn_r _ [11, 2, 3, 4, 5, 6, 7, 1, 12, 13, 14, 15, 16] (by decide +kernel) (by decide +kernel)) (goodIn_sub (fun _ h => List.mem_cons_of_mem _ (List.mem_append_right _ h)) (by decide +kernel))
set_option maxRecDepth 20000 in
theorem gX2_copyAbove_X2_wordOf : GoodIn wsX2_copyAbove (wsV RX2 37 RX2 yX2_wordOf wsX2_wordOf) := goodIn_app (goodIn_of _ (by decide +kernel)) ggX2_copyAbove_X2_wordOf
theorem dX2_copyAbove_0 : decode cX2_copyAbove 0 = .ok (.iconst 0, 1) := by decide +kernel
theorem dX2_copyAbove_1 : decode cX2_copyAbove 1 = .ok (.istore_n 2, 1) := by decide +kernel
theorem dX2_copyAbove_2 : decode cX2_copyAbove 2 = .ok (.iload_n 2, 1) := by decide +kernel
theorem dX2_copyAbove_3 : decode cX2_copyAbove 3 = .ok (.aload_n 0, 1) := by decide +kernel
theorem dX2_copyAbove_4 : decode cX2_copyAbove 4 = .ok (.getfield 19, 3) := by decide +kernel
theorem dX2_copyAbove_7 : decode cX2_copyAbove 7 = .ok (.if_icmp .ge 43, 3) := by decide +kernel
theorem dX2_copyAbove_10 : decode cX2_copyAbove 10 = .ok (.aload_n 0, 1) := by decide +kernel
theorem dX2_copyAbove_11 : decode cX2_copyAbove 11 = .ok (.iload_n 1, 1) := by decide +kernel
theorem dX2_copyAbove_12 : decode cX2_copyAbove 12 = .ok (.iload_n 2, 1) := by decide +kernel
theorem dX2_copyAbove_13 : decode cX2_copyAbove 13 = .ok (.invokevirtual 33, 3) := by decide +kernel
theorem dX2_copyAbove_16 : decode cX2_copyAbove 16 = .ok (.istore_n 3, 1) := by decide +kernel
theorem dX2_copyAbove_17 : decode cX2_copyAbove 17 = .ok (.iload_n 3, 1) := by decide +kernel
theorem dX2_copyAbove_18 : decode cX2_copyAbove 18 = .ok (.ifCond .lt 26, 3) := by decide +kernel
theorem dX2_copyAbove_21 : decode cX2_copyAbove 21 = .ok (.iload_n 3, 1) := by decide +kernel
theorem dX2_copyAbove_22 : decode cX2_copyAbove 22 = .ok (.aload_n 0, 1) := by decide +kernel
theorem dX2_copyAbove_23 : decode cX2_copyAbove 23 = .ok (.getfield 22, 3) := by decide +kernel
theorem dX2_copyAbove_26 : decode cX2_copyAbove 26 = .ok (.arraylength, 1) := by decide +kernel
theorem dX2_copyAbove_27 : decode cX2_copyAbove 27 = .ok (.if_icmp .ge 17, 3) := by decide +kernel
theorem dX2_copyAbove_30 : decode cX2_copyAbove 30 = .ok (.aload_n 0, 1) := by decide +kernel
theorem dX2_copyAbove_31 : decode cX2_copyAbove 31 = .ok (.getfield 22, 3) := by decide +kernel
theorem dX2_copyAbove_34 : decode cX2_copyAbove 34 = .ok (.iload_n 3, 1) := by decide +kernel
theorem dX2_copyAbove_35 : decode cX2_copyAbove 35 = .ok (.aload_n 0, 1) := by decide +kernel
theorem dX2_copyAbove_36 : decode cX2_copyAbove 36 = .ok (.iload_n 1, 1) := by decide +kernel
theorem dX2_copyAbove_37 : decode cX2_copyAbove 37 = .ok (.iconst 1, 1) := by decide +kernel
theorem dX2_copyAbove_38 : decode cX2_copyAbove 38 = .ok (.isub, 1) := by decide +kernel
theorem dX2_copyAbove_39 : decode cX2_copyAbove 39 = .ok (.iload_n 2, 1) := by decide +kernel
theorem dX2_copyAbove_40 : decode cX2_copyAbove 40 = .ok (.invokevirtual 37, 3) := by decide +kernel
theorem dX2_copyAbove_43 : decode cX2_copyAbove 43 = .ok (.lastore, 1) := by decide +kernel
theorem dX2_copyAbove_44 : decode cX2_copyAbove 44 = .ok (.iinc 2 1, 3) := by decide +kernel
theorem dX2_copyAbove_47 : decode cX2_copyAbove 47 = .ok (.goto (-45), 3) := by decide +kernel
theorem dX2_copyAbove_50 : decode cX2_copyAbove 50 = .ok (.return_, 1) := by decide +kernel
set_option maxRecDepth 20000 in
theorem ggX2_paint_X2_indexOf : GoodIn wsX2_paint wsX2_indexOf := goodIn_r _ [15, 16, 17, 18, 19, 20, 21] (by decide +kernel) (by decide +kernel)
set_option maxRecDepth 20000 in
theorem gX2_paint_X2_indexOf : GoodIn wsX2_paint (wsV RX2 33 RX2 yX2_indexOf wsX2_indexOf) := goodIn_app (goodIn_of _ (by decide +kernel)) ggX2_paint_X2_indexOf
theorem dX2_paint_0 : decode cX2_paint 0 = .ok (.iload_n 2, 1) := by decide +kernel
theorem dX2_paint_1 : decode cX2_paint 1 = .ok (.ifCond .lt 16, 3) := by decide +kernel
theorem dX2_paint_4 : decode cX2_paint 4 = .ok (.iload_n 2, 1) := by decide +kernel
theorem dX2_paint_5 : decode cX2_paint 5 = .ok (.iload_n 3, 1) := by decide +kernel
theorem dX2_paint_6 : decode cX2_paint 6 = .ok (.if_icmp .ge 11, 3) := by decide +kernel
theorem dX2_paint_9 : decode cX2_paint 9 = .ok (.iload_n 3, 1) := by decide +kernel
theorem dX2_paint_10 : decode cX2_paint 10 = .ok (.aload_n 0, 1) := by decide +kernel
theorem dX2_paint_11 : decode cX2_paint 11 = .ok (.getfield 15, 3) := by decide +kernel
theorem dX2_paint_14 : decode cX2_paint 14 = .ok (.if_icmp .le 4, 3) := by decide +kernel
theorem dX2_paint_17 : decode cX2_paint 17 = .ok (.return_, 1) := by decide +kernel
theorem dX2_paint_18 : decode cX2_paint 18 = .ok (.iload_n 2, 1) := by decide +kernel
theorem dX2_paint_19 : decode cX2_paint 19 = .ok (.bipush 64, 2) := by decide +kernel
theorem dX2_paint_21 : decode cX2_paint 21 = .ok (.idiv, 1) := by decide +kernel
theorem dX2_paint_22 : decode cX2_paint 22 = .ok (.istore 5, 2) := by decide +kernel
theorem dX2_paint_24 : decode cX2_paint 24 = .ok (.iload 5, 2) := by decide +kernel
theorem dX2_paint_26 : decode cX2_paint 26 = .ok (.iload_n 3, 1) := by decide +kernel
theorem dX2_paint_27 : decode cX2_paint 27 = .ok (.iconst 1, 1) := by decide +kernel
theorem dX2_paint_28 : decode cX2_paint 28 = .ok (.isub, 1) := by decide +kernel
theorem dX2_paint_29 : decode cX2_paint 29 = .ok (.bipush 64, 2) := by decide +kernel
theorem dX2_paint_31 : decode cX2_paint 31 = .ok (.idiv, 1) := by decide +kernel
theorem dX2_paint_32 : decode cX2_paint 32 = .ok (.if_icmp .gt 111, 3) := by decide +kernel
theorem dX2_paint_35 : decode cX2_paint 35 = .ok (.aload_n 0, 1) := by decide +kernel
theorem dX2_paint_36 : decode cX2_paint 36 = .ok (.iload_n 1, 1) := by decide +kernel
theorem dX2_paint_37 : decode cX2_paint 37 = .ok (.iload 5, 2) := by decide +kernel
theorem dX2_paint_39 : decode cX2_paint 39 = .ok (.invokevirtual 33, 3) := by decide +kernel
theorem dX2_paint_42 : decode cX2_paint 42 = .ok (.istore 6, 2) := by decide +kernel
theorem dX2_paint_44 : decode cX2_paint 44 = .ok (.ldc2_w 41, 3) := by decide +kernel
theorem dX2_paint_47 : decode cX2_paint 47 = .ok (.iload_n 2, 1) := by decide +kernel
theorem dX2_paint_48 : decode cX2_paint 48 = .ok (.bipush 64, 2) := by decide +kernel
theorem dX2_paint_50 : decode cX2_paint 50 = .ok (.iload 5, 2) := by decide +kernel
theorem dX2_paint_52 : decode cX2_paint 52 = .ok (.imul, 1) := by decide +kernel
theorem dX2_paint_53 : decode cX2_paint 53 = .ok (.invokestatic 43, 3) := by decide +kernel
theorem dX2_paint_56 : decode cX2_paint 56 = .ok (.lshl, 1) := by decide +kernel
theorem dX2_paint_57 : decode cX2_paint 57 = .ok (.lstore 7, 2) := by decide +kernel
theorem dX2_paint_59 : decode cX2_paint 59 = .ok (.ldc2_w 41, 3) := by decide +kernel
theorem dX2_paint_62 : decode cX2_paint 62 = .ok (.iload_n 3, 1) := by decide +kernel
theorem dX2_paint_63 : decode cX2_paint 63 = .ok (.bipush 64, 2) := by decide +kernel
theorem dX2_paint_65 : decode cX2_paint 65 = .ok (.iload 5, 2) := by decide +kernel
theorem dX2_paint_67 : decode cX2_paint 67 = .ok (.imul, 1) := by decide +kernel
theorem dX2_paint_68 : decode cX2_paint 68 = .ok (.bipush 64, 2) := by decide +kernel
theorem dX2_paint_70 : decode cX2_paint 70 = .ok (.iadd, 1) := by decide +kernel
theorem dX2_paint_71 : decode cX2_paint 71 = .ok (.invokestatic 48, 3) := by decide +kernel
theorem dX2_paint_74 : decode cX2_paint 74 = .ok (.ineg, 1) := by decide +kernel
theorem dX2_paint_75 : decode cX2_paint 75 = .ok (.lushr, 1) := by decide +kernel
theorem dX2_paint_76 : decode cX2_paint 76 = .ok (.lstore 9, 2) := by decide +kernel
theorem dX2_paint_78 : decode cX2_paint 78 = .ok (.iload 6, 2) := by decide +kernel
theorem dX2_paint_80 : decode cX2_paint 80 = .ok (.ifCond .lt 57, 3) := by decide +kernel
theorem dX2_paint_83 : decode cX2_paint 83 = .ok (.iload 6, 2) := by decide +kernel
theorem dX2_paint_85 : decode cX2_paint 85 = .ok (.aload_n 0, 1) := by decide +kernel
theorem dX2_paint_86 : decode cX2_paint 86 = .ok (.getfield 22, 3) := by decide +kernel
theorem dX2_paint_89 : decode cX2_paint 89 = .ok (.arraylength, 1) := by decide +kernel
theorem dX2_paint_90 : decode cX2_paint 90 = .ok (.if_icmp .ge 47, 3) := by decide +kernel
theorem dX2_paint_93 : decode cX2_paint 93 = .ok (.aload_n 0, 1) := by decide +kernel
theorem dX2_paint_94 : decode cX2_paint 94 = .ok (.getfield 22, 3) := by decide +kernel
theorem dX2_paint_97 : decode cX2_paint 97 = .ok (.iload 6, 2) := by decide +kernel
theorem dX2_paint_99 : decode cX2_paint 99 = .ok (.laload, 1) := by decide +kernel
theorem dX2_paint_100 : decode cX2_paint 100 = .ok (.lload 7, 2) := by decide +kernel
theorem dX2_paint_102 : decode cX2_paint 102 = .ok (.lload 9, 2) := by decide +kernel
theorem dX2_paint_104 : decode cX2_paint 104 = .ok (.land, 1) := by decide +kernel
theorem dX2_paint_105 : decode cX2_paint 105 = .ok (.ldc2_w 41, 3) := by decide +kernel
theorem dX2_paint_108 : decode cX2_paint 108 = .ok (.lxor, 1) := by decide +kernel
theorem dX2_paint_109 : decode cX2_paint 109 = .ok (.land, 1) := by decide +kernel
theorem dX2_paint_110 : decode cX2_paint 110 = .ok (.lstore 11, 2) := by decide +kernel
theorem dX2_paint_112 : decode cX2_paint 112 = .ok (.aload_n 0, 1) := by decide +kernel
theorem dX2_paint_113 : decode cX2_paint 113 = .ok (.getfield 22, 3) := by decide +kernel
theorem dX2_paint_116 : decode cX2_paint 116 = .ok (.iload 6, 2) := by decide +kernel
theorem dX2_paint_118 : decode cX2_paint 118 = .ok (.iload 4, 2) := by decide +kernel
theorem dX2_paint_120 : decode cX2_paint 120 = .ok (.ifCond .eq 14, 3) := by decide +kernel
theorem dX2_paint_123 : decode cX2_paint 123 = .ok (.lload 11, 2) := by decide +kernel
theorem dX2_paint_125 : decode cX2_paint 125 = .ok (.lload 7, 2) := by decide +kernel
theorem dX2_paint_127 : decode cX2_paint 127 = .ok (.lload 9, 2) := by decide +kernel
theorem dX2_paint_129 : decode cX2_paint 129 = .ok (.land, 1) := by decide +kernel
theorem dX2_paint_130 : decode cX2_paint 130 = .ok (.lor, 1) := by decide +kernel
theorem dX2_paint_131 : decode cX2_paint 131 = .ok (.goto 5, 3) := by decide +kernel
theorem dX2_paint_134 : decode cX2_paint 134 = .ok (.lload 11, 2) := by decide +kernel
theorem dX2_paint_136 : decode cX2_paint 136 = .ok (.lastore, 1) := by decide +kernel
theorem dX2_paint_137 : decode cX2_paint 137 = .ok (.iinc 5 1, 3) := by decide +kernel
theorem dX2_paint_140 : decode cX2_paint 140 = .ok (.goto (-116), 3) := by decide +kernel
theorem dX2_paint_143 : decode cX2_paint 143 = .ok (.return_, 1) := by decide +kernel
set_option maxRecDepth 20000 in
theorem ggX2_isDark_X2_wordOf : GoodIn wsX2_isDark wsX2_wordOf := goodIn_ca (goodIn_r _ [6, 7, 8, 9, 10, 5, 11, 12, 13, 14, 15, 16, 17] (by decide +kernel) (by decide +kernel)) (goodIn_sub (fun _ h => List.mem_cons_of_mem _ (List.mem_append_right _ h)) (by decide +kernel))
set_option maxRecDepth 20000 in
theorem gX2_isDark_X2_wordOf : GoodIn wsX2_isDark (wsV RX2 37 RX2 yX2_wordOf wsX2_wordOf) := goodIn_app (goodIn_of _ (by decide +kernel)) ggX2_isDark_X2_wordOf
theorem dX2_isDark_0 : decode cX2_isDark 0 = .ok (.iload_n 2, 1) := by decide +kernel
theorem dX2_isDark_1 : decode cX2_isDark 1 = .ok (.ifCond .lt 33, 3) := by decide +kernel
theorem dX2_isDark_4 : decode cX2_isDark 4 = .ok (.iload_n 2, 1) := by decide +kernel
theorem dX2_isDark_5 : decode cX2_isDark 5 = .ok (.aload_n 0, 1) := by decide +kernel
theorem dX2_isDark_6 : decode cX2_isDark 6 = .ok (.getfield 15, 3) := by decide +kernel
theorem dX2_isDark_9 : decode cX2_isDark 9 = .ok (.if_icmp .ge 25, 3) := by decide +kernel
theorem dX2_isDark_12 : decode cX2_isDark 12 = .ok (.aload_n 0, 1) := by decide +kernel
theorem dX2_isDark_13 : decode cX2_isDark 13 = .ok (.iload_n 1, 1) := by decide +kernel
theorem dX2_isDark_14 : decode cX2_isDark 14 = .ok (.iload_n 2, 1) := by decide +kernel
theorem dX2_isDark_15 : decode cX2_isDark 15 = .ok (.bipush 64, 2) := by decide +kernel
theorem dX2_isDark_17 : decode cX2_isDark 17 = .ok (.idiv, 1) := by decide +kernel
theorem dX2_isDark_18 : decode cX2_isDark 18 = .ok (.invokevirtual 37, 3) := by decide +kernel
theorem dX2_isDark_21 : decode cX2_isDark 21 = .ok (.iload_n 2, 1) := by decide +kernel
theorem dX2_isDark_22 : decode cX2_isDark 22 = .ok (.lushr, 1) := by decide +kernel
theorem dX2_isDark_23 : decode cX2_isDark 23 = .ok (.lconst 1, 1) := by decide +kernel
theorem dX2_isDark_24 : decode cX2_isDark 24 = .ok (.land, 1) := by decide +kernel
theorem dX2_isDark_25 : decode cX2_isDark 25 = .ok (.lconst 0, 1) := by decide +kernel
theorem dX2_isDark_26 : decode cX2_isDark 26 = .ok (.lcmp, 1) := by decide +kernel
theorem dX2_isDark_27 : decode cX2_isDark 27 = .ok (.ifCond .eq 7, 3) := by decide +kernel
theorem dX2_isDark_30 : decode cX2_isDark 30 = .ok (.iconst 1, 1) := by decide +kernel
theorem dX2_isDark_31 : decode cX2_isDark 31 = .ok (.goto 4, 3) := by decide +kernel
theorem dX2_isDark_34 : decode cX2_isDark 34 = .ok (.iconst 0, 1) := by decide +kernel
theorem dX2_isDark_35 : decode cX2_isDark 35 = .ok (.ireturn, 1) := by decide +kernel
set_option maxRecDepth 20000 in
theorem ggX2_nextOf_X2_wordOf : GoodIn wsX2_nextOf wsX2_wordOf := goodIn_ca (goodIn_r _ [14, 15, 16, 17, 18, 13, 19, 20, 28, 29, 30, 31, 32] (by decide +kernel) (by decide +kernel)) (goodIn_sub (fun _ h => List.mem_cons_of_mem _ (List.mem_append_right _ h)) (by decide +kernel))
set_option maxRecDepth 20000 in
theorem gX2_nextOf_X2_wordOf : GoodIn wsX2_nextOf (wsV RX2 37 RX2 yX2_wordOf wsX2_wordOf) := goodIn_app (goodIn_of _ (by decide +kernel)) ggX2_nextOf_X2_wordOf
set_option maxRecDepth 20000 in
theorem ggX2_nextOf_J13_bitCount_95d88 : GoodIn wsX2_nextOf wsJ13_bitCount_95d88 := goodIn_r _ [24, 25, 26, 27] (by decide +kernel) (by decide +kernel)
set_option maxRecDepth 20000 in
theorem gX2_nextOf_J13_bitCount_95d88 : GoodIn wsX2_nextOf (va_wsS RX2 51 yJ13_bitCount_95d88 wsJ13_bitCount_95d88) := goodIn_app (goodIn_of _ (by decide +kernel)) ggX2_nextOf_J13_bitCount_95d88
theorem dX2_nextOf_0 : decode cX2_nextOf 0 = .ok (.iconst 0, 1) := by decide +kernel
theorem dX2_nextOf_1 : decode cX2_nextOf 1 = .ok (.iload_n 2, 1) := by decide +kernel
theorem dX2_nextOf_2 : decode cX2_nextOf 2 = .ok (.invokestatic 43, 3) := by decide +kernel
theorem dX2_nextOf_5 : decode cX2_nextOf 5 = .ok (.istore 4, 2) := by decide +kernel
theorem dX2_nextOf_7 : decode cX2_nextOf 7 = .ok (.iload 4, 2) := by decide +kernel
theorem dX2_nextOf_9 : decode cX2_nextOf 9 = .ok (.aload_n 0, 1) := by decide +kernel
theorem dX2_nextOf_10 : decode cX2_nextOf 10 = .ok (.getfield 15, 3) := by decide +kernel
theorem dX2_nextOf_13 : decode cX2_nextOf 13 = .ok (.if_icmp .ge 90, 3) := by decide +kernel
theorem dX2_nextOf_16 : decode cX2_nextOf 16 = .ok (.aload_n 0, 1) := by decide +kernel
theorem dX2_nextOf_17 : decode cX2_nextOf 17 = .ok (.iload_n 1, 1) := by decide +kernel
theorem dX2_nextOf_18 : decode cX2_nextOf 18 = .ok (.iload 4, 2) := by decide +kernel
theorem dX2_nextOf_20 : decode cX2_nextOf 20 = .ok (.bipush 64, 2) := by decide +kernel
theorem dX2_nextOf_22 : decode cX2_nextOf 22 = .ok (.idiv, 1) := by decide +kernel
theorem dX2_nextOf_23 : decode cX2_nextOf 23 = .ok (.invokevirtual 37, 3) := by decide +kernel
theorem dX2_nextOf_26 : decode cX2_nextOf 26 = .ok (.lstore 5, 2) := by decide +kernel
theorem dX2_nextOf_28 : decode cX2_nextOf 28 = .ok (.iload_n 3, 1) := by decide +kernel
theorem dX2_nextOf_29 : decode cX2_nextOf 29 = .ok (.ifCond .eq 8, 3) := by decide +kernel
theorem dX2_nextOf_32 : decode cX2_nextOf 32 = .ok (.lload 5, 2) := by decide +kernel
theorem dX2_nextOf_34 : decode cX2_nextOf 34 = .ok (.goto 9, 3) := by decide +kernel
theorem dX2_nextOf_37 : decode cX2_nextOf 37 = .ok (.lload 5, 2) := by decide +kernel
theorem dX2_nextOf_39 : decode cX2_nextOf 39 = .ok (.ldc2_w 41, 3) := by decide +kernel
theorem dX2_nextOf_42 : decode cX2_nextOf 42 = .ok (.lxor, 1) := by decide +kernel
theorem dX2_nextOf_43 : decode cX2_nextOf 43 = .ok (.ldc2_w 41, 3) := by decide +kernel
theorem dX2_nextOf_46 : decode cX2_nextOf 46 = .ok (.iload 4, 2) := by decide +kernel
theorem dX2_nextOf_48 : decode cX2_nextOf 48 = .ok (.lshl, 1) := by decide +kernel
theorem dX2_nextOf_49 : decode cX2_nextOf 49 = .ok (.land, 1) := by decide +kernel
theorem dX2_nextOf_50 : decode cX2_nextOf 50 = .ok (.lstore 7, 2) := by decide +kernel
theorem dX2_nextOf_52 : decode cX2_nextOf 52 = .ok (.lload 7, 2) := by decide +kernel
theorem dX2_nextOf_54 : decode cX2_nextOf 54 = .ok (.lconst 0, 1) := by decide +kernel
theorem dX2_nextOf_55 : decode cX2_nextOf 55 = .ok (.lcmp, 1) := by decide +kernel
theorem dX2_nextOf_56 : decode cX2_nextOf 56 = .ok (.ifCond .eq 35, 3) := by decide +kernel
theorem dX2_nextOf_59 : decode cX2_nextOf 59 = .ok (.lload 7, 2) := by decide +kernel
theorem dX2_nextOf_61 : decode cX2_nextOf 61 = .ok (.lload 7, 2) := by decide +kernel
theorem dX2_nextOf_63 : decode cX2_nextOf 63 = .ok (.lneg, 1) := by decide +kernel
theorem dX2_nextOf_64 : decode cX2_nextOf 64 = .ok (.land, 1) := by decide +kernel
theorem dX2_nextOf_65 : decode cX2_nextOf 65 = .ok (.lconst 1, 1) := by decide +kernel
theorem dX2_nextOf_66 : decode cX2_nextOf 66 = .ok (.lsub, 1) := by decide +kernel
theorem dX2_nextOf_67 : decode cX2_nextOf 67 = .ok (.invokestatic 51, 3) := by decide +kernel
theorem dX2_nextOf_70 : decode cX2_nextOf 70 = .ok (.istore 9, 2) := by decide +kernel
theorem dX2_nextOf_72 : decode cX2_nextOf 72 = .ok (.aload_n 0, 1) := by decide +kernel
theorem dX2_nextOf_73 : decode cX2_nextOf 73 = .ok (.getfield 15, 3) := by decide +kernel
theorem dX2_nextOf_76 : decode cX2_nextOf 76 = .ok (.iload 4, 2) := by decide +kernel
theorem dX2_nextOf_78 : decode cX2_nextOf 78 = .ok (.bipush 64, 2) := by decide +kernel
theorem dX2_nextOf_80 : decode cX2_nextOf 80 = .ok (.idiv, 1) := by decide +kernel
theorem dX2_nextOf_81 : decode cX2_nextOf 81 = .ok (.bipush 64, 2) := by decide +kernel
theorem dX2_nextOf_83 : decode cX2_nextOf 83 = .ok (.imul, 1) := by decide +kernel
theorem dX2_nextOf_84 : decode cX2_nextOf 84 = .ok (.iload 9, 2) := by decide +kernel
theorem dX2_nextOf_86 : decode cX2_nextOf 86 = .ok (.iadd, 1) := by decide +kernel
theorem dX2_nextOf_87 : decode cX2_nextOf 87 = .ok (.invokestatic 48, 3) := by decide +kernel
theorem dX2_nextOf_90 : decode cX2_nextOf 90 = .ok (.ireturn, 1) := by decide +kernel
theorem dX2_nextOf_91 : decode cX2_nextOf 91 = .ok (.iload 4, 2) := by decide +kernel
theorem dX2_nextOf_93 : decode cX2_nextOf 93 = .ok (.bipush 63, 2) := by decide +kernel
theorem dX2_nextOf_95 : decode cX2_nextOf 95 = .ok (.ior, 1) := by decide +kernel
theorem dX2_nextOf_96 : decode cX2_nextOf 96 = .ok (.iconst 1, 1) := by decide +kernel
theorem dX2_nextOf_97 : decode cX2_nextOf 97 = .ok (.iadd, 1) := by decide +kernel
theorem dX2_nextOf_98 : decode cX2_nextOf 98 = .ok (.istore 4, 2) := by decide +kernel
theorem dX2_nextOf_100 : decode cX2_nextOf 100 = .ok (.goto (-93), 3) := by decide +kernel
theorem dX2_nextOf_103 : decode cX2_nextOf 103 = .ok (.aload_n 0, 1) := by decide +kernel
theorem dX2_nextOf_104 : decode cX2_nextOf 104 = .ok (.getfield 15, 3) := by decide +kernel
theorem dX2_nextOf_107 : decode cX2_nextOf 107 = .ok (.ireturn, 1) := by decide +kernel
set_option maxRecDepth 20000 in
theorem ggX2_changeTo_X2_isDark : GoodIn wsX2_changeTo wsX2_isDark := goodIn_ca (goodIn_r _ [5, 6, 7, 8, 9, 4, 10, 11, 12, 13, 14, 15, 16, 36, 37, 38, 39, 40] (by decide +kernel) (by decide +kernel)) (goodIn_sub (fun _ h => List.mem_cons_of_mem _ (List.mem_append_right _ h)) (by decide +kernel))
set_option maxRecDepth 20000 in
theorem gX2_changeTo_X2_isDark : GoodIn wsX2_changeTo (wsV RX2 57 RX2 yX2_isDark wsX2_isDark) := goodIn_app (goodIn_of _ (by decide +kernel)) ggX2_changeTo_X2_isDark
set_option maxRecDepth 20000 in
theorem ggX2_changeTo_X2_nextOf : GoodIn wsX2_changeTo wsX2_nextOf := goodIn_ca (goodIn_r _ [20, 21, 22, 23, 24, 6, 25, 26, 27, 28, 7, 8, 9, 4, 10, 11, 12, 13, 14, 15, 16, 29, 30, 31, 32, 33, 34, 35, 36, 37, 38, 39, 40] (by decide +kernel) (by decide +kernel)) (goodIn_sub (fun _ h => List.mem_cons_of_mem _ (List.mem_append_right _ h)) (by decide +kernel))
set_option maxRecDepth 20000 in
theorem gX2_changeTo_X2_nextOf : GoodIn wsX2_changeTo (wsV RX2 61 RX2 yX2_nextOf wsX2_nextOf) := goodIn_app (goodIn_of _ (by decide +kernel)) ggX2_changeTo_X2_nextOf
theorem dX2_changeTo_0 : decode cX2_changeTo 0 = .ok (.aload_n 0, 1) := by decide +kernel
theorem dX2_changeTo_1 : decode cX2_changeTo 1 = .ok (.iload_n 1, 1) := by decide +kernel
theorem dX2_changeTo_2 : decode cX2_changeTo 2 = .ok (.iload_n 2, 1) := by decide +kernel
theorem dX2_changeTo_3 : decode cX2_changeTo 3 = .ok (.iconst 1, 1) := by decide +kernel
theorem dX2_changeTo_4 : decode cX2_changeTo 4 = .ok (.isub, 1) := by decide +kernel
theorem dX2_changeTo_5 : decode cX2_changeTo 5 = .ok (.invokevirtual 57, 3) := by decide +kernel
theorem dX2_changeTo_8 : decode cX2_changeTo 8 = .ok (.iload_n 3, 1) := by decide +kernel
theorem dX2_changeTo_9 : decode cX2_changeTo 9 = .ok (.if_icmp .ne 7, 3) := by decide +kernel
theorem dX2_changeTo_12 : decode cX2_changeTo 12 = .ok (.iconst 1, 1) := by decide +kernel
theorem dX2_changeTo_13 : decode cX2_changeTo 13 = .ok (.goto 4, 3) := by decide +kernel
theorem dX2_changeTo_16 : decode cX2_changeTo 16 = .ok (.iconst 0, 1) := by decide +kernel
theorem dX2_changeTo_17 : decode cX2_changeTo 17 = .ok (.istore 4, 2) := by decide +kernel
theorem dX2_changeTo_19 : decode cX2_changeTo 19 = .ok (.aload_n 0, 1) := by decide +kernel
theorem dX2_changeTo_20 : decode cX2_changeTo 20 = .ok (.iload_n 1, 1) := by decide +kernel
theorem dX2_changeTo_21 : decode cX2_changeTo 21 = .ok (.iload 4, 2) := by decide +kernel
theorem dX2_changeTo_23 : decode cX2_changeTo 23 = .ok (.ifCond .eq 21, 3) := by decide +kernel
theorem dX2_changeTo_26 : decode cX2_changeTo 26 = .ok (.aload_n 0, 1) := by decide +kernel
theorem dX2_changeTo_27 : decode cX2_changeTo 27 = .ok (.iload_n 1, 1) := by decide +kernel
theorem dX2_changeTo_28 : decode cX2_changeTo 28 = .ok (.iload_n 2, 1) := by decide +kernel
theorem dX2_changeTo_29 : decode cX2_changeTo 29 = .ok (.iload_n 3, 1) := by decide +kernel
theorem dX2_changeTo_30 : decode cX2_changeTo 30 = .ok (.ifCond .ne 7, 3) := by decide +kernel
theorem dX2_changeTo_33 : decode cX2_changeTo 33 = .ok (.iconst 1, 1) := by decide +kernel
theorem dX2_changeTo_34 : decode cX2_changeTo 34 = .ok (.goto 4, 3) := by decide +kernel
theorem dX2_changeTo_37 : decode cX2_changeTo 37 = .ok (.iconst 0, 1) := by decide +kernel
theorem dX2_changeTo_38 : decode cX2_changeTo 38 = .ok (.invokevirtual 61, 3) := by decide +kernel
theorem dX2_changeTo_41 : decode cX2_changeTo 41 = .ok (.goto 4, 3) := by decide +kernel
theorem dX2_changeTo_44 : decode cX2_changeTo 44 = .ok (.iload_n 2, 1) := by decide +kernel
theorem dX2_changeTo_45 : decode cX2_changeTo 45 = .ok (.iload_n 3, 1) := by decide +kernel
theorem dX2_changeTo_46 : decode cX2_changeTo 46 = .ok (.invokevirtual 61, 3) := by decide +kernel
theorem dX2_changeTo_49 : decode cX2_changeTo 49 = .ok (.ireturn, 1) := by decide +kernel
set_option maxRecDepth 20000 in
theorem ggX2_countRuns_X2_nextOf : GoodIn wsX2_countRuns wsX2_nextOf := goodIn_ca (goodIn_r _ [6, 7, 8, 9, 10, 1, 11, 12, 13, 14, 15, 16, 17, 5, 18, 19, 20, 21, 22, 23, 24, 25, 26, 27, 28, 29, 30, 31, 32, 33, 34, 35, 36] (by decide +kernel) (by decide +kernel)) (goodIn_sub (fun _ h => List.mem_cons_of_mem _ (List.mem_append_right _ h)) (by decide +kernel))
set_option maxRecDepth 20000 in
theorem gX2_countRuns_X2_nextOf : GoodIn wsX2_countRuns (wsV RX2 61 RX2 yX2_nextOf wsX2_nextOf) := goodIn_app (goodIn_of _ (by decide +kernel)) ggX2_countRuns_X2_nextOf
theorem dX2_countRuns_0 : decode cX2_countRuns 0 = .ok (.iconst 0, 1) := by decide +kernel
theorem dX2_countRuns_1 : decode cX2_countRuns 1 = .ok (.istore_n 2, 1) := by decide +kernel
theorem dX2_countRuns_2 : decode cX2_countRuns 2 = .ok (.iconst 0, 1) := by decide +kernel
theorem dX2_countRuns_3 : decode cX2_countRuns 3 = .ok (.istore_n 3, 1) := by decide +kernel
theorem dX2_countRuns_4 : decode cX2_countRuns 4 = .ok (.iconst 0, 1) := by decide +kernel
theorem dX2_countRuns_5 : decode cX2_countRuns 5 = .ok (.istore 4, 2) := by decide +kernel
theorem dX2_countRuns_7 : decode cX2_countRuns 7 = .ok (.iload 4, 2) := by decide +kernel
theorem dX2_countRuns_9 : decode cX2_countRuns 9 = .ok (.aload_n 0, 1) := by decide +kernel
theorem dX2_countRuns_10 : decode cX2_countRuns 10 = .ok (.getfield 15, 3) := by decide +kernel
theorem dX2_countRuns_13 : decode cX2_countRuns 13 = .ok (.if_icmp .ge 45, 3) := by decide +kernel
theorem dX2_countRuns_16 : decode cX2_countRuns 16 = .ok (.iload_n 2, 1) := by decide +kernel
theorem dX2_countRuns_17 : decode cX2_countRuns 17 = .ok (.aload_n 0, 1) := by decide +kernel
theorem dX2_countRuns_18 : decode cX2_countRuns 18 = .ok (.getfield 15, 3) := by decide +kernel
theorem dX2_countRuns_21 : decode cX2_countRuns 21 = .ok (.if_icmp .gt 37, 3) := by decide +kernel
theorem dX2_countRuns_24 : decode cX2_countRuns 24 = .ok (.aload_n 0, 1) := by decide +kernel
theorem dX2_countRuns_25 : decode cX2_countRuns 25 = .ok (.iload_n 1, 1) := by decide +kernel
theorem dX2_countRuns_26 : decode cX2_countRuns 26 = .ok (.iload 4, 2) := by decide +kernel
theorem dX2_countRuns_28 : decode cX2_countRuns 28 = .ok (.iload_n 3, 1) := by decide +kernel
theorem dX2_countRuns_29 : decode cX2_countRuns 29 = .ok (.ifCond .ne 7, 3) := by decide +kernel
theorem dX2_countRuns_32 : decode cX2_countRuns 32 = .ok (.iconst 1, 1) := by decide +kernel
theorem dX2_countRuns_33 : decode cX2_countRuns 33 = .ok (.goto 4, 3) := by decide +kernel
theorem dX2_countRuns_36 : decode cX2_countRuns 36 = .ok (.iconst 0, 1) := by decide +kernel
theorem dX2_countRuns_37 : decode cX2_countRuns 37 = .ok (.invokevirtual 61, 3) := by decide +kernel
theorem dX2_countRuns_40 : decode cX2_countRuns 40 = .ok (.istore 4, 2) := by decide +kernel
theorem dX2_countRuns_42 : decode cX2_countRuns 42 = .ok (.iload_n 3, 1) := by decide +kernel
theorem dX2_countRuns_43 : decode cX2_countRuns 43 = .ok (.ifCond .ne 7, 3) := by decide +kernel
theorem dX2_countRuns_46 : decode cX2_countRuns 46 = .ok (.iconst 1, 1) := by decide +kernel
theorem dX2_countRuns_47 : decode cX2_countRuns 47 = .ok (.goto 4, 3) := by decide +kernel
theorem dX2_countRuns_50 : decode cX2_countRuns 50 = .ok (.iconst 0, 1) := by decide +kernel
theorem dX2_countRuns_51 : decode cX2_countRuns 51 = .ok (.istore_n 3, 1) := by decide +kernel
theorem dX2_countRuns_52 : decode cX2_countRuns 52 = .ok (.iinc 2 1, 3) := by decide +kernel
theorem dX2_countRuns_55 : decode cX2_countRuns 55 = .ok (.goto (-48), 3) := by decide +kernel
theorem dX2_countRuns_58 : decode cX2_countRuns 58 = .ok (.iload_n 2, 1) := by decide +kernel
theorem dX2_countRuns_59 : decode cX2_countRuns 59 = .ok (.ireturn, 1) := by decide +kernel
set_option maxRecDepth 20000 in
theorem ggX2_lengthOfRun_X2_nextOf : GoodIn wsX2_lengthOfRun wsX2_nextOf := goodIn_ca (goodIn_r _ [6, 7, 8, 9, 10, 1, 11, 12, 13, 14, 15, 16, 17, 5, 18, 19, 20, 21, 22, 23, 24, 25, 26, 27, 28, 29, 30, 31, 32, 33, 34, 35, 36] (by decide +kernel) (by decide +kernel)) (goodIn_sub (fun _ h => List.mem_cons_of_mem _ (List.mem_append_right _ h)) (by decide +kernel))
set_option maxRecDepth 20000 in
theorem gX2_lengthOfRun_X2_nextOf : GoodIn wsX2_lengthOfRun (wsV RX2 61 RX2 yX2_nextOf wsX2_nextOf) := goodIn_app (goodIn_of _ (by decide +kernel)) ggX2_lengthOfRun_X2_nextOf
theorem dX2_lengthOfRun_0 : decode cX2_lengthOfRun 0 = .ok (.iconst 0, 1) := by decide +kernel
theorem dX2_lengthOfRun_1 : decode cX2_lengthOfRun 1 = .ok (.istore_n 3, 1) := by decide +kernel
theorem dX2_lengthOfRun_2 : decode cX2_lengthOfRun 2 = .ok (.iconst 0, 1) := by decide +kernel
theorem dX2_lengthOfRun_3 : decode cX2_lengthOfRun 3 = .ok (.istore 4, 2) := by decide +kernel
theorem dX2_lengthOfRun_5 : decode cX2_lengthOfRun 5 = .ok (.iconst 0, 1) := by decide +kernel
theorem dX2_lengthOfRun_6 : decode cX2_lengthOfRun 6 = .ok (.istore 5, 2) := by decide +kernel
theorem dX2_lengthOfRun_8 : decode cX2_lengthOfRun 8 = .ok (.iload_n 3, 1) := by decide +kernel
theorem dX2_lengthOfRun_9 : decode cX2_lengthOfRun 9 = .ok (.aload_n 0, 1) := by decide +kernel
theorem dX2_lengthOfRun_10 : decode cX2_lengthOfRun 10 = .ok (.getfield 15, 3) := by decide +kernel
theorem dX2_lengthOfRun_13 : decode cX2_lengthOfRun 13 = .ok (.if_icmp .ge 62, 3) := by decide +kernel
theorem dX2_lengthOfRun_16 : decode cX2_lengthOfRun 16 = .ok (.iload 5, 2) := by decide +kernel
theorem dX2_lengthOfRun_18 : decode cX2_lengthOfRun 18 = .ok (.aload_n 0, 1) := by decide +kernel
theorem dX2_lengthOfRun_19 : decode cX2_lengthOfRun 19 = .ok (.getfield 15, 3) := by decide +kernel
theorem dX2_lengthOfRun_22 : decode cX2_lengthOfRun 22 = .ok (.if_icmp .gt 53, 3) := by decide +kernel
theorem dX2_lengthOfRun_25 : decode cX2_lengthOfRun 25 = .ok (.aload_n 0, 1) := by decide +kernel
theorem dX2_lengthOfRun_26 : decode cX2_lengthOfRun 26 = .ok (.iload_n 1, 1) := by decide +kernel
theorem dX2_lengthOfRun_27 : decode cX2_lengthOfRun 27 = .ok (.iload_n 3, 1) := by decide +kernel
theorem dX2_lengthOfRun_28 : decode cX2_lengthOfRun 28 = .ok (.iload 4, 2) := by decide +kernel
theorem dX2_lengthOfRun_30 : decode cX2_lengthOfRun 30 = .ok (.ifCond .ne 7, 3) := by decide +kernel
theorem dX2_lengthOfRun_33 : decode cX2_lengthOfRun 33 = .ok (.iconst 1, 1) := by decide +kernel
theorem dX2_lengthOfRun_34 : decode cX2_lengthOfRun 34 = .ok (.goto 4, 3) := by decide +kernel
theorem dX2_lengthOfRun_37 : decode cX2_lengthOfRun 37 = .ok (.iconst 0, 1) := by decide +kernel
theorem dX2_lengthOfRun_38 : decode cX2_lengthOfRun 38 = .ok (.invokevirtual 61, 3) := by decide +kernel
theorem dX2_lengthOfRun_41 : decode cX2_lengthOfRun 41 = .ok (.istore 6, 2) := by decide +kernel
theorem dX2_lengthOfRun_43 : decode cX2_lengthOfRun 43 = .ok (.iload 5, 2) := by decide +kernel
theorem dX2_lengthOfRun_45 : decode cX2_lengthOfRun 45 = .ok (.iload_n 2, 1) := by decide +kernel
theorem dX2_lengthOfRun_46 : decode cX2_lengthOfRun 46 = .ok (.if_icmp .ne 8, 3) := by decide +kernel
theorem dX2_lengthOfRun_49 : decode cX2_lengthOfRun 49 = .ok (.iload 6, 2) := by decide +kernel
theorem dX2_lengthOfRun_51 : decode cX2_lengthOfRun 51 = .ok (.iload_n 3, 1) := by decide +kernel
theorem dX2_lengthOfRun_52 : decode cX2_lengthOfRun 52 = .ok (.isub, 1) := by decide +kernel
theorem dX2_lengthOfRun_53 : decode cX2_lengthOfRun 53 = .ok (.ireturn, 1) := by decide +kernel
theorem dX2_lengthOfRun_54 : decode cX2_lengthOfRun 54 = .ok (.iload 6, 2) := by decide +kernel
theorem dX2_lengthOfRun_56 : decode cX2_lengthOfRun 56 = .ok (.istore_n 3, 1) := by decide +kernel
theorem dX2_lengthOfRun_57 : decode cX2_lengthOfRun 57 = .ok (.iload 4, 2) := by decide +kernel
theorem dX2_lengthOfRun_59 : decode cX2_lengthOfRun 59 = .ok (.ifCond .ne 7, 3) := by decide +kernel
theorem dX2_lengthOfRun_62 : decode cX2_lengthOfRun 62 = .ok (.iconst 1, 1) := by decide +kernel
theorem dX2_lengthOfRun_63 : decode cX2_lengthOfRun 63 = .ok (.goto 4, 3) := by decide +kernel
theorem dX2_lengthOfRun_66 : decode cX2_lengthOfRun 66 = .ok (.iconst 0, 1) := by decide +kernel
theorem dX2_lengthOfRun_67 : decode cX2_lengthOfRun 67 = .ok (.istore 4, 2) := by decide +kernel
theorem dX2_lengthOfRun_69 : decode cX2_lengthOfRun 69 = .ok (.iinc 5 1, 3) := by decide +kernel
theorem dX2_lengthOfRun_72 : decode cX2_lengthOfRun 72 = .ok (.goto (-64), 3) := by decide +kernel
theorem dX2_lengthOfRun_75 : decode cX2_lengthOfRun 75 = .ok (.bipush (-2), 2) := by decide +kernel
theorem dX2_lengthOfRun_77 : decode cX2_lengthOfRun 77 = .ok (.ireturn, 1) := by decide +kernel
theorem dX2_indexOf_0 : decode cX2_indexOf 0 = .ok (.iload_n 1, 1) := by decide +kernel
theorem dX2_indexOf_1 : decode cX2_indexOf 1 = .ok (.ifCond .lt 25, 3) := by decide +kernel
theorem dX2_indexOf_4 : decode cX2_indexOf 4 = .ok (.iload_n 1, 1) := by decide +kernel
theorem dX2_indexOf_5 : decode cX2_indexOf 5 = .ok (.bipush 24, 2) := by decide +kernel
theorem dX2_indexOf_7 : decode cX2_indexOf 7 = .ok (.if_icmp .ge 19, 3) := by decide +kernel
theorem dX2_indexOf_10 : decode cX2_indexOf 10 = .ok (.iload_n 2, 1) := by decide +kernel
theorem dX2_indexOf_11 : decode cX2_indexOf 11 = .ok (.ifCond .lt 15, 3) := by decide +kernel
theorem dX2_indexOf_14 : decode cX2_indexOf 14 = .ok (.iload_n 2, 1) := by decide +kernel
theorem dX2_indexOf_15 : decode cX2_indexOf 15 = .ok (.aload_n 0, 1) := by decide +kernel
theorem dX2_indexOf_16 : decode cX2_indexOf 16 = .ok (.getfield 19, 3) := by decide +kernel
theorem dX2_indexOf_19 : decode cX2_indexOf 19 = .ok (.if_icmp .ge 7, 3) := by decide +kernel
theorem dX2_indexOf_22 : decode cX2_indexOf 22 = .ok (.iconst 1, 1) := by decide +kernel
theorem dX2_indexOf_23 : decode cX2_indexOf 23 = .ok (.goto 4, 3) := by decide +kernel
theorem dX2_indexOf_26 : decode cX2_indexOf 26 = .ok (.iconst 0, 1) := by decide +kernel
theorem dX2_indexOf_27 : decode cX2_indexOf 27 = .ok (.istore_n 3, 1) := by decide +kernel
theorem dX2_indexOf_28 : decode cX2_indexOf 28 = .ok (.iload_n 3, 1) := by decide +kernel
theorem dX2_indexOf_29 : decode cX2_indexOf 29 = .ok (.ifCond .eq 14, 3) := by decide +kernel
theorem dX2_indexOf_32 : decode cX2_indexOf 32 = .ok (.iload_n 1, 1) := by decide +kernel
theorem dX2_indexOf_33 : decode cX2_indexOf 33 = .ok (.aload_n 0, 1) := by decide +kernel
theorem dX2_indexOf_34 : decode cX2_indexOf 34 = .ok (.getfield 19, 3) := by decide +kernel
theorem dX2_indexOf_37 : decode cX2_indexOf 37 = .ok (.imul, 1) := by decide +kernel
theorem dX2_indexOf_38 : decode cX2_indexOf 38 = .ok (.iload_n 2, 1) := by decide +kernel
theorem dX2_indexOf_39 : decode cX2_indexOf 39 = .ok (.iadd, 1) := by decide +kernel
theorem dX2_indexOf_40 : decode cX2_indexOf 40 = .ok (.goto 5, 3) := by decide +kernel
theorem dX2_indexOf_43 : decode cX2_indexOf 43 = .ok (.bipush (-2), 2) := by decide +kernel
theorem dX2_indexOf_45 : decode cX2_indexOf 45 = .ok (.ireturn, 1) := by decide +kernel
set_option maxRecDepth 20000 in
theorem ggX2_wordOf_X2_indexOf : GoodIn wsX2_wordOf wsX2_indexOf := goodIn_r _ [6, 7, 8, 9, 10, 11, 12] (by decide +kernel) (by decide +kernel)
set_option maxRecDepth 20000 in
theorem gX2_wordOf_X2_indexOf : GoodIn wsX2_wordOf (wsV RX2 33 RX2 yX2_indexOf wsX2_indexOf) := goodIn_app (goodIn_of _ (by decide +kernel)) ggX2_wordOf_X2_indexOf
theorem dX2_wordOf_0 : decode cX2_wordOf 0 = .ok (.aload_n 0, 1) := by decide +kernel
theorem dX2_wordOf_1 : decode cX2_wordOf 1 = .ok (.iload_n 1, 1) := by decide +kernel
theorem dX2_wordOf_2 : decode cX2_wordOf 2 = .ok (.iload_n 2, 1) := by decide +kernel
theorem dX2_wordOf_3 : decode cX2_wordOf 3 = .ok (.invokevirtual 33, 3) := by decide +kernel
theorem dX2_wordOf_6 : decode cX2_wordOf 6 = .ok (.istore_n 3, 1) := by decide +kernel
theorem dX2_wordOf_7 : decode cX2_wordOf 7 = .ok (.iload_n 3, 1) := by decide +kernel
theorem dX2_wordOf_8 : decode cX2_wordOf 8 = .ok (.ifCond .lt 21, 3) := by decide +kernel
theorem dX2_wordOf_11 : decode cX2_wordOf 11 = .ok (.iload_n 3, 1) := by decide +kernel
theorem dX2_wordOf_12 : decode cX2_wordOf 12 = .ok (.aload_n 0, 1) := by decide +kernel
theorem dX2_wordOf_13 : decode cX2_wordOf 13 = .ok (.getfield 22, 3) := by decide +kernel
theorem dX2_wordOf_16 : decode cX2_wordOf 16 = .ok (.arraylength, 1) := by decide +kernel
theorem dX2_wordOf_17 : decode cX2_wordOf 17 = .ok (.if_icmp .ge 12, 3) := by decide +kernel
theorem dX2_wordOf_20 : decode cX2_wordOf 20 = .ok (.aload_n 0, 1) := by decide +kernel
theorem dX2_wordOf_21 : decode cX2_wordOf 21 = .ok (.getfield 22, 3) := by decide +kernel
theorem dX2_wordOf_24 : decode cX2_wordOf 24 = .ok (.iload_n 3, 1) := by decide +kernel
theorem dX2_wordOf_25 : decode cX2_wordOf 25 = .ok (.laload, 1) := by decide +kernel
theorem dX2_wordOf_26 : decode cX2_wordOf 26 = .ok (.goto 4, 3) := by decide +kernel
theorem dX2_wordOf_29 : decode cX2_wordOf 29 = .ok (.lconst 0, 1) := by decide +kernel
theorem dX2_wordOf_30 : decode cX2_wordOf 30 = .ok (.lreturn, 1) := by decide +kernel
