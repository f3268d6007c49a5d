theorem dX8_readPlain_0 : decode cX8_readPlain 0 = .ok (.iconst 0, 1) := by decide +kernel
theorem dX8_readPlain_1 : decode cX8_readPlain 1 = .ok (.istore_n 2, 1) := by decide +kernel
theorem dX8_readPlain_2 : decode cX8_readPlain 2 = .ok (.iconst 0, 1) := by decide +kernel
theorem dX8_readPlain_3 : decode cX8_readPlain 3 = .ok (.istore_n 3, 1) := by decide +kernel
theorem dX8_readPlain_4 : decode cX8_readPlain 4 = .ok (.iload_n 2, 1) := by decide +kernel
theorem dX8_readPlain_5 : decode cX8_readPlain 5 = .ok (.aload_n 0, 1) := by decide +kernel
theorem dX8_readPlain_6 : decode cX8_readPlain 6 = .ok (.getfield 37, 3) := by decide +kernel
theorem dX8_readPlain_9 : decode cX8_readPlain 9 = .ok (.if_icmp .ge 109, 3) := by decide +kernel
theorem dX8_readPlain_12 : decode cX8_readPlain 12 = .ok (.aload_n 0, 1) := by decide +kernel
theorem dX8_readPlain_13 : decode cX8_readPlain 13 = .ok (.iload_n 3, 1) := by decide +kernel
theorem dX8_readPlain_14 : decode cX8_readPlain 14 = .ok (.invokevirtual 186, 3) := by decide +kernel
theorem dX8_readPlain_17 : decode cX8_readPlain 17 = .ok (.istore 4, 2) := by decide +kernel
theorem dX8_readPlain_19 : decode cX8_readPlain 19 = .ok (.iload 4, 2) := by decide +kernel
theorem dX8_readPlain_21 : decode cX8_readPlain 21 = .ok (.bipush (-2), 2) := by decide +kernel
theorem dX8_readPlain_23 : decode cX8_readPlain 23 = .ok (.if_icmp .ne 5, 3) := by decide +kernel
theorem dX8_readPlain_26 : decode cX8_readPlain 26 = .ok (.iconst 0, 1) := by decide +kernel
theorem dX8_readPlain_27 : decode cX8_readPlain 27 = .ok (.ireturn, 1) := by decide +kernel
theorem dX8_readPlain_28 : decode cX8_readPlain 28 = .ok (.iload 4, 2) := by decide +kernel
theorem dX8_readPlain_30 : decode cX8_readPlain 30 = .ok (.iconst (-1), 1) := by decide +kernel
theorem dX8_readPlain_31 : decode cX8_readPlain 31 = .ok (.if_icmp .ne 64, 3) := by decide +kernel
theorem dX8_readPlain_34 : decode cX8_readPlain 34 = .ok (.aload_n 0, 1) := by decide +kernel
theorem dX8_readPlain_35 : decode cX8_readPlain 35 = .ok (.invokevirtual 142, 3) := by decide +kernel
theorem dX8_readPlain_38 : decode cX8_readPlain 38 = .ok (.ifCond .eq 14, 3) := by decide +kernel
theorem dX8_readPlain_41 : decode cX8_readPlain 41 = .ok (.aload_n 0, 1) := by decide +kernel
theorem dX8_readPlain_42 : decode cX8_readPlain 42 = .ok (.getfield 177, 3) := by decide +kernel
theorem dX8_readPlain_45 : decode cX8_readPlain 45 = .ok (.ifCond .ne 7, 3) := by decide +kernel
theorem dX8_readPlain_48 : decode cX8_readPlain 48 = .ok (.iconst 1, 1) := by decide +kernel
theorem dX8_readPlain_49 : decode cX8_readPlain 49 = .ok (.goto 4, 3) := by decide +kernel
theorem dX8_readPlain_52 : decode cX8_readPlain 52 = .ok (.iconst 0, 1) := by decide +kernel
theorem dX8_readPlain_53 : decode cX8_readPlain 53 = .ok (.istore 5, 2) := by decide +kernel
theorem dX8_readPlain_55 : decode cX8_readPlain 55 = .ok (.aload_n 0, 1) := by decide +kernel
theorem dX8_readPlain_56 : decode cX8_readPlain 56 = .ok (.iload 5, 2) := by decide +kernel
theorem dX8_readPlain_58 : decode cX8_readPlain 58 = .ok (.ifCond .eq 14, 3) := by decide +kernel
theorem dX8_readPlain_61 : decode cX8_readPlain 61 = .ok (.aload_n 0, 1) := by decide +kernel
theorem dX8_readPlain_62 : decode cX8_readPlain 62 = .ok (.invokevirtual 190, 3) := by decide +kernel
theorem dX8_readPlain_65 : decode cX8_readPlain 65 = .ok (.ifCond .eq 7, 3) := by decide +kernel
theorem dX8_readPlain_68 : decode cX8_readPlain 68 = .ok (.iconst 2, 1) := by decide +kernel
theorem dX8_readPlain_69 : decode cX8_readPlain 69 = .ok (.goto 4, 3) := by decide +kernel
theorem dX8_readPlain_72 : decode cX8_readPlain 72 = .ok (.iconst 3, 1) := by decide +kernel
theorem dX8_readPlain_73 : decode cX8_readPlain 73 = .ok (.putfield 183, 3) := by decide +kernel
theorem dX8_readPlain_76 : decode cX8_readPlain 76 = .ok (.iload 5, 2) := by decide +kernel
theorem dX8_readPlain_78 : decode cX8_readPlain 78 = .ok (.ifCond .eq 11, 3) := by decide +kernel
theorem dX8_readPlain_81 : decode cX8_readPlain 81 = .ok (.aload_n 0, 1) := by decide +kernel
theorem dX8_readPlain_82 : decode cX8_readPlain 82 = .ok (.invokevirtual 171, 3) := by decide +kernel
theorem dX8_readPlain_85 : decode cX8_readPlain 85 = .ok (.iconst (-1), 1) := by decide +kernel
theorem dX8_readPlain_86 : decode cX8_readPlain 86 = .ok (.if_icmp .eq 7, 3) := by decide +kernel
theorem dX8_readPlain_89 : decode cX8_readPlain 89 = .ok (.iconst 1, 1) := by decide +kernel
theorem dX8_readPlain_90 : decode cX8_readPlain 90 = .ok (.goto 4, 3) := by decide +kernel
theorem dX8_readPlain_93 : decode cX8_readPlain 93 = .ok (.iconst 0, 1) := by decide +kernel
theorem dX8_readPlain_94 : decode cX8_readPlain 94 = .ok (.ireturn, 1) := by decide +kernel
theorem dX8_readPlain_95 : decode cX8_readPlain 95 = .ok (.aload_n 0, 1) := by decide +kernel
theorem dX8_readPlain_96 : decode cX8_readPlain 96 = .ok (.iload_n 1, 1) := by decide +kernel
theorem dX8_readPlain_97 : decode cX8_readPlain 97 = .ok (.iload_n 2, 1) := by decide +kernel
theorem dX8_readPlain_98 : decode cX8_readPlain 98 = .ok (.iload 4, 2) := by decide +kernel
theorem dX8_readPlain_100 : decode cX8_readPlain 100 = .ok (.iload_n 3, 1) := by decide +kernel
theorem dX8_readPlain_101 : decode cX8_readPlain 101 = .ok (.invokevirtual 193, 3) := by decide +kernel
theorem dX8_readPlain_104 : decode cX8_readPlain 104 = .ok (.istore_n 2, 1) := by decide +kernel
theorem dX8_readPlain_105 : decode cX8_readPlain 105 = .ok (.iload_n 3, 1) := by decide +kernel
theorem dX8_readPlain_106 : decode cX8_readPlain 106 = .ok (.ifCond .ne 7, 3) := by decide +kernel
theorem dX8_readPlain_109 : decode cX8_readPlain 109 = .ok (.iconst 1, 1) := by decide +kernel
theorem dX8_readPlain_110 : decode cX8_readPlain 110 = .ok (.goto 4, 3) := by decide +kernel
theorem dX8_readPlain_113 : decode cX8_readPlain 113 = .ok (.iconst 0, 1) := by decide +kernel
theorem dX8_readPlain_114 : decode cX8_readPlain 114 = .ok (.istore_n 3, 1) := by decide +kernel
theorem dX8_readPlain_115 : decode cX8_readPlain 115 = .ok (.goto (-111), 3) := by decide +kernel
theorem dX8_readPlain_118 : decode cX8_readPlain 118 = .ok (.iconst 1, 1) := by decide +kernel
theorem dX8_readPlain_119 : decode cX8_readPlain 119 = .ok (.ireturn, 1) := by decide +kernel
set_option maxRecDepth 20000 in
theorem ggX8_takeStep_X8_begins : GoodIn wsX8_takeStep wsX8_begins := goodIn_ca (goodIn_r _ [6, 1, 7, 8, 9, 5, 10, 11, 12, 13, 14, 15, 16, 17, 18, 19, 20, 21, 22, 23, 24, 25, 26, 27, 28, 29, 30, 31, 32, 33, 34, 35, 36, 37, 38] (by decide +kernel) (by decide +kernel)) (goodIn_sub (fun _ h => List.mem_cons_of_mem _ (List.mem_append_right _ h)) (by decide +kernel))
set_option maxRecDepth 20000 in
theorem gX8_takeStep_X8_begins : GoodIn wsX8_takeStep (wsV RX8 174 RX8 yX8_begins wsX8_begins) := goodIn_app (goodIn_of _ (by decide +kernel)) ggX8_takeStep_X8_begins
set_option maxRecDepth 20000 in
theorem ggX8_takeStep_X8_left : GoodIn wsX8_takeStep wsX8_left := goodIn_r _ [10, 11, 1, 17, 18, 19, 20, 21, 22, 23, 24, 25, 26, 27, 28, 29, 30, 31, 32, 33, 34, 35, 36, 37, 38] (by decide +kernel) (by decide +kernel)
set_option maxRecDepth 20000 in
theorem gX8_takeStep_X8_left : GoodIn wsX8_takeStep (wsV RX8 164 RX8 yX8_left wsX8_left) := goodIn_app (goodIn_of _ (by decide +kernel)) ggX8_takeStep_X8_left
theorem dX8_takeStep_0 : decode cX8_takeStep 0 = .ok (.bipush (-3), 2) := by decide +kernel
theorem dX8_takeStep_2 : decode cX8_takeStep 2 = .ok (.istore_n 1, 1) := by decide +kernel
theorem dX8_takeStep_3 : decode cX8_takeStep 3 = .ok (.iload_n 1, 1) := by decide +kernel
theorem dX8_takeStep_4 : decode cX8_takeStep 4 = .ok (.iconst 5, 1) := by decide +kernel
theorem dX8_takeStep_5 : decode cX8_takeStep 5 = .ok (.if_icmp .gt 108, 3) := by decide +kernel
theorem dX8_takeStep_8 : decode cX8_takeStep 8 = .ok (.iload_n 1, 1) := by decide +kernel
theorem dX8_takeStep_9 : decode cX8_takeStep 9 = .ok (.ifCond .ne 7, 3) := by decide +kernel
theorem dX8_takeStep_12 : decode cX8_takeStep 12 = .ok (.iconst 1, 1) := by decide +kernel
theorem dX8_takeStep_13 : decode cX8_takeStep 13 = .ok (.goto 49, 3) := by decide +kernel
theorem dX8_takeStep_16 : decode cX8_takeStep 16 = .ok (.iload_n 1, 1) := by decide +kernel
theorem dX8_takeStep_17 : decode cX8_takeStep 17 = .ok (.iconst 4, 1) := by decide +kernel
theorem dX8_takeStep_18 : decode cX8_takeStep 18 = .ok (.if_icmp .ne 7, 3) := by decide +kernel
theorem dX8_takeStep_21 : decode cX8_takeStep 21 = .ok (.iconst 4, 1) := by decide +kernel
theorem dX8_takeStep_22 : decode cX8_takeStep 22 = .ok (.goto 40, 3) := by decide +kernel
theorem dX8_takeStep_25 : decode cX8_takeStep 25 = .ok (.iload_n 1, 1) := by decide +kernel
theorem dX8_takeStep_26 : decode cX8_takeStep 26 = .ok (.iconst 5, 1) := by decide +kernel
theorem dX8_takeStep_27 : decode cX8_takeStep 27 = .ok (.if_icmp .eq 13, 3) := by decide +kernel
theorem dX8_takeStep_30 : decode cX8_takeStep 30 = .ok (.iload_n 1, 1) := by decide +kernel
theorem dX8_takeStep_31 : decode cX8_takeStep 31 = .ok (.iconst 1, 1) := by decide +kernel
theorem dX8_takeStep_32 : decode cX8_takeStep 32 = .ok (.if_icmp .eq 8, 3) := by decide +kernel
theorem dX8_takeStep_35 : decode cX8_takeStep 35 = .ok (.iload_n 1, 1) := by decide +kernel
theorem dX8_takeStep_36 : decode cX8_takeStep 36 = .ok (.iconst (-1), 1) := by decide +kernel
theorem dX8_takeStep_37 : decode cX8_takeStep 37 = .ok (.if_icmp .ne 7, 3) := by decide +kernel
theorem dX8_takeStep_40 : decode cX8_takeStep 40 = .ok (.iconst 3, 1) := by decide +kernel
theorem dX8_takeStep_41 : decode cX8_takeStep 41 = .ok (.goto 21, 3) := by decide +kernel
theorem dX8_takeStep_44 : decode cX8_takeStep 44 = .ok (.iload_n 1, 1) := by decide +kernel
theorem dX8_takeStep_45 : decode cX8_takeStep 45 = .ok (.iconst 2, 1) := by decide +kernel
theorem dX8_takeStep_46 : decode cX8_takeStep 46 = .ok (.if_icmp .eq 9, 3) := by decide +kernel
theorem dX8_takeStep_49 : decode cX8_takeStep 49 = .ok (.iload_n 1, 1) := by decide +kernel
theorem dX8_takeStep_50 : decode cX8_takeStep 50 = .ok (.bipush (-2), 2) := by decide +kernel
theorem dX8_takeStep_52 : decode cX8_takeStep 52 = .ok (.if_icmp .ne 8, 3) := by decide +kernel
theorem dX8_takeStep_55 : decode cX8_takeStep 55 = .ok (.bipush 6, 2) := by decide +kernel
theorem dX8_takeStep_57 : decode cX8_takeStep 57 = .ok (.goto 5, 3) := by decide +kernel
theorem dX8_takeStep_60 : decode cX8_takeStep 60 = .ok (.bipush 7, 2) := by decide +kernel
theorem dX8_takeStep_62 : decode cX8_takeStep 62 = .ok (.istore_n 2, 1) := by decide +kernel
theorem dX8_takeStep_63 : decode cX8_takeStep 63 = .ok (.iload_n 1, 1) := by decide +kernel
theorem dX8_takeStep_64 : decode cX8_takeStep 64 = .ok (.ifCond .eq 8, 3) := by decide +kernel
theorem dX8_takeStep_67 : decode cX8_takeStep 67 = .ok (.iload_n 1, 1) := by decide +kernel
theorem dX8_takeStep_68 : decode cX8_takeStep 68 = .ok (.iconst 3, 1) := by decide +kernel
theorem dX8_takeStep_69 : decode cX8_takeStep 69 = .ok (.if_icmp .le 7, 3) := by decide +kernel
theorem dX8_takeStep_72 : decode cX8_takeStep 72 = .ok (.iconst 1, 1) := by decide +kernel
theorem dX8_takeStep_73 : decode cX8_takeStep 73 = .ok (.goto 12, 3) := by decide +kernel
theorem dX8_takeStep_76 : decode cX8_takeStep 76 = .ok (.iload_n 1, 1) := by decide +kernel
theorem dX8_takeStep_77 : decode cX8_takeStep 77 = .ok (.ifCond .le 7, 3) := by decide +kernel
theorem dX8_takeStep_80 : decode cX8_takeStep 80 = .ok (.iconst 3, 1) := by decide +kernel
theorem dX8_takeStep_81 : decode cX8_takeStep 81 = .ok (.goto 4, 3) := by decide +kernel
theorem dX8_takeStep_84 : decode cX8_takeStep 84 = .ok (.iconst 2, 1) := by decide +kernel
theorem dX8_takeStep_85 : decode cX8_takeStep 85 = .ok (.istore_n 3, 1) := by decide +kernel
theorem dX8_takeStep_86 : decode cX8_takeStep 86 = .ok (.aload_n 0, 1) := by decide +kernel
theorem dX8_takeStep_87 : decode cX8_takeStep 87 = .ok (.iload_n 3, 1) := by decide +kernel
theorem dX8_takeStep_88 : decode cX8_takeStep 88 = .ok (.iload_n 2, 1) := by decide +kernel
theorem dX8_takeStep_89 : decode cX8_takeStep 89 = .ok (.invokevirtual 174, 3) := by decide +kernel
theorem dX8_takeStep_92 : decode cX8_takeStep 92 = .ok (.ifCond .eq 15, 3) := by decide +kernel
theorem dX8_takeStep_95 : decode cX8_takeStep 95 = .ok (.aload_n 0, 1) := by decide +kernel
theorem dX8_takeStep_96 : decode cX8_takeStep 96 = .ok (.aload_n 0, 1) := by decide +kernel
theorem dX8_takeStep_97 : decode cX8_takeStep 97 = .ok (.getfield 69, 3) := by decide +kernel
theorem dX8_takeStep_100 : decode cX8_takeStep 100 = .ok (.iload_n 2, 1) := by decide +kernel
theorem dX8_takeStep_101 : decode cX8_takeStep 101 = .ok (.iadd, 1) := by decide +kernel
theorem dX8_takeStep_102 : decode cX8_takeStep 102 = .ok (.putfield 69, 3) := by decide +kernel
theorem dX8_takeStep_105 : decode cX8_takeStep 105 = .ok (.iload_n 1, 1) := by decide +kernel
theorem dX8_takeStep_106 : decode cX8_takeStep 106 = .ok (.ireturn, 1) := by decide +kernel
theorem dX8_takeStep_107 : decode cX8_takeStep 107 = .ok (.iinc 1 1, 3) := by decide +kernel
theorem dX8_takeStep_110 : decode cX8_takeStep 110 = .ok (.goto (-107), 3) := by decide +kernel
theorem dX8_takeStep_113 : decode cX8_takeStep 113 = .ok (.aload_n 0, 1) := by decide +kernel
theorem dX8_takeStep_114 : decode cX8_takeStep 114 = .ok (.invokevirtual 164, 3) := by decide +kernel
theorem dX8_takeStep_117 : decode cX8_takeStep 117 = .ok (.bipush 7, 2) := by decide +kernel
theorem dX8_takeStep_119 : decode cX8_takeStep 119 = .ok (.if_icmp .ge 8, 3) := by decide +kernel
theorem dX8_takeStep_122 : decode cX8_takeStep 122 = .ok (.bipush 7, 2) := by decide +kernel
theorem dX8_takeStep_124 : decode cX8_takeStep 124 = .ok (.goto 5, 3) := by decide +kernel
theorem dX8_takeStep_127 : decode cX8_takeStep 127 = .ok (.bipush 6, 2) := by decide +kernel
theorem dX8_takeStep_129 : decode cX8_takeStep 129 = .ok (.ireturn, 1) := by decide +kernel
set_option maxRecDepth 20000 in
theorem ggX8_readAcross_X8_takeRun : GoodIn wsX8_readAcross wsX8_takeRun := goodIn_ca (goodIn_r _ [8, 9, 10, 11, 12, 7, 13, 14, 15, 16, 17, 18, 19, 20, 21, 22, 23, 24, 25, 26, 27, 28, 29, 30, 31, 32, 33, 44, 45, 46, 47, 48, 49, 50, 51, 52, 53, 54, 55, 56, 57, 58, 59, 60, 61, 62, 63, 64, 65] (by decide +kernel) (by decide +kernel)) (goodIn_sub (fun _ h => List.mem_cons_of_mem _ (List.mem_append_right _ h)) (by decide +kernel))
set_option maxRecDepth 20000 in
theorem gX8_readAcross_X8_takeRun : GoodIn wsX8_readAcross (wsV RX8 186 RX8 yX8_takeRun wsX8_takeRun) := goodIn_app (goodIn_of _ (by decide +kernel)) ggX8_readAcross_X8_takeRun
set_option maxRecDepth 20000 in
theorem ggX8_readAcross_X8_paintRun : GoodIn wsX8_readAcross wsX8_paintRun := goodIn_ca (goodIn_r _ [37, 38, 2, 39, 40, 41, 7, 42, 43, 44, 45, 46, 47, 48, 49, 50, 51, 52, 53, 54, 55, 56, 57, 58, 59, 60, 61, 62, 63, 64, 65] (by decide +kernel) (by decide +kernel)) (goodIn_sub (fun _ h => List.mem_cons_of_mem _ (List.mem_append_right _ h)) (by decide +kernel))
set_option maxRecDepth 20000 in
theorem gX8_readAcross_X8_paintRun : GoodIn wsX8_readAcross (wsV RX8 193 RX8 yX8_paintRun wsX8_paintRun) := goodIn_app (goodIn_of _ (by decide +kernel)) ggX8_readAcross_X8_paintRun
theorem dX8_readAcross_0 : decode cX8_readAcross 0 = .ok (.iconst 0, 1) := by decide +kernel
theorem dX8_readAcross_1 : decode cX8_readAcross 1 = .ok (.istore_n 2, 1) := by decide +kernel
theorem dX8_readAcross_2 : decode cX8_readAcross 2 = .ok (.iload_n 2, 1) := by decide +kernel
theorem dX8_readAcross_3 : decode cX8_readAcross 3 = .ok (.iconst 2, 1) := by decide +kernel
theorem dX8_readAcross_4 : decode cX8_readAcross 4 = .ok (.if_icmp .ge 90, 3) := by decide +kernel
theorem dX8_readAcross_7 : decode cX8_readAcross 7 = .ok (.aload_n 0, 1) := by decide +kernel
theorem dX8_readAcross_8 : decode cX8_readAcross 8 = .ok (.getfield 127, 3) := by decide +kernel
theorem dX8_readAcross_11 : decode cX8_readAcross 11 = .ok (.iload_n 2, 1) := by decide +kernel
theorem dX8_readAcross_12 : decode cX8_readAcross 12 = .ok (.iconst 1, 1) := by decide +kernel
theorem dX8_readAcross_13 : decode cX8_readAcross 13 = .ok (.if_icmp .ne 7, 3) := by decide +kernel
theorem dX8_readAcross_16 : decode cX8_readAcross 16 = .ok (.iconst 1, 1) := by decide +kernel
theorem dX8_readAcross_17 : decode cX8_readAcross 17 = .ok (.goto 4, 3) := by decide +kernel
theorem dX8_readAcross_20 : decode cX8_readAcross 20 = .ok (.iconst 0, 1) := by decide +kernel
theorem dX8_readAcross_21 : decode cX8_readAcross 21 = .ok (.if_icmp .eq 7, 3) := by decide +kernel
theorem dX8_readAcross_24 : decode cX8_readAcross 24 = .ok (.iconst 1, 1) := by decide +kernel
theorem dX8_readAcross_25 : decode cX8_readAcross 25 = .ok (.goto 4, 3) := by decide +kernel
theorem dX8_readAcross_28 : decode cX8_readAcross 28 = .ok (.iconst 0, 1) := by decide +kernel
theorem dX8_readAcross_29 : decode cX8_readAcross 29 = .ok (.istore_n 3, 1) := by decide +kernel
theorem dX8_readAcross_30 : decode cX8_readAcross 30 = .ok (.aload_n 0, 1) := by decide +kernel
theorem dX8_readAcross_31 : decode cX8_readAcross 31 = .ok (.iload_n 3, 1) := by decide +kernel
theorem dX8_readAcross_32 : decode cX8_readAcross 32 = .ok (.invokevirtual 186, 3) := by decide +kernel
theorem dX8_readAcross_35 : decode cX8_readAcross 35 = .ok (.istore 4, 2) := by decide +kernel
theorem dX8_readAcross_37 : decode cX8_readAcross 37 = .ok (.iload 4, 2) := by decide +kernel
theorem dX8_readAcross_39 : decode cX8_readAcross 39 = .ok (.ifCond .ge 33, 3) := by decide +kernel
theorem dX8_readAcross_42 : decode cX8_readAcross 42 = .ok (.aload_n 0, 1) := by decide +kernel
theorem dX8_readAcross_43 : decode cX8_readAcross 43 = .ok (.iload 4, 2) := by decide +kernel
theorem dX8_readAcross_45 : decode cX8_readAcross 45 = .ok (.iconst (-1), 1) := by decide +kernel
theorem dX8_readAcross_46 : decode cX8_readAcross 46 = .ok (.if_icmp .ne 7, 3) := by decide +kernel
theorem dX8_readAcross_49 : decode cX8_readAcross 49 = .ok (.iconst 3, 1) := by decide +kernel
theorem dX8_readAcross_50 : decode cX8_readAcross 50 = .ok (.goto 7, 3) := by decide +kernel
theorem dX8_readAcross_53 : decode cX8_readAcross 53 = .ok (.aload_n 0, 1) := by decide +kernel
theorem dX8_readAcross_54 : decode cX8_readAcross 54 = .ok (.getfield 183, 3) := by decide +kernel
theorem dX8_readAcross_57 : decode cX8_readAcross 57 = .ok (.putfield 183, 3) := by decide +kernel
theorem dX8_readAcross_60 : decode cX8_readAcross 60 = .ok (.iload 4, 2) := by decide +kernel
theorem dX8_readAcross_62 : decode cX8_readAcross 62 = .ok (.iconst (-1), 1) := by decide +kernel
theorem dX8_readAcross_63 : decode cX8_readAcross 63 = .ok (.if_icmp .ne 7, 3) := by decide +kernel
theorem dX8_readAcross_66 : decode cX8_readAcross 66 = .ok (.iconst 1, 1) := by decide +kernel
theorem dX8_readAcross_67 : decode cX8_readAcross 67 = .ok (.goto 4, 3) := by decide +kernel
theorem dX8_readAcross_70 : decode cX8_readAcross 70 = .ok (.iconst 0, 1) := by decide +kernel
theorem dX8_readAcross_71 : decode cX8_readAcross 71 = .ok (.ireturn, 1) := by decide +kernel
theorem dX8_readAcross_72 : decode cX8_readAcross 72 = .ok (.aload_n 0, 1) := by decide +kernel
theorem dX8_readAcross_73 : decode cX8_readAcross 73 = .ok (.aload_n 0, 1) := by decide +kernel
theorem dX8_readAcross_74 : decode cX8_readAcross 74 = .ok (.iload_n 1, 1) := by decide +kernel
theorem dX8_readAcross_75 : decode cX8_readAcross 75 = .ok (.aload_n 0, 1) := by decide +kernel
theorem dX8_readAcross_76 : decode cX8_readAcross 76 = .ok (.getfield 121, 3) := by decide +kernel
theorem dX8_readAcross_79 : decode cX8_readAcross 79 = .ok (.iload 4, 2) := by decide +kernel
theorem dX8_readAcross_81 : decode cX8_readAcross 81 = .ok (.iload_n 3, 1) := by decide +kernel
theorem dX8_readAcross_82 : decode cX8_readAcross 82 = .ok (.invokevirtual 193, 3) := by decide +kernel
theorem dX8_readAcross_85 : decode cX8_readAcross 85 = .ok (.putfield 121, 3) := by decide +kernel
theorem dX8_readAcross_88 : decode cX8_readAcross 88 = .ok (.iinc 2 1, 3) := by decide +kernel
theorem dX8_readAcross_91 : decode cX8_readAcross 91 = .ok (.goto (-89), 3) := by decide +kernel
theorem dX8_readAcross_94 : decode cX8_readAcross 94 = .ok (.iconst 1, 1) := by decide +kernel
theorem dX8_readAcross_95 : decode cX8_readAcross 95 = .ok (.ireturn, 1) := by decide +kernel
set_option maxRecDepth 20000 in
theorem ggX8_readDrawn_X8_begin : GoodIn wsX8_readDrawn wsX8_begin := goodIn_r _ [12, 1, 5, 7, 71, 72, 73, 74, 75, 76, 77, 78, 79, 80, 81, 82, 83, 84, 85, 86, 87, 88, 89, 90, 91, 92] (by decide +kernel) (by decide +kernel)
set_option maxRecDepth 20000 in
theorem gX8_readDrawn_X8_begin : GoodIn wsX8_readDrawn (wsV RX8 133 RX8 yX8_begin wsX8_begin) := goodIn_app (goodIn_of _ (by decide +kernel)) ggX8_readDrawn_X8_begin
set_option maxRecDepth 20000 in
theorem ggX8_readDrawn_X8_look : GoodIn wsX8_readDrawn wsX8_look := goodIn_ca (goodIn_r _ [16, 7, 1, 6, 2, 5, 4, 17, 18, 19, 11, 20, 21, 22, 23, 24, 25, 71, 72, 73, 74, 75, 76, 77, 78, 79, 80, 81, 82, 83, 84, 85, 86, 87, 88, 89, 90, 91, 92] (by decide +kernel) (by decide +kernel)) (goodIn_sub (fun _ h => List.mem_cons_of_mem _ (List.mem_append_right _ h)) (by decide +kernel))
set_option maxRecDepth 20000 in
theorem gX8_readDrawn_X8_look : GoodIn wsX8_readDrawn (wsV RX8 136 RX8 yX8_look wsX8_look) := goodIn_app (goodIn_of _ (by decide +kernel)) ggX8_readDrawn_X8_look
set_option maxRecDepth 20000 in
theorem ggX8_readDrawn_X8_takeStep : GoodIn wsX8_readDrawn wsX8_takeStep := goodIn_ca (goodIn_r _ [29, 30, 31, 32, 33, 11, 34, 35, 36, 37, 38, 39, 40, 41, 42, 43, 44, 71, 72, 73, 74, 75, 76, 77, 78, 79, 80, 81, 82, 83, 84, 85, 86, 87, 88, 89, 90, 91, 92] (by decide +kernel) (by decide +kernel)) (goodIn_sub (fun _ h => List.mem_cons_of_mem _ (List.mem_append_right _ h)) (by decide +kernel))
set_option maxRecDepth 20000 in
theorem gX8_readDrawn_X8_takeStep : GoodIn wsX8_readDrawn (wsV RX8 197 RX8 yX8_takeStep wsX8_takeStep) := goodIn_app (goodIn_of _ (by decide +kernel)) ggX8_readDrawn_X8_takeStep
set_option maxRecDepth 20000 in
theorem ggX8_readDrawn_X8_readAcross : GoodIn wsX8_readDrawn wsX8_readAcross := goodIn_ca (goodIn_r _ [48, 5, 3, 1, 49, 50, 51, 11, 52, 53, 54, 55, 56, 57, 58, 59, 30, 60, 61, 62, 31, 32, 33, 34, 35, 36, 37, 38, 39, 40, 41, 42, 43, 44, 63, 64, 65, 66, 2, 67, 68, 69, 70, 25, 71, 72, 73, 74, 75, 76, 77, 78, 79, 80, 81, 82, 83, 84, 85, 86, 87, 88, 89, 90, 91, 92] (by decide +kernel) (by decide +kernel)) (goodIn_sub (fun _ h => List.mem_cons_of_mem _ (List.mem_append_right _ h)) (by decide +kernel))
set_option maxRecDepth 20000 in
theorem gX8_readDrawn_X8_readAcross : GoodIn wsX8_readDrawn (wsV RX8 200 RX8 yX8_readAcross wsX8_readAcross) := goodIn_app (goodIn_of _ (by decide +kernel)) ggX8_readDrawn_X8_readAcross
set_option maxRecDepth 20000 in
theorem ggX8_readDrawn_X8_paintRun : GoodIn wsX8_readDrawn wsX8_paintRun := goodIn_ca (goodIn_r _ [66, 2, 3, 67, 68, 69, 11, 70, 25, 71, 72, 73, 74, 75, 76, 77, 78, 79, 80, 81, 82, 83, 84, 85, 86, 87, 88, 89, 90, 91, 92] (by decide +kernel) (by decide +kernel)) (goodIn_sub (fun _ h => List.mem_cons_of_mem _ (List.mem_append_right _ h)) (by decide +kernel))
set_option maxRecDepth 20000 in
theorem gX8_readDrawn_X8_paintRun : GoodIn wsX8_readDrawn (wsV RX8 193 RX8 yX8_paintRun wsX8_paintRun) := goodIn_app (goodIn_of _ (by decide +kernel)) ggX8_readDrawn_X8_paintRun
theorem dX8_readDrawn_0 : decode cX8_readDrawn 0 = .ok (.aload_n 0, 1) := by decide +kernel
theorem dX8_readDrawn_1 : decode cX8_readDrawn 1 = .ok (.invokevirtual 133, 3) := by decide +kernel
theorem dX8_readDrawn_4 : decode cX8_readDrawn 4 = .ok (.aload_n 0, 1) := by decide +kernel
theorem dX8_readDrawn_5 : decode cX8_readDrawn 5 = .ok (.getfield 121, 3) := by decide +kernel
theorem dX8_readDrawn_8 : decode cX8_readDrawn 8 = .ok (.aload_n 0, 1) := by decide +kernel
theorem dX8_readDrawn_9 : decode cX8_readDrawn 9 = .ok (.getfield 37, 3) := by decide +kernel
theorem dX8_readDrawn_12 : decode cX8_readDrawn 12 = .ok (.if_icmp .ge 185, 3) := by decide +kernel
theorem dX8_readDrawn_15 : decode cX8_readDrawn 15 = .ok (.aload_n 0, 1) := by decide +kernel
theorem dX8_readDrawn_16 : decode cX8_readDrawn 16 = .ok (.getfield 183, 3) := by decide +kernel
theorem dX8_readDrawn_19 : decode cX8_readDrawn 19 = .ok (.iconst 3, 1) := by decide +kernel
theorem dX8_readDrawn_20 : decode cX8_readDrawn 20 = .ok (.if_icmp .ge 177, 3) := by decide +kernel
theorem dX8_readDrawn_23 : decode cX8_readDrawn 23 = .ok (.aload_n 0, 1) := by decide +kernel
theorem dX8_readDrawn_24 : decode cX8_readDrawn 24 = .ok (.iload_n 1, 1) := by decide +kernel
theorem dX8_readDrawn_25 : decode cX8_readDrawn 25 = .ok (.invokevirtual 136, 3) := by decide +kernel
theorem dX8_readDrawn_28 : decode cX8_readDrawn 28 = .ok (.aload_n 0, 1) := by decide +kernel
theorem dX8_readDrawn_29 : decode cX8_readDrawn 29 = .ok (.invokevirtual 197, 3) := by decide +kernel
theorem dX8_readDrawn_32 : decode cX8_readDrawn 32 = .ok (.istore_n 2, 1) := by decide +kernel
theorem dX8_readDrawn_33 : decode cX8_readDrawn 33 = .ok (.iload_n 2, 1) := by decide +kernel
theorem dX8_readDrawn_34 : decode cX8_readDrawn 34 = .ok (.bipush 7, 2) := by decide +kernel
theorem dX8_readDrawn_36 : decode cX8_readDrawn 36 = .ok (.if_icmp .ne 5, 3) := by decide +kernel
theorem dX8_readDrawn_39 : decode cX8_readDrawn 39 = .ok (.iconst 0, 1) := by decide +kernel
theorem dX8_readDrawn_40 : decode cX8_readDrawn 40 = .ok (.ireturn, 1) := by decide +kernel
theorem dX8_readDrawn_41 : decode cX8_readDrawn 41 = .ok (.iload_n 2, 1) := by decide +kernel
theorem dX8_readDrawn_42 : decode cX8_readDrawn 42 = .ok (.bipush 6, 2) := by decide +kernel
theorem dX8_readDrawn_44 : decode cX8_readDrawn 44 = .ok (.if_icmp .ne 11, 3) := by decide +kernel
theorem dX8_readDrawn_47 : decode cX8_readDrawn 47 = .ok (.aload_n 0, 1) := by decide +kernel
theorem dX8_readDrawn_48 : decode cX8_readDrawn 48 = .ok (.iconst 3, 1) := by decide +kernel
theorem dX8_readDrawn_49 : decode cX8_readDrawn 49 = .ok (.putfield 183, 3) := by decide +kernel
theorem dX8_readDrawn_52 : decode cX8_readDrawn 52 = .ok (.goto 137, 3) := by decide +kernel
theorem dX8_readDrawn_55 : decode cX8_readDrawn 55 = .ok (.iload_n 2, 1) := by decide +kernel
theorem dX8_readDrawn_56 : decode cX8_readDrawn 56 = .ok (.iconst 5, 1) := by decide +kernel
theorem dX8_readDrawn_57 : decode cX8_readDrawn 57 = .ok (.if_icmp .ne 13, 3) := by decide +kernel
theorem dX8_readDrawn_60 : decode cX8_readDrawn 60 = .ok (.aload_n 0, 1) := by decide +kernel
theorem dX8_readDrawn_61 : decode cX8_readDrawn 61 = .ok (.iload_n 1, 1) := by decide +kernel
theorem dX8_readDrawn_62 : decode cX8_readDrawn 62 = .ok (.invokevirtual 200, 3) := by decide +kernel
theorem dX8_readDrawn_65 : decode cX8_readDrawn 65 = .ok (.ifCond .ne 124, 3) := by decide +kernel
theorem dX8_readDrawn_68 : decode cX8_readDrawn 68 = .ok (.iconst 0, 1) := by decide +kernel
theorem dX8_readDrawn_69 : decode cX8_readDrawn 69 = .ok (.ireturn, 1) := by decide +kernel
theorem dX8_readDrawn_70 : decode cX8_readDrawn 70 = .ok (.iload_n 2, 1) := by decide +kernel
theorem dX8_readDrawn_71 : decode cX8_readDrawn 71 = .ok (.iconst 4, 1) := by decide +kernel
theorem dX8_readDrawn_72 : decode cX8_readDrawn 72 = .ok (.if_icmp .ne 32, 3) := by decide +kernel
theorem dX8_readDrawn_75 : decode cX8_readDrawn 75 = .ok (.aload_n 0, 1) := by decide +kernel
theorem dX8_readDrawn_76 : decode cX8_readDrawn 76 = .ok (.aload_n 0, 1) := by decide +kernel
theorem dX8_readDrawn_77 : decode cX8_readDrawn 77 = .ok (.iload_n 1, 1) := by decide +kernel
theorem dX8_readDrawn_78 : decode cX8_readDrawn 78 = .ok (.aload_n 0, 1) := by decide +kernel
theorem dX8_readDrawn_79 : decode cX8_readDrawn 79 = .ok (.getfield 121, 3) := by decide +kernel
theorem dX8_readDrawn_82 : decode cX8_readDrawn 82 = .ok (.aload_n 0, 1) := by decide +kernel
theorem dX8_readDrawn_83 : decode cX8_readDrawn 83 = .ok (.getfield 130, 3) := by decide +kernel
theorem dX8_readDrawn_86 : decode cX8_readDrawn 86 = .ok (.aload_n 0, 1) := by decide +kernel
theorem dX8_readDrawn_87 : decode cX8_readDrawn 87 = .ok (.getfield 121, 3) := by decide +kernel
theorem dX8_readDrawn_90 : decode cX8_readDrawn 90 = .ok (.isub, 1) := by decide +kernel
theorem dX8_readDrawn_91 : decode cX8_readDrawn 91 = .ok (.aload_n 0, 1) := by decide +kernel
theorem dX8_readDrawn_92 : decode cX8_readDrawn 92 = .ok (.getfield 127, 3) := by decide +kernel
theorem dX8_readDrawn_95 : decode cX8_readDrawn 95 = .ok (.invokevirtual 193, 3) := by decide +kernel
theorem dX8_readDrawn_98 : decode cX8_readDrawn 98 = .ok (.putfield 121, 3) := by decide +kernel
theorem dX8_readDrawn_101 : decode cX8_readDrawn 101 = .ok (.goto 88, 3) := by decide +kernel
theorem dX8_readDrawn_104 : decode cX8_readDrawn 104 = .ok (.aload_n 0, 1) := by decide +kernel
theorem dX8_readDrawn_105 : decode cX8_readDrawn 105 = .ok (.getfield 124, 3) := by decide +kernel
theorem dX8_readDrawn_108 : decode cX8_readDrawn 108 = .ok (.iload_n 2, 1) := by decide +kernel
theorem dX8_readDrawn_109 : decode cX8_readDrawn 109 = .ok (.iadd, 1) := by decide +kernel
theorem dX8_readDrawn_110 : decode cX8_readDrawn 110 = .ok (.aload_n 0, 1) := by decide +kernel
theorem dX8_readDrawn_111 : decode cX8_readDrawn 111 = .ok (.getfield 121, 3) := by decide +kernel
theorem dX8_readDrawn_114 : decode cX8_readDrawn 114 = .ok (.if_icmp .lt 23, 3) := by decide +kernel
theorem dX8_readDrawn_117 : decode cX8_readDrawn 117 = .ok (.aload_n 0, 1) := by decide +kernel
theorem dX8_readDrawn_118 : decode cX8_readDrawn 118 = .ok (.getfield 117, 3) := by decide +kernel
theorem dX8_readDrawn_121 : decode cX8_readDrawn 121 = .ok (.ifCond .ne 24, 3) := by decide +kernel
theorem dX8_readDrawn_124 : decode cX8_readDrawn 124 = .ok (.aload_n 0, 1) := by decide +kernel
theorem dX8_readDrawn_125 : decode cX8_readDrawn 125 = .ok (.getfield 124, 3) := by decide +kernel
theorem dX8_readDrawn_128 : decode cX8_readDrawn 128 = .ok (.iload_n 2, 1) := by decide +kernel
theorem dX8_readDrawn_129 : decode cX8_readDrawn 129 = .ok (.iadd, 1) := by decide +kernel
theorem dX8_readDrawn_130 : decode cX8_readDrawn 130 = .ok (.aload_n 0, 1) := by decide +kernel
theorem dX8_readDrawn_131 : decode cX8_readDrawn 131 = .ok (.getfield 121, 3) := by decide +kernel
theorem dX8_readDrawn_134 : decode cX8_readDrawn 134 = .ok (.if_icmp .ne 11, 3) := by decide +kernel
theorem dX8_readDrawn_137 : decode cX8_readDrawn 137 = .ok (.aload_n 0, 1) := by decide +kernel
theorem dX8_readDrawn_138 : decode cX8_readDrawn 138 = .ok (.iconst 3, 1) := by decide +kernel
theorem dX8_readDrawn_139 : decode cX8_readDrawn 139 = .ok (.putfield 183, 3) := by decide +kernel
theorem dX8_readDrawn_142 : decode cX8_readDrawn 142 = .ok (.goto 47, 3) := by decide +kernel
theorem dX8_readDrawn_145 : decode cX8_readDrawn 145 = .ok (.aload_n 0, 1) := by decide +kernel
theorem dX8_readDrawn_146 : decode cX8_readDrawn 146 = .ok (.aload_n 0, 1) := by decide +kernel
theorem dX8_readDrawn_147 : decode cX8_readDrawn 147 = .ok (.iload_n 1, 1) := by decide +kernel
theorem dX8_readDrawn_148 : decode cX8_readDrawn 148 = .ok (.aload_n 0, 1) := by decide +kernel
theorem dX8_readDrawn_149 : decode cX8_readDrawn 149 = .ok (.getfield 121, 3) := by decide +kernel
theorem dX8_readDrawn_152 : decode cX8_readDrawn 152 = .ok (.aload_n 0, 1) := by decide +kernel
theorem dX8_readDrawn_153 : decode cX8_readDrawn 153 = .ok (.getfield 124, 3) := by decide +kernel
theorem dX8_readDrawn_156 : decode cX8_readDrawn 156 = .ok (.iload_n 2, 1) := by decide +kernel
theorem dX8_readDrawn_157 : decode cX8_readDrawn 157 = .ok (.iadd, 1) := by decide +kernel
theorem dX8_readDrawn_158 : decode cX8_readDrawn 158 = .ok (.aload_n 0, 1) := by decide +kernel
theorem dX8_readDrawn_159 : decode cX8_readDrawn 159 = .ok (.getfield 121, 3) := by decide +kernel
theorem dX8_readDrawn_162 : decode cX8_readDrawn 162 = .ok (.isub, 1) := by decide +kernel
theorem dX8_readDrawn_163 : decode cX8_readDrawn 163 = .ok (.aload_n 0, 1) := by decide +kernel
theorem dX8_readDrawn_164 : decode cX8_readDrawn 164 = .ok (.getfield 127, 3) := by decide +kernel
theorem dX8_readDrawn_167 : decode cX8_readDrawn 167 = .ok (.invokevirtual 193, 3) := by decide +kernel
theorem dX8_readDrawn_170 : decode cX8_readDrawn 170 = .ok (.putfield 121, 3) := by decide +kernel
theorem dX8_readDrawn_173 : decode cX8_readDrawn 173 = .ok (.aload_n 0, 1) := by decide +kernel
theorem dX8_readDrawn_174 : decode cX8_readDrawn 174 = .ok (.aload_n 0, 1) := by decide +kernel
theorem dX8_readDrawn_175 : decode cX8_readDrawn 175 = .ok (.getfield 127, 3) := by decide +kernel
theorem dX8_readDrawn_178 : decode cX8_readDrawn 178 = .ok (.ifCond .ne 7, 3) := by decide +kernel
theorem dX8_readDrawn_181 : decode cX8_readDrawn 181 = .ok (.iconst 1, 1) := by decide +kernel
theorem dX8_readDrawn_182 : decode cX8_readDrawn 182 = .ok (.goto 4, 3) := by decide +kernel
theorem dX8_readDrawn_185 : decode cX8_readDrawn 185 = .ok (.iconst 0, 1) := by decide +kernel
theorem dX8_readDrawn_186 : decode cX8_readDrawn 186 = .ok (.putfield 127, 3) := by decide +kernel
theorem dX8_readDrawn_189 : decode cX8_readDrawn 189 = .ok (.aload_n 0, 1) := by decide +kernel
theorem dX8_readDrawn_190 : decode cX8_readDrawn 190 = .ok (.iconst 0, 1) := by decide +kernel
theorem dX8_readDrawn_191 : decode cX8_readDrawn 191 = .ok (.putfield 117, 3) := by decide +kernel
theorem dX8_readDrawn_194 : decode cX8_readDrawn 194 = .ok (.goto (-190), 3) := by decide +kernel
theorem dX8_readDrawn_197 : decode cX8_readDrawn 197 = .ok (.iconst 1, 1) := by decide +kernel
theorem dX8_readDrawn_198 : decode cX8_readDrawn 198 = .ok (.ireturn, 1) := by decide +kernel
set_option maxRecDepth 20000 in
theorem ggX8_readHead_X8_hasMarks : GoodIn wsX8_readHead wsX8_hasMarks := goodIn_ca (goodIn_r _ [8, 1, 3, 31, 32, 33, 34, 35, 36, 37, 38, 39, 40, 41, 42, 43, 44, 45, 46, 47, 48, 49, 50, 51, 52] (by decide +kernel) (by decide +kernel)) (goodIn_sub (fun _ h => List.mem_cons_of_mem _ (List.mem_append_right _ h)) (by decide +kernel))
set_option maxRecDepth 20000 in
theorem gX8_readHead_X8_hasMarks : GoodIn wsX8_readHead (wsV RX8 142 RX8 yX8_hasMarks wsX8_hasMarks) := goodIn_app (goodIn_of _ (by decide +kernel)) ggX8_readHead_X8_hasMarks
set_option maxRecDepth 20000 in
theorem ggX8_readHead_X8_findMark : GoodIn wsX8_readHead wsX8_findMark := goodIn_ca (goodIn_r _ [12, 2, 13, 14, 15, 16, 7, 17, 18, 19, 20, 21, 22, 23, 24, 25, 26, 31, 32, 33, 34, 35, 36, 37, 38, 39, 40, 41, 42, 43, 44, 45, 46, 47, 48, 49, 50, 51, 52] (by decide +kernel) (by decide +kernel)) (goodIn_sub (fun _ h => List.mem_cons_of_mem _ (List.mem_append_right _ h)) (by decide +kernel))
set_option maxRecDepth 20000 in
theorem gX8_readHead_X8_findMark : GoodIn wsX8_readHead (wsV RX8 203 RX8 yX8_findMark wsX8_findMark) := goodIn_app (goodIn_of _ (by decide +kernel)) ggX8_readHead_X8_findMark
set_option maxRecDepth 20000 in
theorem ggX8_readHead_X8_left : GoodIn wsX8_readHead wsX8_left := goodIn_r _ [21, 13, 2, 31, 32, 33, 34, 35, 36, 37, 38, 39, 40, 41, 42, 43, 44, 45, 46, 47, 48, 49, 50, 51, 52] (by decide +kernel) (by decide +kernel)
set_option maxRecDepth 20000 in
theorem gX8_readHead_X8_left : GoodIn wsX8_readHead (wsV RX8 164 RX8 yX8_left wsX8_left) := goodIn_app (goodIn_of _ (by decide +kernel)) ggX8_readHead_X8_left
set_option maxRecDepth 20000 in
theorem ggX8_readHead_X8_bitAt : GoodIn wsX8_readHead wsX8_bitAt := goodIn_ca (goodIn_r _ [25, 26, 31, 32, 33, 34, 35, 36, 37, 38, 39, 40, 41, 42, 43, 44, 45, 46, 47, 48, 49, 50, 51, 52] (by decide +kernel) (by decide +kernel)) (goodIn_sub (fun _ h => List.mem_cons_of_mem _ (List.mem_append_right _ h)) (by decide +kernel))
set_option maxRecDepth 20000 in
theorem gX8_readHead_X8_bitAt : GoodIn wsX8_readHead (wsV RX8 168 RX8 yX8_bitAt wsX8_bitAt) := goodIn_app (goodIn_of _ (by decide +kernel)) ggX8_readHead_X8_bitAt
set_option maxRecDepth 20000 in
theorem ggX8_readHead_X8_isMarkHere : GoodIn wsX8_readHead wsX8_isMarkHere := goodIn_ca (goodIn_r _ [30, 14, 15, 16, 7, 17, 2, 18, 19, 20, 21, 13, 22, 23, 24, 25, 26, 31, 32, 33, 34, 35, 36, 37, 38, 39, 40, 41, 42, 43, 44, 45, 46, 47, 48, 49, 50, 51, 52] (by decide +kernel) (by decide +kernel)) (goodIn_sub (fun _ h => List.mem_cons_of_mem _ (List.mem_append_right _ h)) (by decide +kernel))
set_option maxRecDepth 20000 in
theorem gX8_readHead_X8_isMarkHere : GoodIn wsX8_readHead (wsV RX8 190 RX8 yX8_isMarkHere wsX8_isMarkHere) := goodIn_app (goodIn_of _ (by decide +kernel)) ggX8_readHead_X8_isMarkHere
theorem dX8_readHead_0 : decode cX8_readHead 0 = .ok (.aload_n 0, 1) := by decide +kernel
theorem dX8_readHead_1 : decode cX8_readHead 1 = .ok (.getfield 33, 3) := by decide +kernel
theorem dX8_readHead_4 : decode cX8_readHead 4 = .ok (.iconst 2, 1) := by decide +kernel
theorem dX8_readHead_5 : decode cX8_readHead 5 = .ok (.if_icmp .ne 7, 3) := by decide +kernel
theorem dX8_readHead_8 : decode cX8_readHead 8 = .ok (.iconst 0, 1) := by decide +kernel
theorem dX8_readHead_9 : decode cX8_readHead 9 = .ok (.goto 4, 3) := by decide +kernel
theorem dX8_readHead_12 : decode cX8_readHead 12 = .ok (.iconst 1, 1) := by decide +kernel
theorem dX8_readHead_13 : decode cX8_readHead 13 = .ok (.istore_n 1, 1) := by decide +kernel
theorem dX8_readHead_14 : decode cX8_readHead 14 = .ok (.aload_n 0, 1) := by decide +kernel
theorem dX8_readHead_15 : decode cX8_readHead 15 = .ok (.invokevirtual 142, 3) := by decide +kernel
theorem dX8_readHead_18 : decode cX8_readHead 18 = .ok (.ifCond .eq 61, 3) := by decide +kernel
theorem dX8_readHead_21 : decode cX8_readHead 21 = .ok (.aload_n 0, 1) := by decide +kernel
theorem dX8_readHead_22 : decode cX8_readHead 22 = .ok (.invokevirtual 203, 3) := by decide +kernel
theorem dX8_readHead_25 : decode cX8_readHead 25 = .ok (.ifCond .ne 5, 3) := by decide +kernel
theorem dX8_readHead_28 : decode cX8_readHead 28 = .ok (.iconst (-1), 1) := by decide +kernel
theorem dX8_readHead_29 : decode cX8_readHead 29 = .ok (.ireturn, 1) := by decide +kernel
theorem dX8_readHead_30 : decode cX8_readHead 30 = .ok (.aload_n 0, 1) := by decide +kernel
theorem dX8_readHead_31 : decode cX8_readHead 31 = .ok (.getfield 33, 3) := by decide +kernel
theorem dX8_readHead_34 : decode cX8_readHead 34 = .ok (.iconst 1, 1) := by decide +kernel
theorem dX8_readHead_35 : decode cX8_readHead 35 = .ok (.if_icmp .ne 31, 3) := by decide +kernel
theorem dX8_readHead_38 : decode cX8_readHead 38 = .ok (.aload_n 0, 1) := by decide +kernel
theorem dX8_readHead_39 : decode cX8_readHead 39 = .ok (.invokevirtual 164, 3) := by decide +kernel
theorem dX8_readHead_42 : decode cX8_readHead 42 = .ok (.ifCond .ne 5, 3) := by decide +kernel
theorem dX8_readHead_45 : decode cX8_readHead 45 = .ok (.iconst (-1), 1) := by decide +kernel
theorem dX8_readHead_46 : decode cX8_readHead 46 = .ok (.ireturn, 1) := by decide +kernel
theorem dX8_readHead_47 : decode cX8_readHead 47 = .ok (.aload_n 0, 1) := by decide +kernel
theorem dX8_readHead_48 : decode cX8_readHead 48 = .ok (.aload_n 0, 1) := by decide +kernel
theorem dX8_readHead_49 : decode cX8_readHead 49 = .ok (.getfield 69, 3) := by decide +kernel
theorem dX8_readHead_52 : decode cX8_readHead 52 = .ok (.invokevirtual 168, 3) := by decide +kernel
theorem dX8_readHead_55 : decode cX8_readHead 55 = .ok (.istore_n 1, 1) := by decide +kernel
theorem dX8_readHead_56 : decode cX8_readHead 56 = .ok (.aload_n 0, 1) := by decide +kernel
theorem dX8_readHead_57 : decode cX8_readHead 57 = .ok (.dup, 1) := by decide +kernel
theorem dX8_readHead_58 : decode cX8_readHead 58 = .ok (.getfield 69, 3) := by decide +kernel
theorem dX8_readHead_61 : decode cX8_readHead 61 = .ok (.iconst 1, 1) := by decide +kernel
theorem dX8_readHead_62 : decode cX8_readHead 62 = .ok (.iadd, 1) := by decide +kernel
theorem dX8_readHead_63 : decode cX8_readHead 63 = .ok (.putfield 69, 3) := by decide +kernel
theorem dX8_readHead_66 : decode cX8_readHead 66 = .ok (.aload_n 0, 1) := by decide +kernel
theorem dX8_readHead_67 : decode cX8_readHead 67 = .ok (.invokevirtual 190, 3) := by decide +kernel
theorem dX8_readHead_70 : decode cX8_readHead 70 = .ok (.ifCond .eq 7, 3) := by decide +kernel
theorem dX8_readHead_73 : decode cX8_readHead 73 = .ok (.iconst (-1), 1) := by decide +kernel
theorem dX8_readHead_74 : decode cX8_readHead 74 = .ok (.goto 4, 3) := by decide +kernel
theorem dX8_readHead_77 : decode cX8_readHead 77 = .ok (.iload_n 1, 1) := by decide +kernel
theorem dX8_readHead_78 : decode cX8_readHead 78 = .ok (.ireturn, 1) := by decide +kernel
theorem dX8_readHead_79 : decode cX8_readHead 79 = .ok (.aload_n 0, 1) := by decide +kernel
theorem dX8_readHead_80 : decode cX8_readHead 80 = .ok (.getfield 16, 3) := by decide +kernel
theorem dX8_readHead_83 : decode cX8_readHead 83 = .ok (.iconst 1, 1) := by decide +kernel
theorem dX8_readHead_84 : decode cX8_readHead 84 = .ok (.baload, 1) := by decide +kernel
theorem dX8_readHead_85 : decode cX8_readHead 85 = .ok (.ifCond .eq 20, 3) := by decide +kernel
theorem dX8_readHead_88 : decode cX8_readHead 88 = .ok (.aload_n 0, 1) := by decide +kernel
theorem dX8_readHead_89 : decode cX8_readHead 89 = .ok (.aload_n 0, 1) := by decide +kernel
theorem dX8_readHead_90 : decode cX8_readHead 90 = .ok (.getfield 69, 3) := by decide +kernel
theorem dX8_readHead_93 : decode cX8_readHead 93 = .ok (.bipush 7, 2) := by decide +kernel
theorem dX8_readHead_95 : decode cX8_readHead 95 = .ok (.iadd, 1) := by decide +kernel
theorem dX8_readHead_96 : decode cX8_readHead 96 = .ok (.bipush 8, 2) := by decide +kernel
theorem dX8_readHead_98 : decode cX8_readHead 98 = .ok (.idiv, 1) := by decide +kernel
theorem dX8_readHead_99 : decode cX8_readHead 99 = .ok (.bipush 8, 2) := by decide +kernel
theorem dX8_readHead_101 : decode cX8_readHead 101 = .ok (.imul, 1) := by decide +kernel
theorem dX8_readHead_102 : decode cX8_readHead 102 = .ok (.putfield 69, 3) := by decide +kernel
theorem dX8_readHead_105 : decode cX8_readHead 105 = .ok (.aload_n 0, 1) := by decide +kernel
theorem dX8_readHead_106 : decode cX8_readHead 106 = .ok (.getfield 33, 3) := by decide +kernel
theorem dX8_readHead_109 : decode cX8_readHead 109 = .ok (.iconst 2, 1) := by decide +kernel
theorem dX8_readHead_110 : decode cX8_readHead 110 = .ok (.if_icmp .ne 14, 3) := by decide +kernel
theorem dX8_readHead_113 : decode cX8_readHead 113 = .ok (.aload_n 0, 1) := by decide +kernel
theorem dX8_readHead_114 : decode cX8_readHead 114 = .ok (.invokevirtual 190, 3) := by decide +kernel
theorem dX8_readHead_117 : decode cX8_readHead 117 = .ok (.ifCond .eq 7, 3) := by decide +kernel
theorem dX8_readHead_120 : decode cX8_readHead 120 = .ok (.iconst (-1), 1) := by decide +kernel
theorem dX8_readHead_121 : decode cX8_readHead 121 = .ok (.goto 4, 3) := by decide +kernel
theorem dX8_readHead_124 : decode cX8_readHead 124 = .ok (.iload_n 1, 1) := by decide +kernel
theorem dX8_readHead_125 : decode cX8_readHead 125 = .ok (.ireturn, 1) := by decide +kernel
theorem dX8_repair_0 : decode cX8_repair 0 = .ok (.iconst 0, 1) := by decide +kernel
theorem dX8_repair_1 : decode cX8_repair 1 = .ok (.istore_n 2, 1) := by decide +kernel
theorem dX8_repair_2 : decode cX8_repair 2 = .ok (.iload_n 2, 1) := by decide +kernel
theorem dX8_repair_3 : decode cX8_repair 3 = .ok (.aload_n 0, 1) := by decide +kernel
theorem dX8_repair_4 : decode cX8_repair 4 = .ok (.getfield 37, 3) := by decide +kernel
theorem dX8_repair_7 : decode cX8_repair 7 = .ok (.if_icmp .ge 56, 3) := by decide +kernel
theorem dX8_repair_10 : decode cX8_repair 10 = .ok (.aload_n 0, 1) := by decide +kernel
theorem dX8_repair_11 : decode cX8_repair 11 = .ok (.getfield 20, 3) := by decide +kernel
theorem dX8_repair_14 : decode cX8_repair 14 = .ok (.sipush 700, 3) := by decide +kernel
theorem dX8_repair_17 : decode cX8_repair 17 = .ok (.iload_n 1, 1) := by decide +kernel
theorem dX8_repair_18 : decode cX8_repair 18 = .ok (.imul, 1) := by decide +kernel
theorem dX8_repair_19 : decode cX8_repair 19 = .ok (.iload_n 2, 1) := by decide +kernel
theorem dX8_repair_20 : decode cX8_repair 20 = .ok (.iadd, 1) := by decide +kernel
theorem dX8_repair_21 : decode cX8_repair 21 = .ok (.aload_n 0, 1) := by decide +kernel
theorem dX8_repair_22 : decode cX8_repair 22 = .ok (.getfield 16, 3) := by decide +kernel
theorem dX8_repair_25 : decode cX8_repair 25 = .ok (.iconst 3, 1) := by decide +kernel
theorem dX8_repair_26 : decode cX8_repair 26 = .ok (.baload, 1) := by decide +kernel
theorem dX8_repair_27 : decode cX8_repair 27 = .ok (.ifCond .eq 28, 3) := by decide +kernel
theorem dX8_repair_30 : decode cX8_repair 30 = .ok (.iload_n 1, 1) := by decide +kernel
theorem dX8_repair_31 : decode cX8_repair 31 = .ok (.ifCond .le 24, 3) := by decide +kernel
theorem dX8_repair_34 : decode cX8_repair 34 = .ok (.aload_n 0, 1) := by decide +kernel
theorem dX8_repair_35 : decode cX8_repair 35 = .ok (.getfield 20, 3) := by decide +kernel
theorem dX8_repair_38 : decode cX8_repair 38 = .ok (.sipush 700, 3) := by decide +kernel
theorem dX8_repair_41 : decode cX8_repair 41 = .ok (.iload_n 1, 1) := by decide +kernel
theorem dX8_repair_42 : decode cX8_repair 42 = .ok (.iconst 1, 1) := by decide +kernel
theorem dX8_repair_43 : decode cX8_repair 43 = .ok (.isub, 1) := by decide +kernel
theorem dX8_repair_44 : decode cX8_repair 44 = .ok (.imul, 1) := by decide +kernel
theorem dX8_repair_45 : decode cX8_repair 45 = .ok (.iload_n 2, 1) := by decide +kernel
theorem dX8_repair_46 : decode cX8_repair 46 = .ok (.iadd, 1) := by decide +kernel
theorem dX8_repair_47 : decode cX8_repair 47 = .ok (.baload, 1) := by decide +kernel
theorem dX8_repair_48 : decode cX8_repair 48 = .ok (.ifCond .eq 7, 3) := by decide +kernel
theorem dX8_repair_51 : decode cX8_repair 51 = .ok (.iconst 1, 1) := by decide +kernel
theorem dX8_repair_52 : decode cX8_repair 52 = .ok (.goto 4, 3) := by decide +kernel
theorem dX8_repair_55 : decode cX8_repair 55 = .ok (.iconst 0, 1) := by decide +kernel
theorem dX8_repair_56 : decode cX8_repair 56 = .ok (.bastore, 1) := by decide +kernel
theorem dX8_repair_57 : decode cX8_repair 57 = .ok (.iinc 2 1, 3) := by decide +kernel
theorem dX8_repair_60 : decode cX8_repair 60 = .ok (.goto (-58), 3) := by decide +kernel
theorem dX8_repair_63 : decode cX8_repair 63 = .ok (.return_, 1) := by decide +kernel
set_option maxRecDepth 20000 in
theorem ggX8_read_X8_readHead : GoodIn wsX8_read wsX8_readHead := goodIn_ca (goodIn_r _ [11, 12, 3, 13, 14, 15, 16, 10, 17, 18, 19, 20, 21, 22, 23, 24, 25, 26, 27, 28, 29, 30, 31, 32, 33, 34, 35, 36, 37, 38, 39, 109, 110, 111, 112, 113, 114, 115, 116, 117, 118, 119, 120, 121, 122, 123, 124, 125, 126, 127, 128, 129, 130] (by decide +kernel) (by decide +kernel)) (goodIn_sub (fun _ h => List.mem_cons_of_mem _ (List.mem_append_right _ h)) (by decide +kernel))
set_option maxRecDepth 20000 in
theorem gX8_read_X8_readHead : GoodIn wsX8_read (wsV RX8 206 RX8 yX8_readHead wsX8_readHead) := goodIn_app (goodIn_of _ (by decide +kernel)) ggX8_read_X8_readHead
set_option maxRecDepth 20000 in
theorem ggX8_read_X8_paint : GoodIn wsX8_read wsX8_paint := goodIn_ca (goodIn_r _ [43, 44, 109, 110, 111, 112, 113, 114, 115, 116, 117, 118, 119, 120, 121, 122, 123, 124, 125, 126, 127, 128, 129, 130] (by decide +kernel) (by decide +kernel)) (goodIn_sub (fun _ h => List.mem_cons_of_mem _ (List.mem_append_right _ h)) (by decide +kernel))
set_option maxRecDepth 20000 in
theorem gX8_read_X8_paint : GoodIn wsX8_read (wsV RX8 84 RX8 yX8_paint wsX8_paint) := goodIn_app (goodIn_of _ (by decide +kernel)) ggX8_read_X8_paint
set_option maxRecDepth 20000 in
theorem ggX8_read_X8_readPlain : GoodIn wsX8_read wsX8_readPlain := goodIn_ca (goodIn_r _ [48, 49, 50, 5, 51, 52, 53, 10, 54, 55, 56, 57, 58, 59, 60, 3, 61, 62, 63, 64, 65, 66, 67, 27, 28, 29, 30, 22, 31, 32, 33, 34, 35, 14, 15, 16, 17, 12, 13, 36, 37, 38, 39, 23, 24, 25, 26, 68, 69, 70, 71, 40, 41, 42, 43, 44, 109, 110, 111, 112, 113, 114, 115, 116, 117, 118, 119, 120, 121, 122, 123, 124, 125, 126, 127, 128, 129, 130] (by decide +kernel) (by decide +kernel)) (goodIn_sub (fun _ h => List.mem_cons_of_mem _ (List.mem_append_right _ h)) (by decide +kernel))
set_option maxRecDepth 20000 in
theorem gX8_read_X8_readPlain : GoodIn wsX8_read (wsV RX8 209 RX8 yX8_readPlain wsX8_readPlain) := goodIn_app (goodIn_of _ (by decide +kernel)) ggX8_read_X8_readPlain
set_option maxRecDepth 20000 in
theorem ggX8_read_X8_readDrawn : GoodIn wsX8_read wsX8_readDrawn := goodIn_ca (goodIn_r _ [75, 76, 49, 5, 77, 78, 79, 80, 81, 82, 83, 10, 84, 85, 86, 87, 88, 89, 90, 91, 92, 93, 94, 95, 96, 44, 97, 98, 99, 100, 3, 64, 65, 66, 67, 27, 28, 29, 30, 22, 31, 32, 33, 34, 35, 101, 102, 103, 104, 51, 52, 53, 54, 50, 55, 56, 57, 58, 59, 60, 61, 62, 63, 68, 69, 70, 71, 40, 41, 42, 43, 109, 110, 111, 112, 113, 114, 115, 116, 117, 118, 119, 120, 121, 122, 123, 124, 125, 126, 127, 128, 129, 130] (by decide +kernel) (by decide +kernel)) (goodIn_sub (fun _ h => List.mem_cons_of_mem _ (List.mem_append_right _ h)) (by decide +kernel))
set_option maxRecDepth 20000 in
theorem gX8_read_X8_readDrawn : GoodIn wsX8_read (wsV RX8 212 RX8 yX8_readDrawn wsX8_readDrawn) := goodIn_app (goodIn_of _ (by decide +kernel)) ggX8_read_X8_readDrawn
set_option maxRecDepth 20000 in
theorem ggX8_read_X8_repair : GoodIn wsX8_read wsX8_repair := goodIn_ca (goodIn_r _ [108, 49, 44, 13, 109, 110, 111, 112, 113, 114, 115, 116, 117, 118, 119, 120, 121, 122, 123, 124, 125, 126, 127, 128, 129, 130] (by decide +kernel) (by decide +kernel)) (goodIn_sub (fun _ h => List.mem_cons_of_mem _ (List.mem_append_right _ h)) (by decide +kernel))
set_option maxRecDepth 20000 in
theorem gX8_read_X8_repair : GoodIn wsX8_read (wsV RX8 215 RX8 yX8_repair wsX8_repair) := goodIn_app (goodIn_of _ (by decide +kernel)) ggX8_read_X8_repair
set_option maxRecDepth 20000 in
theorem ggX8_read_X8_hasMarks : GoodIn wsX8_read wsX8_hasMarks := goodIn_ca (goodIn_r _ [17, 12, 13, 109, 110, 111, 112, 113, 114, 115, 116, 117, 118, 119, 120, 121, 122, 123, 124, 125, 126, 127, 128, 129, 130] (by decide +kernel) (by decide +kernel)) (goodIn_sub (fun _ h => List.mem_cons_of_mem _ (List.mem_append_right _ h)) (by decide +kernel))
set_option maxRecDepth 20000 in
theorem gX8_read_X8_hasMarks : GoodIn wsX8_read (wsV RX8 142 RX8 yX8_hasMarks wsX8_hasMarks) := goodIn_app (goodIn_of _ (by decide +kernel)) ggX8_read_X8_hasMarks
theorem dX8_read_0 : decode cX8_read 0 = .ok (.aload_n 0, 1) := by decide +kernel
theorem dX8_read_1 : decode cX8_read 1 = .ok (.iload_n 1, 1) := by decide +kernel
theorem dX8_read_2 : decode cX8_read 2 = .ok (.ifCond .lt 9, 3) := by decide +kernel
theorem dX8_read_5 : decode cX8_read 5 = .ok (.iload_n 1, 1) := by decide +kernel
theorem dX8_read_6 : decode cX8_read 6 = .ok (.bipush 24, 2) := by decide +kernel
theorem dX8_read_8 : decode cX8_read 8 = .ok (.if_icmp .le 7, 3) := by decide +kernel
theorem dX8_read_11 : decode cX8_read 11 = .ok (.iconst 1, 1) := by decide +kernel
theorem dX8_read_12 : decode cX8_read 12 = .ok (.goto 4, 3) := by decide +kernel
theorem dX8_read_15 : decode cX8_read 15 = .ok (.iconst 0, 1) := by decide +kernel
theorem dX8_read_16 : decode cX8_read 16 = .ok (.putfield 44, 3) := by decide +kernel
theorem dX8_read_19 : decode cX8_read 19 = .ok (.aload_n 0, 1) := by decide +kernel
theorem dX8_read_20 : decode cX8_read 20 = .ok (.getfield 44, 3) := by decide +kernel
theorem dX8_read_23 : decode cX8_read 23 = .ok (.ifCond .le 5, 3) := by decide +kernel
theorem dX8_read_26 : decode cX8_read 26 = .ok (.iconst 0, 1) := by decide +kernel
theorem dX8_read_27 : decode cX8_read 27 = .ok (.ireturn, 1) := by decide +kernel
theorem dX8_read_28 : decode cX8_read 28 = .ok (.aload_n 0, 1) := by decide +kernel
theorem dX8_read_29 : decode cX8_read 29 = .ok (.iconst 0, 1) := by decide +kernel
theorem dX8_read_30 : decode cX8_read 30 = .ok (.putfield 60, 3) := by decide +kernel
theorem dX8_read_33 : decode cX8_read 33 = .ok (.aload_n 0, 1) := by decide +kernel
theorem dX8_read_34 : decode cX8_read 34 = .ok (.iconst 0, 1) := by decide +kernel
theorem dX8_read_35 : decode cX8_read 35 = .ok (.putfield 69, 3) := by decide +kernel
theorem dX8_read_38 : decode cX8_read 38 = .ok (.aload_n 0, 1) := by decide +kernel
theorem dX8_read_39 : decode cX8_read 39 = .ok (.iconst 0, 1) := by decide +kernel
theorem dX8_read_40 : decode cX8_read 40 = .ok (.putfield 72, 3) := by decide +kernel
theorem dX8_read_43 : decode cX8_read 43 = .ok (.iconst 1, 1) := by decide +kernel
theorem dX8_read_44 : decode cX8_read 44 = .ok (.istore_n 2, 1) := by decide +kernel
theorem dX8_read_45 : decode cX8_read 45 = .ok (.iload_n 2, 1) := by decide +kernel
theorem dX8_read_46 : decode cX8_read 46 = .ok (.ifCond .eq 151, 3) := by decide +kernel
theorem dX8_read_49 : decode cX8_read 49 = .ok (.aload_n 0, 1) := by decide +kernel
theorem dX8_read_50 : decode cX8_read 50 = .ok (.getfield 60, 3) := by decide +kernel
theorem dX8_read_53 : decode cX8_read 53 = .ok (.iload_n 1, 1) := by decide +kernel
theorem dX8_read_54 : decode cX8_read 54 = .ok (.if_icmp .ge 143, 3) := by decide +kernel
theorem dX8_read_57 : decode cX8_read 57 = .ok (.aload_n 0, 1) := by decide +kernel
theorem dX8_read_58 : decode cX8_read 58 = .ok (.invokevirtual 206, 3) := by decide +kernel
theorem dX8_read_61 : decode cX8_read 61 = .ok (.istore_n 3, 1) := by decide +kernel
theorem dX8_read_62 : decode cX8_read 62 = .ok (.aload_n 0, 1) := by decide +kernel
theorem dX8_read_63 : decode cX8_read 63 = .ok (.iconst 0, 1) := by decide +kernel
theorem dX8_read_64 : decode cX8_read 64 = .ok (.putfield 183, 3) := by decide +kernel
theorem dX8_read_67 : decode cX8_read 67 = .ok (.aload_n 0, 1) := by decide +kernel
theorem dX8_read_68 : decode cX8_read 68 = .ok (.aload_n 0, 1) := by decide +kernel
theorem dX8_read_69 : decode cX8_read 69 = .ok (.getfield 60, 3) := by decide +kernel
theorem dX8_read_72 : decode cX8_read 72 = .ok (.iconst 0, 1) := by decide +kernel
theorem dX8_read_73 : decode cX8_read 73 = .ok (.sipush 700, 3) := by decide +kernel
theorem dX8_read_76 : decode cX8_read 76 = .ok (.iconst 0, 1) := by decide +kernel
theorem dX8_read_77 : decode cX8_read 77 = .ok (.invokevirtual 84, 3) := by decide +kernel
theorem dX8_read_80 : decode cX8_read 80 = .ok (.iload_n 3, 1) := by decide +kernel
theorem dX8_read_81 : decode cX8_read 81 = .ok (.ifCond .lt 37, 3) := by decide +kernel
theorem dX8_read_84 : decode cX8_read 84 = .ok (.iload_n 3, 1) := by decide +kernel
theorem dX8_read_85 : decode cX8_read 85 = .ok (.iconst 1, 1) := by decide +kernel
theorem dX8_read_86 : decode cX8_read 86 = .ok (.if_icmp .ne 17, 3) := by decide +kernel
theorem dX8_read_89 : decode cX8_read 89 = .ok (.aload_n 0, 1) := by decide +kernel
theorem dX8_read_90 : decode cX8_read 90 = .ok (.aload_n 0, 1) := by decide +kernel
theorem dX8_read_91 : decode cX8_read 91 = .ok (.getfield 60, 3) := by decide +kernel
theorem dX8_read_94 : decode cX8_read 94 = .ok (.invokevirtual 209, 3) := by decide +kernel
theorem dX8_read_97 : decode cX8_read 97 = .ok (.ifCond .eq 21, 3) := by decide +kernel
theorem dX8_read_100 : decode cX8_read 100 = .ok (.goto 14, 3) := by decide +kernel
theorem dX8_read_103 : decode cX8_read 103 = .ok (.aload_n 0, 1) := by decide +kernel
theorem dX8_read_104 : decode cX8_read 104 = .ok (.aload_n 0, 1) := by decide +kernel
theorem dX8_read_105 : decode cX8_read 105 = .ok (.getfield 60, 3) := by decide +kernel
theorem dX8_read_108 : decode cX8_read 108 = .ok (.invokevirtual 212, 3) := by decide +kernel
theorem dX8_read_111 : decode cX8_read 111 = .ok (.ifCond .eq 7, 3) := by decide +kernel
theorem dX8_read_114 : decode cX8_read 114 = .ok (.iconst 1, 1) := by decide +kernel
theorem dX8_read_115 : decode cX8_read 115 = .ok (.goto 4, 3) := by decide +kernel
theorem dX8_read_118 : decode cX8_read 118 = .ok (.iconst 0, 1) := by decide +kernel
theorem dX8_read_119 : decode cX8_read 119 = .ok (.istore_n 2, 1) := by decide +kernel
theorem dX8_read_120 : decode cX8_read 120 = .ok (.iload_n 2, 1) := by decide +kernel
theorem dX8_read_121 : decode cX8_read 121 = .ok (.ifCond .eq 73, 3) := by decide +kernel
theorem dX8_read_124 : decode cX8_read 124 = .ok (.aload_n 0, 1) := by decide +kernel
theorem dX8_read_125 : decode cX8_read 125 = .ok (.getfield 23, 3) := by decide +kernel
theorem dX8_read_128 : decode cX8_read 128 = .ok (.aload_n 0, 1) := by decide +kernel
theorem dX8_read_129 : decode cX8_read 129 = .ok (.getfield 60, 3) := by decide +kernel
theorem dX8_read_132 : decode cX8_read 132 = .ok (.aload_n 0, 1) := by decide +kernel
theorem dX8_read_133 : decode cX8_read 133 = .ok (.getfield 183, 3) := by decide +kernel
theorem dX8_read_136 : decode cX8_read 136 = .ok (.iastore, 1) := by decide +kernel
theorem dX8_read_137 : decode cX8_read 137 = .ok (.aload_n 0, 1) := by decide +kernel
theorem dX8_read_138 : decode cX8_read 138 = .ok (.getfield 183, 3) := by decide +kernel
theorem dX8_read_141 : decode cX8_read 141 = .ok (.iconst 3, 1) := by decide +kernel
theorem dX8_read_142 : decode cX8_read 142 = .ok (.if_icmp .ne 42, 3) := by decide +kernel
theorem dX8_read_145 : decode cX8_read 145 = .ok (.aload_n 0, 1) := by decide +kernel
theorem dX8_read_146 : decode cX8_read 146 = .ok (.aload_n 0, 1) := by decide +kernel
theorem dX8_read_147 : decode cX8_read 147 = .ok (.getfield 60, 3) := by decide +kernel
theorem dX8_read_150 : decode cX8_read 150 = .ok (.invokevirtual 215, 3) := by decide +kernel
theorem dX8_read_153 : decode cX8_read 153 = .ok (.aload_n 0, 1) := by decide +kernel
theorem dX8_read_154 : decode cX8_read 154 = .ok (.dup, 1) := by decide +kernel
theorem dX8_read_155 : decode cX8_read 155 = .ok (.getfield 72, 3) := by decide +kernel
theorem dX8_read_158 : decode cX8_read 158 = .ok (.iconst 1, 1) := by decide +kernel
theorem dX8_read_159 : decode cX8_read 159 = .ok (.iadd, 1) := by decide +kernel
theorem dX8_read_160 : decode cX8_read 160 = .ok (.putfield 72, 3) := by decide +kernel
theorem dX8_read_163 : decode cX8_read 163 = .ok (.aload_n 0, 1) := by decide +kernel
theorem dX8_read_164 : decode cX8_read 164 = .ok (.invokevirtual 142, 3) := by decide +kernel
theorem dX8_read_167 : decode cX8_read 167 = .ok (.ifCond .eq 15, 3) := by decide +kernel
theorem dX8_read_170 : decode cX8_read 170 = .ok (.aload_n 0, 1) := by decide +kernel
theorem dX8_read_171 : decode cX8_read 171 = .ok (.getfield 72, 3) := by decide +kernel
theorem dX8_read_174 : decode cX8_read 174 = .ok (.iconst 5, 1) := by decide +kernel
theorem dX8_read_175 : decode cX8_read 175 = .ok (.if_icmp .ge 7, 3) := by decide +kernel
theorem dX8_read_178 : decode cX8_read 178 = .ok (.iconst 1, 1) := by decide +kernel
theorem dX8_read_179 : decode cX8_read 179 = .ok (.goto 4, 3) := by decide +kernel
theorem dX8_read_182 : decode cX8_read 182 = .ok (.iconst 0, 1) := by decide +kernel
theorem dX8_read_183 : decode cX8_read 183 = .ok (.istore_n 2, 1) := by decide +kernel
theorem dX8_read_184 : decode cX8_read 184 = .ok (.aload_n 0, 1) := by decide +kernel
theorem dX8_read_185 : decode cX8_read 185 = .ok (.dup, 1) := by decide +kernel
theorem dX8_read_186 : decode cX8_read 186 = .ok (.getfield 60, 3) := by decide +kernel
theorem dX8_read_189 : decode cX8_read 189 = .ok (.iconst 1, 1) := by decide +kernel
theorem dX8_read_190 : decode cX8_read 190 = .ok (.iadd, 1) := by decide +kernel
theorem dX8_read_191 : decode cX8_read 191 = .ok (.putfield 60, 3) := by decide +kernel
theorem dX8_read_194 : decode cX8_read 194 = .ok (.goto (-149), 3) := by decide +kernel
theorem dX8_read_197 : decode cX8_read 197 = .ok (.aload_n 0, 1) := by decide +kernel
theorem dX8_read_198 : decode cX8_read 198 = .ok (.getfield 60, 3) := by decide +kernel
theorem dX8_read_201 : decode cX8_read 201 = .ok (.ireturn, 1) := by decide +kernel
