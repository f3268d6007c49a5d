theorem dX3_init_0 : decode cX3_init 0 = .ok (.aload_n 0, 1) := by decide +kernel
theorem dX3_init_1 : decode cX3_init 1 = .ok (.invokespecial 3, 3) := by decide +kernel
theorem dX3_init_4 : decode cX3_init 4 = .ok (.aload_n 0, 1) := by decide +kernel
theorem dX3_init_5 : decode cX3_init 5 = .ok (.aload_n 1, 1) := by decide +kernel
theorem dX3_init_6 : decode cX3_init 6 = .ok (.putfield 9, 3) := by decide +kernel
theorem dX3_init_9 : decode cX3_init 9 = .ok (.aload_n 0, 1) := by decide +kernel
theorem dX3_init_10 : decode cX3_init 10 = .ok (.aload_n 2, 1) := by decide +kernel
theorem dX3_init_11 : decode cX3_init 11 = .ok (.putfield 15, 3) := by decide +kernel
theorem dX3_init_14 : decode cX3_init 14 = .ok (.aload_n 0, 1) := by decide +kernel
theorem dX3_init_15 : decode cX3_init 15 = .ok (.aload_n 3, 1) := by decide +kernel
theorem dX3_init_16 : decode cX3_init 16 = .ok (.putfield 19, 3) := by decide +kernel
theorem dX3_init_19 : decode cX3_init 19 = .ok (.aload_n 0, 1) := by decide +kernel
theorem dX3_init_20 : decode cX3_init 20 = .ok (.aload 4, 2) := by decide +kernel
theorem dX3_init_22 : decode cX3_init 22 = .ok (.putfield 23, 3) := by decide +kernel
theorem dX3_init_25 : decode cX3_init 25 = .ok (.aload_n 0, 1) := by decide +kernel
theorem dX3_init_26 : decode cX3_init 26 = .ok (.aload 5, 2) := by decide +kernel
theorem dX3_init_28 : decode cX3_init 28 = .ok (.putfield 26, 3) := by decide +kernel
theorem dX3_init_31 : decode cX3_init 31 = .ok (.return_, 1) := by decide +kernel
set_option maxRecDepth 20000 in
theorem ggX3_begin_X0_restart : GoodIn wsX3_begin wsX0_restart := goodIn_r _ [9, 10, 25, 26, 27] (by decide +kernel) (by decide +kernel)
set_option maxRecDepth 20000 in
theorem gX3_begin_X0_restart : GoodIn wsX3_begin (wsV RX3 30 RX0 yX0_restart wsX0_restart) := goodIn_app (goodIn_of _ (by decide +kernel)) ggX3_begin_X0_restart
theorem dX3_begin_0 : decode cX3_begin 0 = .ok (.aload_n 0, 1) := by decide +kernel
theorem dX3_begin_1 : decode cX3_begin 1 = .ok (.getfield 26, 3) := by decide +kernel
theorem dX3_begin_4 : decode cX3_begin 4 = .ok (.invokevirtual 30, 3) := by decide +kernel
theorem dX3_begin_7 : decode cX3_begin 7 = .ok (.aload_n 0, 1) := by decide +kernel
theorem dX3_begin_8 : decode cX3_begin 8 = .ok (.getfield 15, 3) := by decide +kernel
theorem dX3_begin_11 : decode cX3_begin 11 = .ok (.iconst 0, 1) := by decide +kernel
theorem dX3_begin_12 : decode cX3_begin 12 = .ok (.putfield 35, 3) := by decide +kernel
theorem dX3_begin_15 : decode cX3_begin 15 = .ok (.aload_n 0, 1) := by decide +kernel
theorem dX3_begin_16 : decode cX3_begin 16 = .ok (.iconst 0, 1) := by decide +kernel
theorem dX3_begin_17 : decode cX3_begin 17 = .ok (.putfield 41, 3) := by decide +kernel
theorem dX3_begin_20 : decode cX3_begin 20 = .ok (.return_, 1) := by decide +kernel
set_option maxRecDepth 20000 in
theorem ggX3_reachRow_X5_hasMarks : GoodIn wsX3_reachRow wsX5_hasMarks := goodIn_r _ [10, 11, 12, 68, 69, 70, 71, 72] (by decide +kernel) (by decide +kernel)
set_option maxRecDepth 20000 in
theorem gX3_reachRow_X5_hasMarks : GoodIn wsX3_reachRow (wsV RX3 44 RX5 yX5_hasMarks wsX5_hasMarks) := goodIn_app (goodIn_of _ (by decide +kernel)) ggX3_reachRow_X5_hasMarks
set_option maxRecDepth 20000 in
theorem ggX3_reachRow_X0_passMark : GoodIn wsX3_reachRow wsX0_passMark := goodIn_ca (goodIn_r _ [17, 18, 19, 20, 21, 22, 16, 23, 24, 73, 74, 75] (by decide +kernel) (by decide +kernel)) (goodIn_sub (fun _ h => List.mem_cons_of_mem _ (List.mem_append_right _ h)) (by decide +kernel))
set_option maxRecDepth 20000 in
theorem gX3_reachRow_X0_passMark : GoodIn wsX3_reachRow (wsV RX3 50 RX0 yX0_passMark wsX0_passMark) := goodIn_app (goodIn_of _ (by decide +kernel)) ggX3_reachRow_X0_passMark
set_option maxRecDepth 20000 in
theorem ggX3_reachRow_X0_left : GoodIn wsX3_reachRow wsX0_left := goodIn_r _ [28, 18, 19, 73, 74, 75] (by decide +kernel) (by decide +kernel)
set_option maxRecDepth 20000 in
theorem gX3_reachRow_X0_left : GoodIn wsX3_reachRow (wsV RX3 60 RX0 yX0_left wsX0_left) := goodIn_app (goodIn_of _ (by decide +kernel)) ggX3_reachRow_X0_left
set_option maxRecDepth 20000 in
theorem ggX3_reachRow_X0_peek : GoodIn wsX3_reachRow wsX0_peek := goodIn_ca (goodIn_r _ [32, 19, 33, 34, 35, 16, 36, 18, 24, 73, 74, 75] (by decide +kernel) (by decide +kernel)) (goodIn_sub (fun _ h => List.mem_cons_of_mem _ (List.mem_append_right _ h)) (by decide +kernel))
set_option maxRecDepth 20000 in
theorem gX3_reachRow_X0_peek : GoodIn wsX3_reachRow (wsV RX3 64 RX0 yX0_peek wsX0_peek) := goodIn_app (goodIn_of _ (by decide +kernel)) ggX3_reachRow_X0_peek
set_option maxRecDepth 20000 in
theorem ggX3_reachRow_X0_pass : GoodIn wsX3_reachRow wsX0_pass := goodIn_r _ [40, 19, 41, 42, 43, 44, 45, 26, 27, 16, 28, 18, 73, 74, 75] (by decide +kernel) (by decide +kernel)
set_option maxRecDepth 20000 in
theorem gX3_reachRow_X0_pass : GoodIn wsX3_reachRow (wsV RX3 68 RX0 yX0_pass wsX0_pass) := goodIn_app (goodIn_of _ (by decide +kernel)) ggX3_reachRow_X0_pass
set_option maxRecDepth 20000 in
theorem ggX3_reachRow_X0_passToByte : GoodIn wsX3_reachRow wsX0_passToByte := goodIn_r _ [49, 19, 50, 38, 39, 16, 40, 41, 42, 43, 44, 45, 26, 27, 28, 18, 73, 74, 75] (by decide +kernel) (by decide +kernel)
set_option maxRecDepth 20000 in
theorem gX3_reachRow_X0_passToByte : GoodIn wsX3_reachRow (wsV RX3 75 RX0 yX0_passToByte wsX0_passToByte) := goodIn_app (goodIn_of _ (by decide +kernel)) ggX3_reachRow_X0_passToByte
set_option maxRecDepth 20000 in
theorem ggX3_reachRow_X0_isMarkNext : GoodIn wsX3_reachRow wsX0_isMarkNext := goodIn_ca (goodIn_r _ [54, 55, 56, 57, 16, 58, 19, 45, 26, 27, 28, 18, 20, 21, 22, 23, 24, 73, 74, 75] (by decide +kernel) (by decide +kernel)) (goodIn_sub (fun _ h => List.mem_cons_of_mem _ (List.mem_append_right _ h)) (by decide +kernel))
set_option maxRecDepth 20000 in
theorem gX3_reachRow_X0_isMarkNext : GoodIn wsX3_reachRow (wsV RX3 78 RX0 yX0_isMarkNext wsX0_isMarkNext) := goodIn_app (goodIn_of _ (by decide +kernel)) ggX3_reachRow_X0_isMarkNext
theorem dX3_reachRow_0 : decode cX3_reachRow 0 = .ok (.aload_n 0, 1) := by decide +kernel
theorem dX3_reachRow_1 : decode cX3_reachRow 1 = .ok (.getfield 9, 3) := by decide +kernel
theorem dX3_reachRow_4 : decode cX3_reachRow 4 = .ok (.invokevirtual 44, 3) := by decide +kernel
theorem dX3_reachRow_7 : decode cX3_reachRow 7 = .ok (.istore_n 1, 1) := by decide +kernel
theorem dX3_reachRow_8 : decode cX3_reachRow 8 = .ok (.iload_n 1, 1) := by decide +kernel
theorem dX3_reachRow_9 : decode cX3_reachRow 9 = .ok (.ifCond .eq 15, 3) := by decide +kernel
theorem dX3_reachRow_12 : decode cX3_reachRow 12 = .ok (.aload_n 0, 1) := by decide +kernel
theorem dX3_reachRow_13 : decode cX3_reachRow 13 = .ok (.getfield 26, 3) := by decide +kernel
theorem dX3_reachRow_16 : decode cX3_reachRow 16 = .ok (.invokevirtual 50, 3) := by decide +kernel
theorem dX3_reachRow_19 : decode cX3_reachRow 19 = .ok (.ifCond .ne 5, 3) := by decide +kernel
theorem dX3_reachRow_22 : decode cX3_reachRow 22 = .ok (.iconst 0, 1) := by decide +kernel
theorem dX3_reachRow_23 : decode cX3_reachRow 23 = .ok (.ireturn, 1) := by decide +kernel
theorem dX3_reachRow_24 : decode cX3_reachRow 24 = .ok (.aload_n 0, 1) := by decide +kernel
theorem dX3_reachRow_25 : decode cX3_reachRow 25 = .ok (.aload_n 0, 1) := by decide +kernel
theorem dX3_reachRow_26 : decode cX3_reachRow 26 = .ok (.getfield 9, 3) := by decide +kernel
theorem dX3_reachRow_29 : decode cX3_reachRow 29 = .ok (.getfield 53, 3) := by decide +kernel
theorem dX3_reachRow_32 : decode cX3_reachRow 32 = .ok (.ifCond .ne 7, 3) := by decide +kernel
theorem dX3_reachRow_35 : decode cX3_reachRow 35 = .ok (.iconst 1, 1) := by decide +kernel
theorem dX3_reachRow_36 : decode cX3_reachRow 36 = .ok (.goto 4, 3) := by decide +kernel
theorem dX3_reachRow_39 : decode cX3_reachRow 39 = .ok (.iconst 0, 1) := by decide +kernel
theorem dX3_reachRow_40 : decode cX3_reachRow 40 = .ok (.putfield 56, 3) := by decide +kernel
theorem dX3_reachRow_43 : decode cX3_reachRow 43 = .ok (.aload_n 0, 1) := by decide +kernel
theorem dX3_reachRow_44 : decode cX3_reachRow 44 = .ok (.getfield 9, 3) := by decide +kernel
theorem dX3_reachRow_47 : decode cX3_reachRow 47 = .ok (.getfield 53, 3) := by decide +kernel
theorem dX3_reachRow_50 : decode cX3_reachRow 50 = .ok (.iconst 1, 1) := by decide +kernel
theorem dX3_reachRow_51 : decode cX3_reachRow 51 = .ok (.if_icmp .ne 45, 3) := by decide +kernel
theorem dX3_reachRow_54 : decode cX3_reachRow 54 = .ok (.aload_n 0, 1) := by decide +kernel
theorem dX3_reachRow_55 : decode cX3_reachRow 55 = .ok (.getfield 26, 3) := by decide +kernel
theorem dX3_reachRow_58 : decode cX3_reachRow 58 = .ok (.invokevirtual 60, 3) := by decide +kernel
theorem dX3_reachRow_61 : decode cX3_reachRow 61 = .ok (.iconst 1, 1) := by decide +kernel
theorem dX3_reachRow_62 : decode cX3_reachRow 62 = .ok (.if_icmp .ge 5, 3) := by decide +kernel
theorem dX3_reachRow_65 : decode cX3_reachRow 65 = .ok (.iconst 0, 1) := by decide +kernel
theorem dX3_reachRow_66 : decode cX3_reachRow 66 = .ok (.ireturn, 1) := by decide +kernel
theorem dX3_reachRow_67 : decode cX3_reachRow 67 = .ok (.aload_n 0, 1) := by decide +kernel
theorem dX3_reachRow_68 : decode cX3_reachRow 68 = .ok (.aload_n 0, 1) := by decide +kernel
theorem dX3_reachRow_69 : decode cX3_reachRow 69 = .ok (.getfield 26, 3) := by decide +kernel
theorem dX3_reachRow_72 : decode cX3_reachRow 72 = .ok (.iconst 1, 1) := by decide +kernel
theorem dX3_reachRow_73 : decode cX3_reachRow 73 = .ok (.invokevirtual 64, 3) := by decide +kernel
theorem dX3_reachRow_76 : decode cX3_reachRow 76 = .ok (.iconst 1, 1) := by decide +kernel
theorem dX3_reachRow_77 : decode cX3_reachRow 77 = .ok (.if_icmp .ne 7, 3) := by decide +kernel
theorem dX3_reachRow_80 : decode cX3_reachRow 80 = .ok (.iconst 1, 1) := by decide +kernel
theorem dX3_reachRow_81 : decode cX3_reachRow 81 = .ok (.goto 4, 3) := by decide +kernel
theorem dX3_reachRow_84 : decode cX3_reachRow 84 = .ok (.iconst 0, 1) := by decide +kernel
theorem dX3_reachRow_85 : decode cX3_reachRow 85 = .ok (.putfield 56, 3) := by decide +kernel
theorem dX3_reachRow_88 : decode cX3_reachRow 88 = .ok (.aload_n 0, 1) := by decide +kernel
theorem dX3_reachRow_89 : decode cX3_reachRow 89 = .ok (.getfield 26, 3) := by decide +kernel
theorem dX3_reachRow_92 : decode cX3_reachRow 92 = .ok (.iconst 1, 1) := by decide +kernel
theorem dX3_reachRow_93 : decode cX3_reachRow 93 = .ok (.invokevirtual 68, 3) := by decide +kernel
theorem dX3_reachRow_96 : decode cX3_reachRow 96 = .ok (.iload_n 1, 1) := by decide +kernel
theorem dX3_reachRow_97 : decode cX3_reachRow 97 = .ok (.ifCond .ne 20, 3) := by decide +kernel
theorem dX3_reachRow_100 : decode cX3_reachRow 100 = .ok (.aload_n 0, 1) := by decide +kernel
theorem dX3_reachRow_101 : decode cX3_reachRow 101 = .ok (.getfield 9, 3) := by decide +kernel
theorem dX3_reachRow_104 : decode cX3_reachRow 104 = .ok (.getfield 72, 3) := by decide +kernel
theorem dX3_reachRow_107 : decode cX3_reachRow 107 = .ok (.ifCond .eq 10, 3) := by decide +kernel
theorem dX3_reachRow_110 : decode cX3_reachRow 110 = .ok (.aload_n 0, 1) := by decide +kernel
theorem dX3_reachRow_111 : decode cX3_reachRow 111 = .ok (.getfield 26, 3) := by decide +kernel
theorem dX3_reachRow_114 : decode cX3_reachRow 114 = .ok (.invokevirtual 75, 3) := by decide +kernel
theorem dX3_reachRow_117 : decode cX3_reachRow 117 = .ok (.iload_n 1, 1) := by decide +kernel
theorem dX3_reachRow_118 : decode cX3_reachRow 118 = .ok (.ifCond .ne 14, 3) := by decide +kernel
theorem dX3_reachRow_121 : decode cX3_reachRow 121 = .ok (.aload_n 0, 1) := by decide +kernel
theorem dX3_reachRow_122 : decode cX3_reachRow 122 = .ok (.getfield 9, 3) := by decide +kernel
theorem dX3_reachRow_125 : decode cX3_reachRow 125 = .ok (.getfield 53, 3) := by decide +kernel
theorem dX3_reachRow_128 : decode cX3_reachRow 128 = .ok (.iconst 2, 1) := by decide +kernel
theorem dX3_reachRow_129 : decode cX3_reachRow 129 = .ok (.if_icmp .ne 7, 3) := by decide +kernel
theorem dX3_reachRow_132 : decode cX3_reachRow 132 = .ok (.iconst 1, 1) := by decide +kernel
theorem dX3_reachRow_133 : decode cX3_reachRow 133 = .ok (.goto 4, 3) := by decide +kernel
theorem dX3_reachRow_136 : decode cX3_reachRow 136 = .ok (.iconst 0, 1) := by decide +kernel
theorem dX3_reachRow_137 : decode cX3_reachRow 137 = .ok (.istore_n 2, 1) := by decide +kernel
theorem dX3_reachRow_138 : decode cX3_reachRow 138 = .ok (.iload_n 2, 1) := by decide +kernel
theorem dX3_reachRow_139 : decode cX3_reachRow 139 = .ok (.ifCond .eq 13, 3) := by decide +kernel
theorem dX3_reachRow_142 : decode cX3_reachRow 142 = .ok (.aload_n 0, 1) := by decide +kernel
theorem dX3_reachRow_143 : decode cX3_reachRow 143 = .ok (.getfield 26, 3) := by decide +kernel
theorem dX3_reachRow_146 : decode cX3_reachRow 146 = .ok (.invokevirtual 78, 3) := by decide +kernel
theorem dX3_reachRow_149 : decode cX3_reachRow 149 = .ok (.ifCond .ne 7, 3) := by decide +kernel
theorem dX3_reachRow_152 : decode cX3_reachRow 152 = .ok (.iconst 1, 1) := by decide +kernel
theorem dX3_reachRow_153 : decode cX3_reachRow 153 = .ok (.goto 4, 3) := by decide +kernel
theorem dX3_reachRow_156 : decode cX3_reachRow 156 = .ok (.iconst 0, 1) := by decide +kernel
theorem dX3_reachRow_157 : decode cX3_reachRow 157 = .ok (.ireturn, 1) := by decide +kernel
set_option maxRecDepth 20000 in
theorem ggX3_readRow_X2_whiten : GoodIn wsX3_readRow wsX2_whiten := goodIn_ca (goodIn_r _ [13, 14, 15, 16, 17, 12, 18, 19, 20, 21, 22, 23, 24, 25, 26, 27, 28, 29, 30, 31, 32, 168, 169, 170, 171, 172] (by decide +kernel) (by decide +kernel)) (goodIn_sub (fun _ h => List.mem_cons_of_mem _ (List.mem_append_right _ h)) (by decide +kernel))
set_option maxRecDepth 20000 in
theorem gX3_readRow_X2_whiten : GoodIn wsX3_readRow (wsV RX3 81 RX2 yX2_whiten wsX2_whiten) := goodIn_app (goodIn_of _ (by decide +kernel)) ggX3_readRow_X2_whiten
set_option maxRecDepth 20000 in
theorem ggX3_readRow_X3_readPlain : GoodIn wsX3_readRow wsX3_readPlain := goodIn_ca (goodIn_r _ [37, 3, 1, 38, 4, 39, 40, 41, 36, 42, 43, 44, 45, 46, 47, 48, 49, 50, 51, 52, 53, 54, 55, 56, 57, 58, 59, 60, 61, 62, 63, 64, 65, 66, 67, 68, 69, 70, 71, 72, 73, 74, 75, 76, 77, 78, 25, 22, 26, 79, 80, 81, 82, 83, 84, 85, 86, 7, 87, 88, 89, 90, 91, 92, 93, 94, 95, 96, 97, 98, 99, 100, 101, 102, 103, 104, 105, 106, 107, 108, 109, 110, 111, 112, 16, 17, 12, 18, 14, 19, 20, 21, 23, 24, 27, 28, 29, 30, 31, 32, 159, 160, 161, 162, 163, 164, 165, 166, 167, 168, 169, 170, 171, 172, 178, 179, 180, 181, 182, 183, 184, 173, 174, 175, 176, 177] (by decide +kernel) (by decide +kernel)) (goodIn_sub (fun _ h => List.mem_cons_of_mem _ (List.mem_append_right _ h)) (by decide +kernel))
set_option maxRecDepth 20000 in
theorem gX3_readRow_X3_readPlain : GoodIn wsX3_readRow (wsV RX3 90 RX3 yX3_readPlain wsX3_readPlain) := goodIn_app (goodIn_of _ (by decide +kernel)) ggX3_readRow_X3_readPlain
set_option maxRecDepth 20000 in
theorem ggX3_readRow_X3_readDrawn : GoodIn wsX3_readRow wsX3_readDrawn := goodIn_ca (goodIn_r _ [116, 3, 1, 38, 4, 117, 118, 119, 36, 120, 45, 70, 71, 72, 49, 73, 56, 51, 46, 47, 48, 50, 52, 53, 54, 55, 57, 74, 75, 76, 77, 78, 25, 22, 26, 79, 121, 122, 123, 124, 39, 40, 41, 42, 43, 44, 58, 59, 60, 61, 62, 63, 64, 65, 66, 67, 68, 69, 80, 81, 82, 107, 108, 109, 110, 111, 112, 16, 17, 12, 18, 14, 19, 20, 21, 23, 24, 27, 28, 29, 30, 31, 32, 125, 126, 127, 128, 129, 130, 131, 132, 133, 134, 135, 136, 137, 138, 139, 140, 141, 142, 143, 144, 145, 146, 147, 148, 159, 160, 161, 162, 163, 164, 165, 166, 167, 168, 169, 170, 171, 172, 178, 179, 180, 181, 182, 183, 184] (by decide +kernel) (by decide +kernel)) (goodIn_sub (fun _ h => List.mem_cons_of_mem _ (List.mem_append_right _ h)) (by decide +kernel))
set_option maxRecDepth 20000 in
theorem gX3_readRow_X3_readDrawn : GoodIn wsX3_readRow (wsV RX3 93 RX3 yX3_readDrawn wsX3_readDrawn) := goodIn_app (goodIn_of _ (by decide +kernel)) ggX3_readRow_X3_readDrawn
set_option maxRecDepth 20000 in
theorem ggX3_readRow_X2_copyAbove : GoodIn wsX3_readRow wsX2_copyAbove := goodIn_ca (goodIn_r _ [152, 32, 27, 28, 29, 30, 12, 31, 133, 134, 135, 136, 168, 169, 170, 171, 172] (by decide +kernel) (by decide +kernel)) (goodIn_sub (fun _ h => List.mem_cons_of_mem _ (List.mem_append_right _ h)) (by decide +kernel))
set_option maxRecDepth 20000 in
theorem gX3_readRow_X2_copyAbove : GoodIn wsX3_readRow (wsV RX3 99 RX2 yX2_copyAbove wsX2_copyAbove) := goodIn_app (goodIn_of _ (by decide +kernel)) ggX3_readRow_X2_copyAbove
set_option maxRecDepth 20000 in
theorem ggX3_readRow_X2_keep : GoodIn wsX3_readRow wsX2_keep := goodIn_ca (goodIn_r _ [156, 157, 158, 168, 169, 170, 171, 172] (by decide +kernel) (by decide +kernel)) (goodIn_sub (fun _ h => List.mem_cons_of_mem _ (List.mem_append_right _ h)) (by decide +kernel))
set_option maxRecDepth 20000 in
theorem gX3_readRow_X2_keep : GoodIn wsX3_readRow (wsV RX3 102 RX2 yX2_keep wsX2_keep) := goodIn_app (goodIn_of _ (by decide +kernel)) ggX3_readRow_X2_keep
set_option maxRecDepth 20000 in
theorem ggX3_readRow_X5_hasMarks : GoodIn wsX3_readRow wsX5_hasMarks := goodIn_r _ [91, 92, 93, 173, 174, 175, 176, 177] (by decide +kernel) (by decide +kernel)
set_option maxRecDepth 20000 in
theorem gX3_readRow_X5_hasMarks : GoodIn wsX3_readRow (wsV RX3 44 RX5 yX5_hasMarks wsX5_hasMarks) := goodIn_app (goodIn_of _ (by decide +kernel)) ggX3_readRow_X5_hasMarks
theorem dX3_readRow_0 : decode cX3_readRow 0 = .ok (.aload_n 0, 1) := by decide +kernel
theorem dX3_readRow_1 : decode cX3_readRow 1 = .ok (.getfield 15, 3) := by decide +kernel
theorem dX3_readRow_4 : decode cX3_readRow 4 = .ok (.getfield 35, 3) := by decide +kernel
theorem dX3_readRow_7 : decode cX3_readRow 7 = .ok (.istore_n 1, 1) := by decide +kernel
theorem dX3_readRow_8 : decode cX3_readRow 8 = .ok (.aload_n 0, 1) := by decide +kernel
theorem dX3_readRow_9 : decode cX3_readRow 9 = .ok (.getfield 15, 3) := by decide +kernel
theorem dX3_readRow_12 : decode cX3_readRow 12 = .ok (.iload_n 1, 1) := by decide +kernel
theorem dX3_readRow_13 : decode cX3_readRow 13 = .ok (.invokevirtual 81, 3) := by decide +kernel
theorem dX3_readRow_16 : decode cX3_readRow 16 = .ok (.aload_n 0, 1) := by decide +kernel
theorem dX3_readRow_17 : decode cX3_readRow 17 = .ok (.iconst 0, 1) := by decide +kernel
theorem dX3_readRow_18 : decode cX3_readRow 18 = .ok (.putfield 84, 3) := by decide +kernel
theorem dX3_readRow_21 : decode cX3_readRow 21 = .ok (.aload_n 0, 1) := by decide +kernel
theorem dX3_readRow_22 : decode cX3_readRow 22 = .ok (.iconst 0, 1) := by decide +kernel
theorem dX3_readRow_23 : decode cX3_readRow 23 = .ok (.putfield 87, 3) := by decide +kernel
theorem dX3_readRow_26 : decode cX3_readRow 26 = .ok (.aload_n 0, 1) := by decide +kernel
theorem dX3_readRow_27 : decode cX3_readRow 27 = .ok (.getfield 56, 3) := by decide +kernel
theorem dX3_readRow_30 : decode cX3_readRow 30 = .ok (.ifCond .eq 11, 3) := by decide +kernel
theorem dX3_readRow_33 : decode cX3_readRow 33 = .ok (.aload_n 0, 1) := by decide +kernel
theorem dX3_readRow_34 : decode cX3_readRow 34 = .ok (.iload_n 1, 1) := by decide +kernel
theorem dX3_readRow_35 : decode cX3_readRow 35 = .ok (.invokevirtual 90, 3) := by decide +kernel
theorem dX3_readRow_38 : decode cX3_readRow 38 = .ok (.goto 8, 3) := by decide +kernel
theorem dX3_readRow_41 : decode cX3_readRow 41 = .ok (.aload_n 0, 1) := by decide +kernel
theorem dX3_readRow_42 : decode cX3_readRow 42 = .ok (.iload_n 1, 1) := by decide +kernel
theorem dX3_readRow_43 : decode cX3_readRow 43 = .ok (.invokevirtual 93, 3) := by decide +kernel
theorem dX3_readRow_46 : decode cX3_readRow 46 = .ok (.istore_n 2, 1) := by decide +kernel
theorem dX3_readRow_47 : decode cX3_readRow 47 = .ok (.iload_n 2, 1) := by decide +kernel
theorem dX3_readRow_48 : decode cX3_readRow 48 = .ok (.iconst (-1), 1) := by decide +kernel
theorem dX3_readRow_49 : decode cX3_readRow 49 = .ok (.if_icmp .ne 5, 3) := by decide +kernel
theorem dX3_readRow_52 : decode cX3_readRow 52 = .ok (.iconst 0, 1) := by decide +kernel
theorem dX3_readRow_53 : decode cX3_readRow 53 = .ok (.ireturn, 1) := by decide +kernel
theorem dX3_readRow_54 : decode cX3_readRow 54 = .ok (.iload_n 2, 1) := by decide +kernel
theorem dX3_readRow_55 : decode cX3_readRow 55 = .ok (.iconst 3, 1) := by decide +kernel
theorem dX3_readRow_56 : decode cX3_readRow 56 = .ok (.if_icmp .ne 42, 3) := by decide +kernel
theorem dX3_readRow_59 : decode cX3_readRow 59 = .ok (.aload_n 0, 1) := by decide +kernel
theorem dX3_readRow_60 : decode cX3_readRow 60 = .ok (.dup, 1) := by decide +kernel
theorem dX3_readRow_61 : decode cX3_readRow 61 = .ok (.getfield 41, 3) := by decide +kernel
theorem dX3_readRow_64 : decode cX3_readRow 64 = .ok (.iconst 1, 1) := by decide +kernel
theorem dX3_readRow_65 : decode cX3_readRow 65 = .ok (.iadd, 1) := by decide +kernel
theorem dX3_readRow_66 : decode cX3_readRow 66 = .ok (.putfield 41, 3) := by decide +kernel
theorem dX3_readRow_69 : decode cX3_readRow 69 = .ok (.aload_n 0, 1) := by decide +kernel
theorem dX3_readRow_70 : decode cX3_readRow 70 = .ok (.getfield 9, 3) := by decide +kernel
theorem dX3_readRow_73 : decode cX3_readRow 73 = .ok (.getfield 96, 3) := by decide +kernel
theorem dX3_readRow_76 : decode cX3_readRow 76 = .ok (.ifCond .eq 14, 3) := by decide +kernel
theorem dX3_readRow_79 : decode cX3_readRow 79 = .ok (.aload_n 0, 1) := by decide +kernel
theorem dX3_readRow_80 : decode cX3_readRow 80 = .ok (.getfield 15, 3) := by decide +kernel
theorem dX3_readRow_83 : decode cX3_readRow 83 = .ok (.iload_n 1, 1) := by decide +kernel
theorem dX3_readRow_84 : decode cX3_readRow 84 = .ok (.invokevirtual 99, 3) := by decide +kernel
theorem dX3_readRow_87 : decode cX3_readRow 87 = .ok (.goto 11, 3) := by decide +kernel
theorem dX3_readRow_90 : decode cX3_readRow 90 = .ok (.aload_n 0, 1) := by decide +kernel
theorem dX3_readRow_91 : decode cX3_readRow 91 = .ok (.getfield 15, 3) := by decide +kernel
theorem dX3_readRow_94 : decode cX3_readRow 94 = .ok (.iload_n 1, 1) := by decide +kernel
theorem dX3_readRow_95 : decode cX3_readRow 95 = .ok (.invokevirtual 81, 3) := by decide +kernel
theorem dX3_readRow_98 : decode cX3_readRow 98 = .ok (.aload_n 0, 1) := by decide +kernel
theorem dX3_readRow_99 : decode cX3_readRow 99 = .ok (.getfield 15, 3) := by decide +kernel
theorem dX3_readRow_102 : decode cX3_readRow 102 = .ok (.iload_n 2, 1) := by decide +kernel
theorem dX3_readRow_103 : decode cX3_readRow 103 = .ok (.invokevirtual 102, 3) := by decide +kernel
theorem dX3_readRow_106 : decode cX3_readRow 106 = .ok (.iload_n 2, 1) := by decide +kernel
theorem dX3_readRow_107 : decode cX3_readRow 107 = .ok (.iconst 3, 1) := by decide +kernel
theorem dX3_readRow_108 : decode cX3_readRow 108 = .ok (.if_icmp .ne 21, 3) := by decide +kernel
theorem dX3_readRow_111 : decode cX3_readRow 111 = .ok (.aload_n 0, 1) := by decide +kernel
theorem dX3_readRow_112 : decode cX3_readRow 112 = .ok (.getfield 9, 3) := by decide +kernel
theorem dX3_readRow_115 : decode cX3_readRow 115 = .ok (.invokevirtual 44, 3) := by decide +kernel
theorem dX3_readRow_118 : decode cX3_readRow 118 = .ok (.ifCond .eq 15, 3) := by decide +kernel
theorem dX3_readRow_121 : decode cX3_readRow 121 = .ok (.aload_n 0, 1) := by decide +kernel
theorem dX3_readRow_122 : decode cX3_readRow 122 = .ok (.getfield 41, 3) := by decide +kernel
theorem dX3_readRow_125 : decode cX3_readRow 125 = .ok (.iconst 5, 1) := by decide +kernel
theorem dX3_readRow_126 : decode cX3_readRow 126 = .ok (.if_icmp .ge 7, 3) := by decide +kernel
theorem dX3_readRow_129 : decode cX3_readRow 129 = .ok (.iconst 1, 1) := by decide +kernel
theorem dX3_readRow_130 : decode cX3_readRow 130 = .ok (.goto 4, 3) := by decide +kernel
theorem dX3_readRow_133 : decode cX3_readRow 133 = .ok (.iconst 0, 1) := by decide +kernel
theorem dX3_readRow_134 : decode cX3_readRow 134 = .ok (.ireturn, 1) := by decide +kernel
set_option maxRecDepth 20000 in
theorem ggX3_readPlain_X3_readRun : GoodIn wsX3_readPlain wsX3_readRun := goodIn_ca (goodIn_r _ [9, 10, 11, 12, 13, 14, 15, 16, 17, 18, 19, 20, 21, 22, 23, 24, 25, 26, 27, 28, 29, 30, 31, 32, 33, 34, 35, 36, 37, 38, 39, 40, 41, 42, 43, 44, 45, 46, 47, 48, 49, 50, 51, 52, 100, 101, 102, 103, 104, 105, 106, 107, 108, 114, 115, 116, 117, 118, 119, 120] (by decide +kernel) (by decide +kernel)) (goodIn_sub (fun _ h => List.mem_cons_of_mem _ (List.mem_append_right _ h)) (by decide +kernel))
set_option maxRecDepth 20000 in
theorem gX3_readPlain_X3_readRun : GoodIn wsX3_readPlain (wsV RX3 108 RX3 yX3_readRun wsX3_readRun) := goodIn_app (goodIn_of _ (by decide +kernel)) ggX3_readPlain_X3_readRun
set_option maxRecDepth 20000 in
theorem ggX3_readPlain_X3_plainStateWithout : GoodIn wsX3_readPlain wsX3_plainStateWithout := goodIn_ca (goodIn_r _ [56, 57, 12, 58, 59, 60, 61, 62, 63, 64, 65, 66, 67, 16, 68, 69, 70, 71, 72, 18, 49, 38, 39, 40, 23, 73, 74, 75, 76, 24, 77, 37, 100, 101, 102, 103, 104, 105, 106, 107, 108, 121, 122, 123, 124, 125, 114, 115, 116] (by decide +kernel) (by decide +kernel)) (goodIn_sub (fun _ h => List.mem_cons_of_mem _ (List.mem_append_right _ h)) (by decide +kernel))
set_option maxRecDepth 20000 in
theorem gX3_readPlain_X3_plainStateWithout : GoodIn wsX3_readPlain (wsV RX3 112 RX3 yX3_plainStateWithout wsX3_plainStateWithout) := goodIn_app (goodIn_of _ (by decide +kernel)) ggX3_readPlain_X3_plainStateWithout
set_option maxRecDepth 20000 in
theorem ggX3_readPlain_X3_layTo : GoodIn wsX3_readPlain wsX3_layTo := goodIn_ca (goodIn_r _ [81, 2, 3, 4, 82, 46, 47, 48, 1, 83, 84, 85, 86, 87, 88, 89, 90, 91, 92, 93, 94, 95, 96, 97, 98, 99, 100, 101, 102, 103, 104, 105, 106, 107, 108, 109, 110, 111, 112, 113] (by decide +kernel) (by decide +kernel)) (goodIn_sub (fun _ h => List.mem_cons_of_mem _ (List.mem_append_right _ h)) (by decide +kernel))
set_option maxRecDepth 20000 in
theorem gX3_readPlain_X3_layTo : GoodIn wsX3_readPlain (wsV RX3 115 RX3 yX3_layTo wsX3_layTo) := goodIn_app (goodIn_of _ (by decide +kernel)) ggX3_readPlain_X3_layTo
theorem dX3_readPlain_0 : decode cX3_readPlain 0 = .ok (.iconst 0, 1) := by decide +kernel
theorem dX3_readPlain_1 : decode cX3_readPlain 1 = .ok (.istore_n 2, 1) := by decide +kernel
theorem dX3_readPlain_2 : decode cX3_readPlain 2 = .ok (.iconst 0, 1) := by decide +kernel
theorem dX3_readPlain_3 : decode cX3_readPlain 3 = .ok (.istore_n 3, 1) := by decide +kernel
theorem dX3_readPlain_4 : decode cX3_readPlain 4 = .ok (.aload_n 0, 1) := by decide +kernel
theorem dX3_readPlain_5 : decode cX3_readPlain 5 = .ok (.getfield 84, 3) := by decide +kernel
theorem dX3_readPlain_8 : decode cX3_readPlain 8 = .ok (.aload_n 0, 1) := by decide +kernel
theorem dX3_readPlain_9 : decode cX3_readPlain 9 = .ok (.getfield 15, 3) := by decide +kernel
theorem dX3_readPlain_12 : decode cX3_readPlain 12 = .ok (.getfield 105, 3) := by decide +kernel
theorem dX3_readPlain_15 : decode cX3_readPlain 15 = .ok (.if_icmp .ge 58, 3) := by decide +kernel
theorem dX3_readPlain_18 : decode cX3_readPlain 18 = .ok (.iload_n 3, 1) := by decide +kernel
theorem dX3_readPlain_19 : decode cX3_readPlain 19 = .ok (.sipush 3200, 3) := by decide +kernel
theorem dX3_readPlain_22 : decode cX3_readPlain 22 = .ok (.if_icmp .gt 51, 3) := by decide +kernel
theorem dX3_readPlain_25 : decode cX3_readPlain 25 = .ok (.aload_n 0, 1) := by decide +kernel
theorem dX3_readPlain_26 : decode cX3_readPlain 26 = .ok (.iload_n 2, 1) := by decide +kernel
theorem dX3_readPlain_27 : decode cX3_readPlain 27 = .ok (.invokevirtual 108, 3) := by decide +kernel
theorem dX3_readPlain_30 : decode cX3_readPlain 30 = .ok (.istore 4, 2) := by decide +kernel
theorem dX3_readPlain_32 : decode cX3_readPlain 32 = .ok (.iload 4, 2) := by decide +kernel
theorem dX3_readPlain_34 : decode cX3_readPlain 34 = .ok (.ifCond .ge 10, 3) := by decide +kernel
theorem dX3_readPlain_37 : decode cX3_readPlain 37 = .ok (.aload_n 0, 1) := by decide +kernel
theorem dX3_readPlain_38 : decode cX3_readPlain 38 = .ok (.iload 4, 2) := by decide +kernel
theorem dX3_readPlain_40 : decode cX3_readPlain 40 = .ok (.invokevirtual 112, 3) := by decide +kernel
theorem dX3_readPlain_43 : decode cX3_readPlain 43 = .ok (.ireturn, 1) := by decide +kernel
theorem dX3_readPlain_44 : decode cX3_readPlain 44 = .ok (.aload_n 0, 1) := by decide +kernel
theorem dX3_readPlain_45 : decode cX3_readPlain 45 = .ok (.iload_n 1, 1) := by decide +kernel
theorem dX3_readPlain_46 : decode cX3_readPlain 46 = .ok (.aload_n 0, 1) := by decide +kernel
theorem dX3_readPlain_47 : decode cX3_readPlain 47 = .ok (.getfield 84, 3) := by decide +kernel
theorem dX3_readPlain_50 : decode cX3_readPlain 50 = .ok (.iload 4, 2) := by decide +kernel
theorem dX3_readPlain_52 : decode cX3_readPlain 52 = .ok (.iadd, 1) := by decide +kernel
theorem dX3_readPlain_53 : decode cX3_readPlain 53 = .ok (.iload_n 2, 1) := by decide +kernel
theorem dX3_readPlain_54 : decode cX3_readPlain 54 = .ok (.invokevirtual 115, 3) := by decide +kernel
theorem dX3_readPlain_57 : decode cX3_readPlain 57 = .ok (.iload_n 2, 1) := by decide +kernel
theorem dX3_readPlain_58 : decode cX3_readPlain 58 = .ok (.ifCond .ne 7, 3) := by decide +kernel
theorem dX3_readPlain_61 : decode cX3_readPlain 61 = .ok (.iconst 1, 1) := by decide +kernel
theorem dX3_readPlain_62 : decode cX3_readPlain 62 = .ok (.goto 4, 3) := by decide +kernel
theorem dX3_readPlain_65 : decode cX3_readPlain 65 = .ok (.iconst 0, 1) := by decide +kernel
theorem dX3_readPlain_66 : decode cX3_readPlain 66 = .ok (.istore_n 2, 1) := by decide +kernel
theorem dX3_readPlain_67 : decode cX3_readPlain 67 = .ok (.iinc 3 1, 3) := by decide +kernel
theorem dX3_readPlain_70 : decode cX3_readPlain 70 = .ok (.goto (-66), 3) := by decide +kernel
theorem dX3_readPlain_73 : decode cX3_readPlain 73 = .ok (.aload_n 0, 1) := by decide +kernel
theorem dX3_readPlain_74 : decode cX3_readPlain 74 = .ok (.getfield 87, 3) := by decide +kernel
theorem dX3_readPlain_77 : decode cX3_readPlain 77 = .ok (.ifCond .eq 7, 3) := by decide +kernel
theorem dX3_readPlain_80 : decode cX3_readPlain 80 = .ok (.iconst 1, 1) := by decide +kernel
theorem dX3_readPlain_81 : decode cX3_readPlain 81 = .ok (.goto 4, 3) := by decide +kernel
theorem dX3_readPlain_84 : decode cX3_readPlain 84 = .ok (.iconst 0, 1) := by decide +kernel
theorem dX3_readPlain_85 : decode cX3_readPlain 85 = .ok (.ireturn, 1) := by decide +kernel
set_option maxRecDepth 20000 in
theorem ggX3_plainStateWithout_X5_hasMarks : GoodIn wsX3_plainStateWithout wsX5_hasMarks := goodIn_r _ [7, 8, 9, 41, 42, 43, 44, 45] (by decide +kernel) (by decide +kernel)
set_option maxRecDepth 20000 in
theorem gX3_plainStateWithout_X5_hasMarks : GoodIn wsX3_plainStateWithout (wsV RX3 44 RX5 yX5_hasMarks wsX5_hasMarks) := goodIn_app (goodIn_of _ (by decide +kernel)) ggX3_plainStateWithout_X5_hasMarks
set_option maxRecDepth 20000 in
theorem ggX3_plainStateWithout_X0_isMarkNext : GoodIn wsX3_plainStateWithout wsX0_isMarkNext := goodIn_ca (goodIn_r _ [14, 15, 16, 17, 13, 18, 19, 20, 21, 22, 23, 24, 25, 26, 27, 28, 29, 46, 47, 48] (by decide +kernel) (by decide +kernel)) (goodIn_sub (fun _ h => List.mem_cons_of_mem _ (List.mem_append_right _ h)) (by decide +kernel))
set_option maxRecDepth 20000 in
theorem gX3_plainStateWithout_X0_isMarkNext : GoodIn wsX3_plainStateWithout (wsV RX3 78 RX0 yX0_isMarkNext wsX0_isMarkNext) := goodIn_app (goodIn_of _ (by decide +kernel)) ggX3_plainStateWithout_X0_isMarkNext
set_option maxRecDepth 20000 in
theorem ggX3_plainStateWithout_X0_zeros : GoodIn wsX3_plainStateWithout wsX0_zeros := goodIn_ca (goodIn_r _ [18, 19, 20, 21, 22, 13, 23, 24, 25, 26, 27, 28, 29, 46, 47, 48] (by decide +kernel) (by decide +kernel)) (goodIn_sub (fun _ h => List.mem_cons_of_mem _ (List.mem_append_right _ h)) (by decide +kernel))
set_option maxRecDepth 20000 in
theorem gX3_plainStateWithout_X0_zeros : GoodIn wsX3_plainStateWithout (wsV RX3 119 RX0 yX0_zeros wsX0_zeros) := goodIn_app (goodIn_of _ (by decide +kernel)) ggX3_plainStateWithout_X0_zeros
set_option maxRecDepth 20000 in
theorem ggX3_plainStateWithout_X0_left : GoodIn wsX3_plainStateWithout wsX0_left := goodIn_r _ [23, 24, 19, 46, 47, 48] (by decide +kernel) (by decide +kernel)
set_option maxRecDepth 20000 in
theorem gX3_plainStateWithout_X0_left : GoodIn wsX3_plainStateWithout (wsV RX3 60 RX0 yX0_left wsX0_left) := goodIn_app (goodIn_of _ (by decide +kernel)) ggX3_plainStateWithout_X0_left
theorem dX3_plainStateWithout_0 : decode cX3_plainStateWithout 0 = .ok (.iload_n 1, 1) := by decide +kernel
theorem dX3_plainStateWithout_1 : decode cX3_plainStateWithout 1 = .ok (.iconst (-1), 1) := by decide +kernel
theorem dX3_plainStateWithout_2 : decode cX3_plainStateWithout 2 = .ok (.if_icmp .ne 5, 3) := by decide +kernel
theorem dX3_plainStateWithout_5 : decode cX3_plainStateWithout 5 = .ok (.iconst (-1), 1) := by decide +kernel
theorem dX3_plainStateWithout_6 : decode cX3_plainStateWithout 6 = .ok (.ireturn, 1) := by decide +kernel
theorem dX3_plainStateWithout_7 : decode cX3_plainStateWithout 7 = .ok (.iload_n 1, 1) := by decide +kernel
theorem dX3_plainStateWithout_8 : decode cX3_plainStateWithout 8 = .ok (.bipush (-2), 2) := by decide +kernel
theorem dX3_plainStateWithout_10 : decode cX3_plainStateWithout 10 = .ok (.if_icmp .ne 44, 3) := by decide +kernel
theorem dX3_plainStateWithout_13 : decode cX3_plainStateWithout 13 = .ok (.aload_n 0, 1) := by decide +kernel
theorem dX3_plainStateWithout_14 : decode cX3_plainStateWithout 14 = .ok (.getfield 9, 3) := by decide +kernel
theorem dX3_plainStateWithout_17 : decode cX3_plainStateWithout 17 = .ok (.invokevirtual 44, 3) := by decide +kernel
theorem dX3_plainStateWithout_20 : decode cX3_plainStateWithout 20 = .ok (.ifCond .eq 34, 3) := by decide +kernel
theorem dX3_plainStateWithout_23 : decode cX3_plainStateWithout 23 = .ok (.aload_n 0, 1) := by decide +kernel
theorem dX3_plainStateWithout_24 : decode cX3_plainStateWithout 24 = .ok (.getfield 26, 3) := by decide +kernel
theorem dX3_plainStateWithout_27 : decode cX3_plainStateWithout 27 = .ok (.invokevirtual 78, 3) := by decide +kernel
theorem dX3_plainStateWithout_30 : decode cX3_plainStateWithout 30 = .ok (.ifCond .eq 5, 3) := by decide +kernel
theorem dX3_plainStateWithout_33 : decode cX3_plainStateWithout 33 = .ok (.iconst 2, 1) := by decide +kernel
theorem dX3_plainStateWithout_34 : decode cX3_plainStateWithout 34 = .ok (.ireturn, 1) := by decide +kernel
theorem dX3_plainStateWithout_35 : decode cX3_plainStateWithout 35 = .ok (.aload_n 0, 1) := by decide +kernel
theorem dX3_plainStateWithout_36 : decode cX3_plainStateWithout 36 = .ok (.getfield 26, 3) := by decide +kernel
theorem dX3_plainStateWithout_39 : decode cX3_plainStateWithout 39 = .ok (.invokevirtual 119, 3) := by decide +kernel
theorem dX3_plainStateWithout_42 : decode cX3_plainStateWithout 42 = .ok (.aload_n 0, 1) := by decide +kernel
theorem dX3_plainStateWithout_43 : decode cX3_plainStateWithout 43 = .ok (.getfield 26, 3) := by decide +kernel
theorem dX3_plainStateWithout_46 : decode cX3_plainStateWithout 46 = .ok (.invokevirtual 60, 3) := by decide +kernel
theorem dX3_plainStateWithout_49 : decode cX3_plainStateWithout 49 = .ok (.if_icmp .ne 5, 3) := by decide +kernel
theorem dX3_plainStateWithout_52 : decode cX3_plainStateWithout 52 = .ok (.iconst (-1), 1) := by decide +kernel
theorem dX3_plainStateWithout_53 : decode cX3_plainStateWithout 53 = .ok (.ireturn, 1) := by decide +kernel
theorem dX3_plainStateWithout_54 : decode cX3_plainStateWithout 54 = .ok (.iconst 3, 1) := by decide +kernel
theorem dX3_plainStateWithout_55 : decode cX3_plainStateWithout 55 = .ok (.ireturn, 1) := by decide +kernel
set_option maxRecDepth 20000 in
theorem ggX3_readDrawn_X3_readWay : GoodIn wsX3_readDrawn wsX3_readWay := goodIn_ca (goodIn_r _ [9, 10, 11, 12, 13, 14, 15, 16, 17, 18, 19, 20, 21, 22, 23, 24, 25, 26, 27, 28, 29, 30, 31, 32, 33, 34, 35, 107, 108, 109, 110, 111, 112, 113, 114, 115, 121, 122, 123] (by decide +kernel) (by decide +kernel)) (goodIn_sub (fun _ h => List.mem_cons_of_mem _ (List.mem_append_right _ h)) (by decide +kernel))
set_option maxRecDepth 20000 in
theorem gX3_readDrawn_X3_readWay : GoodIn wsX3_readDrawn (wsV RX3 122 RX3 yX3_readWay wsX3_readWay) := goodIn_app (goodIn_of _ (by decide +kernel)) ggX3_readDrawn_X3_readWay
set_option maxRecDepth 20000 in
theorem ggX3_readDrawn_X3_layAcross : GoodIn wsX3_readDrawn wsX3_layAcross := goodIn_ca (goodIn_r _ [39, 1, 40, 41, 42, 8, 43, 44, 45, 10, 18, 19, 20, 14, 21, 17, 22, 23, 24, 25, 16, 26, 46, 47, 48, 49, 50, 51, 52, 53, 54, 55, 56, 57, 11, 12, 13, 15, 27, 28, 29, 30, 31, 32, 33, 34, 35, 58, 59, 60, 61, 62, 63, 64, 2, 3, 4, 65, 66, 67, 68, 69, 70, 71, 72, 73, 74, 75, 76, 77, 78, 79, 80, 81, 82, 107, 108, 109, 110, 111, 112, 113, 114, 115, 121, 122, 123, 124, 125, 126, 127, 116, 117, 118, 119, 120] (by decide +kernel) (by decide +kernel)) (goodIn_sub (fun _ h => List.mem_cons_of_mem _ (List.mem_append_right _ h)) (by decide +kernel))
set_option maxRecDepth 20000 in
theorem gX3_readDrawn_X3_layAcross : GoodIn wsX3_readDrawn (wsV RX3 125 RX3 yX3_layAcross wsX3_layAcross) := goodIn_app (goodIn_of _ (by decide +kernel)) ggX3_readDrawn_X3_layAcross
set_option maxRecDepth 20000 in
theorem ggX3_readDrawn_X2_changeTo : GoodIn wsX3_readDrawn wsX2_changeTo := goodIn_ca (goodIn_r _ [86, 87, 88, 89, 69, 90, 71, 91, 92, 93, 94, 77, 78, 79, 80, 81, 82, 95, 96, 97, 98, 73, 74, 33, 75, 72, 76, 32, 34, 99, 100, 101, 102, 103, 104, 105, 116, 117, 118, 119, 120] (by decide +kernel) (by decide +kernel)) (goodIn_sub (fun _ h => List.mem_cons_of_mem _ (List.mem_append_right _ h)) (by decide +kernel))
set_option maxRecDepth 20000 in
theorem gX3_readDrawn_X2_changeTo : GoodIn wsX3_readDrawn (wsV RX3 129 RX2 yX2_changeTo wsX2_changeTo) := goodIn_app (goodIn_of _ (by decide +kernel)) ggX3_readDrawn_X2_changeTo
set_option maxRecDepth 20000 in
theorem ggX3_readDrawn_X2_nextOf : GoodIn wsX3_readDrawn wsX2_nextOf := goodIn_ca (goodIn_r _ [98, 73, 74, 33, 75, 71, 72, 76, 32, 34, 91, 92, 93, 69, 94, 77, 78, 79, 80, 81, 82, 99, 100, 101, 102, 103, 104, 105, 116, 117, 118, 119, 120] (by decide +kernel) (by decide +kernel)) (goodIn_sub (fun _ h => List.mem_cons_of_mem _ (List.mem_append_right _ h)) (by decide +kernel))
set_option maxRecDepth 20000 in
theorem gX3_readDrawn_X2_nextOf : GoodIn wsX3_readDrawn (wsV RX3 133 RX2 yX2_nextOf wsX2_nextOf) := goodIn_app (goodIn_of _ (by decide +kernel)) ggX3_readDrawn_X2_nextOf
set_option maxRecDepth 20000 in
theorem ggX3_readDrawn_X3_layTo : GoodIn wsX3_readDrawn wsX3_layTo := goodIn_ca (goodIn_r _ [64, 2, 3, 4, 65, 32, 33, 34, 1, 66, 67, 68, 69, 70, 71, 72, 73, 74, 75, 76, 77, 78, 79, 80, 81, 82, 107, 108, 109, 110, 111, 112, 113, 114, 115, 116, 117, 118, 119, 120] (by decide +kernel) (by decide +kernel)) (goodIn_sub (fun _ h => List.mem_cons_of_mem _ (List.mem_append_right _ h)) (by decide +kernel))
set_option maxRecDepth 20000 in
theorem gX3_readDrawn_X3_layTo : GoodIn wsX3_readDrawn (wsV RX3 115 RX3 yX3_layTo wsX3_layTo) := goodIn_app (goodIn_of _ (by decide +kernel)) ggX3_readDrawn_X3_layTo
theorem dX3_readDrawn_0 : decode cX3_readDrawn 0 = .ok (.iconst 0, 1) := by decide +kernel
theorem dX3_readDrawn_1 : decode cX3_readDrawn 1 = .ok (.istore_n 2, 1) := by decide +kernel
theorem dX3_readDrawn_2 : decode cX3_readDrawn 2 = .ok (.iconst 0, 1) := by decide +kernel
theorem dX3_readDrawn_3 : decode cX3_readDrawn 3 = .ok (.istore_n 3, 1) := by decide +kernel
theorem dX3_readDrawn_4 : decode cX3_readDrawn 4 = .ok (.aload_n 0, 1) := by decide +kernel
theorem dX3_readDrawn_5 : decode cX3_readDrawn 5 = .ok (.getfield 84, 3) := by decide +kernel
theorem dX3_readDrawn_8 : decode cX3_readDrawn 8 = .ok (.aload_n 0, 1) := by decide +kernel
theorem dX3_readDrawn_9 : decode cX3_readDrawn 9 = .ok (.getfield 15, 3) := by decide +kernel
theorem dX3_readDrawn_12 : decode cX3_readDrawn 12 = .ok (.getfield 105, 3) := by decide +kernel
theorem dX3_readDrawn_15 : decode cX3_readDrawn 15 = .ok (.if_icmp .ge 184, 3) := by decide +kernel
theorem dX3_readDrawn_18 : decode cX3_readDrawn 18 = .ok (.iload_n 3, 1) := by decide +kernel
theorem dX3_readDrawn_19 : decode cX3_readDrawn 19 = .ok (.sipush 3200, 3) := by decide +kernel
theorem dX3_readDrawn_22 : decode cX3_readDrawn 22 = .ok (.if_icmp .gt 177, 3) := by decide +kernel
theorem dX3_readDrawn_25 : decode cX3_readDrawn 25 = .ok (.aload_n 0, 1) := by decide +kernel
theorem dX3_readDrawn_26 : decode cX3_readDrawn 26 = .ok (.invokevirtual 122, 3) := by decide +kernel
theorem dX3_readDrawn_29 : decode cX3_readDrawn 29 = .ok (.istore 4, 2) := by decide +kernel
theorem dX3_readDrawn_31 : decode cX3_readDrawn 31 = .ok (.iload 4, 2) := by decide +kernel
theorem dX3_readDrawn_33 : decode cX3_readDrawn 33 = .ok (.bipush 8, 2) := by decide +kernel
theorem dX3_readDrawn_35 : decode cX3_readDrawn 35 = .ok (.if_icmp .ne 12, 3) := by decide +kernel
theorem dX3_readDrawn_38 : decode cX3_readDrawn 38 = .ok (.aload_n 0, 1) := by decide +kernel
theorem dX3_readDrawn_39 : decode cX3_readDrawn 39 = .ok (.iload_n 1, 1) := by decide +kernel
theorem dX3_readDrawn_40 : decode cX3_readDrawn 40 = .ok (.iload_n 2, 1) := by decide +kernel
theorem dX3_readDrawn_41 : decode cX3_readDrawn 41 = .ok (.invokevirtual 125, 3) := by decide +kernel
theorem dX3_readDrawn_44 : decode cX3_readDrawn 44 = .ok (.goto 5, 3) := by decide +kernel
theorem dX3_readDrawn_47 : decode cX3_readDrawn 47 = .ok (.iload 4, 2) := by decide +kernel
theorem dX3_readDrawn_49 : decode cX3_readDrawn 49 = .ok (.istore 5, 2) := by decide +kernel
theorem dX3_readDrawn_51 : decode cX3_readDrawn 51 = .ok (.iload 5, 2) := by decide +kernel
theorem dX3_readDrawn_53 : decode cX3_readDrawn 53 = .ok (.ifCond .ge 15, 3) := by decide +kernel
theorem dX3_readDrawn_56 : decode cX3_readDrawn 56 = .ok (.iload 5, 2) := by decide +kernel
theorem dX3_readDrawn_58 : decode cX3_readDrawn 58 = .ok (.iconst (-1), 1) := by decide +kernel
theorem dX3_readDrawn_59 : decode cX3_readDrawn 59 = .ok (.if_icmp .ne 7, 3) := by decide +kernel
theorem dX3_readDrawn_62 : decode cX3_readDrawn 62 = .ok (.iconst (-1), 1) := by decide +kernel
theorem dX3_readDrawn_63 : decode cX3_readDrawn 63 = .ok (.goto 4, 3) := by decide +kernel
theorem dX3_readDrawn_66 : decode cX3_readDrawn 66 = .ok (.iconst 3, 1) := by decide +kernel
theorem dX3_readDrawn_67 : decode cX3_readDrawn 67 = .ok (.ireturn, 1) := by decide +kernel
theorem dX3_readDrawn_68 : decode cX3_readDrawn 68 = .ok (.iload 4, 2) := by decide +kernel
theorem dX3_readDrawn_70 : decode cX3_readDrawn 70 = .ok (.bipush 8, 2) := by decide +kernel
theorem dX3_readDrawn_72 : decode cX3_readDrawn 72 = .ok (.if_icmp .eq 121, 3) := by decide +kernel
theorem dX3_readDrawn_75 : decode cX3_readDrawn 75 = .ok (.aload_n 0, 1) := by decide +kernel
theorem dX3_readDrawn_76 : decode cX3_readDrawn 76 = .ok (.getfield 15, 3) := by decide +kernel
theorem dX3_readDrawn_79 : decode cX3_readDrawn 79 = .ok (.iload_n 1, 1) := by decide +kernel
theorem dX3_readDrawn_80 : decode cX3_readDrawn 80 = .ok (.iconst 1, 1) := by decide +kernel
theorem dX3_readDrawn_81 : decode cX3_readDrawn 81 = .ok (.isub, 1) := by decide +kernel
theorem dX3_readDrawn_82 : decode cX3_readDrawn 82 = .ok (.iload_n 3, 1) := by decide +kernel
theorem dX3_readDrawn_83 : decode cX3_readDrawn 83 = .ok (.ifCond .ne 10, 3) := by decide +kernel
theorem dX3_readDrawn_86 : decode cX3_readDrawn 86 = .ok (.aload_n 0, 1) := by decide +kernel
theorem dX3_readDrawn_87 : decode cX3_readDrawn 87 = .ok (.getfield 84, 3) := by decide +kernel
theorem dX3_readDrawn_90 : decode cX3_readDrawn 90 = .ok (.goto 9, 3) := by decide +kernel
theorem dX3_readDrawn_93 : decode cX3_readDrawn 93 = .ok (.aload_n 0, 1) := by decide +kernel
theorem dX3_readDrawn_94 : decode cX3_readDrawn 94 = .ok (.getfield 84, 3) := by decide +kernel
theorem dX3_readDrawn_97 : decode cX3_readDrawn 97 = .ok (.iconst 1, 1) := by decide +kernel
theorem dX3_readDrawn_98 : decode cX3_readDrawn 98 = .ok (.iadd, 1) := by decide +kernel
theorem dX3_readDrawn_99 : decode cX3_readDrawn 99 = .ok (.iload_n 2, 1) := by decide +kernel
theorem dX3_readDrawn_100 : decode cX3_readDrawn 100 = .ok (.ifCond .ne 7, 3) := by decide +kernel
theorem dX3_readDrawn_103 : decode cX3_readDrawn 103 = .ok (.iconst 1, 1) := by decide +kernel
theorem dX3_readDrawn_104 : decode cX3_readDrawn 104 = .ok (.goto 4, 3) := by decide +kernel
theorem dX3_readDrawn_107 : decode cX3_readDrawn 107 = .ok (.iconst 0, 1) := by decide +kernel
theorem dX3_readDrawn_108 : decode cX3_readDrawn 108 = .ok (.invokevirtual 129, 3) := by decide +kernel
theorem dX3_readDrawn_111 : decode cX3_readDrawn 111 = .ok (.istore 6, 2) := by decide +kernel
theorem dX3_readDrawn_113 : decode cX3_readDrawn 113 = .ok (.iload 4, 2) := by decide +kernel
theorem dX3_readDrawn_115 : decode cX3_readDrawn 115 = .ok (.bipush 7, 2) := by decide +kernel
theorem dX3_readDrawn_117 : decode cX3_readDrawn 117 = .ok (.if_icmp .ne 25, 3) := by decide +kernel
theorem dX3_readDrawn_120 : decode cX3_readDrawn 120 = .ok (.aload_n 0, 1) := by decide +kernel
theorem dX3_readDrawn_121 : decode cX3_readDrawn 121 = .ok (.iload_n 1, 1) := by decide +kernel
theorem dX3_readDrawn_122 : decode cX3_readDrawn 122 = .ok (.aload_n 0, 1) := by decide +kernel
theorem dX3_readDrawn_123 : decode cX3_readDrawn 123 = .ok (.getfield 15, 3) := by decide +kernel
theorem dX3_readDrawn_126 : decode cX3_readDrawn 126 = .ok (.iload_n 1, 1) := by decide +kernel
theorem dX3_readDrawn_127 : decode cX3_readDrawn 127 = .ok (.iconst 1, 1) := by decide +kernel
theorem dX3_readDrawn_128 : decode cX3_readDrawn 128 = .ok (.isub, 1) := by decide +kernel
theorem dX3_readDrawn_129 : decode cX3_readDrawn 129 = .ok (.iload 6, 2) := by decide +kernel
theorem dX3_readDrawn_131 : decode cX3_readDrawn 131 = .ok (.iload_n 2, 1) := by decide +kernel
theorem dX3_readDrawn_132 : decode cX3_readDrawn 132 = .ok (.invokevirtual 133, 3) := by decide +kernel
theorem dX3_readDrawn_135 : decode cX3_readDrawn 135 = .ok (.iload_n 2, 1) := by decide +kernel
theorem dX3_readDrawn_136 : decode cX3_readDrawn 136 = .ok (.invokevirtual 115, 3) := by decide +kernel
theorem dX3_readDrawn_139 : decode cX3_readDrawn 139 = .ok (.goto 54, 3) := by decide +kernel
theorem dX3_readDrawn_142 : decode cX3_readDrawn 142 = .ok (.iload 6, 2) := by decide +kernel
theorem dX3_readDrawn_144 : decode cX3_readDrawn 144 = .ok (.iload 4, 2) := by decide +kernel
theorem dX3_readDrawn_146 : decode cX3_readDrawn 146 = .ok (.iadd, 1) := by decide +kernel
theorem dX3_readDrawn_147 : decode cX3_readDrawn 147 = .ok (.iconst 3, 1) := by decide +kernel
theorem dX3_readDrawn_148 : decode cX3_readDrawn 148 = .ok (.isub, 1) := by decide +kernel
theorem dX3_readDrawn_149 : decode cX3_readDrawn 149 = .ok (.istore 7, 2) := by decide +kernel
theorem dX3_readDrawn_151 : decode cX3_readDrawn 151 = .ok (.iload 7, 2) := by decide +kernel
theorem dX3_readDrawn_153 : decode cX3_readDrawn 153 = .ok (.aload_n 0, 1) := by decide +kernel
theorem dX3_readDrawn_154 : decode cX3_readDrawn 154 = .ok (.getfield 84, 3) := by decide +kernel
theorem dX3_readDrawn_157 : decode cX3_readDrawn 157 = .ok (.if_icmp .lt 16, 3) := by decide +kernel
theorem dX3_readDrawn_160 : decode cX3_readDrawn 160 = .ok (.iload 7, 2) := by decide +kernel
theorem dX3_readDrawn_162 : decode cX3_readDrawn 162 = .ok (.aload_n 0, 1) := by decide +kernel
theorem dX3_readDrawn_163 : decode cX3_readDrawn 163 = .ok (.getfield 84, 3) := by decide +kernel
theorem dX3_readDrawn_166 : decode cX3_readDrawn 166 = .ok (.if_icmp .ne 9, 3) := by decide +kernel
theorem dX3_readDrawn_169 : decode cX3_readDrawn 169 = .ok (.iload_n 3, 1) := by decide +kernel
theorem dX3_readDrawn_170 : decode cX3_readDrawn 170 = .ok (.ifCond .le 5, 3) := by decide +kernel
theorem dX3_readDrawn_173 : decode cX3_readDrawn 173 = .ok (.iconst 3, 1) := by decide +kernel
theorem dX3_readDrawn_174 : decode cX3_readDrawn 174 = .ok (.ireturn, 1) := by decide +kernel
theorem dX3_readDrawn_175 : decode cX3_readDrawn 175 = .ok (.aload_n 0, 1) := by decide +kernel
theorem dX3_readDrawn_176 : decode cX3_readDrawn 176 = .ok (.iload_n 1, 1) := by decide +kernel
theorem dX3_readDrawn_177 : decode cX3_readDrawn 177 = .ok (.iload 7, 2) := by decide +kernel
theorem dX3_readDrawn_179 : decode cX3_readDrawn 179 = .ok (.iload_n 2, 1) := by decide +kernel
theorem dX3_readDrawn_180 : decode cX3_readDrawn 180 = .ok (.invokevirtual 115, 3) := by decide +kernel
theorem dX3_readDrawn_183 : decode cX3_readDrawn 183 = .ok (.iload_n 2, 1) := by decide +kernel
theorem dX3_readDrawn_184 : decode cX3_readDrawn 184 = .ok (.ifCond .ne 7, 3) := by decide +kernel
theorem dX3_readDrawn_187 : decode cX3_readDrawn 187 = .ok (.iconst 1, 1) := by decide +kernel
theorem dX3_readDrawn_188 : decode cX3_readDrawn 188 = .ok (.goto 4, 3) := by decide +kernel
theorem dX3_readDrawn_191 : decode cX3_readDrawn 191 = .ok (.iconst 0, 1) := by decide +kernel
theorem dX3_readDrawn_192 : decode cX3_readDrawn 192 = .ok (.istore_n 2, 1) := by decide +kernel
theorem dX3_readDrawn_193 : decode cX3_readDrawn 193 = .ok (.iinc 3 1, 3) := by decide +kernel
theorem dX3_readDrawn_196 : decode cX3_readDrawn 196 = .ok (.goto (-192), 3) := by decide +kernel
theorem dX3_readDrawn_199 : decode cX3_readDrawn 199 = .ok (.aload_n 0, 1) := by decide +kernel
theorem dX3_readDrawn_200 : decode cX3_readDrawn 200 = .ok (.getfield 87, 3) := by decide +kernel
theorem dX3_readDrawn_203 : decode cX3_readDrawn 203 = .ok (.ifCond .eq 7, 3) := by decide +kernel
theorem dX3_readDrawn_206 : decode cX3_readDrawn 206 = .ok (.iconst 1, 1) := by decide +kernel
theorem dX3_readDrawn_207 : decode cX3_readDrawn 207 = .ok (.goto 4, 3) := by decide +kernel
theorem dX3_readDrawn_210 : decode cX3_readDrawn 210 = .ok (.iconst 0, 1) := by decide +kernel
theorem dX3_readDrawn_211 : decode cX3_readDrawn 211 = .ok (.ireturn, 1) := by decide +kernel
set_option maxRecDepth 20000 in
theorem ggX3_layAcross_X3_readRun : GoodIn wsX3_layAcross wsX3_readRun := goodIn_ca (goodIn_r _ [6, 7, 8, 9, 10, 11, 12, 13, 14, 15, 16, 17, 18, 19, 20, 21, 22, 23, 24, 25, 26, 27, 28, 29, 30, 31, 32, 33, 34, 35, 36, 37, 38, 39, 40, 41, 42, 43, 44, 45, 46, 47, 48, 49, 75, 76, 77, 78, 79, 80, 81, 82, 83, 84, 85, 86, 87, 88, 89, 90] (by decide +kernel) (by decide +kernel)) (goodIn_sub (fun _ h => List.mem_cons_of_mem _ (List.mem_append_right _ h)) (by decide +kernel))
set_option maxRecDepth 20000 in
theorem gX3_layAcross_X3_readRun : GoodIn wsX3_layAcross (wsV RX3 108 RX3 yX3_readRun wsX3_readRun) := goodIn_app (goodIn_of _ (by decide +kernel)) ggX3_layAcross_X3_readRun
set_option maxRecDepth 20000 in
theorem ggX3_layAcross_X3_layTo : GoodIn wsX3_layAcross wsX3_layTo := goodIn_ca (goodIn_r _ [53, 54, 55, 56, 57, 43, 44, 45, 1, 58, 59, 60, 61, 62, 63, 64, 65, 66, 67, 68, 69, 70, 71, 72, 73, 74, 75, 76, 77, 78, 79, 80, 81, 82, 83, 91, 92, 93, 94, 95] (by decide +kernel) (by decide +kernel)) (goodIn_sub (fun _ h => List.mem_cons_of_mem _ (List.mem_append_right _ h)) (by decide +kernel))
set_option maxRecDepth 20000 in
theorem gX3_layAcross_X3_layTo : GoodIn wsX3_layAcross (wsV RX3 115 RX3 yX3_layTo wsX3_layTo) := goodIn_app (goodIn_of _ (by decide +kernel)) ggX3_layAcross_X3_layTo
theorem dX3_layAcross_0 : decode cX3_layAcross 0 = .ok (.aload_n 0, 1) := by decide +kernel
theorem dX3_layAcross_1 : decode cX3_layAcross 1 = .ok (.iload_n 2, 1) := by decide +kernel
theorem dX3_layAcross_2 : decode cX3_layAcross 2 = .ok (.invokevirtual 108, 3) := by decide +kernel
theorem dX3_layAcross_5 : decode cX3_layAcross 5 = .ok (.istore_n 3, 1) := by decide +kernel
theorem dX3_layAcross_6 : decode cX3_layAcross 6 = .ok (.iload_n 3, 1) := by decide +kernel
theorem dX3_layAcross_7 : decode cX3_layAcross 7 = .ok (.ifCond .ge 5, 3) := by decide +kernel
theorem dX3_layAcross_10 : decode cX3_layAcross 10 = .ok (.iload_n 3, 1) := by decide +kernel
theorem dX3_layAcross_11 : decode cX3_layAcross 11 = .ok (.ireturn, 1) := by decide +kernel
theorem dX3_layAcross_12 : decode cX3_layAcross 12 = .ok (.aload_n 0, 1) := by decide +kernel
theorem dX3_layAcross_13 : decode cX3_layAcross 13 = .ok (.iload_n 1, 1) := by decide +kernel
theorem dX3_layAcross_14 : decode cX3_layAcross 14 = .ok (.aload_n 0, 1) := by decide +kernel
theorem dX3_layAcross_15 : decode cX3_layAcross 15 = .ok (.getfield 84, 3) := by decide +kernel
theorem dX3_layAcross_18 : decode cX3_layAcross 18 = .ok (.iload_n 3, 1) := by decide +kernel
theorem dX3_layAcross_19 : decode cX3_layAcross 19 = .ok (.iadd, 1) := by decide +kernel
theorem dX3_layAcross_20 : decode cX3_layAcross 20 = .ok (.iload_n 2, 1) := by decide +kernel
theorem dX3_layAcross_21 : decode cX3_layAcross 21 = .ok (.invokevirtual 115, 3) := by decide +kernel
theorem dX3_layAcross_24 : decode cX3_layAcross 24 = .ok (.aload_n 0, 1) := by decide +kernel
theorem dX3_layAcross_25 : decode cX3_layAcross 25 = .ok (.iload_n 2, 1) := by decide +kernel
theorem dX3_layAcross_26 : decode cX3_layAcross 26 = .ok (.ifCond .ne 7, 3) := by decide +kernel
theorem dX3_layAcross_29 : decode cX3_layAcross 29 = .ok (.iconst 1, 1) := by decide +kernel
theorem dX3_layAcross_30 : decode cX3_layAcross 30 = .ok (.goto 4, 3) := by decide +kernel
theorem dX3_layAcross_33 : decode cX3_layAcross 33 = .ok (.iconst 0, 1) := by decide +kernel
theorem dX3_layAcross_34 : decode cX3_layAcross 34 = .ok (.invokevirtual 108, 3) := by decide +kernel
theorem dX3_layAcross_37 : decode cX3_layAcross 37 = .ok (.istore 4, 2) := by decide +kernel
theorem dX3_layAcross_39 : decode cX3_layAcross 39 = .ok (.iload 4, 2) := by decide +kernel
theorem dX3_layAcross_41 : decode cX3_layAcross 41 = .ok (.ifCond .ge 6, 3) := by decide +kernel
theorem dX3_layAcross_44 : decode cX3_layAcross 44 = .ok (.iload 4, 2) := by decide +kernel
theorem dX3_layAcross_46 : decode cX3_layAcross 46 = .ok (.ireturn, 1) := by decide +kernel
theorem dX3_layAcross_47 : decode cX3_layAcross 47 = .ok (.aload_n 0, 1) := by decide +kernel
theorem dX3_layAcross_48 : decode cX3_layAcross 48 = .ok (.iload_n 1, 1) := by decide +kernel
theorem dX3_layAcross_49 : decode cX3_layAcross 49 = .ok (.aload_n 0, 1) := by decide +kernel
theorem dX3_layAcross_50 : decode cX3_layAcross 50 = .ok (.getfield 84, 3) := by decide +kernel
theorem dX3_layAcross_53 : decode cX3_layAcross 53 = .ok (.iload 4, 2) := by decide +kernel
theorem dX3_layAcross_55 : decode cX3_layAcross 55 = .ok (.iadd, 1) := by decide +kernel
theorem dX3_layAcross_56 : decode cX3_layAcross 56 = .ok (.iload_n 2, 1) := by decide +kernel
theorem dX3_layAcross_57 : decode cX3_layAcross 57 = .ok (.ifCond .ne 7, 3) := by decide +kernel
theorem dX3_layAcross_60 : decode cX3_layAcross 60 = .ok (.iconst 1, 1) := by decide +kernel
theorem dX3_layAcross_61 : decode cX3_layAcross 61 = .ok (.goto 4, 3) := by decide +kernel
theorem dX3_layAcross_64 : decode cX3_layAcross 64 = .ok (.iconst 0, 1) := by decide +kernel
theorem dX3_layAcross_65 : decode cX3_layAcross 65 = .ok (.invokevirtual 115, 3) := by decide +kernel
theorem dX3_layAcross_68 : decode cX3_layAcross 68 = .ok (.iconst 0, 1) := by decide +kernel
theorem dX3_layAcross_69 : decode cX3_layAcross 69 = .ok (.ireturn, 1) := by decide +kernel
set_option maxRecDepth 20000 in
theorem ggX3_layTo_X2_paint : GoodIn wsX3_layTo wsX2_paint := goodIn_ca (goodIn_r _ [13, 14, 15, 16, 17, 6, 18, 19, 5, 7, 20, 21, 22, 23, 12, 24, 25, 35, 36, 37, 38, 39] (by decide +kernel) (by decide +kernel)) (goodIn_sub (fun _ h => List.mem_cons_of_mem _ (List.mem_append_right _ h)) (by decide +kernel))
set_option maxRecDepth 20000 in
theorem gX3_layTo_X2_paint : GoodIn wsX3_layTo (wsV RX3 142 RX2 yX2_paint wsX2_paint) := goodIn_app (goodIn_of _ (by decide +kernel)) ggX3_layTo_X2_paint
theorem dX3_layTo_0 : decode cX3_layTo 0 = .ok (.iload_n 2, 1) := by decide +kernel
theorem dX3_layTo_1 : decode cX3_layTo 1 = .ok (.aload_n 0, 1) := by decide +kernel
theorem dX3_layTo_2 : decode cX3_layTo 2 = .ok (.getfield 15, 3) := by decide +kernel
theorem dX3_layTo_5 : decode cX3_layTo 5 = .ok (.getfield 105, 3) := by decide +kernel
theorem dX3_layTo_8 : decode cX3_layTo 8 = .ok (.if_icmp .le 8, 3) := by decide +kernel
theorem dX3_layTo_11 : decode cX3_layTo 11 = .ok (.aload_n 0, 1) := by decide +kernel
theorem dX3_layTo_12 : decode cX3_layTo 12 = .ok (.iconst 1, 1) := by decide +kernel
theorem dX3_layTo_13 : decode cX3_layTo 13 = .ok (.putfield 87, 3) := by decide +kernel
theorem dX3_layTo_16 : decode cX3_layTo 16 = .ok (.iload_n 2, 1) := by decide +kernel
theorem dX3_layTo_17 : decode cX3_layTo 17 = .ok (.aload_n 0, 1) := by decide +kernel
theorem dX3_layTo_18 : decode cX3_layTo 18 = .ok (.getfield 15, 3) := by decide +kernel
theorem dX3_layTo_21 : decode cX3_layTo 21 = .ok (.getfield 105, 3) := by decide +kernel
theorem dX3_layTo_24 : decode cX3_layTo 24 = .ok (.invokestatic 136, 3) := by decide +kernel
theorem dX3_layTo_27 : decode cX3_layTo 27 = .ok (.istore 4, 2) := by decide +kernel
theorem dX3_layTo_29 : decode cX3_layTo 29 = .ok (.aload_n 0, 1) := by decide +kernel
theorem dX3_layTo_30 : decode cX3_layTo 30 = .ok (.getfield 15, 3) := by decide +kernel
theorem dX3_layTo_33 : decode cX3_layTo 33 = .ok (.iload_n 1, 1) := by decide +kernel
theorem dX3_layTo_34 : decode cX3_layTo 34 = .ok (.aload_n 0, 1) := by decide +kernel
theorem dX3_layTo_35 : decode cX3_layTo 35 = .ok (.getfield 84, 3) := by decide +kernel
theorem dX3_layTo_38 : decode cX3_layTo 38 = .ok (.iload 4, 2) := by decide +kernel
theorem dX3_layTo_40 : decode cX3_layTo 40 = .ok (.iload_n 3, 1) := by decide +kernel
theorem dX3_layTo_41 : decode cX3_layTo 41 = .ok (.invokevirtual 142, 3) := by decide +kernel
theorem dX3_layTo_44 : decode cX3_layTo 44 = .ok (.aload_n 0, 1) := by decide +kernel
theorem dX3_layTo_45 : decode cX3_layTo 45 = .ok (.iload 4, 2) := by decide +kernel
theorem dX3_layTo_47 : decode cX3_layTo 47 = .ok (.putfield 84, 3) := by decide +kernel
theorem dX3_layTo_50 : decode cX3_layTo 50 = .ok (.return_, 1) := by decide +kernel
set_option maxRecDepth 20000 in
theorem ggX3_readWay_X0_left : GoodIn wsX3_readWay wsX0_left := goodIn_r _ [6, 7, 8, 36, 37, 38] (by decide +kernel) (by decide +kernel)
set_option maxRecDepth 20000 in
theorem gX3_readWay_X0_left : GoodIn wsX3_readWay (wsV RX3 60 RX0 yX0_left wsX0_left) := goodIn_app (goodIn_of _ (by decide +kernel)) ggX3_readWay_X0_left
set_option maxRecDepth 20000 in
theorem ggX3_readWay_X0_peek : GoodIn wsX3_readWay wsX0_peek := goodIn_ca (goodIn_r _ [12, 8, 13, 14, 15, 5, 16, 7, 17, 36, 37, 38] (by decide +kernel) (by decide +kernel)) (goodIn_sub (fun _ h => List.mem_cons_of_mem _ (List.mem_append_right _ h)) (by decide +kernel))
set_option maxRecDepth 20000 in
theorem gX3_readWay_X0_peek : GoodIn wsX3_readWay (wsV RX3 64 RX0 yX0_peek wsX0_peek) := goodIn_app (goodIn_of _ (by decide +kernel)) ggX3_readWay_X0_peek
set_option maxRecDepth 20000 in
theorem ggX3_readWay_X0_pass : GoodIn wsX3_readWay wsX0_pass := goodIn_r _ [21, 8, 22, 23, 24, 25, 26, 3, 4, 5, 6, 7, 36, 37, 38] (by decide +kernel) (by decide +kernel)
set_option maxRecDepth 20000 in
theorem gX3_readWay_X0_pass : GoodIn wsX3_readWay (wsV RX3 68 RX0 yX0_pass wsX0_pass) := goodIn_app (goodIn_of _ (by decide +kernel)) ggX3_readWay_X0_pass
theorem dX3_readWay_0 : decode cX3_readWay 0 = .ok (.iconst 0, 1) := by decide +kernel
theorem dX3_readWay_1 : decode cX3_readWay 1 = .ok (.istore_n 1, 1) := by decide +kernel
theorem dX3_readWay_2 : decode cX3_readWay 2 = .ok (.iload_n 1, 1) := by decide +kernel
theorem dX3_readWay_3 : decode cX3_readWay 3 = .ok (.getstatic 146, 3) := by decide +kernel
theorem dX3_readWay_6 : decode cX3_readWay 6 = .ok (.arraylength, 1) := by decide +kernel
theorem dX3_readWay_7 : decode cX3_readWay 7 = .ok (.if_icmp .ge 60, 3) := by decide +kernel
theorem dX3_readWay_10 : decode cX3_readWay 10 = .ok (.iload_n 1, 1) := by decide +kernel
theorem dX3_readWay_11 : decode cX3_readWay 11 = .ok (.getstatic 150, 3) := by decide +kernel
theorem dX3_readWay_14 : decode cX3_readWay 14 = .ok (.arraylength, 1) := by decide +kernel
theorem dX3_readWay_15 : decode cX3_readWay 15 = .ok (.if_icmp .ge 52, 3) := by decide +kernel
theorem dX3_readWay_18 : decode cX3_readWay 18 = .ok (.getstatic 150, 3) := by decide +kernel
theorem dX3_readWay_21 : decode cX3_readWay 21 = .ok (.iload_n 1, 1) := by decide +kernel
theorem dX3_readWay_22 : decode cX3_readWay 22 = .ok (.iaload, 1) := by decide +kernel
theorem dX3_readWay_23 : decode cX3_readWay 23 = .ok (.istore_n 2, 1) := by decide +kernel
theorem dX3_readWay_24 : decode cX3_readWay 24 = .ok (.iload_n 2, 1) := by decide +kernel
theorem dX3_readWay_25 : decode cX3_readWay 25 = .ok (.aload_n 0, 1) := by decide +kernel
theorem dX3_readWay_26 : decode cX3_readWay 26 = .ok (.getfield 26, 3) := by decide +kernel
theorem dX3_readWay_29 : decode cX3_readWay 29 = .ok (.invokevirtual 60, 3) := by decide +kernel
theorem dX3_readWay_32 : decode cX3_readWay 32 = .ok (.if_icmp .gt 29, 3) := by decide +kernel
theorem dX3_readWay_35 : decode cX3_readWay 35 = .ok (.aload_n 0, 1) := by decide +kernel
theorem dX3_readWay_36 : decode cX3_readWay 36 = .ok (.getfield 26, 3) := by decide +kernel
theorem dX3_readWay_39 : decode cX3_readWay 39 = .ok (.iload_n 2, 1) := by decide +kernel
theorem dX3_readWay_40 : decode cX3_readWay 40 = .ok (.invokevirtual 64, 3) := by decide +kernel
theorem dX3_readWay_43 : decode cX3_readWay 43 = .ok (.getstatic 146, 3) := by decide +kernel
theorem dX3_readWay_46 : decode cX3_readWay 46 = .ok (.iload_n 1, 1) := by decide +kernel
theorem dX3_readWay_47 : decode cX3_readWay 47 = .ok (.iaload, 1) := by decide +kernel
theorem dX3_readWay_48 : decode cX3_readWay 48 = .ok (.if_icmp .ne 13, 3) := by decide +kernel
theorem dX3_readWay_51 : decode cX3_readWay 51 = .ok (.aload_n 0, 1) := by decide +kernel
theorem dX3_readWay_52 : decode cX3_readWay 52 = .ok (.getfield 26, 3) := by decide +kernel
theorem dX3_readWay_55 : decode cX3_readWay 55 = .ok (.iload_n 2, 1) := by decide +kernel
theorem dX3_readWay_56 : decode cX3_readWay 56 = .ok (.invokevirtual 68, 3) := by decide +kernel
theorem dX3_readWay_59 : decode cX3_readWay 59 = .ok (.iload_n 1, 1) := by decide +kernel
theorem dX3_readWay_60 : decode cX3_readWay 60 = .ok (.ireturn, 1) := by decide +kernel
theorem dX3_readWay_61 : decode cX3_readWay 61 = .ok (.iinc 1 1, 3) := by decide +kernel
theorem dX3_readWay_64 : decode cX3_readWay 64 = .ok (.goto (-62), 3) := by decide +kernel
theorem dX3_readWay_67 : decode cX3_readWay 67 = .ok (.aload_n 0, 1) := by decide +kernel
theorem dX3_readWay_68 : decode cX3_readWay 68 = .ok (.getfield 26, 3) := by decide +kernel
theorem dX3_readWay_71 : decode cX3_readWay 71 = .ok (.invokevirtual 60, 3) := by decide +kernel
theorem dX3_readWay_74 : decode cX3_readWay 74 = .ok (.bipush 7, 2) := by decide +kernel
theorem dX3_readWay_76 : decode cX3_readWay 76 = .ok (.if_icmp .ge 7, 3) := by decide +kernel
theorem dX3_readWay_79 : decode cX3_readWay 79 = .ok (.iconst (-1), 1) := by decide +kernel
theorem dX3_readWay_80 : decode cX3_readWay 80 = .ok (.goto 5, 3) := by decide +kernel
theorem dX3_readWay_83 : decode cX3_readWay 83 = .ok (.bipush (-2), 2) := by decide +kernel
theorem dX3_readWay_85 : decode cX3_readWay 85 = .ok (.ireturn, 1) := by decide +kernel
set_option maxRecDepth 20000 in
theorem ggX3_readRun_X0_peek : GoodIn wsX3_readRun wsX0_peek := goodIn_ca (goodIn_r _ [8, 9, 10, 11, 12, 7, 13, 14, 15, 53, 54, 55] (by decide +kernel) (by decide +kernel)) (goodIn_sub (fun _ h => List.mem_cons_of_mem _ (List.mem_append_right _ h)) (by decide +kernel))
set_option maxRecDepth 20000 in
theorem gX3_readRun_X0_peek : GoodIn wsX3_readRun (wsV RX3 64 RX0 yX0_peek wsX0_peek) := goodIn_app (goodIn_of _ (by decide +kernel)) ggX3_readRun_X0_peek
set_option maxRecDepth 20000 in
theorem ggX3_readRun_X6_slotBeginning : GoodIn wsX3_readRun wsX6_slotBeginning := goodIn_ca (goodIn_r _ [20, 21, 22, 56, 57, 58, 59] (by decide +kernel) (by decide +kernel)) (goodIn_sub (fun _ h => List.mem_cons_of_mem _ (List.mem_append_right _ h)) (by decide +kernel))
set_option maxRecDepth 20000 in
theorem gX3_readRun_X6_slotBeginning : GoodIn wsX3_readRun (wsV RX3 153 RX6 yX6_slotBeginning wsX6_slotBeginning) := goodIn_app (goodIn_of _ (by decide +kernel)) ggX3_readRun_X6_slotBeginning
set_option maxRecDepth 20000 in
theorem ggX3_readRun_X6_bitsOf : GoodIn wsX3_readRun wsX6_bitsOf := goodIn_ca (goodIn_r _ [26, 27, 56, 57, 58, 59] (by decide +kernel) (by decide +kernel)) (goodIn_sub (fun _ h => List.mem_cons_of_mem _ (List.mem_append_right _ h)) (by decide +kernel))
set_option maxRecDepth 20000 in
theorem gX3_readRun_X6_bitsOf : GoodIn wsX3_readRun (wsV RX3 158 RX6 yX6_bitsOf wsX6_bitsOf) := goodIn_app (goodIn_of _ (by decide +kernel)) ggX3_readRun_X6_bitsOf
set_option maxRecDepth 20000 in
theorem ggX3_readRun_X0_left : GoodIn wsX3_readRun wsX0_left := goodIn_r _ [31, 14, 9, 53, 54, 55] (by decide +kernel) (by decide +kernel)
set_option maxRecDepth 20000 in
theorem gX3_readRun_X0_left : GoodIn wsX3_readRun (wsV RX3 60 RX0 yX0_left wsX0_left) := goodIn_app (goodIn_of _ (by decide +kernel)) ggX3_readRun_X0_left
set_option maxRecDepth 20000 in
theorem ggX3_readRun_X0_pass : GoodIn wsX3_readRun wsX0_pass := goodIn_r _ [35, 9, 36, 37, 38, 39, 40, 29, 30, 7, 31, 14, 53, 54, 55] (by decide +kernel) (by decide +kernel)
set_option maxRecDepth 20000 in
theorem gX3_readRun_X0_pass : GoodIn wsX3_readRun (wsV RX3 68 RX0 yX0_pass wsX0_pass) := goodIn_app (goodIn_of _ (by decide +kernel)) ggX3_readRun_X0_pass
set_option maxRecDepth 20000 in
theorem ggX3_readRun_X6_runOf : GoodIn wsX3_readRun wsX6_runOf := goodIn_r _ [43] (by decide +kernel) (by decide +kernel)
set_option maxRecDepth 20000 in
theorem gX3_readRun_X6_runOf : GoodIn wsX3_readRun (va_wsS RX3 161 yX6_runOf wsX6_runOf) := goodIn_app (goodIn_of _ (by decide +kernel)) ggX3_readRun_X6_runOf
theorem dX3_readRun_0 : decode cX3_readRun 0 = .ok (.iload_n 1, 1) := by decide +kernel
theorem dX3_readRun_1 : decode cX3_readRun 1 = .ok (.ifCond .eq 10, 3) := by decide +kernel
theorem dX3_readRun_4 : decode cX3_readRun 4 = .ok (.aload_n 0, 1) := by decide +kernel
theorem dX3_readRun_5 : decode cX3_readRun 5 = .ok (.getfield 23, 3) := by decide +kernel
theorem dX3_readRun_8 : decode cX3_readRun 8 = .ok (.goto 7, 3) := by decide +kernel
theorem dX3_readRun_11 : decode cX3_readRun 11 = .ok (.aload_n 0, 1) := by decide +kernel
theorem dX3_readRun_12 : decode cX3_readRun 12 = .ok (.getfield 19, 3) := by decide +kernel
theorem dX3_readRun_15 : decode cX3_readRun 15 = .ok (.astore_n 2, 1) := by decide +kernel
theorem dX3_readRun_16 : decode cX3_readRun 16 = .ok (.iconst 0, 1) := by decide +kernel
theorem dX3_readRun_17 : decode cX3_readRun 17 = .ok (.istore_n 3, 1) := by decide +kernel
theorem dX3_readRun_18 : decode cX3_readRun 18 = .ok (.iconst 0, 1) := by decide +kernel
theorem dX3_readRun_19 : decode cX3_readRun 19 = .ok (.istore 4, 2) := by decide +kernel
theorem dX3_readRun_21 : decode cX3_readRun 21 = .ok (.iconst 0, 1) := by decide +kernel
theorem dX3_readRun_22 : decode cX3_readRun 22 = .ok (.istore 5, 2) := by decide +kernel
theorem dX3_readRun_24 : decode cX3_readRun 24 = .ok (.iload 5, 2) := by decide +kernel
theorem dX3_readRun_26 : decode cX3_readRun 26 = .ok (.sipush 3200, 3) := by decide +kernel
theorem dX3_readRun_29 : decode cX3_readRun 29 = .ok (.if_icmp .gt 105, 3) := by decide +kernel
theorem dX3_readRun_32 : decode cX3_readRun 32 = .ok (.aload_n 2, 1) := by decide +kernel
theorem dX3_readRun_33 : decode cX3_readRun 33 = .ok (.aload_n 0, 1) := by decide +kernel
theorem dX3_readRun_34 : decode cX3_readRun 34 = .ok (.getfield 26, 3) := by decide +kernel
theorem dX3_readRun_37 : decode cX3_readRun 37 = .ok (.bipush 12, 2) := by decide +kernel
theorem dX3_readRun_39 : decode cX3_readRun 39 = .ok (.invokevirtual 64, 3) := by decide +kernel
theorem dX3_readRun_42 : decode cX3_readRun 42 = .ok (.invokevirtual 153, 3) := by decide +kernel
theorem dX3_readRun_45 : decode cX3_readRun 45 = .ok (.istore 6, 2) := by decide +kernel
theorem dX3_readRun_47 : decode cX3_readRun 47 = .ok (.aload_n 2, 1) := by decide +kernel
theorem dX3_readRun_48 : decode cX3_readRun 48 = .ok (.iload 6, 2) := by decide +kernel
theorem dX3_readRun_50 : decode cX3_readRun 50 = .ok (.invokevirtual 158, 3) := by decide +kernel
theorem dX3_readRun_53 : decode cX3_readRun 53 = .ok (.istore 7, 2) := by decide +kernel
theorem dX3_readRun_55 : decode cX3_readRun 55 = .ok (.iload 6, 2) := by decide +kernel
theorem dX3_readRun_57 : decode cX3_readRun 57 = .ok (.ifCond .lt 15, 3) := by decide +kernel
theorem dX3_readRun_60 : decode cX3_readRun 60 = .ok (.iload 7, 2) := by decide +kernel
theorem dX3_readRun_62 : decode cX3_readRun 62 = .ok (.aload_n 0, 1) := by decide +kernel
theorem dX3_readRun_63 : decode cX3_readRun 63 = .ok (.getfield 26, 3) := by decide +kernel
theorem dX3_readRun_66 : decode cX3_readRun 66 = .ok (.invokevirtual 60, 3) := by decide +kernel
theorem dX3_readRun_69 : decode cX3_readRun 69 = .ok (.if_icmp .le 30, 3) := by decide +kernel
theorem dX3_readRun_72 : decode cX3_readRun 72 = .ok (.aload_n 0, 1) := by decide +kernel
theorem dX3_readRun_73 : decode cX3_readRun 73 = .ok (.getfield 26, 3) := by decide +kernel
theorem dX3_readRun_76 : decode cX3_readRun 76 = .ok (.invokevirtual 60, 3) := by decide +kernel
theorem dX3_readRun_79 : decode cX3_readRun 79 = .ok (.bipush 12, 2) := by decide +kernel
theorem dX3_readRun_81 : decode cX3_readRun 81 = .ok (.if_icmp .ge 5, 3) := by decide +kernel
theorem dX3_readRun_84 : decode cX3_readRun 84 = .ok (.iconst (-1), 1) := by decide +kernel
theorem dX3_readRun_85 : decode cX3_readRun 85 = .ok (.ireturn, 1) := by decide +kernel
theorem dX3_readRun_86 : decode cX3_readRun 86 = .ok (.iload 4, 2) := by decide +kernel
theorem dX3_readRun_88 : decode cX3_readRun 88 = .ok (.ifCond .eq 8, 3) := by decide +kernel
theorem dX3_readRun_91 : decode cX3_readRun 91 = .ok (.bipush (-3), 2) := by decide +kernel
theorem dX3_readRun_93 : decode cX3_readRun 93 = .ok (.goto 5, 3) := by decide +kernel
theorem dX3_readRun_96 : decode cX3_readRun 96 = .ok (.bipush (-2), 2) := by decide +kernel
theorem dX3_readRun_98 : decode cX3_readRun 98 = .ok (.ireturn, 1) := by decide +kernel
theorem dX3_readRun_99 : decode cX3_readRun 99 = .ok (.aload_n 0, 1) := by decide +kernel
theorem dX3_readRun_100 : decode cX3_readRun 100 = .ok (.getfield 26, 3) := by decide +kernel
theorem dX3_readRun_103 : decode cX3_readRun 103 = .ok (.iload 7, 2) := by decide +kernel
theorem dX3_readRun_105 : decode cX3_readRun 105 = .ok (.invokevirtual 68, 3) := by decide +kernel
theorem dX3_readRun_108 : decode cX3_readRun 108 = .ok (.iload_n 3, 1) := by decide +kernel
theorem dX3_readRun_109 : decode cX3_readRun 109 = .ok (.iload 6, 2) := by decide +kernel
theorem dX3_readRun_111 : decode cX3_readRun 111 = .ok (.invokestatic 161, 3) := by decide +kernel
theorem dX3_readRun_114 : decode cX3_readRun 114 = .ok (.iadd, 1) := by decide +kernel
theorem dX3_readRun_115 : decode cX3_readRun 115 = .ok (.istore_n 3, 1) := by decide +kernel
theorem dX3_readRun_116 : decode cX3_readRun 116 = .ok (.iload 6, 2) := by decide +kernel
theorem dX3_readRun_118 : decode cX3_readRun 118 = .ok (.bipush 64, 2) := by decide +kernel
theorem dX3_readRun_120 : decode cX3_readRun 120 = .ok (.if_icmp .ge 5, 3) := by decide +kernel
theorem dX3_readRun_123 : decode cX3_readRun 123 = .ok (.iload_n 3, 1) := by decide +kernel
theorem dX3_readRun_124 : decode cX3_readRun 124 = .ok (.ireturn, 1) := by decide +kernel
theorem dX3_readRun_125 : decode cX3_readRun 125 = .ok (.iconst 1, 1) := by decide +kernel
theorem dX3_readRun_126 : decode cX3_readRun 126 = .ok (.istore 4, 2) := by decide +kernel
theorem dX3_readRun_128 : decode cX3_readRun 128 = .ok (.iinc 5 1, 3) := by decide +kernel
theorem dX3_readRun_131 : decode cX3_readRun 131 = .ok (.goto (-107), 3) := by decide +kernel
theorem dX3_readRun_134 : decode cX3_readRun 134 = .ok (.iconst (-1), 1) := by decide +kernel
theorem dX3_readRun_135 : decode cX3_readRun 135 = .ok (.ireturn, 1) := by decide +kernel
