set_option maxRecDepth 20000 in
theorem ggX7_init_X5_init : GoodIn wsX7_init wsX5_init := goodIn_r _ [45, 46, 2, 3, 47, 94, 95, 96, 97, 98] (by decide +kernel) (by decide +kernel)
set_option maxRecDepth 20000 in
theorem gX7_init_X5_init : GoodIn wsX7_init (wsX5_init) := ggX7_init_X5_init
set_option maxRecDepth 20000 in
theorem ggX7_init_X2_init : GoodIn wsX7_init wsX2_init := goodIn_r _ [50, 51, 2, 3, 52, 53, 54, 55, 56, 57, 107, 108, 109, 110, 111] (by decide +kernel) (by decide +kernel)
set_option maxRecDepth 20000 in
theorem gX7_init_X2_init : GoodIn wsX7_init (wsX2_init) := ggX7_init_X2_init
set_option maxRecDepth 20000 in
theorem ggX7_init_X6_init : GoodIn wsX7_init wsX6_init := goodIn_ca (goodIn_r _ [60, 61, 2, 3, 52, 62, 63, 64, 65, 112, 113, 114, 115] (by decide +kernel) (by decide +kernel)) (goodIn_sub (fun _ h => List.mem_cons_of_mem _ (List.mem_append_right _ h)) (by decide +kernel))
set_option maxRecDepth 20000 in
theorem gX7_init_X6_init : GoodIn wsX7_init (wsX6_init) := ggX7_init_X6_init
set_option maxRecDepth 20000 in
theorem ggX7_init_X0_init : GoodIn wsX7_init wsX0_init := goodIn_r _ [67, 68, 2, 3, 69, 70, 116, 117, 118] (by decide +kernel) (by decide +kernel)
set_option maxRecDepth 20000 in
theorem gX7_init_X0_init_n55 : GoodIn wsX7_init (wsX0_init) := ggX7_init_X0_init
set_option maxRecDepth 20000 in
theorem ggX7_init_X1_init : GoodIn wsX7_init wsX1_init := goodIn_r _ [73, 74, 2, 3, 56, 75, 119, 120] (by decide +kernel) (by decide +kernel)
set_option maxRecDepth 20000 in
theorem gX7_init_X1_init : GoodIn wsX7_init (wsX1_init) := ggX7_init_X1_init
set_option maxRecDepth 20000 in
theorem ggX7_init_X4_init : GoodIn wsX7_init wsX4_init := goodIn_r _ [78, 79, 2, 3, 80, 81, 82, 83, 84, 121, 122, 123, 124, 125] (by decide +kernel) (by decide +kernel)
set_option maxRecDepth 20000 in
theorem gX7_init_X4_init : GoodIn wsX7_init (wsX4_init) := ggX7_init_X4_init
set_option maxRecDepth 20000 in
theorem ggX7_init_X3_init : GoodIn wsX7_init wsX3_init := goodIn_r _ [87, 88, 2, 3, 89, 90, 91, 92, 93, 126, 127, 128, 129, 130, 131, 132, 133, 134] (by decide +kernel) (by decide +kernel)
set_option maxRecDepth 20000 in
theorem gX7_init_X3_init : GoodIn wsX7_init (wsX3_init) := ggX7_init_X3_init
theorem dX7_init_0 : decode cX7_init 0 = .ok (.aload_n 0, 1) := by decide +kernel
theorem dX7_init_1 : decode cX7_init 1 = .ok (.invokespecial 3, 3) := by decide +kernel
theorem dX7_init_4 : decode cX7_init 4 = .ok (.aload_n 0, 1) := by decide +kernel
theorem dX7_init_5 : decode cX7_init 5 = .ok (.new 9, 3) := by decide +kernel
theorem dX7_init_8 : decode cX7_init 8 = .ok (.dup, 1) := by decide +kernel
theorem dX7_init_9 : decode cX7_init 9 = .ok (.iconst 0, 1) := by decide +kernel
theorem dX7_init_10 : decode cX7_init 10 = .ok (.iconst 2, 1) := by decide +kernel
theorem dX7_init_11 : decode cX7_init 11 = .ok (.iload_n 1, 1) := by decide +kernel
theorem dX7_init_12 : decode cX7_init 12 = .ok (.invokestatic 11, 3) := by decide +kernel
theorem dX7_init_15 : decode cX7_init 15 = .ok (.invokestatic 17, 3) := by decide +kernel
theorem dX7_init_18 : decode cX7_init 18 = .ok (.invokespecial 20, 3) := by decide +kernel
theorem dX7_init_21 : decode cX7_init 21 = .ok (.putfield 23, 3) := by decide +kernel
theorem dX7_init_24 : decode cX7_init 24 = .ok (.aload_n 0, 1) := by decide +kernel
theorem dX7_init_25 : decode cX7_init 25 = .ok (.new 27, 3) := by decide +kernel
theorem dX7_init_28 : decode cX7_init 28 = .ok (.dup, 1) := by decide +kernel
theorem dX7_init_29 : decode cX7_init 29 = .ok (.iconst 1, 1) := by decide +kernel
theorem dX7_init_30 : decode cX7_init 30 = .ok (.sipush 700, 3) := by decide +kernel
theorem dX7_init_33 : decode cX7_init 33 = .ok (.iload_n 2, 1) := by decide +kernel
theorem dX7_init_34 : decode cX7_init 34 = .ok (.invokestatic 11, 3) := by decide +kernel
theorem dX7_init_37 : decode cX7_init 37 = .ok (.invokestatic 17, 3) := by decide +kernel
theorem dX7_init_40 : decode cX7_init 40 = .ok (.invokespecial 29, 3) := by decide +kernel
theorem dX7_init_43 : decode cX7_init 43 = .ok (.putfield 30, 3) := by decide +kernel
theorem dX7_init_46 : decode cX7_init 46 = .ok (.aload_n 0, 1) := by decide +kernel
theorem dX7_init_47 : decode cX7_init 47 = .ok (.new 34, 3) := by decide +kernel
theorem dX7_init_50 : decode cX7_init 50 = .ok (.dup, 1) := by decide +kernel
theorem dX7_init_51 : decode cX7_init 51 = .ok (.getstatic 36, 3) := by decide +kernel
theorem dX7_init_54 : decode cX7_init 54 = .ok (.invokespecial 40, 3) := by decide +kernel
theorem dX7_init_57 : decode cX7_init 57 = .ok (.putfield 43, 3) := by decide +kernel
theorem dX7_init_60 : decode cX7_init 60 = .ok (.aload_n 0, 1) := by decide +kernel
theorem dX7_init_61 : decode cX7_init 61 = .ok (.new 34, 3) := by decide +kernel
theorem dX7_init_64 : decode cX7_init 64 = .ok (.dup, 1) := by decide +kernel
theorem dX7_init_65 : decode cX7_init 65 = .ok (.getstatic 47, 3) := by decide +kernel
theorem dX7_init_68 : decode cX7_init 68 = .ok (.invokespecial 40, 3) := by decide +kernel
theorem dX7_init_71 : decode cX7_init 71 = .ok (.putfield 50, 3) := by decide +kernel
theorem dX7_init_74 : decode cX7_init 74 = .ok (.aload_n 0, 1) := by decide +kernel
theorem dX7_init_75 : decode cX7_init 75 = .ok (.new 53, 3) := by decide +kernel
theorem dX7_init_78 : decode cX7_init 78 = .ok (.dup, 1) := by decide +kernel
theorem dX7_init_79 : decode cX7_init 79 = .ok (.invokespecial 55, 3) := by decide +kernel
theorem dX7_init_82 : decode cX7_init 82 = .ok (.putfield 56, 3) := by decide +kernel
theorem dX7_init_85 : decode cX7_init 85 = .ok (.aload_n 0, 1) := by decide +kernel
theorem dX7_init_86 : decode cX7_init 86 = .ok (.new 60, 3) := by decide +kernel
theorem dX7_init_89 : decode cX7_init 89 = .ok (.dup, 1) := by decide +kernel
theorem dX7_init_90 : decode cX7_init 90 = .ok (.aload_n 0, 1) := by decide +kernel
theorem dX7_init_91 : decode cX7_init 91 = .ok (.getfield 30, 3) := by decide +kernel
theorem dX7_init_94 : decode cX7_init 94 = .ok (.getfield 62, 3) := by decide +kernel
theorem dX7_init_97 : decode cX7_init 97 = .ok (.invokespecial 66, 3) := by decide +kernel
theorem dX7_init_100 : decode cX7_init 100 = .ok (.putfield 67, 3) := by decide +kernel
theorem dX7_init_103 : decode cX7_init 103 = .ok (.aload_n 0, 1) := by decide +kernel
theorem dX7_init_104 : decode cX7_init 104 = .ok (.new 71, 3) := by decide +kernel
theorem dX7_init_107 : decode cX7_init 107 = .ok (.dup, 1) := by decide +kernel
theorem dX7_init_108 : decode cX7_init 108 = .ok (.aload_n 0, 1) := by decide +kernel
theorem dX7_init_109 : decode cX7_init 109 = .ok (.getfield 23, 3) := by decide +kernel
theorem dX7_init_112 : decode cX7_init 112 = .ok (.aload_n 0, 1) := by decide +kernel
theorem dX7_init_113 : decode cX7_init 113 = .ok (.getfield 30, 3) := by decide +kernel
theorem dX7_init_116 : decode cX7_init 116 = .ok (.aload_n 0, 1) := by decide +kernel
theorem dX7_init_117 : decode cX7_init 117 = .ok (.getfield 43, 3) := by decide +kernel
theorem dX7_init_120 : decode cX7_init 120 = .ok (.aload_n 0, 1) := by decide +kernel
theorem dX7_init_121 : decode cX7_init 121 = .ok (.getfield 50, 3) := by decide +kernel
theorem dX7_init_124 : decode cX7_init 124 = .ok (.aload_n 0, 1) := by decide +kernel
theorem dX7_init_125 : decode cX7_init 125 = .ok (.getfield 67, 3) := by decide +kernel
theorem dX7_init_128 : decode cX7_init 128 = .ok (.invokespecial 73, 3) := by decide +kernel
theorem dX7_init_131 : decode cX7_init 131 = .ok (.putfield 76, 3) := by decide +kernel
theorem dX7_init_134 : decode cX7_init 134 = .ok (.aload_n 0, 1) := by decide +kernel
theorem dX7_init_135 : decode cX7_init 135 = .ok (.new 80, 3) := by decide +kernel
theorem dX7_init_138 : decode cX7_init 138 = .ok (.dup, 1) := by decide +kernel
theorem dX7_init_139 : decode cX7_init 139 = .ok (.aload_n 0, 1) := by decide +kernel
theorem dX7_init_140 : decode cX7_init 140 = .ok (.getfield 23, 3) := by decide +kernel
theorem dX7_init_143 : decode cX7_init 143 = .ok (.aload_n 0, 1) := by decide +kernel
theorem dX7_init_144 : decode cX7_init 144 = .ok (.getfield 30, 3) := by decide +kernel
theorem dX7_init_147 : decode cX7_init 147 = .ok (.aload_n 0, 1) := by decide +kernel
theorem dX7_init_148 : decode cX7_init 148 = .ok (.getfield 43, 3) := by decide +kernel
theorem dX7_init_151 : decode cX7_init 151 = .ok (.aload_n 0, 1) := by decide +kernel
theorem dX7_init_152 : decode cX7_init 152 = .ok (.getfield 50, 3) := by decide +kernel
theorem dX7_init_155 : decode cX7_init 155 = .ok (.aload_n 0, 1) := by decide +kernel
theorem dX7_init_156 : decode cX7_init 156 = .ok (.getfield 56, 3) := by decide +kernel
theorem dX7_init_159 : decode cX7_init 159 = .ok (.invokespecial 82, 3) := by decide +kernel
theorem dX7_init_162 : decode cX7_init 162 = .ok (.putfield 85, 3) := by decide +kernel
theorem dX7_init_165 : decode cX7_init 165 = .ok (.return_, 1) := by decide +kernel
set_option maxRecDepth 20000 in
theorem ggX7_told_X1_size : GoodIn wsX7_told wsX1_size := goodIn_r _ [18, 19, 50, 51] (by decide +kernel) (by decide +kernel)
set_option maxRecDepth 20000 in
theorem gX7_told_X1_size : GoodIn wsX7_told (wsV RX7 98 RX1 yX1_size wsX1_size) := goodIn_app (goodIn_of _ (by decide +kernel)) ggX7_told_X1_size
theorem dX7_told_0 : decode cX7_told 0 = .ok (.iload_n 1, 1) := by decide +kernel
theorem dX7_told_1 : decode cX7_told 1 = .ok (.tableswitch 99 0 6 #[43, 51, 59, 67, 75, 83, 91], 43) := by decide +kernel
theorem dX7_told_44 : decode cX7_told 44 = .ok (.aload_n 0, 1) := by decide +kernel
theorem dX7_told_45 : decode cX7_told 45 = .ok (.getfield 23, 3) := by decide +kernel
theorem dX7_told_48 : decode cX7_told 48 = .ok (.getfield 89, 3) := by decide +kernel
theorem dX7_told_51 : decode cX7_told 51 = .ok (.ireturn, 1) := by decide +kernel
theorem dX7_told_52 : decode cX7_told 52 = .ok (.aload_n 0, 1) := by decide +kernel
theorem dX7_told_53 : decode cX7_told 53 = .ok (.getfield 30, 3) := by decide +kernel
theorem dX7_told_56 : decode cX7_told 56 = .ok (.getfield 62, 3) := by decide +kernel
theorem dX7_told_59 : decode cX7_told 59 = .ok (.ireturn, 1) := by decide +kernel
theorem dX7_told_60 : decode cX7_told 60 = .ok (.aload_n 0, 1) := by decide +kernel
theorem dX7_told_61 : decode cX7_told 61 = .ok (.getfield 30, 3) := by decide +kernel
theorem dX7_told_64 : decode cX7_told 64 = .ok (.getfield 92, 3) := by decide +kernel
theorem dX7_told_67 : decode cX7_told 67 = .ok (.ireturn, 1) := by decide +kernel
theorem dX7_told_68 : decode cX7_told 68 = .ok (.aload_n 0, 1) := by decide +kernel
theorem dX7_told_69 : decode cX7_told 69 = .ok (.getfield 56, 3) := by decide +kernel
theorem dX7_told_72 : decode cX7_told 72 = .ok (.getfield 95, 3) := by decide +kernel
theorem dX7_told_75 : decode cX7_told 75 = .ok (.ireturn, 1) := by decide +kernel
theorem dX7_told_76 : decode cX7_told 76 = .ok (.aload_n 0, 1) := by decide +kernel
theorem dX7_told_77 : decode cX7_told 77 = .ok (.getfield 67, 3) := by decide +kernel
theorem dX7_told_80 : decode cX7_told 80 = .ok (.invokevirtual 98, 3) := by decide +kernel
theorem dX7_told_83 : decode cX7_told 83 = .ok (.ireturn, 1) := by decide +kernel
theorem dX7_told_84 : decode cX7_told 84 = .ok (.aload_n 0, 1) := by decide +kernel
theorem dX7_told_85 : decode cX7_told 85 = .ok (.getfield 56, 3) := by decide +kernel
theorem dX7_told_88 : decode cX7_told 88 = .ok (.getfield 101, 3) := by decide +kernel
theorem dX7_told_91 : decode cX7_told 91 = .ok (.ireturn, 1) := by decide +kernel
theorem dX7_told_92 : decode cX7_told 92 = .ok (.aload_n 0, 1) := by decide +kernel
theorem dX7_told_93 : decode cX7_told 93 = .ok (.getfield 85, 3) := by decide +kernel
theorem dX7_told_96 : decode cX7_told 96 = .ok (.getfield 104, 3) := by decide +kernel
theorem dX7_told_99 : decode cX7_told 99 = .ok (.ireturn, 1) := by decide +kernel
theorem dX7_told_100 : decode cX7_told 100 = .ok (.new 107, 3) := by decide +kernel
theorem dX7_told_103 : decode cX7_told 103 = .ok (.dup, 1) := by decide +kernel
theorem dX7_told_104 : decode cX7_told 104 = .ok (.ldc 109, 2) := by decide +kernel
theorem dX7_told_106 : decode cX7_told 106 = .ok (.invokespecial 111, 3) := by decide +kernel
theorem dX7_told_109 : decode cX7_told 109 = .ok (.athrow, 1) := by decide +kernel
theorem dX7_setting_0 : decode cX7_setting 0 = .ok (.iload_n 1, 1) := by decide +kernel
theorem dX7_setting_1 : decode cX7_setting 1 = .ok (.tableswitch 75 0 3 #[31, 42, 53, 64], 31) := by decide +kernel
theorem dX7_setting_32 : decode cX7_setting 32 = .ok (.aload_n 0, 1) := by decide +kernel
theorem dX7_setting_33 : decode cX7_setting 33 = .ok (.getfield 23, 3) := by decide +kernel
theorem dX7_setting_36 : decode cX7_setting 36 = .ok (.iload_n 2, 1) := by decide +kernel
theorem dX7_setting_37 : decode cX7_setting 37 = .ok (.putfield 114, 3) := by decide +kernel
theorem dX7_setting_40 : decode cX7_setting 40 = .ok (.goto 46, 3) := by decide +kernel
theorem dX7_setting_43 : decode cX7_setting 43 = .ok (.aload_n 0, 1) := by decide +kernel
theorem dX7_setting_44 : decode cX7_setting 44 = .ok (.getfield 23, 3) := by decide +kernel
theorem dX7_setting_47 : decode cX7_setting 47 = .ok (.iload_n 2, 1) := by decide +kernel
theorem dX7_setting_48 : decode cX7_setting 48 = .ok (.putfield 118, 3) := by decide +kernel
theorem dX7_setting_51 : decode cX7_setting 51 = .ok (.goto 35, 3) := by decide +kernel
theorem dX7_setting_54 : decode cX7_setting 54 = .ok (.aload_n 0, 1) := by decide +kernel
theorem dX7_setting_55 : decode cX7_setting 55 = .ok (.getfield 23, 3) := by decide +kernel
theorem dX7_setting_58 : decode cX7_setting 58 = .ok (.iload_n 2, 1) := by decide +kernel
theorem dX7_setting_59 : decode cX7_setting 59 = .ok (.putfield 121, 3) := by decide +kernel
theorem dX7_setting_62 : decode cX7_setting 62 = .ok (.goto 24, 3) := by decide +kernel
theorem dX7_setting_65 : decode cX7_setting 65 = .ok (.aload_n 0, 1) := by decide +kernel
theorem dX7_setting_66 : decode cX7_setting 66 = .ok (.getfield 23, 3) := by decide +kernel
theorem dX7_setting_69 : decode cX7_setting 69 = .ok (.iload_n 2, 1) := by decide +kernel
theorem dX7_setting_70 : decode cX7_setting 70 = .ok (.putfield 124, 3) := by decide +kernel
theorem dX7_setting_73 : decode cX7_setting 73 = .ok (.goto 13, 3) := by decide +kernel
theorem dX7_setting_76 : decode cX7_setting 76 = .ok (.new 107, 3) := by decide +kernel
theorem dX7_setting_79 : decode cX7_setting 79 = .ok (.dup, 1) := by decide +kernel
theorem dX7_setting_80 : decode cX7_setting 80 = .ok (.ldc 127, 2) := by decide +kernel
theorem dX7_setting_82 : decode cX7_setting 82 = .ok (.invokespecial 111, 3) := by decide +kernel
theorem dX7_setting_85 : decode cX7_setting 85 = .ok (.athrow, 1) := by decide +kernel
theorem dX7_setting_86 : decode cX7_setting 86 = .ok (.return_, 1) := by decide +kernel
set_option maxRecDepth 20000 in
theorem ggX7_add_X0_append : GoodIn wsX7_add wsX0_append := goodIn_ca (goodIn_r _ [7, 8, 9, 18, 19, 20] (by decide +kernel) (by decide +kernel)) (goodIn_sub (fun _ h => List.mem_cons_of_mem _ (List.mem_append_right _ h)) (by decide +kernel))
set_option maxRecDepth 20000 in
theorem gX7_add_X0_append : GoodIn wsX7_add (wsV RX7 129 RX0 yX0_append wsX0_append) := goodIn_app (goodIn_of _ (by decide +kernel)) ggX7_add_X0_append
theorem dX7_add_0 : decode cX7_add 0 = .ok (.iload_n 3, 1) := by decide +kernel
theorem dX7_add_1 : decode cX7_add 1 = .ok (.iconst 1, 1) := by decide +kernel
theorem dX7_add_2 : decode cX7_add 2 = .ok (.if_icmp .lt 24, 3) := by decide +kernel
theorem dX7_add_5 : decode cX7_add 5 = .ok (.iload_n 3, 1) := by decide +kernel
theorem dX7_add_6 : decode cX7_add 6 = .ok (.bipush 8, 2) := by decide +kernel
theorem dX7_add_8 : decode cX7_add 8 = .ok (.if_icmp .gt 18, 3) := by decide +kernel
theorem dX7_add_11 : decode cX7_add 11 = .ok (.aload_n 0, 1) := by decide +kernel
theorem dX7_add_12 : decode cX7_add 12 = .ok (.getfield 56, 3) := by decide +kernel
theorem dX7_add_15 : decode cX7_add 15 = .ok (.getfield 95, 3) := by decide +kernel
theorem dX7_add_18 : decode cX7_add 18 = .ok (.iload_n 3, 1) := by decide +kernel
theorem dX7_add_19 : decode cX7_add 19 = .ok (.iadd, 1) := by decide +kernel
theorem dX7_add_20 : decode cX7_add 20 = .ok (.sipush 400, 3) := by decide +kernel
theorem dX7_add_23 : decode cX7_add 23 = .ok (.if_icmp .le 5, 3) := by decide +kernel
theorem dX7_add_26 : decode cX7_add 26 = .ok (.iconst 0, 1) := by decide +kernel
theorem dX7_add_27 : decode cX7_add 27 = .ok (.ireturn, 1) := by decide +kernel
theorem dX7_add_28 : decode cX7_add 28 = .ok (.iconst 0, 1) := by decide +kernel
theorem dX7_add_29 : decode cX7_add 29 = .ok (.istore 4, 2) := by decide +kernel
theorem dX7_add_31 : decode cX7_add 31 = .ok (.iload 4, 2) := by decide +kernel
theorem dX7_add_33 : decode cX7_add 33 = .ok (.iload_n 3, 1) := by decide +kernel
theorem dX7_add_34 : decode cX7_add 34 = .ok (.if_icmp .ge 28, 3) := by decide +kernel
theorem dX7_add_37 : decode cX7_add 37 = .ok (.aload_n 0, 1) := by decide +kernel
theorem dX7_add_38 : decode cX7_add 38 = .ok (.getfield 56, 3) := by decide +kernel
theorem dX7_add_41 : decode cX7_add 41 = .ok (.lload_n 1, 1) := by decide +kernel
theorem dX7_add_42 : decode cX7_add 42 = .ok (.bipush 8, 2) := by decide +kernel
theorem dX7_add_44 : decode cX7_add 44 = .ok (.iload 4, 2) := by decide +kernel
theorem dX7_add_46 : decode cX7_add 46 = .ok (.imul, 1) := by decide +kernel
theorem dX7_add_47 : decode cX7_add 47 = .ok (.lushr, 1) := by decide +kernel
theorem dX7_add_48 : decode cX7_add 48 = .ok (.l2i, 1) := by decide +kernel
theorem dX7_add_49 : decode cX7_add 49 = .ok (.sipush 255, 3) := by decide +kernel
theorem dX7_add_52 : decode cX7_add 52 = .ok (.iand, 1) := by decide +kernel
theorem dX7_add_53 : decode cX7_add 53 = .ok (.invokevirtual 129, 3) := by decide +kernel
theorem dX7_add_56 : decode cX7_add 56 = .ok (.iinc 4 1, 3) := by decide +kernel
theorem dX7_add_59 : decode cX7_add 59 = .ok (.goto (-28), 3) := by decide +kernel
theorem dX7_add_62 : decode cX7_add 62 = .ok (.iconst 1, 1) := by decide +kernel
theorem dX7_add_63 : decode cX7_add 63 = .ok (.ireturn, 1) := by decide +kernel
set_option maxRecDepth 20000 in
theorem ggX7_take_X1_size : GoodIn wsX7_take wsX1_size := goodIn_r _ [11, 12, 37, 38] (by decide +kernel) (by decide +kernel)
set_option maxRecDepth 20000 in
theorem gX7_take_X1_size : GoodIn wsX7_take (wsV RX7 98 RX1 yX1_size wsX1_size) := goodIn_app (goodIn_of _ (by decide +kernel)) ggX7_take_X1_size
set_option maxRecDepth 20000 in
theorem ggX7_take_X0_empty : GoodIn wsX7_take wsX0_empty := goodIn_r _ [17, 18, 39, 40, 41] (by decide +kernel) (by decide +kernel)
set_option maxRecDepth 20000 in
theorem gX7_take_X0_empty : GoodIn wsX7_take (wsV RX7 132 RX0 yX0_empty wsX0_empty) := goodIn_app (goodIn_of _ (by decide +kernel)) ggX7_take_X0_empty
set_option maxRecDepth 20000 in
theorem ggX7_take_X1_byteAt : GoodIn wsX7_take wsX1_byteAt := goodIn_ca (goodIn_r _ [22, 23, 37, 38] (by decide +kernel) (by decide +kernel)) (goodIn_sub (fun _ h => List.mem_cons_of_mem _ (List.mem_append_right _ h)) (by decide +kernel))
set_option maxRecDepth 20000 in
theorem gX7_take_X1_byteAt : GoodIn wsX7_take (wsV RX7 135 RX1 yX1_byteAt wsX1_byteAt) := goodIn_app (goodIn_of _ (by decide +kernel)) ggX7_take_X1_byteAt
set_option maxRecDepth 20000 in
theorem ggX7_take_X0_append : GoodIn wsX7_take wsX0_append := goodIn_ca (goodIn_r _ [27, 18, 28, 39, 40, 41] (by decide +kernel) (by decide +kernel)) (goodIn_sub (fun _ h => List.mem_cons_of_mem _ (List.mem_append_right _ h)) (by decide +kernel))
set_option maxRecDepth 20000 in
theorem gX7_take_X0_append : GoodIn wsX7_take (wsV RX7 129 RX0 yX0_append wsX0_append) := goodIn_app (goodIn_of _ (by decide +kernel)) ggX7_take_X0_append
theorem dX7_take_0 : decode cX7_take 0 = .ok (.sipush 400, 3) := by decide +kernel
theorem dX7_take_3 : decode cX7_take 3 = .ok (.aload_n 0, 1) := by decide +kernel
theorem dX7_take_4 : decode cX7_take 4 = .ok (.getfield 67, 3) := by decide +kernel
theorem dX7_take_7 : decode cX7_take 7 = .ok (.invokevirtual 98, 3) := by decide +kernel
theorem dX7_take_10 : decode cX7_take 10 = .ok (.invokestatic 11, 3) := by decide +kernel
theorem dX7_take_13 : decode cX7_take 13 = .ok (.istore_n 1, 1) := by decide +kernel
theorem dX7_take_14 : decode cX7_take 14 = .ok (.aload_n 0, 1) := by decide +kernel
theorem dX7_take_15 : decode cX7_take 15 = .ok (.getfield 56, 3) := by decide +kernel
theorem dX7_take_18 : decode cX7_take 18 = .ok (.invokevirtual 132, 3) := by decide +kernel
theorem dX7_take_21 : decode cX7_take 21 = .ok (.iconst 0, 1) := by decide +kernel
theorem dX7_take_22 : decode cX7_take 22 = .ok (.istore_n 2, 1) := by decide +kernel
theorem dX7_take_23 : decode cX7_take 23 = .ok (.iload_n 2, 1) := by decide +kernel
theorem dX7_take_24 : decode cX7_take 24 = .ok (.iload_n 1, 1) := by decide +kernel
theorem dX7_take_25 : decode cX7_take 25 = .ok (.if_icmp .ge 24, 3) := by decide +kernel
theorem dX7_take_28 : decode cX7_take 28 = .ok (.aload_n 0, 1) := by decide +kernel
theorem dX7_take_29 : decode cX7_take 29 = .ok (.getfield 56, 3) := by decide +kernel
theorem dX7_take_32 : decode cX7_take 32 = .ok (.aload_n 0, 1) := by decide +kernel
theorem dX7_take_33 : decode cX7_take 33 = .ok (.getfield 67, 3) := by decide +kernel
theorem dX7_take_36 : decode cX7_take 36 = .ok (.iload_n 2, 1) := by decide +kernel
theorem dX7_take_37 : decode cX7_take 37 = .ok (.invokevirtual 135, 3) := by decide +kernel
theorem dX7_take_40 : decode cX7_take 40 = .ok (.invokevirtual 129, 3) := by decide +kernel
theorem dX7_take_43 : decode cX7_take 43 = .ok (.iinc 2 1, 3) := by decide +kernel
theorem dX7_take_46 : decode cX7_take 46 = .ok (.goto (-23), 3) := by decide +kernel
theorem dX7_take_49 : decode cX7_take 49 = .ok (.iload_n 1, 1) := by decide +kernel
theorem dX7_take_50 : decode cX7_take 50 = .ok (.ireturn, 1) := by decide +kernel
set_option maxRecDepth 20000 in
theorem ggX7_drop_X0_empty : GoodIn wsX7_drop wsX0_empty := goodIn_r _ [6, 7, 16, 17, 18] (by decide +kernel) (by decide +kernel)
set_option maxRecDepth 20000 in
theorem gX7_drop_X0_empty : GoodIn wsX7_drop (wsV RX7 132 RX0 yX0_empty wsX0_empty) := goodIn_app (goodIn_of _ (by decide +kernel)) ggX7_drop_X0_empty
theorem dX7_drop_0 : decode cX7_drop 0 = .ok (.aload_n 0, 1) := by decide +kernel
theorem dX7_drop_1 : decode cX7_drop 1 = .ok (.getfield 56, 3) := by decide +kernel
theorem dX7_drop_4 : decode cX7_drop 4 = .ok (.invokevirtual 132, 3) := by decide +kernel
theorem dX7_drop_7 : decode cX7_drop 7 = .ok (.return_, 1) := by decide +kernel
set_option maxRecDepth 20000 in
theorem ggX7_read_X3_begin : GoodIn wsX7_read wsX3_begin := goodIn_r _ [10, 11, 12, 13, 14, 15, 16, 17, 18, 19, 20, 204, 205, 206, 207, 208, 209, 210, 211, 212, 199, 200, 201, 202, 203, 213, 214, 215] (by decide +kernel) (by decide +kernel)
set_option maxRecDepth 20000 in
theorem gX7_read_X3_begin : GoodIn wsX7_read (wsV RX7 141 RX3 yX3_begin wsX3_begin) := goodIn_app (goodIn_of _ (by decide +kernel)) ggX7_read_X3_begin
set_option maxRecDepth 20000 in
theorem ggX7_read_X3_reachRow : GoodIn wsX7_read wsX3_reachRow := goodIn_ca (goodIn_r _ [24, 25, 11, 26, 27, 28, 29, 30, 31, 32, 33, 34, 35, 36, 37, 38, 18, 39, 40, 20, 41, 42, 43, 44, 45, 46, 47, 48, 49, 50, 51, 52, 53, 54, 55, 56, 57, 58, 59, 60, 61, 62, 63, 64, 65, 66, 67, 68, 69, 70, 71, 72, 73, 74, 75, 76, 77, 78, 79, 204, 205, 206, 207, 208, 209, 210, 211, 212, 216, 217, 218, 219, 220, 213, 214, 215] (by decide +kernel) (by decide +kernel)) (goodIn_sub (fun _ h => List.mem_cons_of_mem _ (List.mem_append_right _ h)) (by decide +kernel))
set_option maxRecDepth 20000 in
theorem gX7_read_X3_reachRow : GoodIn wsX7_read (wsV RX7 144 RX3 yX3_reachRow wsX3_reachRow) := goodIn_app (goodIn_of _ (by decide +kernel)) ggX7_read_X3_reachRow
set_option maxRecDepth 20000 in
theorem ggX7_read_X3_readRow : GoodIn wsX7_read wsX3_readRow := goodIn_ca (goodIn_r _ [83, 12, 13, 84, 85, 27, 14, 25, 86, 87, 88, 89, 90, 91, 92, 93, 94, 95, 96, 97, 98, 99, 64, 100, 101, 63, 65, 102, 103, 104, 105, 106, 107, 108, 109, 110, 9, 111, 112, 113, 114, 115, 116, 117, 118, 11, 50, 51, 52, 18, 53, 20, 54, 55, 56, 57, 40, 45, 119, 120, 121, 122, 123, 124, 125, 126, 127, 128, 129, 130, 46, 47, 48, 49, 58, 59, 60, 61, 62, 66, 131, 132, 133, 134, 135, 136, 137, 29, 30, 31, 32, 33, 34, 35, 72, 73, 74, 75, 76, 77, 78, 79, 41, 42, 43, 44, 138, 139, 140, 141, 142, 143, 144, 145, 146, 147, 148, 149, 150, 151, 152, 153, 154, 155, 156, 157, 158, 159, 160, 161, 162, 163, 164, 165, 166, 167, 168, 169, 170, 171, 172, 173, 174, 175, 176, 177, 178, 179, 180, 181, 182, 183, 184, 185, 186, 187, 188, 189, 190, 204, 205, 206, 207, 208, 209, 210, 211, 212, 199, 200, 201, 202, 203, 216, 217, 218, 219, 220, 213, 214, 215, 221, 222, 223, 224] (by decide +kernel) (by decide +kernel)) (goodIn_sub (fun _ h => List.mem_cons_of_mem _ (List.mem_append_right _ h)) (by decide +kernel))
set_option maxRecDepth 20000 in
theorem gX7_read_X3_readRow : GoodIn wsX7_read (wsV RX7 148 RX3 yX3_readRow wsX3_readRow) := goodIn_app (goodIn_of _ (by decide +kernel)) ggX7_read_X3_readRow
theorem dX7_read_0 : decode cX7_read 0 = .ok (.iload_n 1, 1) := by decide +kernel
theorem dX7_read_1 : decode cX7_read 1 = .ok (.ifCond .lt 9, 3) := by decide +kernel
theorem dX7_read_4 : decode cX7_read 4 = .ok (.iload_n 1, 1) := by decide +kernel
theorem dX7_read_5 : decode cX7_read 5 = .ok (.bipush 24, 2) := by decide +kernel
theorem dX7_read_7 : decode cX7_read 7 = .ok (.if_icmp .le 13, 3) := by decide +kernel
theorem dX7_read_10 : decode cX7_read 10 = .ok (.new 107, 3) := by decide +kernel
theorem dX7_read_13 : decode cX7_read 13 = .ok (.dup, 1) := by decide +kernel
theorem dX7_read_14 : decode cX7_read 14 = .ok (.ldc 139, 2) := by decide +kernel
theorem dX7_read_16 : decode cX7_read 16 = .ok (.invokespecial 111, 3) := by decide +kernel
theorem dX7_read_19 : decode cX7_read 19 = .ok (.athrow, 1) := by decide +kernel
theorem dX7_read_20 : decode cX7_read 20 = .ok (.aload_n 0, 1) := by decide +kernel
theorem dX7_read_21 : decode cX7_read 21 = .ok (.getfield 85, 3) := by decide +kernel
theorem dX7_read_24 : decode cX7_read 24 = .ok (.invokevirtual 141, 3) := by decide +kernel
theorem dX7_read_27 : decode cX7_read 27 = .ok (.iconst 1, 1) := by decide +kernel
theorem dX7_read_28 : decode cX7_read 28 = .ok (.istore_n 2, 1) := by decide +kernel
theorem dX7_read_29 : decode cX7_read 29 = .ok (.iconst 0, 1) := by decide +kernel
theorem dX7_read_30 : decode cX7_read 30 = .ok (.istore_n 3, 1) := by decide +kernel
theorem dX7_read_31 : decode cX7_read 31 = .ok (.iload_n 3, 1) := by decide +kernel
theorem dX7_read_32 : decode cX7_read 32 = .ok (.iload_n 1, 1) := by decide +kernel
theorem dX7_read_33 : decode cX7_read 33 = .ok (.if_icmp .ge 39, 3) := by decide +kernel
theorem dX7_read_36 : decode cX7_read 36 = .ok (.iload_n 2, 1) := by decide +kernel
theorem dX7_read_37 : decode cX7_read 37 = .ok (.ifCond .eq 35, 3) := by decide +kernel
theorem dX7_read_40 : decode cX7_read 40 = .ok (.aload_n 0, 1) := by decide +kernel
theorem dX7_read_41 : decode cX7_read 41 = .ok (.getfield 85, 3) := by decide +kernel
theorem dX7_read_44 : decode cX7_read 44 = .ok (.invokevirtual 144, 3) := by decide +kernel
theorem dX7_read_47 : decode cX7_read 47 = .ok (.ifCond .eq 17, 3) := by decide +kernel
theorem dX7_read_50 : decode cX7_read 50 = .ok (.aload_n 0, 1) := by decide +kernel
theorem dX7_read_51 : decode cX7_read 51 = .ok (.getfield 85, 3) := by decide +kernel
theorem dX7_read_54 : decode cX7_read 54 = .ok (.invokevirtual 148, 3) := by decide +kernel
theorem dX7_read_57 : decode cX7_read 57 = .ok (.ifCond .eq 7, 3) := by decide +kernel
theorem dX7_read_60 : decode cX7_read 60 = .ok (.iconst 1, 1) := by decide +kernel
theorem dX7_read_61 : decode cX7_read 61 = .ok (.goto 4, 3) := by decide +kernel
theorem dX7_read_64 : decode cX7_read 64 = .ok (.iconst 0, 1) := by decide +kernel
theorem dX7_read_65 : decode cX7_read 65 = .ok (.istore_n 2, 1) := by decide +kernel
theorem dX7_read_66 : decode cX7_read 66 = .ok (.iinc 3 1, 3) := by decide +kernel
theorem dX7_read_69 : decode cX7_read 69 = .ok (.goto (-38), 3) := by decide +kernel
theorem dX7_read_72 : decode cX7_read 72 = .ok (.aload_n 0, 1) := by decide +kernel
theorem dX7_read_73 : decode cX7_read 73 = .ok (.getfield 30, 3) := by decide +kernel
theorem dX7_read_76 : decode cX7_read 76 = .ok (.getfield 92, 3) := by decide +kernel
theorem dX7_read_79 : decode cX7_read 79 = .ok (.ireturn, 1) := by decide +kernel
set_option maxRecDepth 20000 in
theorem ggX7_state_X2_has : GoodIn wsX7_state wsX2_has := goodIn_r _ [9, 10, 30, 31, 32, 33, 34] (by decide +kernel) (by decide +kernel)
set_option maxRecDepth 20000 in
theorem gX7_state_X2_has : GoodIn wsX7_state (wsV RX7 151 RX2 yX2_has wsX2_has) := goodIn_app (goodIn_of _ (by decide +kernel)) ggX7_state_X2_has
set_option maxRecDepth 20000 in
theorem ggX7_state_X2_stateOf : GoodIn wsX7_state wsX2_stateOf := goodIn_ca (goodIn_r _ [14, 15, 30, 31, 32, 33, 34] (by decide +kernel) (by decide +kernel)) (goodIn_sub (fun _ h => List.mem_cons_of_mem _ (List.mem_append_right _ h)) (by decide +kernel))
set_option maxRecDepth 20000 in
theorem gX7_state_X2_stateOf : GoodIn wsX7_state (wsV RX7 160 RX2 yX2_stateOf wsX2_stateOf) := goodIn_app (goodIn_of _ (by decide +kernel)) ggX7_state_X2_stateOf
theorem dX7_state_0 : decode cX7_state 0 = .ok (.aload_n 0, 1) := by decide +kernel
theorem dX7_state_1 : decode cX7_state 1 = .ok (.getfield 30, 3) := by decide +kernel
theorem dX7_state_4 : decode cX7_state 4 = .ok (.iload_n 1, 1) := by decide +kernel
theorem dX7_state_5 : decode cX7_state 5 = .ok (.invokevirtual 151, 3) := by decide +kernel
theorem dX7_state_8 : decode cX7_state 8 = .ok (.ifCond .ne 13, 3) := by decide +kernel
theorem dX7_state_11 : decode cX7_state 11 = .ok (.new 155, 3) := by decide +kernel
theorem dX7_state_14 : decode cX7_state 14 = .ok (.dup, 1) := by decide +kernel
theorem dX7_state_15 : decode cX7_state 15 = .ok (.ldc 157, 2) := by decide +kernel
theorem dX7_state_17 : decode cX7_state 17 = .ok (.invokespecial 159, 3) := by decide +kernel
theorem dX7_state_20 : decode cX7_state 20 = .ok (.athrow, 1) := by decide +kernel
theorem dX7_state_21 : decode cX7_state 21 = .ok (.aload_n 0, 1) := by decide +kernel
theorem dX7_state_22 : decode cX7_state 22 = .ok (.getfield 30, 3) := by decide +kernel
theorem dX7_state_25 : decode cX7_state 25 = .ok (.iload_n 1, 1) := by decide +kernel
theorem dX7_state_26 : decode cX7_state 26 = .ok (.invokevirtual 160, 3) := by decide +kernel
theorem dX7_state_29 : decode cX7_state 29 = .ok (.ireturn, 1) := by decide +kernel
set_option maxRecDepth 20000 in
theorem ggX7_row_X2_whiten : GoodIn wsX7_row wsX2_whiten := goodIn_ca (goodIn_r _ [9, 10, 11, 12, 13, 8, 14, 15, 16, 17, 18, 19, 20, 21, 22, 23, 24, 25, 26, 27, 28, 43, 44, 45, 46, 47] (by decide +kernel) (by decide +kernel)) (goodIn_sub (fun _ h => List.mem_cons_of_mem _ (List.mem_append_right _ h)) (by decide +kernel))
set_option maxRecDepth 20000 in
theorem gX7_row_X2_whiten : GoodIn wsX7_row (wsV RX7 168 RX2 yX2_whiten wsX2_whiten) := goodIn_app (goodIn_of _ (by decide +kernel)) ggX7_row_X2_whiten
set_option maxRecDepth 20000 in
theorem ggX7_row_X2_keep : GoodIn wsX7_row wsX2_keep := goodIn_ca (goodIn_r _ [32, 33, 34, 43, 44, 45, 46, 47] (by decide +kernel) (by decide +kernel)) (goodIn_sub (fun _ h => List.mem_cons_of_mem _ (List.mem_append_right _ h)) (by decide +kernel))
set_option maxRecDepth 20000 in
theorem gX7_row_X2_keep : GoodIn wsX7_row (wsV RX7 171 RX2 yX2_keep wsX2_keep) := goodIn_app (goodIn_of _ (by decide +kernel)) ggX7_row_X2_keep
theorem dX7_row_0 : decode cX7_row 0 = .ok (.aload_n 0, 1) := by decide +kernel
theorem dX7_row_1 : decode cX7_row 1 = .ok (.getfield 30, 3) := by decide +kernel
theorem dX7_row_4 : decode cX7_row 4 = .ok (.getfield 92, 3) := by decide +kernel
theorem dX7_row_7 : decode cX7_row 7 = .ok (.istore_n 1, 1) := by decide +kernel
theorem dX7_row_8 : decode cX7_row 8 = .ok (.iload_n 1, 1) := by decide +kernel
theorem dX7_row_9 : decode cX7_row 9 = .ok (.bipush 24, 2) := by decide +kernel
theorem dX7_row_11 : decode cX7_row 11 = .ok (.if_icmp .lt 13, 3) := by decide +kernel
theorem dX7_row_14 : decode cX7_row 14 = .ok (.new 163, 3) := by decide +kernel
theorem dX7_row_17 : decode cX7_row 17 = .ok (.dup, 1) := by decide +kernel
theorem dX7_row_18 : decode cX7_row 18 = .ok (.ldc 165, 2) := by decide +kernel
theorem dX7_row_20 : decode cX7_row 20 = .ok (.invokespecial 167, 3) := by decide +kernel
theorem dX7_row_23 : decode cX7_row 23 = .ok (.athrow, 1) := by decide +kernel
theorem dX7_row_24 : decode cX7_row 24 = .ok (.aload_n 0, 1) := by decide +kernel
theorem dX7_row_25 : decode cX7_row 25 = .ok (.getfield 30, 3) := by decide +kernel
theorem dX7_row_28 : decode cX7_row 28 = .ok (.iload_n 1, 1) := by decide +kernel
theorem dX7_row_29 : decode cX7_row 29 = .ok (.invokevirtual 168, 3) := by decide +kernel
theorem dX7_row_32 : decode cX7_row 32 = .ok (.aload_n 0, 1) := by decide +kernel
theorem dX7_row_33 : decode cX7_row 33 = .ok (.getfield 30, 3) := by decide +kernel
theorem dX7_row_36 : decode cX7_row 36 = .ok (.iconst 0, 1) := by decide +kernel
theorem dX7_row_37 : decode cX7_row 37 = .ok (.invokevirtual 171, 3) := by decide +kernel
theorem dX7_row_40 : decode cX7_row 40 = .ok (.iload_n 1, 1) := by decide +kernel
theorem dX7_row_41 : decode cX7_row 41 = .ok (.ireturn, 1) := by decide +kernel
theorem dX7_clear_0 : decode cX7_clear 0 = .ok (.aload_n 0, 1) := by decide +kernel
theorem dX7_clear_1 : decode cX7_clear 1 = .ok (.getfield 30, 3) := by decide +kernel
theorem dX7_clear_4 : decode cX7_clear 4 = .ok (.iconst 0, 1) := by decide +kernel
theorem dX7_clear_5 : decode cX7_clear 5 = .ok (.putfield 92, 3) := by decide +kernel
theorem dX7_clear_8 : decode cX7_clear 8 = .ok (.return_, 1) := by decide +kernel
set_option maxRecDepth 20000 in
theorem ggX7_put_X2_has : GoodIn wsX7_put wsX2_has := goodIn_r _ [12, 13, 52, 53, 54, 55, 56] (by decide +kernel) (by decide +kernel)
set_option maxRecDepth 20000 in
theorem gX7_put_X2_has : GoodIn wsX7_put (wsV RX7 151 RX2 yX2_has wsX2_has) := goodIn_app (goodIn_of _ (by decide +kernel)) ggX7_put_X2_has
set_option maxRecDepth 20000 in
theorem ggX7_put_X2_paint : GoodIn wsX7_put wsX2_paint := goodIn_ca (goodIn_r _ [17, 18, 19, 20, 21, 22, 23, 24, 25, 26, 27, 28, 29, 30, 11, 31, 32, 52, 53, 54, 55, 56] (by decide +kernel) (by decide +kernel)) (goodIn_sub (fun _ h => List.mem_cons_of_mem _ (List.mem_append_right _ h)) (by decide +kernel))
set_option maxRecDepth 20000 in
theorem gX7_put_X2_paint : GoodIn wsX7_put (wsV RX7 176 RX2 yX2_paint wsX2_paint) := goodIn_app (goodIn_of _ (by decide +kernel)) ggX7_put_X2_paint
set_option maxRecDepth 20000 in
theorem ggX7_put_X2_mend : GoodIn wsX7_put wsX2_mend := goodIn_ca (goodIn_r _ [36, 37, 52, 53, 54, 55, 56] (by decide +kernel) (by decide +kernel)) (goodIn_sub (fun _ h => List.mem_cons_of_mem _ (List.mem_append_right _ h)) (by decide +kernel))
set_option maxRecDepth 20000 in
theorem gX7_put_X2_mend : GoodIn wsX7_put (wsV RX7 180 RX2 yX2_mend wsX2_mend) := goodIn_app (goodIn_of _ (by decide +kernel)) ggX7_put_X2_mend
theorem dX7_put_0 : decode cX7_put 0 = .ok (.aload_n 0, 1) := by decide +kernel
theorem dX7_put_1 : decode cX7_put 1 = .ok (.getfield 30, 3) := by decide +kernel
theorem dX7_put_4 : decode cX7_put 4 = .ok (.iload_n 1, 1) := by decide +kernel
theorem dX7_put_5 : decode cX7_put 5 = .ok (.invokevirtual 151, 3) := by decide +kernel
theorem dX7_put_8 : decode cX7_put 8 = .ok (.ifCond .ne 13, 3) := by decide +kernel
theorem dX7_put_11 : decode cX7_put 11 = .ok (.new 155, 3) := by decide +kernel
theorem dX7_put_14 : decode cX7_put 14 = .ok (.dup, 1) := by decide +kernel
theorem dX7_put_15 : decode cX7_put 15 = .ok (.ldc 157, 2) := by decide +kernel
theorem dX7_put_17 : decode cX7_put 17 = .ok (.invokespecial 159, 3) := by decide +kernel
theorem dX7_put_20 : decode cX7_put 20 = .ok (.athrow, 1) := by decide +kernel
theorem dX7_put_21 : decode cX7_put 21 = .ok (.iload_n 2, 1) := by decide +kernel
theorem dX7_put_22 : decode cX7_put 22 = .ok (.ifCond .lt 19, 3) := by decide +kernel
theorem dX7_put_25 : decode cX7_put 25 = .ok (.iload_n 2, 1) := by decide +kernel
theorem dX7_put_26 : decode cX7_put 26 = .ok (.iload_n 3, 1) := by decide +kernel
theorem dX7_put_27 : decode cX7_put 27 = .ok (.if_icmp .ge 14, 3) := by decide +kernel
theorem dX7_put_30 : decode cX7_put 30 = .ok (.iload_n 3, 1) := by decide +kernel
theorem dX7_put_31 : decode cX7_put 31 = .ok (.aload_n 0, 1) := by decide +kernel
theorem dX7_put_32 : decode cX7_put 32 = .ok (.getfield 30, 3) := by decide +kernel
theorem dX7_put_35 : decode cX7_put 35 = .ok (.getfield 62, 3) := by decide +kernel
theorem dX7_put_38 : decode cX7_put 38 = .ok (.if_icmp .le 13, 3) := by decide +kernel
theorem dX7_put_41 : decode cX7_put 41 = .ok (.new 107, 3) := by decide +kernel
theorem dX7_put_44 : decode cX7_put 44 = .ok (.dup, 1) := by decide +kernel
theorem dX7_put_45 : decode cX7_put 45 = .ok (.ldc 174, 2) := by decide +kernel
theorem dX7_put_47 : decode cX7_put 47 = .ok (.invokespecial 111, 3) := by decide +kernel
theorem dX7_put_50 : decode cX7_put 50 = .ok (.athrow, 1) := by decide +kernel
theorem dX7_put_51 : decode cX7_put 51 = .ok (.aload_n 0, 1) := by decide +kernel
theorem dX7_put_52 : decode cX7_put 52 = .ok (.getfield 30, 3) := by decide +kernel
theorem dX7_put_55 : decode cX7_put 55 = .ok (.iload_n 1, 1) := by decide +kernel
theorem dX7_put_56 : decode cX7_put 56 = .ok (.iload_n 2, 1) := by decide +kernel
theorem dX7_put_57 : decode cX7_put 57 = .ok (.iload_n 3, 1) := by decide +kernel
theorem dX7_put_58 : decode cX7_put 58 = .ok (.iload 4, 2) := by decide +kernel
theorem dX7_put_60 : decode cX7_put 60 = .ok (.invokevirtual 176, 3) := by decide +kernel
theorem dX7_put_63 : decode cX7_put 63 = .ok (.aload_n 0, 1) := by decide +kernel
theorem dX7_put_64 : decode cX7_put 64 = .ok (.getfield 30, 3) := by decide +kernel
theorem dX7_put_67 : decode cX7_put 67 = .ok (.iload_n 1, 1) := by decide +kernel
theorem dX7_put_68 : decode cX7_put 68 = .ok (.invokevirtual 180, 3) := by decide +kernel
theorem dX7_put_71 : decode cX7_put 71 = .ok (.return_, 1) := by decide +kernel
set_option maxRecDepth 20000 in
theorem ggX7_bit_X2_has : GoodIn wsX7_bit wsX2_has := goodIn_r _ [12, 13, 37, 38, 39, 40, 41] (by decide +kernel) (by decide +kernel)
set_option maxRecDepth 20000 in
theorem gX7_bit_X2_has : GoodIn wsX7_bit (wsV RX7 151 RX2 yX2_has wsX2_has) := goodIn_app (goodIn_of _ (by decide +kernel)) ggX7_bit_X2_has
set_option maxRecDepth 20000 in
theorem ggX7_bit_X2_isDark : GoodIn wsX7_bit wsX2_isDark := goodIn_ca (goodIn_r _ [17, 18, 19, 20, 21, 11, 22, 23, 24, 25, 26, 27, 28, 37, 38, 39, 40, 41] (by decide +kernel) (by decide +kernel)) (goodIn_sub (fun _ h => List.mem_cons_of_mem _ (List.mem_append_right _ h)) (by decide +kernel))
set_option maxRecDepth 20000 in
theorem gX7_bit_X2_isDark : GoodIn wsX7_bit (wsV RX7 185 RX2 yX2_isDark wsX2_isDark) := goodIn_app (goodIn_of _ (by decide +kernel)) ggX7_bit_X2_isDark
theorem dX7_bit_0 : decode cX7_bit 0 = .ok (.aload_n 0, 1) := by decide +kernel
theorem dX7_bit_1 : decode cX7_bit 1 = .ok (.getfield 30, 3) := by decide +kernel
theorem dX7_bit_4 : decode cX7_bit 4 = .ok (.iload_n 1, 1) := by decide +kernel
theorem dX7_bit_5 : decode cX7_bit 5 = .ok (.invokevirtual 151, 3) := by decide +kernel
theorem dX7_bit_8 : decode cX7_bit 8 = .ok (.ifCond .eq 18, 3) := by decide +kernel
theorem dX7_bit_11 : decode cX7_bit 11 = .ok (.iload_n 2, 1) := by decide +kernel
theorem dX7_bit_12 : decode cX7_bit 12 = .ok (.ifCond .lt 14, 3) := by decide +kernel
theorem dX7_bit_15 : decode cX7_bit 15 = .ok (.iload_n 2, 1) := by decide +kernel
theorem dX7_bit_16 : decode cX7_bit 16 = .ok (.aload_n 0, 1) := by decide +kernel
theorem dX7_bit_17 : decode cX7_bit 17 = .ok (.getfield 30, 3) := by decide +kernel
theorem dX7_bit_20 : decode cX7_bit 20 = .ok (.getfield 62, 3) := by decide +kernel
theorem dX7_bit_23 : decode cX7_bit 23 = .ok (.if_icmp .lt 13, 3) := by decide +kernel
theorem dX7_bit_26 : decode cX7_bit 26 = .ok (.new 155, 3) := by decide +kernel
theorem dX7_bit_29 : decode cX7_bit 29 = .ok (.dup, 1) := by decide +kernel
theorem dX7_bit_30 : decode cX7_bit 30 = .ok (.ldc 183, 2) := by decide +kernel
theorem dX7_bit_32 : decode cX7_bit 32 = .ok (.invokespecial 159, 3) := by decide +kernel
theorem dX7_bit_35 : decode cX7_bit 35 = .ok (.athrow, 1) := by decide +kernel
theorem dX7_bit_36 : decode cX7_bit 36 = .ok (.aload_n 0, 1) := by decide +kernel
theorem dX7_bit_37 : decode cX7_bit 37 = .ok (.getfield 30, 3) := by decide +kernel
theorem dX7_bit_40 : decode cX7_bit 40 = .ok (.iload_n 1, 1) := by decide +kernel
theorem dX7_bit_41 : decode cX7_bit 41 = .ok (.iload_n 2, 1) := by decide +kernel
theorem dX7_bit_42 : decode cX7_bit 42 = .ok (.invokevirtual 185, 3) := by decide +kernel
theorem dX7_bit_45 : decode cX7_bit 45 = .ok (.aload_n 0, 1) := by decide +kernel
theorem dX7_bit_46 : decode cX7_bit 46 = .ok (.getfield 23, 3) := by decide +kernel
theorem dX7_bit_49 : decode cX7_bit 49 = .ok (.getfield 121, 3) := by decide +kernel
theorem dX7_bit_52 : decode cX7_bit 52 = .ok (.if_icmp .ne 7, 3) := by decide +kernel
theorem dX7_bit_55 : decode cX7_bit 55 = .ok (.iconst 0, 1) := by decide +kernel
theorem dX7_bit_56 : decode cX7_bit 56 = .ok (.goto 4, 3) := by decide +kernel
theorem dX7_bit_59 : decode cX7_bit 59 = .ok (.iconst 1, 1) := by decide +kernel
theorem dX7_bit_60 : decode cX7_bit 60 = .ok (.ireturn, 1) := by decide +kernel
set_option maxRecDepth 20000 in
theorem ggX7_run_X2_has : GoodIn wsX7_run wsX2_has := goodIn_r _ [9, 10, 59, 60, 61, 62, 63] (by decide +kernel) (by decide +kernel)
set_option maxRecDepth 20000 in
theorem gX7_run_X2_has : GoodIn wsX7_run (wsV RX7 151 RX2 yX2_has wsX2_has) := goodIn_app (goodIn_of _ (by decide +kernel)) ggX7_run_X2_has
set_option maxRecDepth 20000 in
theorem ggX7_run_X2_lengthOfRun : GoodIn wsX7_run wsX2_lengthOfRun := goodIn_ca (goodIn_r _ [14, 15, 16, 17, 18, 8, 19, 20, 21, 22, 23, 24, 25, 26, 27, 28, 29, 30, 31, 32, 33, 34, 35, 36, 37, 38, 39, 40, 41, 42, 43, 44, 59, 60, 61, 62, 63] (by decide +kernel) (by decide +kernel)) (goodIn_sub (fun _ h => List.mem_cons_of_mem _ (List.mem_append_right _ h)) (by decide +kernel))
set_option maxRecDepth 20000 in
theorem gX7_run_X2_lengthOfRun : GoodIn wsX7_run (wsV RX7 189 RX2 yX2_lengthOfRun wsX2_lengthOfRun) := goodIn_app (goodIn_of _ (by decide +kernel)) ggX7_run_X2_lengthOfRun
theorem dX7_run_0 : decode cX7_run 0 = .ok (.aload_n 0, 1) := by decide +kernel
theorem dX7_run_1 : decode cX7_run 1 = .ok (.getfield 30, 3) := by decide +kernel
theorem dX7_run_4 : decode cX7_run 4 = .ok (.iload_n 1, 1) := by decide +kernel
theorem dX7_run_5 : decode cX7_run 5 = .ok (.invokevirtual 151, 3) := by decide +kernel
theorem dX7_run_8 : decode cX7_run 8 = .ok (.ifCond .eq 15, 3) := by decide +kernel
theorem dX7_run_11 : decode cX7_run 11 = .ok (.aload_n 0, 1) := by decide +kernel
theorem dX7_run_12 : decode cX7_run 12 = .ok (.getfield 30, 3) := by decide +kernel
theorem dX7_run_15 : decode cX7_run 15 = .ok (.iload_n 1, 1) := by decide +kernel
theorem dX7_run_16 : decode cX7_run 16 = .ok (.iload_n 2, 1) := by decide +kernel
theorem dX7_run_17 : decode cX7_run 17 = .ok (.invokevirtual 189, 3) := by decide +kernel
theorem dX7_run_20 : decode cX7_run 20 = .ok (.goto 5, 3) := by decide +kernel
theorem dX7_run_23 : decode cX7_run 23 = .ok (.bipush (-2), 2) := by decide +kernel
theorem dX7_run_25 : decode cX7_run 25 = .ok (.istore_n 3, 1) := by decide +kernel
theorem dX7_run_26 : decode cX7_run 26 = .ok (.iload_n 3, 1) := by decide +kernel
theorem dX7_run_27 : decode cX7_run 27 = .ok (.ifCond .ge 13, 3) := by decide +kernel
theorem dX7_run_30 : decode cX7_run 30 = .ok (.new 155, 3) := by decide +kernel
theorem dX7_run_33 : decode cX7_run 33 = .ok (.dup, 1) := by decide +kernel
theorem dX7_run_34 : decode cX7_run 34 = .ok (.ldc 192, 2) := by decide +kernel
theorem dX7_run_36 : decode cX7_run 36 = .ok (.invokespecial 159, 3) := by decide +kernel
theorem dX7_run_39 : decode cX7_run 39 = .ok (.athrow, 1) := by decide +kernel
theorem dX7_run_40 : decode cX7_run 40 = .ok (.iload_n 3, 1) := by decide +kernel
theorem dX7_run_41 : decode cX7_run 41 = .ok (.ireturn, 1) := by decide +kernel
set_option maxRecDepth 20000 in
theorem ggX7_runs_X2_has : GoodIn wsX7_runs wsX2_has := goodIn_r _ [9, 10, 59, 60, 61, 62, 63] (by decide +kernel) (by decide +kernel)
set_option maxRecDepth 20000 in
theorem gX7_runs_X2_has : GoodIn wsX7_runs (wsV RX7 151 RX2 yX2_has wsX2_has) := goodIn_app (goodIn_of _ (by decide +kernel)) ggX7_runs_X2_has
set_option maxRecDepth 20000 in
theorem ggX7_runs_X2_countRuns : GoodIn wsX7_runs wsX2_countRuns := goodIn_ca (goodIn_r _ [14, 15, 16, 17, 18, 8, 19, 20, 21, 22, 23, 24, 25, 26, 27, 28, 29, 30, 31, 32, 33, 34, 35, 36, 37, 38, 39, 40, 41, 42, 43, 44, 59, 60, 61, 62, 63] (by decide +kernel) (by decide +kernel)) (goodIn_sub (fun _ h => List.mem_cons_of_mem _ (List.mem_append_right _ h)) (by decide +kernel))
set_option maxRecDepth 20000 in
theorem gX7_runs_X2_countRuns : GoodIn wsX7_runs (wsV RX7 194 RX2 yX2_countRuns wsX2_countRuns) := goodIn_app (goodIn_of _ (by decide +kernel)) ggX7_runs_X2_countRuns
theorem dX7_runs_0 : decode cX7_runs 0 = .ok (.aload_n 0, 1) := by decide +kernel
theorem dX7_runs_1 : decode cX7_runs 1 = .ok (.getfield 30, 3) := by decide +kernel
theorem dX7_runs_4 : decode cX7_runs 4 = .ok (.iload_n 1, 1) := by decide +kernel
theorem dX7_runs_5 : decode cX7_runs 5 = .ok (.invokevirtual 151, 3) := by decide +kernel
theorem dX7_runs_8 : decode cX7_runs 8 = .ok (.ifCond .ne 13, 3) := by decide +kernel
theorem dX7_runs_11 : decode cX7_runs 11 = .ok (.new 155, 3) := by decide +kernel
theorem dX7_runs_14 : decode cX7_runs 14 = .ok (.dup, 1) := by decide +kernel
theorem dX7_runs_15 : decode cX7_runs 15 = .ok (.ldc 157, 2) := by decide +kernel
theorem dX7_runs_17 : decode cX7_runs 17 = .ok (.invokespecial 159, 3) := by decide +kernel
theorem dX7_runs_20 : decode cX7_runs 20 = .ok (.athrow, 1) := by decide +kernel
theorem dX7_runs_21 : decode cX7_runs 21 = .ok (.aload_n 0, 1) := by decide +kernel
theorem dX7_runs_22 : decode cX7_runs 22 = .ok (.getfield 30, 3) := by decide +kernel
theorem dX7_runs_25 : decode cX7_runs 25 = .ok (.iload_n 1, 1) := by decide +kernel
theorem dX7_runs_26 : decode cX7_runs 26 = .ok (.invokevirtual 194, 3) := by decide +kernel
theorem dX7_runs_29 : decode cX7_runs 29 = .ok (.ireturn, 1) := by decide +kernel
set_option maxRecDepth 20000 in
theorem ggX7_write_X4_sendAll : GoodIn wsX7_write wsX4_sendAll := goodIn_ca (goodIn_r _ [7, 8, 9, 10, 11, 12, 13, 14, 15, 16, 17, 18, 19, 20, 21, 6, 22, 23, 24, 25, 26, 27, 28, 29, 30, 31, 32, 33, 34, 35, 36, 37, 38, 39, 40, 41, 42, 43, 44, 45, 46, 47, 48, 49, 50, 51, 52, 53, 54, 55, 56, 57, 58, 59, 60, 61, 62, 63, 64, 65, 66, 67, 68, 69, 70, 71, 72, 73, 74, 75, 76, 77, 78, 79, 80, 81, 82, 83, 84, 85, 86, 87, 88, 89, 90, 91, 92, 93, 94, 95, 96, 97, 98, 99, 100, 101, 102, 103, 104, 105, 106, 107, 108, 109, 110, 111, 112, 113, 114, 115, 116, 117, 118, 119, 120, 121, 134, 135, 136, 137, 138, 139, 140, 141, 142, 143, 144, 145, 146, 147, 148, 149, 150, 151, 152, 153, 154] (by decide +kernel) (by decide +kernel)) (goodIn_sub (fun _ h => List.mem_cons_of_mem _ (List.mem_append_right _ h)) (by decide +kernel))
set_option maxRecDepth 20000 in
theorem gX7_write_X4_sendAll : GoodIn wsX7_write (wsV RX7 197 RX4 yX4_sendAll wsX4_sendAll) := goodIn_app (goodIn_of _ (by decide +kernel)) ggX7_write_X4_sendAll
set_option maxRecDepth 20000 in
theorem ggX7_write_X1_size : GoodIn wsX7_write wsX1_size := goodIn_r _ [125, 18, 149, 150] (by decide +kernel) (by decide +kernel)
set_option maxRecDepth 20000 in
theorem gX7_write_X1_size : GoodIn wsX7_write (wsV RX7 98 RX1 yX1_size wsX1_size) := goodIn_app (goodIn_of _ (by decide +kernel)) ggX7_write_X1_size
theorem dX7_write_0 : decode cX7_write 0 = .ok (.aload_n 0, 1) := by decide +kernel
theorem dX7_write_1 : decode cX7_write 1 = .ok (.getfield 76, 3) := by decide +kernel
theorem dX7_write_4 : decode cX7_write 4 = .ok (.invokevirtual 197, 3) := by decide +kernel
theorem dX7_write_7 : decode cX7_write 7 = .ok (.aload_n 0, 1) := by decide +kernel
theorem dX7_write_8 : decode cX7_write 8 = .ok (.getfield 67, 3) := by decide +kernel
theorem dX7_write_11 : decode cX7_write 11 = .ok (.invokevirtual 98, 3) := by decide +kernel
theorem dX7_write_14 : decode cX7_write 14 = .ok (.ireturn, 1) := by decide +kernel
set_option maxRecDepth 20000 in
theorem ggX7_octet_X1_size : GoodIn wsX7_octet wsX1_size := goodIn_r _ [9, 10, 30, 31] (by decide +kernel) (by decide +kernel)
set_option maxRecDepth 20000 in
theorem gX7_octet_X1_size : GoodIn wsX7_octet (wsV RX7 98 RX1 yX1_size wsX1_size) := goodIn_app (goodIn_of _ (by decide +kernel)) ggX7_octet_X1_size
set_option maxRecDepth 20000 in
theorem ggX7_octet_X1_byteAt : GoodIn wsX7_octet wsX1_byteAt := goodIn_ca (goodIn_r _ [14, 15, 30, 31] (by decide +kernel) (by decide +kernel)) (goodIn_sub (fun _ h => List.mem_cons_of_mem _ (List.mem_append_right _ h)) (by decide +kernel))
set_option maxRecDepth 20000 in
theorem gX7_octet_X1_byteAt : GoodIn wsX7_octet (wsV RX7 135 RX1 yX1_byteAt wsX1_byteAt) := goodIn_app (goodIn_of _ (by decide +kernel)) ggX7_octet_X1_byteAt
theorem dX7_octet_0 : decode cX7_octet 0 = .ok (.iload_n 1, 1) := by decide +kernel
theorem dX7_octet_1 : decode cX7_octet 1 = .ok (.ifCond .lt 14, 3) := by decide +kernel
theorem dX7_octet_4 : decode cX7_octet 4 = .ok (.iload_n 1, 1) := by decide +kernel
theorem dX7_octet_5 : decode cX7_octet 5 = .ok (.aload_n 0, 1) := by decide +kernel
theorem dX7_octet_6 : decode cX7_octet 6 = .ok (.getfield 67, 3) := by decide +kernel
theorem dX7_octet_9 : decode cX7_octet 9 = .ok (.invokevirtual 98, 3) := by decide +kernel
theorem dX7_octet_12 : decode cX7_octet 12 = .ok (.if_icmp .lt 13, 3) := by decide +kernel
theorem dX7_octet_15 : decode cX7_octet 15 = .ok (.new 155, 3) := by decide +kernel
theorem dX7_octet_18 : decode cX7_octet 18 = .ok (.dup, 1) := by decide +kernel
theorem dX7_octet_19 : decode cX7_octet 19 = .ok (.ldc 200, 2) := by decide +kernel
theorem dX7_octet_21 : decode cX7_octet 21 = .ok (.invokespecial 159, 3) := by decide +kernel
theorem dX7_octet_24 : decode cX7_octet 24 = .ok (.athrow, 1) := by decide +kernel
theorem dX7_octet_25 : decode cX7_octet 25 = .ok (.aload_n 0, 1) := by decide +kernel
theorem dX7_octet_26 : decode cX7_octet 26 = .ok (.getfield 67, 3) := by decide +kernel
theorem dX7_octet_29 : decode cX7_octet 29 = .ok (.iload_n 1, 1) := by decide +kernel
theorem dX7_octet_30 : decode cX7_octet 30 = .ok (.invokevirtual 135, 3) := by decide +kernel
theorem dX7_octet_33 : decode cX7_octet 33 = .ok (.ireturn, 1) := by decide +kernel
set_option maxRecDepth 20000 in
theorem ggX7_code_X6_slotOf : GoodIn wsX7_code wsX6_slotOf := goodIn_r _ [9, 10, 11, 8, 12] (by decide +kernel) (by decide +kernel)
set_option maxRecDepth 20000 in
theorem gX7_code_X6_slotOf : GoodIn wsX7_code (va_wsS RX7 202 yX6_slotOf wsX6_slotOf) := goodIn_app (goodIn_of _ (by decide +kernel)) ggX7_code_X6_slotOf
set_option maxRecDepth 20000 in
theorem ggX7_code_X6_bitsOf : GoodIn wsX7_code wsX6_bitsOf := goodIn_ca (goodIn_r _ [16, 17, 31, 32, 33, 34] (by decide +kernel) (by decide +kernel)) (goodIn_sub (fun _ h => List.mem_cons_of_mem _ (List.mem_append_right _ h)) (by decide +kernel))
set_option maxRecDepth 20000 in
theorem gX7_code_X6_bitsOf : GoodIn wsX7_code (wsV RX7 207 RX6 yX6_bitsOf wsX6_bitsOf) := goodIn_app (goodIn_of _ (by decide +kernel)) ggX7_code_X6_bitsOf
set_option maxRecDepth 20000 in
theorem ggX7_code_X6_codeOf : GoodIn wsX7_code wsX6_codeOf := goodIn_ca (goodIn_r _ [21, 22, 31, 32, 33, 34] (by decide +kernel) (by decide +kernel)) (goodIn_sub (fun _ h => List.mem_cons_of_mem _ (List.mem_append_right _ h)) (by decide +kernel))
set_option maxRecDepth 20000 in
theorem gX7_code_X6_codeOf : GoodIn wsX7_code (wsV RX7 211 RX6 yX6_codeOf wsX6_codeOf) := goodIn_app (goodIn_of _ (by decide +kernel)) ggX7_code_X6_codeOf
theorem dX7_code_0 : decode cX7_code 0 = .ok (.iload_n 2, 1) := by decide +kernel
theorem dX7_code_1 : decode cX7_code 1 = .ok (.invokestatic 202, 3) := by decide +kernel
theorem dX7_code_4 : decode cX7_code 4 = .ok (.istore_n 3, 1) := by decide +kernel
theorem dX7_code_5 : decode cX7_code 5 = .ok (.iload_n 3, 1) := by decide +kernel
theorem dX7_code_6 : decode cX7_code 6 = .ok (.ifCond .ge 13, 3) := by decide +kernel
theorem dX7_code_9 : decode cX7_code 9 = .ok (.new 107, 3) := by decide +kernel
theorem dX7_code_12 : decode cX7_code 12 = .ok (.dup, 1) := by decide +kernel
theorem dX7_code_13 : decode cX7_code 13 = .ok (.ldc 205, 2) := by decide +kernel
theorem dX7_code_15 : decode cX7_code 15 = .ok (.invokespecial 111, 3) := by decide +kernel
theorem dX7_code_18 : decode cX7_code 18 = .ok (.athrow, 1) := by decide +kernel
theorem dX7_code_19 : decode cX7_code 19 = .ok (.iload_n 1, 1) := by decide +kernel
theorem dX7_code_20 : decode cX7_code 20 = .ok (.ifCond .eq 10, 3) := by decide +kernel
theorem dX7_code_23 : decode cX7_code 23 = .ok (.aload_n 0, 1) := by decide +kernel
theorem dX7_code_24 : decode cX7_code 24 = .ok (.getfield 50, 3) := by decide +kernel
theorem dX7_code_27 : decode cX7_code 27 = .ok (.goto 7, 3) := by decide +kernel
theorem dX7_code_30 : decode cX7_code 30 = .ok (.aload_n 0, 1) := by decide +kernel
theorem dX7_code_31 : decode cX7_code 31 = .ok (.getfield 43, 3) := by decide +kernel
theorem dX7_code_34 : decode cX7_code 34 = .ok (.astore 4, 2) := by decide +kernel
theorem dX7_code_36 : decode cX7_code 36 = .ok (.aload 4, 2) := by decide +kernel
theorem dX7_code_38 : decode cX7_code 38 = .ok (.iload_n 3, 1) := by decide +kernel
theorem dX7_code_39 : decode cX7_code 39 = .ok (.invokevirtual 207, 3) := by decide +kernel
theorem dX7_code_42 : decode cX7_code 42 = .ok (.ldc 210, 2) := by decide +kernel
theorem dX7_code_44 : decode cX7_code 44 = .ok (.imul, 1) := by decide +kernel
theorem dX7_code_45 : decode cX7_code 45 = .ok (.aload 4, 2) := by decide +kernel
theorem dX7_code_47 : decode cX7_code 47 = .ok (.iload_n 3, 1) := by decide +kernel
theorem dX7_code_48 : decode cX7_code 48 = .ok (.invokevirtual 211, 3) := by decide +kernel
theorem dX7_code_51 : decode cX7_code 51 = .ok (.iadd, 1) := by decide +kernel
theorem dX7_code_52 : decode cX7_code 52 = .ok (.ireturn, 1) := by decide +kernel
