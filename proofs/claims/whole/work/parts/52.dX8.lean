theorem dX8_putStep_82 : decode cX8_putStep 82 = .ok (.bipush 7, 2) := by decide +kernel
theorem dX8_putStep_84 : decode cX8_putStep 84 = .ok (.invokevirtual 102, 3) := by decide +kernel
theorem dX8_putStep_87 : decode cX8_putStep 87 = .ok (.return_, 1) := by decide +kernel
theorem dX8_begin_0 : decode cX8_begin 0 = .ok (.aload_n 0, 1) := by decide +kernel
theorem dX8_begin_1 : decode cX8_begin 1 = .ok (.iconst 0, 1) := by decide +kernel
theorem dX8_begin_2 : decode cX8_begin 2 = .ok (.putfield 121, 3) := by decide +kernel
theorem dX8_begin_5 : decode cX8_begin 5 = .ok (.aload_n 0, 1) := by decide +kernel
theorem dX8_begin_6 : decode cX8_begin 6 = .ok (.iconst 0, 1) := by decide +kernel
theorem dX8_begin_7 : decode cX8_begin 7 = .ok (.putfield 127, 3) := by decide +kernel
theorem dX8_begin_10 : decode cX8_begin 10 = .ok (.aload_n 0, 1) := by decide +kernel
theorem dX8_begin_11 : decode cX8_begin 11 = .ok (.iconst 1, 1) := by decide +kernel
theorem dX8_begin_12 : decode cX8_begin 12 = .ok (.putfield 117, 3) := by decide +kernel
theorem dX8_begin_15 : decode cX8_begin 15 = .ok (.return_, 1) := by decide +kernel
set_option maxRecDepth 20000 in
theorem ggX8_writeDrawn_X8_begin : GoodIn wsX8_writeDrawn wsX8_begin := goodIn_r _ [11, 1, 3, 6, 53, 54, 55, 56, 57, 58, 59, 60, 61, 62, 63, 64, 65, 66, 67, 68, 69, 70, 71, 72, 73, 74] (by decide +kernel) (by decide +kernel)
set_option maxRecDepth 20000 in
theorem gX8_writeDrawn_X8_begin : GoodIn wsX8_writeDrawn (wsV RX8 133 RX8 yX8_begin wsX8_begin) := goodIn_app (goodIn_of _ (by decide +kernel)) ggX8_writeDrawn_X8_begin
set_option maxRecDepth 20000 in
theorem ggX8_writeDrawn_X8_look : GoodIn wsX8_writeDrawn wsX8_look := goodIn_ca (goodIn_r _ [15, 6, 1, 5, 2, 3, 4, 16, 17, 18, 10, 19, 20, 21, 22, 23, 24, 53, 54, 55, 56, 57, 58, 59, 60, 61, 62, 63, 64, 65, 66, 67, 68, 69, 70, 71, 72, 73, 74] (by decide +kernel) (by decide +kernel)) (goodIn_sub (fun _ h => List.mem_cons_of_mem _ (List.mem_append_right _ h)) (by decide +kernel))
set_option maxRecDepth 20000 in
theorem gX8_writeDrawn_X8_look : GoodIn wsX8_writeDrawn (wsV RX8 136 RX8 yX8_look wsX8_look) := goodIn_app (goodIn_of _ (by decide +kernel)) ggX8_writeDrawn_X8_look
set_option maxRecDepth 20000 in
theorem ggX8_writeDrawn_X8_otherFrom : GoodIn wsX8_writeDrawn wsX8_otherFrom := goodIn_ca (goodIn_r _ [28, 2, 20, 21, 22, 10, 23, 24, 53, 54, 55, 56, 57, 58, 59, 60, 61, 62, 63, 64, 65, 66, 67, 68, 69, 70, 71, 72, 73, 74] (by decide +kernel) (by decide +kernel)) (goodIn_sub (fun _ h => List.mem_cons_of_mem _ (List.mem_append_right _ h)) (by decide +kernel))
set_option maxRecDepth 20000 in
theorem gX8_writeDrawn_X8_otherFrom : GoodIn wsX8_writeDrawn (wsV RX8 109 RX8 yX8_otherFrom wsX8_otherFrom) := goodIn_app (goodIn_of _ (by decide +kernel)) ggX8_writeDrawn_X8_otherFrom
set_option maxRecDepth 20000 in
theorem ggX8_writeDrawn_X8_putBits : GoodIn wsX8_writeDrawn wsX8_putBits := goodIn_ca (goodIn_r _ [32, 33, 34, 35, 10, 36, 37, 38, 53, 54, 55, 56, 57, 58, 59, 60, 61, 62, 63, 64, 65, 66, 67, 68, 69, 70, 71, 72, 73, 74] (by decide +kernel) (by decide +kernel)) (goodIn_sub (fun _ h => List.mem_cons_of_mem _ (List.mem_append_right _ h)) (by decide +kernel))
set_option maxRecDepth 20000 in
theorem gX8_writeDrawn_X8_putBits : GoodIn wsX8_writeDrawn (wsV RX8 102 RX8 yX8_putBits wsX8_putBits) := goodIn_app (goodIn_of _ (by decide +kernel)) ggX8_writeDrawn_X8_putBits
set_option maxRecDepth 20000 in
theorem ggX8_writeDrawn_X8_putStep : GoodIn wsX8_writeDrawn wsX8_putStep := goodIn_ca (goodIn_r _ [42, 29, 30, 31, 10, 32, 33, 34, 35, 36, 37, 38, 53, 54, 55, 56, 57, 58, 59, 60, 61, 62, 63, 64, 65, 66, 67, 68, 69, 70, 71, 72, 73, 74] (by decide +kernel) (by decide +kernel)) (goodIn_sub (fun _ h => List.mem_cons_of_mem _ (List.mem_append_right _ h)) (by decide +kernel))
set_option maxRecDepth 20000 in
theorem gX8_writeDrawn_X8_putStep : GoodIn wsX8_writeDrawn (wsV RX8 139 RX8 yX8_putStep wsX8_putStep) := goodIn_app (goodIn_of _ (by decide +kernel)) ggX8_writeDrawn_X8_putStep
set_option maxRecDepth 20000 in
theorem ggX8_writeDrawn_X8_putRun : GoodIn wsX8_writeDrawn wsX8_putRun := goodIn_ca (goodIn_r _ [46, 47, 48, 49, 10, 50, 51, 52, 29, 30, 31, 32, 33, 34, 35, 36, 37, 38, 53, 54, 55, 56, 57, 58, 59, 60, 61, 62, 63, 64, 65, 66, 67, 68, 69, 70, 71, 72, 73, 74] (by decide +kernel) (by decide +kernel)) (goodIn_sub (fun _ h => List.mem_cons_of_mem _ (List.mem_append_right _ h)) (by decide +kernel))
set_option maxRecDepth 20000 in
theorem gX8_writeDrawn_X8_putRun : GoodIn wsX8_writeDrawn (wsV RX8 113 RX8 yX8_putRun wsX8_putRun) := goodIn_app (goodIn_of _ (by decide +kernel)) ggX8_writeDrawn_X8_putRun
theorem dX8_writeDrawn_0 : decode cX8_writeDrawn 0 = .ok (.aload_n 0, 1) := by decide +kernel
theorem dX8_writeDrawn_1 : decode cX8_writeDrawn 1 = .ok (.invokevirtual 133, 3) := by decide +kernel
theorem dX8_writeDrawn_4 : decode cX8_writeDrawn 4 = .ok (.aload_n 0, 1) := by decide +kernel
theorem dX8_writeDrawn_5 : decode cX8_writeDrawn 5 = .ok (.getfield 121, 3) := by decide +kernel
theorem dX8_writeDrawn_8 : decode cX8_writeDrawn 8 = .ok (.aload_n 0, 1) := by decide +kernel
theorem dX8_writeDrawn_9 : decode cX8_writeDrawn 9 = .ok (.getfield 37, 3) := by decide +kernel
theorem dX8_writeDrawn_12 : decode cX8_writeDrawn 12 = .ok (.if_icmp .ge 172, 3) := by decide +kernel
theorem dX8_writeDrawn_15 : decode cX8_writeDrawn 15 = .ok (.aload_n 0, 1) := by decide +kernel
theorem dX8_writeDrawn_16 : decode cX8_writeDrawn 16 = .ok (.iload_n 1, 1) := by decide +kernel
theorem dX8_writeDrawn_17 : decode cX8_writeDrawn 17 = .ok (.invokevirtual 136, 3) := by decide +kernel
theorem dX8_writeDrawn_20 : decode cX8_writeDrawn 20 = .ok (.aload_n 0, 1) := by decide +kernel
theorem dX8_writeDrawn_21 : decode cX8_writeDrawn 21 = .ok (.iload_n 1, 1) := by decide +kernel
theorem dX8_writeDrawn_22 : decode cX8_writeDrawn 22 = .ok (.aload_n 0, 1) := by decide +kernel
theorem dX8_writeDrawn_23 : decode cX8_writeDrawn 23 = .ok (.getfield 121, 3) := by decide +kernel
theorem dX8_writeDrawn_26 : decode cX8_writeDrawn 26 = .ok (.aload_n 0, 1) := by decide +kernel
theorem dX8_writeDrawn_27 : decode cX8_writeDrawn 27 = .ok (.getfield 127, 3) := by decide +kernel
theorem dX8_writeDrawn_30 : decode cX8_writeDrawn 30 = .ok (.invokevirtual 109, 3) := by decide +kernel
theorem dX8_writeDrawn_33 : decode cX8_writeDrawn 33 = .ok (.istore_n 2, 1) := by decide +kernel
theorem dX8_writeDrawn_34 : decode cX8_writeDrawn 34 = .ok (.aload_n 0, 1) := by decide +kernel
theorem dX8_writeDrawn_35 : decode cX8_writeDrawn 35 = .ok (.getfield 130, 3) := by decide +kernel
theorem dX8_writeDrawn_38 : decode cX8_writeDrawn 38 = .ok (.iload_n 2, 1) := by decide +kernel
theorem dX8_writeDrawn_39 : decode cX8_writeDrawn 39 = .ok (.if_icmp .ge 20, 3) := by decide +kernel
theorem dX8_writeDrawn_42 : decode cX8_writeDrawn 42 = .ok (.aload_n 0, 1) := by decide +kernel
theorem dX8_writeDrawn_43 : decode cX8_writeDrawn 43 = .ok (.iconst 1, 1) := by decide +kernel
theorem dX8_writeDrawn_44 : decode cX8_writeDrawn 44 = .ok (.iconst 4, 1) := by decide +kernel
theorem dX8_writeDrawn_45 : decode cX8_writeDrawn 45 = .ok (.invokevirtual 102, 3) := by decide +kernel
theorem dX8_writeDrawn_48 : decode cX8_writeDrawn 48 = .ok (.aload_n 0, 1) := by decide +kernel
theorem dX8_writeDrawn_49 : decode cX8_writeDrawn 49 = .ok (.aload_n 0, 1) := by decide +kernel
theorem dX8_writeDrawn_50 : decode cX8_writeDrawn 50 = .ok (.getfield 130, 3) := by decide +kernel
theorem dX8_writeDrawn_53 : decode cX8_writeDrawn 53 = .ok (.putfield 121, 3) := by decide +kernel
theorem dX8_writeDrawn_56 : decode cX8_writeDrawn 56 = .ok (.goto 120, 3) := by decide +kernel
theorem dX8_writeDrawn_59 : decode cX8_writeDrawn 59 = .ok (.iload_n 2, 1) := by decide +kernel
theorem dX8_writeDrawn_60 : decode cX8_writeDrawn 60 = .ok (.aload_n 0, 1) := by decide +kernel
theorem dX8_writeDrawn_61 : decode cX8_writeDrawn 61 = .ok (.getfield 124, 3) := by decide +kernel
theorem dX8_writeDrawn_64 : decode cX8_writeDrawn 64 = .ok (.isub, 1) := by decide +kernel
theorem dX8_writeDrawn_65 : decode cX8_writeDrawn 65 = .ok (.iconst 3, 1) := by decide +kernel
theorem dX8_writeDrawn_66 : decode cX8_writeDrawn 66 = .ok (.if_icmp .gt 47, 3) := by decide +kernel
theorem dX8_writeDrawn_69 : decode cX8_writeDrawn 69 = .ok (.aload_n 0, 1) := by decide +kernel
theorem dX8_writeDrawn_70 : decode cX8_writeDrawn 70 = .ok (.getfield 124, 3) := by decide +kernel
theorem dX8_writeDrawn_73 : decode cX8_writeDrawn 73 = .ok (.iload_n 2, 1) := by decide +kernel
theorem dX8_writeDrawn_74 : decode cX8_writeDrawn 74 = .ok (.isub, 1) := by decide +kernel
theorem dX8_writeDrawn_75 : decode cX8_writeDrawn 75 = .ok (.iconst 3, 1) := by decide +kernel
theorem dX8_writeDrawn_76 : decode cX8_writeDrawn 76 = .ok (.if_icmp .gt 37, 3) := by decide +kernel
theorem dX8_writeDrawn_79 : decode cX8_writeDrawn 79 = .ok (.aload_n 0, 1) := by decide +kernel
theorem dX8_writeDrawn_80 : decode cX8_writeDrawn 80 = .ok (.iload_n 2, 1) := by decide +kernel
theorem dX8_writeDrawn_81 : decode cX8_writeDrawn 81 = .ok (.aload_n 0, 1) := by decide +kernel
theorem dX8_writeDrawn_82 : decode cX8_writeDrawn 82 = .ok (.getfield 124, 3) := by decide +kernel
theorem dX8_writeDrawn_85 : decode cX8_writeDrawn 85 = .ok (.isub, 1) := by decide +kernel
theorem dX8_writeDrawn_86 : decode cX8_writeDrawn 86 = .ok (.invokevirtual 139, 3) := by decide +kernel
theorem dX8_writeDrawn_89 : decode cX8_writeDrawn 89 = .ok (.aload_n 0, 1) := by decide +kernel
theorem dX8_writeDrawn_90 : decode cX8_writeDrawn 90 = .ok (.iload_n 2, 1) := by decide +kernel
theorem dX8_writeDrawn_91 : decode cX8_writeDrawn 91 = .ok (.putfield 121, 3) := by decide +kernel
theorem dX8_writeDrawn_94 : decode cX8_writeDrawn 94 = .ok (.aload_n 0, 1) := by decide +kernel
theorem dX8_writeDrawn_95 : decode cX8_writeDrawn 95 = .ok (.aload_n 0, 1) := by decide +kernel
theorem dX8_writeDrawn_96 : decode cX8_writeDrawn 96 = .ok (.getfield 127, 3) := by decide +kernel
theorem dX8_writeDrawn_99 : decode cX8_writeDrawn 99 = .ok (.ifCond .ne 7, 3) := by decide +kernel
theorem dX8_writeDrawn_102 : decode cX8_writeDrawn 102 = .ok (.iconst 1, 1) := by decide +kernel
theorem dX8_writeDrawn_103 : decode cX8_writeDrawn 103 = .ok (.goto 4, 3) := by decide +kernel
theorem dX8_writeDrawn_106 : decode cX8_writeDrawn 106 = .ok (.iconst 0, 1) := by decide +kernel
theorem dX8_writeDrawn_107 : decode cX8_writeDrawn 107 = .ok (.putfield 127, 3) := by decide +kernel
theorem dX8_writeDrawn_110 : decode cX8_writeDrawn 110 = .ok (.goto 66, 3) := by decide +kernel
theorem dX8_writeDrawn_113 : decode cX8_writeDrawn 113 = .ok (.aload_n 0, 1) := by decide +kernel
theorem dX8_writeDrawn_114 : decode cX8_writeDrawn 114 = .ok (.iload_n 1, 1) := by decide +kernel
theorem dX8_writeDrawn_115 : decode cX8_writeDrawn 115 = .ok (.iload_n 2, 1) := by decide +kernel
theorem dX8_writeDrawn_116 : decode cX8_writeDrawn 116 = .ok (.aload_n 0, 1) := by decide +kernel
theorem dX8_writeDrawn_117 : decode cX8_writeDrawn 117 = .ok (.getfield 127, 3) := by decide +kernel
theorem dX8_writeDrawn_120 : decode cX8_writeDrawn 120 = .ok (.ifCond .ne 7, 3) := by decide +kernel
theorem dX8_writeDrawn_123 : decode cX8_writeDrawn 123 = .ok (.iconst 1, 1) := by decide +kernel
theorem dX8_writeDrawn_124 : decode cX8_writeDrawn 124 = .ok (.goto 4, 3) := by decide +kernel
theorem dX8_writeDrawn_127 : decode cX8_writeDrawn 127 = .ok (.iconst 0, 1) := by decide +kernel
theorem dX8_writeDrawn_128 : decode cX8_writeDrawn 128 = .ok (.invokevirtual 109, 3) := by decide +kernel
theorem dX8_writeDrawn_131 : decode cX8_writeDrawn 131 = .ok (.istore_n 3, 1) := by decide +kernel
theorem dX8_writeDrawn_132 : decode cX8_writeDrawn 132 = .ok (.aload_n 0, 1) := by decide +kernel
theorem dX8_writeDrawn_133 : decode cX8_writeDrawn 133 = .ok (.iconst 1, 1) := by decide +kernel
theorem dX8_writeDrawn_134 : decode cX8_writeDrawn 134 = .ok (.iconst 3, 1) := by decide +kernel
theorem dX8_writeDrawn_135 : decode cX8_writeDrawn 135 = .ok (.invokevirtual 102, 3) := by decide +kernel
theorem dX8_writeDrawn_138 : decode cX8_writeDrawn 138 = .ok (.aload_n 0, 1) := by decide +kernel
theorem dX8_writeDrawn_139 : decode cX8_writeDrawn 139 = .ok (.aload_n 0, 1) := by decide +kernel
theorem dX8_writeDrawn_140 : decode cX8_writeDrawn 140 = .ok (.getfield 127, 3) := by decide +kernel
theorem dX8_writeDrawn_143 : decode cX8_writeDrawn 143 = .ok (.iload_n 2, 1) := by decide +kernel
theorem dX8_writeDrawn_144 : decode cX8_writeDrawn 144 = .ok (.aload_n 0, 1) := by decide +kernel
theorem dX8_writeDrawn_145 : decode cX8_writeDrawn 145 = .ok (.getfield 121, 3) := by decide +kernel
theorem dX8_writeDrawn_148 : decode cX8_writeDrawn 148 = .ok (.isub, 1) := by decide +kernel
theorem dX8_writeDrawn_149 : decode cX8_writeDrawn 149 = .ok (.invokevirtual 113, 3) := by decide +kernel
theorem dX8_writeDrawn_152 : decode cX8_writeDrawn 152 = .ok (.aload_n 0, 1) := by decide +kernel
theorem dX8_writeDrawn_153 : decode cX8_writeDrawn 153 = .ok (.aload_n 0, 1) := by decide +kernel
theorem dX8_writeDrawn_154 : decode cX8_writeDrawn 154 = .ok (.getfield 127, 3) := by decide +kernel
theorem dX8_writeDrawn_157 : decode cX8_writeDrawn 157 = .ok (.ifCond .ne 7, 3) := by decide +kernel
theorem dX8_writeDrawn_160 : decode cX8_writeDrawn 160 = .ok (.iconst 1, 1) := by decide +kernel
theorem dX8_writeDrawn_161 : decode cX8_writeDrawn 161 = .ok (.goto 4, 3) := by decide +kernel
theorem dX8_writeDrawn_164 : decode cX8_writeDrawn 164 = .ok (.iconst 0, 1) := by decide +kernel
theorem dX8_writeDrawn_165 : decode cX8_writeDrawn 165 = .ok (.iload_n 3, 1) := by decide +kernel
theorem dX8_writeDrawn_166 : decode cX8_writeDrawn 166 = .ok (.iload_n 2, 1) := by decide +kernel
theorem dX8_writeDrawn_167 : decode cX8_writeDrawn 167 = .ok (.isub, 1) := by decide +kernel
theorem dX8_writeDrawn_168 : decode cX8_writeDrawn 168 = .ok (.invokevirtual 113, 3) := by decide +kernel
theorem dX8_writeDrawn_171 : decode cX8_writeDrawn 171 = .ok (.aload_n 0, 1) := by decide +kernel
theorem dX8_writeDrawn_172 : decode cX8_writeDrawn 172 = .ok (.iload_n 3, 1) := by decide +kernel
theorem dX8_writeDrawn_173 : decode cX8_writeDrawn 173 = .ok (.putfield 121, 3) := by decide +kernel
theorem dX8_writeDrawn_176 : decode cX8_writeDrawn 176 = .ok (.aload_n 0, 1) := by decide +kernel
theorem dX8_writeDrawn_177 : decode cX8_writeDrawn 177 = .ok (.iconst 0, 1) := by decide +kernel
theorem dX8_writeDrawn_178 : decode cX8_writeDrawn 178 = .ok (.putfield 117, 3) := by decide +kernel
theorem dX8_writeDrawn_181 : decode cX8_writeDrawn 181 = .ok (.goto (-177), 3) := by decide +kernel
theorem dX8_writeDrawn_184 : decode cX8_writeDrawn 184 = .ok (.return_, 1) := by decide +kernel
set_option maxRecDepth 20000 in
theorem ggX8_putMark_X8_putBits : GoodIn wsX8_putMark wsX8_putBits := goodIn_ca (goodIn_r _ [5, 6, 7, 8, 4, 9, 10, 11, 12, 13, 14, 15, 16, 17, 18, 19, 20, 21, 22, 23, 24, 25, 26, 27, 28, 29, 30, 31, 32, 33] (by decide +kernel) (by decide +kernel)) (goodIn_sub (fun _ h => List.mem_cons_of_mem _ (List.mem_append_right _ h)) (by decide +kernel))
set_option maxRecDepth 20000 in
theorem gX8_putMark_X8_putBits : GoodIn wsX8_putMark (wsV RX8 102 RX8 yX8_putBits wsX8_putBits) := goodIn_app (goodIn_of _ (by decide +kernel)) ggX8_putMark_X8_putBits
theorem dX8_putMark_0 : decode cX8_putMark 0 = .ok (.aload_n 0, 1) := by decide +kernel
theorem dX8_putMark_1 : decode cX8_putMark 1 = .ok (.iconst 1, 1) := by decide +kernel
theorem dX8_putMark_2 : decode cX8_putMark 2 = .ok (.bipush 12, 2) := by decide +kernel
theorem dX8_putMark_4 : decode cX8_putMark 4 = .ok (.invokevirtual 102, 3) := by decide +kernel
theorem dX8_putMark_7 : decode cX8_putMark 7 = .ok (.return_, 1) := by decide +kernel
set_option maxRecDepth 20000 in
theorem ggX8_write_X8_hasMarks : GoodIn wsX8_write wsX8_hasMarks := goodIn_ca (goodIn_r _ [10, 5, 4, 85, 86, 87, 88, 89, 90, 91, 92, 93, 94, 95, 96, 97, 98, 99, 100, 101, 102, 103, 104, 105, 106] (by decide +kernel) (by decide +kernel)) (goodIn_sub (fun _ h => List.mem_cons_of_mem _ (List.mem_append_right _ h)) (by decide +kernel))
set_option maxRecDepth 20000 in
theorem gX8_write_X8_hasMarks : GoodIn wsX8_write (wsV RX8 142 RX8 yX8_hasMarks wsX8_hasMarks) := goodIn_app (goodIn_of _ (by decide +kernel)) ggX8_write_X8_hasMarks
set_option maxRecDepth 20000 in
theorem ggX8_write_X8_fill : GoodIn wsX8_write wsX8_fill := goodIn_ca (goodIn_r _ [14, 2, 15, 16, 17, 9, 18, 19, 85, 86, 87, 88, 89, 90, 91, 92, 93, 94, 95, 96, 97, 98, 99, 100, 101, 102, 103, 104, 105, 106] (by decide +kernel) (by decide +kernel)) (goodIn_sub (fun _ h => List.mem_cons_of_mem _ (List.mem_append_right _ h)) (by decide +kernel))
set_option maxRecDepth 20000 in
theorem gX8_write_X8_fill : GoodIn wsX8_write (wsV RX8 146 RX8 yX8_fill wsX8_fill) := goodIn_app (goodIn_of _ (by decide +kernel)) ggX8_write_X8_fill
set_option maxRecDepth 20000 in
theorem ggX8_write_X8_putMark : GoodIn wsX8_write wsX8_putMark := goodIn_ca (goodIn_r _ [23, 24, 25, 26, 9, 27, 15, 16, 17, 18, 19, 2, 85, 86, 87, 88, 89, 90, 91, 92, 93, 94, 95, 96, 97, 98, 99, 100, 101, 102, 103, 104, 105, 106] (by decide +kernel) (by decide +kernel)) (goodIn_sub (fun _ h => List.mem_cons_of_mem _ (List.mem_append_right _ h)) (by decide +kernel))
set_option maxRecDepth 20000 in
theorem gX8_write_X8_putMark : GoodIn wsX8_write (wsV RX8 149 RX8 yX8_putMark wsX8_putMark) := goodIn_app (goodIn_of _ (by decide +kernel)) ggX8_write_X8_putMark
set_option maxRecDepth 20000 in
theorem ggX8_write_X8_isPlain : GoodIn wsX8_write wsX8_isPlain := goodIn_r _ [31, 5, 85, 86, 87, 88, 89, 90, 91, 92, 93, 94, 95, 96, 97, 98, 99, 100, 101, 102, 103, 104, 105, 106] (by decide +kernel) (by decide +kernel)
set_option maxRecDepth 20000 in
theorem gX8_write_X8_isPlain : GoodIn wsX8_write (wsV RX8 152 RX8 yX8_isPlain wsX8_isPlain) := goodIn_app (goodIn_of _ (by decide +kernel)) ggX8_write_X8_isPlain
set_option maxRecDepth 20000 in
theorem ggX8_write_X8_putBit : GoodIn wsX8_write wsX8_putBit := goodIn_ca (goodIn_r _ [18, 19, 2, 85, 86, 87, 88, 89, 90, 91, 92, 93, 94, 95, 96, 97, 98, 99, 100, 101, 102, 103, 104, 105, 106] (by decide +kernel) (by decide +kernel)) (goodIn_sub (fun _ h => List.mem_cons_of_mem _ (List.mem_append_right _ h)) (by decide +kernel))
set_option maxRecDepth 20000 in
theorem gX8_write_X8_putBit : GoodIn wsX8_write (wsV RX8 98 RX8 yX8_putBit wsX8_putBit) := goodIn_app (goodIn_of _ (by decide +kernel)) ggX8_write_X8_putBit
set_option maxRecDepth 20000 in
theorem ggX8_write_X8_writePlain : GoodIn wsX8_write wsX8_writePlain := goodIn_ca (goodIn_r _ [35, 36, 37, 38, 39, 9, 40, 41, 42, 43, 44, 45, 46, 47, 48, 49, 50, 51, 52, 53, 54, 55, 24, 25, 26, 27, 15, 16, 17, 18, 19, 2, 85, 86, 87, 88, 89, 90, 91, 92, 93, 94, 95, 96, 97, 98, 99, 100, 101, 102, 103, 104, 105, 106] (by decide +kernel) (by decide +kernel)) (goodIn_sub (fun _ h => List.mem_cons_of_mem _ (List.mem_append_right _ h)) (by decide +kernel))
set_option maxRecDepth 20000 in
theorem gX8_write_X8_writePlain : GoodIn wsX8_write (wsV RX8 155 RX8 yX8_writePlain wsX8_writePlain) := goodIn_app (goodIn_of _ (by decide +kernel)) ggX8_write_X8_writePlain
set_option maxRecDepth 20000 in
theorem ggX8_write_X8_writeDrawn : GoodIn wsX8_write wsX8_writeDrawn := goodIn_ca (goodIn_r _ [59, 60, 36, 61, 62, 63, 64, 65, 66, 67, 9, 68, 69, 70, 71, 72, 73, 74, 75, 76, 41, 42, 43, 44, 45, 37, 38, 39, 40, 24, 25, 26, 27, 15, 16, 17, 18, 19, 2, 77, 78, 79, 80, 46, 47, 48, 49, 50, 51, 52, 53, 54, 55, 85, 86, 87, 88, 89, 90, 91, 92, 93, 94, 95, 96, 97, 98, 99, 100, 101, 102, 103, 104, 105, 106] (by decide +kernel) (by decide +kernel)) (goodIn_sub (fun _ h => List.mem_cons_of_mem _ (List.mem_append_right _ h)) (by decide +kernel))
set_option maxRecDepth 20000 in
theorem gX8_write_X8_writeDrawn : GoodIn wsX8_write (wsV RX8 158 RX8 yX8_writeDrawn wsX8_writeDrawn) := goodIn_app (goodIn_of _ (by decide +kernel)) ggX8_write_X8_writeDrawn
set_option maxRecDepth 20000 in
theorem ggX8_write_X8_finish : GoodIn wsX8_write wsX8_finish := goodIn_ca (goodIn_r _ [84, 5, 4, 6, 7, 8, 9, 10, 20, 21, 22, 23, 24, 25, 26, 27, 15, 16, 17, 18, 19, 2, 11, 12, 13, 14, 85, 86, 87, 88, 89, 90, 91, 92, 93, 94, 95, 96, 97, 98, 99, 100, 101, 102, 103, 104, 105, 106] (by decide +kernel) (by decide +kernel)) (goodIn_sub (fun _ h => List.mem_cons_of_mem _ (List.mem_append_right _ h)) (by decide +kernel))
set_option maxRecDepth 20000 in
theorem gX8_write_X8_finish : GoodIn wsX8_write (wsV RX8 161 RX8 yX8_finish wsX8_finish) := goodIn_app (goodIn_of _ (by decide +kernel)) ggX8_write_X8_finish
theorem dX8_write_0 : decode cX8_write 0 = .ok (.aload_n 0, 1) := by decide +kernel
theorem dX8_write_1 : decode cX8_write 1 = .ok (.iconst 0, 1) := by decide +kernel
theorem dX8_write_2 : decode cX8_write 2 = .ok (.putfield 44, 3) := by decide +kernel
theorem dX8_write_5 : decode cX8_write 5 = .ok (.aload_n 0, 1) := by decide +kernel
theorem dX8_write_6 : decode cX8_write 6 = .ok (.iconst 0, 1) := by decide +kernel
theorem dX8_write_7 : decode cX8_write 7 = .ok (.putfield 66, 3) := by decide +kernel
theorem dX8_write_10 : decode cX8_write 10 = .ok (.iconst 0, 1) := by decide +kernel
theorem dX8_write_11 : decode cX8_write 11 = .ok (.istore_n 1, 1) := by decide +kernel
theorem dX8_write_12 : decode cX8_write 12 = .ok (.iload_n 1, 1) := by decide +kernel
theorem dX8_write_13 : decode cX8_write 13 = .ok (.aload_n 0, 1) := by decide +kernel
theorem dX8_write_14 : decode cX8_write 14 = .ok (.getfield 60, 3) := by decide +kernel
theorem dX8_write_17 : decode cX8_write 17 = .ok (.if_icmp .ge 90, 3) := by decide +kernel
theorem dX8_write_20 : decode cX8_write 20 = .ok (.aload_n 0, 1) := by decide +kernel
theorem dX8_write_21 : decode cX8_write 21 = .ok (.invokevirtual 142, 3) := by decide +kernel
theorem dX8_write_24 : decode cX8_write 24 = .ok (.ifCond .eq 42, 3) := by decide +kernel
theorem dX8_write_27 : decode cX8_write 27 = .ok (.aload_n 0, 1) := by decide +kernel
theorem dX8_write_28 : decode cX8_write 28 = .ok (.getfield 16, 3) := by decide +kernel
theorem dX8_write_31 : decode cX8_write 31 = .ok (.iconst 1, 1) := by decide +kernel
theorem dX8_write_32 : decode cX8_write 32 = .ok (.baload, 1) := by decide +kernel
theorem dX8_write_33 : decode cX8_write 33 = .ok (.ifCond .eq 9, 3) := by decide +kernel
theorem dX8_write_36 : decode cX8_write 36 = .ok (.aload_n 0, 1) := by decide +kernel
theorem dX8_write_37 : decode cX8_write 37 = .ok (.bipush 12, 2) := by decide +kernel
theorem dX8_write_39 : decode cX8_write 39 = .ok (.invokevirtual 146, 3) := by decide +kernel
theorem dX8_write_42 : decode cX8_write 42 = .ok (.aload_n 0, 1) := by decide +kernel
theorem dX8_write_43 : decode cX8_write 43 = .ok (.invokevirtual 149, 3) := by decide +kernel
theorem dX8_write_46 : decode cX8_write 46 = .ok (.aload_n 0, 1) := by decide +kernel
theorem dX8_write_47 : decode cX8_write 47 = .ok (.getfield 33, 3) := by decide +kernel
theorem dX8_write_50 : decode cX8_write 50 = .ok (.iconst 1, 1) := by decide +kernel
theorem dX8_write_51 : decode cX8_write 51 = .ok (.if_icmp .ne 29, 3) := by decide +kernel
theorem dX8_write_54 : decode cX8_write 54 = .ok (.aload_n 0, 1) := by decide +kernel
theorem dX8_write_55 : decode cX8_write 55 = .ok (.aload_n 0, 1) := by decide +kernel
theorem dX8_write_56 : decode cX8_write 56 = .ok (.iload_n 1, 1) := by decide +kernel
theorem dX8_write_57 : decode cX8_write 57 = .ok (.invokevirtual 152, 3) := by decide +kernel
theorem dX8_write_60 : decode cX8_write 60 = .ok (.invokevirtual 98, 3) := by decide +kernel
theorem dX8_write_63 : decode cX8_write 63 = .ok (.goto 17, 3) := by decide +kernel
theorem dX8_write_66 : decode cX8_write 66 = .ok (.aload_n 0, 1) := by decide +kernel
theorem dX8_write_67 : decode cX8_write 67 = .ok (.getfield 16, 3) := by decide +kernel
theorem dX8_write_70 : decode cX8_write 70 = .ok (.iconst 1, 1) := by decide +kernel
theorem dX8_write_71 : decode cX8_write 71 = .ok (.baload, 1) := by decide +kernel
theorem dX8_write_72 : decode cX8_write 72 = .ok (.ifCond .eq 8, 3) := by decide +kernel
theorem dX8_write_75 : decode cX8_write 75 = .ok (.aload_n 0, 1) := by decide +kernel
theorem dX8_write_76 : decode cX8_write 76 = .ok (.iconst 0, 1) := by decide +kernel
theorem dX8_write_77 : decode cX8_write 77 = .ok (.invokevirtual 146, 3) := by decide +kernel
theorem dX8_write_80 : decode cX8_write 80 = .ok (.aload_n 0, 1) := by decide +kernel
theorem dX8_write_81 : decode cX8_write 81 = .ok (.iload_n 1, 1) := by decide +kernel
theorem dX8_write_82 : decode cX8_write 82 = .ok (.invokevirtual 152, 3) := by decide +kernel
theorem dX8_write_85 : decode cX8_write 85 = .ok (.ifCond .eq 11, 3) := by decide +kernel
theorem dX8_write_88 : decode cX8_write 88 = .ok (.aload_n 0, 1) := by decide +kernel
theorem dX8_write_89 : decode cX8_write 89 = .ok (.iload_n 1, 1) := by decide +kernel
theorem dX8_write_90 : decode cX8_write 90 = .ok (.invokevirtual 155, 3) := by decide +kernel
theorem dX8_write_93 : decode cX8_write 93 = .ok (.goto 8, 3) := by decide +kernel
theorem dX8_write_96 : decode cX8_write 96 = .ok (.aload_n 0, 1) := by decide +kernel
theorem dX8_write_97 : decode cX8_write 97 = .ok (.iload_n 1, 1) := by decide +kernel
theorem dX8_write_98 : decode cX8_write 98 = .ok (.invokevirtual 158, 3) := by decide +kernel
theorem dX8_write_101 : decode cX8_write 101 = .ok (.iinc 1 1, 3) := by decide +kernel
theorem dX8_write_104 : decode cX8_write 104 = .ok (.goto (-92), 3) := by decide +kernel
theorem dX8_write_107 : decode cX8_write 107 = .ok (.aload_n 0, 1) := by decide +kernel
theorem dX8_write_108 : decode cX8_write 108 = .ok (.invokevirtual 161, 3) := by decide +kernel
theorem dX8_write_111 : decode cX8_write 111 = .ok (.aload_n 0, 1) := by decide +kernel
theorem dX8_write_112 : decode cX8_write 112 = .ok (.getfield 66, 3) := by decide +kernel
theorem dX8_write_115 : decode cX8_write 115 = .ok (.bipush 8, 2) := by decide +kernel
theorem dX8_write_117 : decode cX8_write 117 = .ok (.idiv, 1) := by decide +kernel
theorem dX8_write_118 : decode cX8_write 118 = .ok (.ireturn, 1) := by decide +kernel
set_option maxRecDepth 20000 in
theorem ggX8_finish_X8_hasMarks : GoodIn wsX8_finish wsX8_hasMarks := goodIn_ca (goodIn_r _ [7, 1, 2, 26, 27, 28, 29, 30, 31, 32, 33, 34, 35, 36, 37, 38, 39, 40, 41, 42, 43, 44, 45, 46, 47] (by decide +kernel) (by decide +kernel)) (goodIn_sub (fun _ h => List.mem_cons_of_mem _ (List.mem_append_right _ h)) (by decide +kernel))
set_option maxRecDepth 20000 in
theorem gX8_finish_X8_hasMarks : GoodIn wsX8_finish (wsV RX8 142 RX8 yX8_hasMarks wsX8_hasMarks) := goodIn_app (goodIn_of _ (by decide +kernel)) ggX8_finish_X8_hasMarks
set_option maxRecDepth 20000 in
theorem ggX8_finish_X8_putMark : GoodIn wsX8_finish wsX8_putMark := goodIn_ca (goodIn_r _ [11, 12, 13, 14, 6, 15, 16, 17, 18, 19, 20, 21, 26, 27, 28, 29, 30, 31, 32, 33, 34, 35, 36, 37, 38, 39, 40, 41, 42, 43, 44, 45, 46, 47] (by decide +kernel) (by decide +kernel)) (goodIn_sub (fun _ h => List.mem_cons_of_mem _ (List.mem_append_right _ h)) (by decide +kernel))
set_option maxRecDepth 20000 in
theorem gX8_finish_X8_putMark : GoodIn wsX8_finish (wsV RX8 149 RX8 yX8_putMark wsX8_putMark) := goodIn_app (goodIn_of _ (by decide +kernel)) ggX8_finish_X8_putMark
set_option maxRecDepth 20000 in
theorem ggX8_finish_X8_putBit : GoodIn wsX8_finish wsX8_putBit := goodIn_ca (goodIn_r _ [19, 20, 21, 26, 27, 28, 29, 30, 31, 32, 33, 34, 35, 36, 37, 38, 39, 40, 41, 42, 43, 44, 45, 46, 47] (by decide +kernel) (by decide +kernel)) (goodIn_sub (fun _ h => List.mem_cons_of_mem _ (List.mem_append_right _ h)) (by decide +kernel))
set_option maxRecDepth 20000 in
theorem gX8_finish_X8_putBit : GoodIn wsX8_finish (wsV RX8 98 RX8 yX8_putBit wsX8_putBit) := goodIn_app (goodIn_of _ (by decide +kernel)) ggX8_finish_X8_putBit
set_option maxRecDepth 20000 in
theorem ggX8_finish_X8_fill : GoodIn wsX8_finish wsX8_fill := goodIn_ca (goodIn_r _ [25, 21, 16, 17, 18, 6, 19, 20, 26, 27, 28, 29, 30, 31, 32, 33, 34, 35, 36, 37, 38, 39, 40, 41, 42, 43, 44, 45, 46, 47] (by decide +kernel) (by decide +kernel)) (goodIn_sub (fun _ h => List.mem_cons_of_mem _ (List.mem_append_right _ h)) (by decide +kernel))
set_option maxRecDepth 20000 in
theorem gX8_finish_X8_fill : GoodIn wsX8_finish (wsV RX8 146 RX8 yX8_fill wsX8_fill) := goodIn_app (goodIn_of _ (by decide +kernel)) ggX8_finish_X8_fill
theorem dX8_finish_0 : decode cX8_finish 0 = .ok (.iconst 0, 1) := by decide +kernel
theorem dX8_finish_1 : decode cX8_finish 1 = .ok (.istore_n 1, 1) := by decide +kernel
theorem dX8_finish_2 : decode cX8_finish 2 = .ok (.iload_n 1, 1) := by decide +kernel
theorem dX8_finish_3 : decode cX8_finish 3 = .ok (.bipush 6, 2) := by decide +kernel
theorem dX8_finish_5 : decode cX8_finish 5 = .ok (.if_icmp .ge 33, 3) := by decide +kernel
theorem dX8_finish_8 : decode cX8_finish 8 = .ok (.aload_n 0, 1) := by decide +kernel
theorem dX8_finish_9 : decode cX8_finish 9 = .ok (.invokevirtual 142, 3) := by decide +kernel
theorem dX8_finish_12 : decode cX8_finish 12 = .ok (.ifCond .eq 26, 3) := by decide +kernel
theorem dX8_finish_15 : decode cX8_finish 15 = .ok (.aload_n 0, 1) := by decide +kernel
theorem dX8_finish_16 : decode cX8_finish 16 = .ok (.invokevirtual 149, 3) := by decide +kernel
theorem dX8_finish_19 : decode cX8_finish 19 = .ok (.aload_n 0, 1) := by decide +kernel
theorem dX8_finish_20 : decode cX8_finish 20 = .ok (.getfield 33, 3) := by decide +kernel
theorem dX8_finish_23 : decode cX8_finish 23 = .ok (.iconst 1, 1) := by decide +kernel
theorem dX8_finish_24 : decode cX8_finish 24 = .ok (.if_icmp .ne 8, 3) := by decide +kernel
theorem dX8_finish_27 : decode cX8_finish 27 = .ok (.aload_n 0, 1) := by decide +kernel
theorem dX8_finish_28 : decode cX8_finish 28 = .ok (.iconst 1, 1) := by decide +kernel
theorem dX8_finish_29 : decode cX8_finish 29 = .ok (.invokevirtual 98, 3) := by decide +kernel
theorem dX8_finish_32 : decode cX8_finish 32 = .ok (.iinc 1 1, 3) := by decide +kernel
theorem dX8_finish_35 : decode cX8_finish 35 = .ok (.goto (-33), 3) := by decide +kernel
theorem dX8_finish_38 : decode cX8_finish 38 = .ok (.aload_n 0, 1) := by decide +kernel
theorem dX8_finish_39 : decode cX8_finish 39 = .ok (.getfield 33, 3) := by decide +kernel
theorem dX8_finish_42 : decode cX8_finish 42 = .ok (.iconst 2, 1) := by decide +kernel
theorem dX8_finish_43 : decode cX8_finish 43 = .ok (.if_icmp .ne 25, 3) := by decide +kernel
theorem dX8_finish_46 : decode cX8_finish 46 = .ok (.aload_n 0, 1) := by decide +kernel
theorem dX8_finish_47 : decode cX8_finish 47 = .ok (.getfield 16, 3) := by decide +kernel
theorem dX8_finish_50 : decode cX8_finish 50 = .ok (.iconst 1, 1) := by decide +kernel
theorem dX8_finish_51 : decode cX8_finish 51 = .ok (.baload, 1) := by decide +kernel
theorem dX8_finish_52 : decode cX8_finish 52 = .ok (.ifCond .eq 8, 3) := by decide +kernel
theorem dX8_finish_55 : decode cX8_finish 55 = .ok (.aload_n 0, 1) := by decide +kernel
theorem dX8_finish_56 : decode cX8_finish 56 = .ok (.iconst 0, 1) := by decide +kernel
theorem dX8_finish_57 : decode cX8_finish 57 = .ok (.invokevirtual 146, 3) := by decide +kernel
theorem dX8_finish_60 : decode cX8_finish 60 = .ok (.aload_n 0, 1) := by decide +kernel
theorem dX8_finish_61 : decode cX8_finish 61 = .ok (.invokevirtual 149, 3) := by decide +kernel
theorem dX8_finish_64 : decode cX8_finish 64 = .ok (.aload_n 0, 1) := by decide +kernel
theorem dX8_finish_65 : decode cX8_finish 65 = .ok (.invokevirtual 149, 3) := by decide +kernel
theorem dX8_finish_68 : decode cX8_finish 68 = .ok (.aload_n 0, 1) := by decide +kernel
theorem dX8_finish_69 : decode cX8_finish 69 = .ok (.iconst 0, 1) := by decide +kernel
theorem dX8_finish_70 : decode cX8_finish 70 = .ok (.invokevirtual 146, 3) := by decide +kernel
theorem dX8_finish_73 : decode cX8_finish 73 = .ok (.return_, 1) := by decide +kernel
set_option maxRecDepth 20000 in
theorem ggX8_octet_X8_byteOf : GoodIn wsX8_octet wsX8_byteOf := goodIn_ca (goodIn_r _ [7, 8, 9, 10, 11, 12, 13, 14, 15, 16, 17, 18, 19, 20, 21, 22, 23, 24, 25, 26, 27, 28, 29, 30] (by decide +kernel) (by decide +kernel)) (goodIn_sub (fun _ h => List.mem_cons_of_mem _ (List.mem_append_right _ h)) (by decide +kernel))
set_option maxRecDepth 20000 in
theorem gX8_octet_X8_byteOf : GoodIn wsX8_octet (wsV RX8 77 RX8 yX8_byteOf wsX8_byteOf) := goodIn_app (goodIn_of _ (by decide +kernel)) ggX8_octet_X8_byteOf
theorem dX8_octet_0 : decode cX8_octet 0 = .ok (.aload_n 0, 1) := by decide +kernel
theorem dX8_octet_1 : decode cX8_octet 1 = .ok (.iload_n 1, 1) := by decide +kernel
theorem dX8_octet_2 : decode cX8_octet 2 = .ok (.ifCond .lt 14, 3) := by decide +kernel
theorem dX8_octet_5 : decode cX8_octet 5 = .ok (.iload_n 1, 1) := by decide +kernel
theorem dX8_octet_6 : decode cX8_octet 6 = .ok (.aload_n 0, 1) := by decide +kernel
theorem dX8_octet_7 : decode cX8_octet 7 = .ok (.getfield 66, 3) := by decide +kernel
theorem dX8_octet_10 : decode cX8_octet 10 = .ok (.bipush 8, 2) := by decide +kernel
theorem dX8_octet_12 : decode cX8_octet 12 = .ok (.idiv, 1) := by decide +kernel
theorem dX8_octet_13 : decode cX8_octet 13 = .ok (.if_icmp .lt 7, 3) := by decide +kernel
theorem dX8_octet_16 : decode cX8_octet 16 = .ok (.iconst 1, 1) := by decide +kernel
theorem dX8_octet_17 : decode cX8_octet 17 = .ok (.goto 4, 3) := by decide +kernel
theorem dX8_octet_20 : decode cX8_octet 20 = .ok (.iconst 0, 1) := by decide +kernel
theorem dX8_octet_21 : decode cX8_octet 21 = .ok (.putfield 44, 3) := by decide +kernel
theorem dX8_octet_24 : decode cX8_octet 24 = .ok (.aload_n 0, 1) := by decide +kernel
theorem dX8_octet_25 : decode cX8_octet 25 = .ok (.getfield 44, 3) := by decide +kernel
theorem dX8_octet_28 : decode cX8_octet 28 = .ok (.ifCond .le 7, 3) := by decide +kernel
theorem dX8_octet_31 : decode cX8_octet 31 = .ok (.iconst 0, 1) := by decide +kernel
theorem dX8_octet_32 : decode cX8_octet 32 = .ok (.goto 8, 3) := by decide +kernel
theorem dX8_octet_35 : decode cX8_octet 35 = .ok (.aload_n 0, 1) := by decide +kernel
theorem dX8_octet_36 : decode cX8_octet 36 = .ok (.iload_n 1, 1) := by decide +kernel
theorem dX8_octet_37 : decode cX8_octet 37 = .ok (.invokevirtual 77, 3) := by decide +kernel
theorem dX8_octet_40 : decode cX8_octet 40 = .ok (.ireturn, 1) := by decide +kernel
theorem dX8_left_0 : decode cX8_left 0 = .ok (.bipush 8, 2) := by decide +kernel
theorem dX8_left_2 : decode cX8_left 2 = .ok (.aload_n 0, 1) := by decide +kernel
theorem dX8_left_3 : decode cX8_left 3 = .ok (.getfield 63, 3) := by decide +kernel
theorem dX8_left_6 : decode cX8_left 6 = .ok (.imul, 1) := by decide +kernel
theorem dX8_left_7 : decode cX8_left 7 = .ok (.aload_n 0, 1) := by decide +kernel
theorem dX8_left_8 : decode cX8_left 8 = .ok (.getfield 69, 3) := by decide +kernel
theorem dX8_left_11 : decode cX8_left 11 = .ok (.isub, 1) := by decide +kernel
theorem dX8_left_12 : decode cX8_left 12 = .ok (.ireturn, 1) := by decide +kernel
theorem dX8_bitAt_0 : decode cX8_bitAt 0 = .ok (.aload_n 0, 1) := by decide +kernel
theorem dX8_bitAt_1 : decode cX8_bitAt 1 = .ok (.getfield 26, 3) := by decide +kernel
theorem dX8_bitAt_4 : decode cX8_bitAt 4 = .ok (.iload_n 1, 1) := by decide +kernel
theorem dX8_bitAt_5 : decode cX8_bitAt 5 = .ok (.bipush 8, 2) := by decide +kernel
theorem dX8_bitAt_7 : decode cX8_bitAt 7 = .ok (.idiv, 1) := by decide +kernel
theorem dX8_bitAt_8 : decode cX8_bitAt 8 = .ok (.iaload, 1) := by decide +kernel
theorem dX8_bitAt_9 : decode cX8_bitAt 9 = .ok (.bipush 7, 2) := by decide +kernel
theorem dX8_bitAt_11 : decode cX8_bitAt 11 = .ok (.iload_n 1, 1) := by decide +kernel
theorem dX8_bitAt_12 : decode cX8_bitAt 12 = .ok (.bipush 8, 2) := by decide +kernel
theorem dX8_bitAt_14 : decode cX8_bitAt 14 = .ok (.irem, 1) := by decide +kernel
theorem dX8_bitAt_15 : decode cX8_bitAt 15 = .ok (.isub, 1) := by decide +kernel
theorem dX8_bitAt_16 : decode cX8_bitAt 16 = .ok (.ishr, 1) := by decide +kernel
theorem dX8_bitAt_17 : decode cX8_bitAt 17 = .ok (.iconst 1, 1) := by decide +kernel
theorem dX8_bitAt_18 : decode cX8_bitAt 18 = .ok (.iand, 1) := by decide +kernel
theorem dX8_bitAt_19 : decode cX8_bitAt 19 = .ok (.ireturn, 1) := by decide +kernel
set_option maxRecDepth 20000 in
theorem ggX8_zeros_X8_left : GoodIn wsX8_zeros wsX8_left := goodIn_r _ [6, 7, 1, 13, 14, 15, 16, 17, 18, 19, 20, 21, 22, 23, 24, 25, 26, 27, 28, 29, 30, 31, 32, 33, 34] (by decide +kernel) (by decide +kernel)
set_option maxRecDepth 20000 in
theorem gX8_zeros_X8_left : GoodIn wsX8_zeros (wsV RX8 164 RX8 yX8_left wsX8_left) := goodIn_app (goodIn_of _ (by decide +kernel)) ggX8_zeros_X8_left
set_option maxRecDepth 20000 in
theorem ggX8_zeros_X8_bitAt : GoodIn wsX8_zeros wsX8_bitAt := goodIn_ca (goodIn_r _ [11, 12, 13, 14, 15, 16, 17, 18, 19, 20, 21, 22, 23, 24, 25, 26, 27, 28, 29, 30, 31, 32, 33, 34] (by decide +kernel) (by decide +kernel)) (goodIn_sub (fun _ h => List.mem_cons_of_mem _ (List.mem_append_right _ h)) (by decide +kernel))
set_option maxRecDepth 20000 in
theorem gX8_zeros_X8_bitAt : GoodIn wsX8_zeros (wsV RX8 168 RX8 yX8_bitAt wsX8_bitAt) := goodIn_app (goodIn_of _ (by decide +kernel)) ggX8_zeros_X8_bitAt
theorem dX8_zeros_0 : decode cX8_zeros 0 = .ok (.iconst 0, 1) := by decide +kernel
theorem dX8_zeros_1 : decode cX8_zeros 1 = .ok (.istore_n 1, 1) := by decide +kernel
theorem dX8_zeros_2 : decode cX8_zeros 2 = .ok (.iload_n 1, 1) := by decide +kernel
theorem dX8_zeros_3 : decode cX8_zeros 3 = .ok (.aload_n 0, 1) := by decide +kernel
theorem dX8_zeros_4 : decode cX8_zeros 4 = .ok (.invokevirtual 164, 3) := by decide +kernel
theorem dX8_zeros_7 : decode cX8_zeros 7 = .ok (.if_icmp .ge 22, 3) := by decide +kernel
theorem dX8_zeros_10 : decode cX8_zeros 10 = .ok (.aload_n 0, 1) := by decide +kernel
theorem dX8_zeros_11 : decode cX8_zeros 11 = .ok (.aload_n 0, 1) := by decide +kernel
theorem dX8_zeros_12 : decode cX8_zeros 12 = .ok (.getfield 69, 3) := by decide +kernel
theorem dX8_zeros_15 : decode cX8_zeros 15 = .ok (.iload_n 1, 1) := by decide +kernel
theorem dX8_zeros_16 : decode cX8_zeros 16 = .ok (.iadd, 1) := by decide +kernel
theorem dX8_zeros_17 : decode cX8_zeros 17 = .ok (.invokevirtual 168, 3) := by decide +kernel
theorem dX8_zeros_20 : decode cX8_zeros 20 = .ok (.ifCond .ne 9, 3) := by decide +kernel
theorem dX8_zeros_23 : decode cX8_zeros 23 = .ok (.iinc 1 1, 3) := by decide +kernel
theorem dX8_zeros_26 : decode cX8_zeros 26 = .ok (.goto (-24), 3) := by decide +kernel
theorem dX8_zeros_29 : decode cX8_zeros 29 = .ok (.iload_n 1, 1) := by decide +kernel
theorem dX8_zeros_30 : decode cX8_zeros 30 = .ok (.aload_n 0, 1) := by decide +kernel
theorem dX8_zeros_31 : decode cX8_zeros 31 = .ok (.invokevirtual 164, 3) := by decide +kernel
theorem dX8_zeros_34 : decode cX8_zeros 34 = .ok (.if_icmp .ge 7, 3) := by decide +kernel
theorem dX8_zeros_37 : decode cX8_zeros 37 = .ok (.iload_n 1, 1) := by decide +kernel
theorem dX8_zeros_38 : decode cX8_zeros 38 = .ok (.goto 4, 3) := by decide +kernel
theorem dX8_zeros_41 : decode cX8_zeros 41 = .ok (.iconst (-1), 1) := by decide +kernel
theorem dX8_zeros_42 : decode cX8_zeros 42 = .ok (.ireturn, 1) := by decide +kernel
set_option maxRecDepth 20000 in
theorem ggX8_isMarkHere_X8_zeros : GoodIn wsX8_isMarkHere wsX8_zeros := goodIn_ca (goodIn_r _ [5, 6, 7, 8, 9, 4, 10, 11, 12, 13, 14, 15, 16, 17, 18, 19, 20, 21, 22, 23, 24, 25, 26, 27, 28, 29, 30, 31, 32, 33, 34, 35, 36, 37, 38] (by decide +kernel) (by decide +kernel)) (goodIn_sub (fun _ h => List.mem_cons_of_mem _ (List.mem_append_right _ h)) (by decide +kernel))
set_option maxRecDepth 20000 in
theorem gX8_isMarkHere_X8_zeros : GoodIn wsX8_isMarkHere (wsV RX8 171 RX8 yX8_zeros wsX8_zeros) := goodIn_app (goodIn_of _ (by decide +kernel)) ggX8_isMarkHere_X8_zeros
theorem dX8_isMarkHere_0 : decode cX8_isMarkHere 0 = .ok (.aload_n 0, 1) := by decide +kernel
theorem dX8_isMarkHere_1 : decode cX8_isMarkHere 1 = .ok (.invokevirtual 171, 3) := by decide +kernel
theorem dX8_isMarkHere_4 : decode cX8_isMarkHere 4 = .ok (.bipush 11, 2) := by decide +kernel
theorem dX8_isMarkHere_6 : decode cX8_isMarkHere 6 = .ok (.if_icmp .lt 7, 3) := by decide +kernel
theorem dX8_isMarkHere_9 : decode cX8_isMarkHere 9 = .ok (.iconst 1, 1) := by decide +kernel
theorem dX8_isMarkHere_10 : decode cX8_isMarkHere 10 = .ok (.goto 4, 3) := by decide +kernel
theorem dX8_isMarkHere_13 : decode cX8_isMarkHere 13 = .ok (.iconst 0, 1) := by decide +kernel
theorem dX8_isMarkHere_14 : decode cX8_isMarkHere 14 = .ok (.ireturn, 1) := by decide +kernel
set_option maxRecDepth 20000 in
theorem ggX8_findMark_X8_zeros : GoodIn wsX8_findMark wsX8_zeros := goodIn_ca (goodIn_r _ [7, 1, 8, 9, 10, 6, 11, 2, 12, 13, 14, 15, 16, 17, 18, 19, 20, 21, 22, 23, 24, 25, 26, 27, 28, 29, 30, 31, 32, 33, 34, 35, 36, 37, 38] (by decide +kernel) (by decide +kernel)) (goodIn_sub (fun _ h => List.mem_cons_of_mem _ (List.mem_append_right _ h)) (by decide +kernel))
set_option maxRecDepth 20000 in
theorem gX8_findMark_X8_zeros : GoodIn wsX8_findMark (wsV RX8 171 RX8 yX8_zeros wsX8_zeros) := goodIn_app (goodIn_of _ (by decide +kernel)) ggX8_findMark_X8_zeros
theorem dX8_findMark_0 : decode cX8_findMark 0 = .ok (.aload_n 0, 1) := by decide +kernel
theorem dX8_findMark_1 : decode cX8_findMark 1 = .ok (.invokevirtual 171, 3) := by decide +kernel
theorem dX8_findMark_4 : decode cX8_findMark 4 = .ok (.istore_n 1, 1) := by decide +kernel
theorem dX8_findMark_5 : decode cX8_findMark 5 = .ok (.iload_n 1, 1) := by decide +kernel
theorem dX8_findMark_6 : decode cX8_findMark 6 = .ok (.ifCond .lt 29, 3) := by decide +kernel
theorem dX8_findMark_9 : decode cX8_findMark 9 = .ok (.iload_n 1, 1) := by decide +kernel
theorem dX8_findMark_10 : decode cX8_findMark 10 = .ok (.bipush 11, 2) := by decide +kernel
theorem dX8_findMark_12 : decode cX8_findMark 12 = .ok (.if_icmp .ge 23, 3) := by decide +kernel
theorem dX8_findMark_15 : decode cX8_findMark 15 = .ok (.aload_n 0, 1) := by decide +kernel
theorem dX8_findMark_16 : decode cX8_findMark 16 = .ok (.aload_n 0, 1) := by decide +kernel
theorem dX8_findMark_17 : decode cX8_findMark 17 = .ok (.getfield 69, 3) := by decide +kernel
theorem dX8_findMark_20 : decode cX8_findMark 20 = .ok (.iload_n 1, 1) := by decide +kernel
theorem dX8_findMark_21 : decode cX8_findMark 21 = .ok (.iadd, 1) := by decide +kernel
theorem dX8_findMark_22 : decode cX8_findMark 22 = .ok (.iconst 1, 1) := by decide +kernel
theorem dX8_findMark_23 : decode cX8_findMark 23 = .ok (.iadd, 1) := by decide +kernel
theorem dX8_findMark_24 : decode cX8_findMark 24 = .ok (.putfield 69, 3) := by decide +kernel
theorem dX8_findMark_27 : decode cX8_findMark 27 = .ok (.aload_n 0, 1) := by decide +kernel
theorem dX8_findMark_28 : decode cX8_findMark 28 = .ok (.invokevirtual 171, 3) := by decide +kernel
theorem dX8_findMark_31 : decode cX8_findMark 31 = .ok (.istore_n 1, 1) := by decide +kernel
theorem dX8_findMark_32 : decode cX8_findMark 32 = .ok (.goto (-27), 3) := by decide +kernel
theorem dX8_findMark_35 : decode cX8_findMark 35 = .ok (.aload_n 0, 1) := by decide +kernel
theorem dX8_findMark_36 : decode cX8_findMark 36 = .ok (.iload_n 1, 1) := by decide +kernel
theorem dX8_findMark_37 : decode cX8_findMark 37 = .ok (.ifCond .ge 13, 3) := by decide +kernel
theorem dX8_findMark_40 : decode cX8_findMark 40 = .ok (.bipush 8, 2) := by decide +kernel
theorem dX8_findMark_42 : decode cX8_findMark 42 = .ok (.aload_n 0, 1) := by decide +kernel
theorem dX8_findMark_43 : decode cX8_findMark 43 = .ok (.getfield 63, 3) := by decide +kernel
theorem dX8_findMark_46 : decode cX8_findMark 46 = .ok (.imul, 1) := by decide +kernel
theorem dX8_findMark_47 : decode cX8_findMark 47 = .ok (.goto 11, 3) := by decide +kernel
theorem dX8_findMark_50 : decode cX8_findMark 50 = .ok (.aload_n 0, 1) := by decide +kernel
theorem dX8_findMark_51 : decode cX8_findMark 51 = .ok (.getfield 69, 3) := by decide +kernel
theorem dX8_findMark_54 : decode cX8_findMark 54 = .ok (.iload_n 1, 1) := by decide +kernel
theorem dX8_findMark_55 : decode cX8_findMark 55 = .ok (.iadd, 1) := by decide +kernel
theorem dX8_findMark_56 : decode cX8_findMark 56 = .ok (.iconst 1, 1) := by decide +kernel
theorem dX8_findMark_57 : decode cX8_findMark 57 = .ok (.iadd, 1) := by decide +kernel
theorem dX8_findMark_58 : decode cX8_findMark 58 = .ok (.putfield 69, 3) := by decide +kernel
theorem dX8_findMark_61 : decode cX8_findMark 61 = .ok (.iload_n 1, 1) := by decide +kernel
theorem dX8_findMark_62 : decode cX8_findMark 62 = .ok (.ifCond .lt 7, 3) := by decide +kernel
theorem dX8_findMark_65 : decode cX8_findMark 65 = .ok (.iconst 1, 1) := by decide +kernel
theorem dX8_findMark_66 : decode cX8_findMark 66 = .ok (.goto 4, 3) := by decide +kernel
theorem dX8_findMark_69 : decode cX8_findMark 69 = .ok (.iconst 0, 1) := by decide +kernel
theorem dX8_findMark_70 : decode cX8_findMark 70 = .ok (.ireturn, 1) := by decide +kernel
set_option maxRecDepth 20000 in
theorem ggX8_begins_X8_left : GoodIn wsX8_begins wsX8_left := goodIn_r _ [6, 7, 1, 13, 14, 15, 16, 17, 18, 19, 20, 21, 22, 23, 24, 25, 26, 27, 28, 29, 30, 31, 32, 33, 34] (by decide +kernel) (by decide +kernel)
set_option maxRecDepth 20000 in
theorem gX8_begins_X8_left : GoodIn wsX8_begins (wsV RX8 164 RX8 yX8_left wsX8_left) := goodIn_app (goodIn_of _ (by decide +kernel)) ggX8_begins_X8_left
set_option maxRecDepth 20000 in
theorem ggX8_begins_X8_bitAt : GoodIn wsX8_begins wsX8_bitAt := goodIn_ca (goodIn_r _ [11, 12, 13, 14, 15, 16, 17, 18, 19, 20, 21, 22, 23, 24, 25, 26, 27, 28, 29, 30, 31, 32, 33, 34] (by decide +kernel) (by decide +kernel)) (goodIn_sub (fun _ h => List.mem_cons_of_mem _ (List.mem_append_right _ h)) (by decide +kernel))
set_option maxRecDepth 20000 in
theorem gX8_begins_X8_bitAt : GoodIn wsX8_begins (wsV RX8 168 RX8 yX8_bitAt wsX8_bitAt) := goodIn_app (goodIn_of _ (by decide +kernel)) ggX8_begins_X8_bitAt
theorem dX8_begins_0 : decode cX8_begins 0 = .ok (.iload_n 2, 1) := by decide +kernel
theorem dX8_begins_1 : decode cX8_begins 1 = .ok (.aload_n 0, 1) := by decide +kernel
theorem dX8_begins_2 : decode cX8_begins 2 = .ok (.invokevirtual 164, 3) := by decide +kernel
theorem dX8_begins_5 : decode cX8_begins 5 = .ok (.if_icmp .gt 7, 3) := by decide +kernel
theorem dX8_begins_8 : decode cX8_begins 8 = .ok (.iconst 1, 1) := by decide +kernel
theorem dX8_begins_9 : decode cX8_begins 9 = .ok (.goto 4, 3) := by decide +kernel
theorem dX8_begins_12 : decode cX8_begins 12 = .ok (.iconst 0, 1) := by decide +kernel
theorem dX8_begins_13 : decode cX8_begins 13 = .ok (.istore_n 3, 1) := by decide +kernel
theorem dX8_begins_14 : decode cX8_begins 14 = .ok (.iconst 0, 1) := by decide +kernel
theorem dX8_begins_15 : decode cX8_begins 15 = .ok (.istore 4, 2) := by decide +kernel
theorem dX8_begins_17 : decode cX8_begins 17 = .ok (.iload 4, 2) := by decide +kernel
theorem dX8_begins_19 : decode cX8_begins 19 = .ok (.iload_n 2, 1) := by decide +kernel
theorem dX8_begins_20 : decode cX8_begins 20 = .ok (.if_icmp .ge 43, 3) := by decide +kernel
theorem dX8_begins_23 : decode cX8_begins 23 = .ok (.iload_n 3, 1) := by decide +kernel
theorem dX8_begins_24 : decode cX8_begins 24 = .ok (.ifCond .eq 39, 3) := by decide +kernel
theorem dX8_begins_27 : decode cX8_begins 27 = .ok (.aload_n 0, 1) := by decide +kernel
theorem dX8_begins_28 : decode cX8_begins 28 = .ok (.aload_n 0, 1) := by decide +kernel
theorem dX8_begins_29 : decode cX8_begins 29 = .ok (.getfield 69, 3) := by decide +kernel
theorem dX8_begins_32 : decode cX8_begins 32 = .ok (.iload 4, 2) := by decide +kernel
theorem dX8_begins_34 : decode cX8_begins 34 = .ok (.iadd, 1) := by decide +kernel
theorem dX8_begins_35 : decode cX8_begins 35 = .ok (.invokevirtual 168, 3) := by decide +kernel
theorem dX8_begins_38 : decode cX8_begins 38 = .ok (.iload_n 1, 1) := by decide +kernel
theorem dX8_begins_39 : decode cX8_begins 39 = .ok (.iload_n 2, 1) := by decide +kernel
theorem dX8_begins_40 : decode cX8_begins 40 = .ok (.iconst 1, 1) := by decide +kernel
theorem dX8_begins_41 : decode cX8_begins 41 = .ok (.isub, 1) := by decide +kernel
theorem dX8_begins_42 : decode cX8_begins 42 = .ok (.iload 4, 2) := by decide +kernel
theorem dX8_begins_44 : decode cX8_begins 44 = .ok (.isub, 1) := by decide +kernel
theorem dX8_begins_45 : decode cX8_begins 45 = .ok (.ishr, 1) := by decide +kernel
theorem dX8_begins_46 : decode cX8_begins 46 = .ok (.iconst 1, 1) := by decide +kernel
theorem dX8_begins_47 : decode cX8_begins 47 = .ok (.iand, 1) := by decide +kernel
theorem dX8_begins_48 : decode cX8_begins 48 = .ok (.if_icmp .ne 7, 3) := by decide +kernel
theorem dX8_begins_51 : decode cX8_begins 51 = .ok (.iconst 1, 1) := by decide +kernel
theorem dX8_begins_52 : decode cX8_begins 52 = .ok (.goto 4, 3) := by decide +kernel
theorem dX8_begins_55 : decode cX8_begins 55 = .ok (.iconst 0, 1) := by decide +kernel
theorem dX8_begins_56 : decode cX8_begins 56 = .ok (.istore_n 3, 1) := by decide +kernel
theorem dX8_begins_57 : decode cX8_begins 57 = .ok (.iinc 4 1, 3) := by decide +kernel
theorem dX8_begins_60 : decode cX8_begins 60 = .ok (.goto (-43), 3) := by decide +kernel
theorem dX8_begins_63 : decode cX8_begins 63 = .ok (.iload_n 3, 1) := by decide +kernel
theorem dX8_begins_64 : decode cX8_begins 64 = .ok (.ireturn, 1) := by decide +kernel
set_option maxRecDepth 20000 in
theorem ggX8_takeCode_X8_isRun : GoodIn wsX8_takeCode wsX8_isRun := goodIn_r _ [7] (by decide +kernel) (by decide +kernel)
set_option maxRecDepth 20000 in
theorem gX8_takeCode_X8_isRun : GoodIn wsX8_takeCode (va_wsS RX8 51 yX8_isRun wsX8_isRun) := goodIn_app (goodIn_of _ (by decide +kernel)) ggX8_takeCode_X8_isRun
set_option maxRecDepth 20000 in
theorem ggX8_takeCode_X8_begins : GoodIn wsX8_takeCode wsX8_begins := goodIn_ca (goodIn_r _ [11, 3, 12, 13, 14, 6, 15, 16, 17, 18, 19, 20, 21, 22, 23, 24, 25, 26, 27, 28, 29, 30, 31, 32, 33, 34, 35, 36, 37, 38, 39, 40, 41, 42, 43] (by decide +kernel) (by decide +kernel)) (goodIn_sub (fun _ h => List.mem_cons_of_mem _ (List.mem_append_right _ h)) (by decide +kernel))
set_option maxRecDepth 20000 in
theorem gX8_takeCode_X8_begins : GoodIn wsX8_takeCode (wsV RX8 174 RX8 yX8_begins wsX8_begins) := goodIn_app (goodIn_of _ (by decide +kernel)) ggX8_takeCode_X8_begins
set_option maxRecDepth 20000 in
theorem ggX8_takeCode_X8_left : GoodIn wsX8_takeCode wsX8_left := goodIn_r _ [15, 16, 3, 22, 23, 24, 25, 26, 27, 28, 29, 30, 31, 32, 33, 34, 35, 36, 37, 38, 39, 40, 41, 42, 43] (by decide +kernel) (by decide +kernel)
set_option maxRecDepth 20000 in
theorem gX8_takeCode_X8_left : GoodIn wsX8_takeCode (wsV RX8 164 RX8 yX8_left wsX8_left) := goodIn_app (goodIn_of _ (by decide +kernel)) ggX8_takeCode_X8_left
theorem dX8_takeCode_0 : decode cX8_takeCode 0 = .ok (.iconst 0, 1) := by decide +kernel
theorem dX8_takeCode_1 : decode cX8_takeCode 1 = .ok (.istore_n 2, 1) := by decide +kernel
theorem dX8_takeCode_2 : decode cX8_takeCode 2 = .ok (.iload_n 2, 1) := by decide +kernel
theorem dX8_takeCode_3 : decode cX8_takeCode 3 = .ok (.sipush 640, 3) := by decide +kernel
theorem dX8_takeCode_6 : decode cX8_takeCode 6 = .ok (.if_icmp .gt 60, 3) := by decide +kernel
theorem dX8_takeCode_9 : decode cX8_takeCode 9 = .ok (.sipush 704, 3) := by decide +kernel
theorem dX8_takeCode_12 : decode cX8_takeCode 12 = .ok (.iload_n 1, 1) := by decide +kernel
theorem dX8_takeCode_13 : decode cX8_takeCode 13 = .ok (.imul, 1) := by decide +kernel
theorem dX8_takeCode_14 : decode cX8_takeCode 14 = .ok (.iload_n 2, 1) := by decide +kernel
theorem dX8_takeCode_15 : decode cX8_takeCode 15 = .ok (.iadd, 1) := by decide +kernel
theorem dX8_takeCode_16 : decode cX8_takeCode 16 = .ok (.istore_n 3, 1) := by decide +kernel
theorem dX8_takeCode_17 : decode cX8_takeCode 17 = .ok (.iload_n 2, 1) := by decide +kernel
theorem dX8_takeCode_18 : decode cX8_takeCode 18 = .ok (.invokestatic 51, 3) := by decide +kernel
theorem dX8_takeCode_21 : decode cX8_takeCode 21 = .ok (.ifCond .eq 39, 3) := by decide +kernel
theorem dX8_takeCode_24 : decode cX8_takeCode 24 = .ok (.aload_n 0, 1) := by decide +kernel
theorem dX8_takeCode_25 : decode cX8_takeCode 25 = .ok (.aload_n 0, 1) := by decide +kernel
theorem dX8_takeCode_26 : decode cX8_takeCode 26 = .ok (.getfield 7, 3) := by decide +kernel
theorem dX8_takeCode_29 : decode cX8_takeCode 29 = .ok (.iload_n 3, 1) := by decide +kernel
theorem dX8_takeCode_30 : decode cX8_takeCode 30 = .ok (.iaload, 1) := by decide +kernel
theorem dX8_takeCode_31 : decode cX8_takeCode 31 = .ok (.aload_n 0, 1) := by decide +kernel
theorem dX8_takeCode_32 : decode cX8_takeCode 32 = .ok (.getfield 13, 3) := by decide +kernel
theorem dX8_takeCode_35 : decode cX8_takeCode 35 = .ok (.iload_n 3, 1) := by decide +kernel
theorem dX8_takeCode_36 : decode cX8_takeCode 36 = .ok (.iaload, 1) := by decide +kernel
theorem dX8_takeCode_37 : decode cX8_takeCode 37 = .ok (.invokevirtual 174, 3) := by decide +kernel
theorem dX8_takeCode_40 : decode cX8_takeCode 40 = .ok (.ifCond .eq 20, 3) := by decide +kernel
theorem dX8_takeCode_43 : decode cX8_takeCode 43 = .ok (.aload_n 0, 1) := by decide +kernel
theorem dX8_takeCode_44 : decode cX8_takeCode 44 = .ok (.aload_n 0, 1) := by decide +kernel
theorem dX8_takeCode_45 : decode cX8_takeCode 45 = .ok (.getfield 69, 3) := by decide +kernel
theorem dX8_takeCode_48 : decode cX8_takeCode 48 = .ok (.aload_n 0, 1) := by decide +kernel
theorem dX8_takeCode_49 : decode cX8_takeCode 49 = .ok (.getfield 13, 3) := by decide +kernel
theorem dX8_takeCode_52 : decode cX8_takeCode 52 = .ok (.iload_n 3, 1) := by decide +kernel
theorem dX8_takeCode_53 : decode cX8_takeCode 53 = .ok (.iaload, 1) := by decide +kernel
theorem dX8_takeCode_54 : decode cX8_takeCode 54 = .ok (.iadd, 1) := by decide +kernel
theorem dX8_takeCode_55 : decode cX8_takeCode 55 = .ok (.putfield 69, 3) := by decide +kernel
theorem dX8_takeCode_58 : decode cX8_takeCode 58 = .ok (.iload_n 2, 1) := by decide +kernel
theorem dX8_takeCode_59 : decode cX8_takeCode 59 = .ok (.ireturn, 1) := by decide +kernel
theorem dX8_takeCode_60 : decode cX8_takeCode 60 = .ok (.iinc 2 1, 3) := by decide +kernel
theorem dX8_takeCode_63 : decode cX8_takeCode 63 = .ok (.goto (-61), 3) := by decide +kernel
theorem dX8_takeCode_66 : decode cX8_takeCode 66 = .ok (.aload_n 0, 1) := by decide +kernel
theorem dX8_takeCode_67 : decode cX8_takeCode 67 = .ok (.invokevirtual 164, 3) := by decide +kernel
theorem dX8_takeCode_70 : decode cX8_takeCode 70 = .ok (.bipush 12, 2) := by decide +kernel
theorem dX8_takeCode_72 : decode cX8_takeCode 72 = .ok (.if_icmp .ge 8, 3) := by decide +kernel
theorem dX8_takeCode_75 : decode cX8_takeCode 75 = .ok (.bipush (-2), 2) := by decide +kernel
theorem dX8_takeCode_77 : decode cX8_takeCode 77 = .ok (.goto 4, 3) := by decide +kernel
theorem dX8_takeCode_80 : decode cX8_takeCode 80 = .ok (.iconst (-1), 1) := by decide +kernel
theorem dX8_takeCode_81 : decode cX8_takeCode 81 = .ok (.ireturn, 1) := by decide +kernel
set_option maxRecDepth 20000 in
theorem ggX8_takeRun_X8_takeCode : GoodIn wsX8_takeRun wsX8_takeCode := goodIn_ca (goodIn_r _ [6, 7, 8, 9, 10, 11, 5, 12, 13, 14, 15, 16, 17, 18, 19, 20, 21, 22, 23, 24, 25, 26, 27, 28, 29, 30, 31, 32, 33, 34, 35, 36, 37, 38, 39, 40, 41, 42, 43, 44, 45, 46, 47, 48] (by decide +kernel) (by decide +kernel)) (goodIn_sub (fun _ h => List.mem_cons_of_mem _ (List.mem_append_right _ h)) (by decide +kernel))
set_option maxRecDepth 20000 in
theorem gX8_takeRun_X8_takeCode : GoodIn wsX8_takeRun (wsV RX8 180 RX8 yX8_takeCode wsX8_takeCode) := goodIn_app (goodIn_of _ (by decide +kernel)) ggX8_takeRun_X8_takeCode
theorem dX8_takeRun_0 : decode cX8_takeRun 0 = .ok (.iconst 0, 1) := by decide +kernel
theorem dX8_takeRun_1 : decode cX8_takeRun 1 = .ok (.istore_n 2, 1) := by decide +kernel
theorem dX8_takeRun_2 : decode cX8_takeRun 2 = .ok (.aload_n 0, 1) := by decide +kernel
theorem dX8_takeRun_3 : decode cX8_takeRun 3 = .ok (.iconst 0, 1) := by decide +kernel
theorem dX8_takeRun_4 : decode cX8_takeRun 4 = .ok (.putfield 177, 3) := by decide +kernel
theorem dX8_takeRun_7 : decode cX8_takeRun 7 = .ok (.aload_n 0, 1) := by decide +kernel
theorem dX8_takeRun_8 : decode cX8_takeRun 8 = .ok (.iload_n 1, 1) := by decide +kernel
theorem dX8_takeRun_9 : decode cX8_takeRun 9 = .ok (.ifCond .eq 7, 3) := by decide +kernel
theorem dX8_takeRun_12 : decode cX8_takeRun 12 = .ok (.iconst 1, 1) := by decide +kernel
theorem dX8_takeRun_13 : decode cX8_takeRun 13 = .ok (.goto 4, 3) := by decide +kernel
theorem dX8_takeRun_16 : decode cX8_takeRun 16 = .ok (.iconst 0, 1) := by decide +kernel
theorem dX8_takeRun_17 : decode cX8_takeRun 17 = .ok (.invokevirtual 180, 3) := by decide +kernel
theorem dX8_takeRun_20 : decode cX8_takeRun 20 = .ok (.istore_n 3, 1) := by decide +kernel
theorem dX8_takeRun_21 : decode cX8_takeRun 21 = .ok (.iload_n 3, 1) := by decide +kernel
theorem dX8_takeRun_22 : decode cX8_takeRun 22 = .ok (.ifCond .ge 5, 3) := by decide +kernel
theorem dX8_takeRun_25 : decode cX8_takeRun 25 = .ok (.iload_n 3, 1) := by decide +kernel
theorem dX8_takeRun_26 : decode cX8_takeRun 26 = .ok (.ireturn, 1) := by decide +kernel
theorem dX8_takeRun_27 : decode cX8_takeRun 27 = .ok (.iload_n 2, 1) := by decide +kernel
theorem dX8_takeRun_28 : decode cX8_takeRun 28 = .ok (.iload_n 3, 1) := by decide +kernel
theorem dX8_takeRun_29 : decode cX8_takeRun 29 = .ok (.iadd, 1) := by decide +kernel
theorem dX8_takeRun_30 : decode cX8_takeRun 30 = .ok (.istore_n 2, 1) := by decide +kernel
theorem dX8_takeRun_31 : decode cX8_takeRun 31 = .ok (.iload_n 3, 1) := by decide +kernel
theorem dX8_takeRun_32 : decode cX8_takeRun 32 = .ok (.bipush 64, 2) := by decide +kernel
theorem dX8_takeRun_34 : decode cX8_takeRun 34 = .ok (.if_icmp .ge 5, 3) := by decide +kernel
theorem dX8_takeRun_37 : decode cX8_takeRun 37 = .ok (.iload_n 2, 1) := by decide +kernel
theorem dX8_takeRun_38 : decode cX8_takeRun 38 = .ok (.ireturn, 1) := by decide +kernel
theorem dX8_takeRun_39 : decode cX8_takeRun 39 = .ok (.aload_n 0, 1) := by decide +kernel
theorem dX8_takeRun_40 : decode cX8_takeRun 40 = .ok (.iconst 1, 1) := by decide +kernel
theorem dX8_takeRun_41 : decode cX8_takeRun 41 = .ok (.putfield 177, 3) := by decide +kernel
theorem dX8_takeRun_44 : decode cX8_takeRun 44 = .ok (.goto (-37), 3) := by decide +kernel
set_option maxRecDepth 20000 in
theorem ggX8_paintRun_X8_paint : GoodIn wsX8_paintRun wsX8_paint := goodIn_ca (goodIn_r _ [7, 8, 9, 10, 11, 12, 13, 14, 15, 16, 17, 18, 19, 20, 21, 22, 23, 24, 25, 26, 27, 28, 29, 30] (by decide +kernel) (by decide +kernel)) (goodIn_sub (fun _ h => List.mem_cons_of_mem _ (List.mem_append_right _ h)) (by decide +kernel))
set_option maxRecDepth 20000 in
theorem gX8_paintRun_X8_paint : GoodIn wsX8_paintRun (wsV RX8 84 RX8 yX8_paint wsX8_paint) := goodIn_app (goodIn_of _ (by decide +kernel)) ggX8_paintRun_X8_paint
theorem dX8_paintRun_0 : decode cX8_paintRun 0 = .ok (.iload_n 2, 1) := by decide +kernel
theorem dX8_paintRun_1 : decode cX8_paintRun 1 = .ok (.iload_n 3, 1) := by decide +kernel
theorem dX8_paintRun_2 : decode cX8_paintRun 2 = .ok (.iadd, 1) := by decide +kernel
theorem dX8_paintRun_3 : decode cX8_paintRun 3 = .ok (.istore 5, 2) := by decide +kernel
theorem dX8_paintRun_5 : decode cX8_paintRun 5 = .ok (.iload 5, 2) := by decide +kernel
theorem dX8_paintRun_7 : decode cX8_paintRun 7 = .ok (.aload_n 0, 1) := by decide +kernel
theorem dX8_paintRun_8 : decode cX8_paintRun 8 = .ok (.getfield 37, 3) := by decide +kernel
theorem dX8_paintRun_11 : decode cX8_paintRun 11 = .ok (.if_icmp .le 29, 3) := by decide +kernel
theorem dX8_paintRun_14 : decode cX8_paintRun 14 = .ok (.aload_n 0, 1) := by decide +kernel
theorem dX8_paintRun_15 : decode cX8_paintRun 15 = .ok (.getfield 37, 3) := by decide +kernel
theorem dX8_paintRun_18 : decode cX8_paintRun 18 = .ok (.istore 5, 2) := by decide +kernel
theorem dX8_paintRun_20 : decode cX8_paintRun 20 = .ok (.aload_n 0, 1) := by decide +kernel
theorem dX8_paintRun_21 : decode cX8_paintRun 21 = .ok (.aload_n 0, 1) := by decide +kernel
theorem dX8_paintRun_22 : decode cX8_paintRun 22 = .ok (.getfield 183, 3) := by decide +kernel
theorem dX8_paintRun_25 : decode cX8_paintRun 25 = .ok (.iconst 1, 1) := by decide +kernel
theorem dX8_paintRun_26 : decode cX8_paintRun 26 = .ok (.if_icmp .le 10, 3) := by decide +kernel
theorem dX8_paintRun_29 : decode cX8_paintRun 29 = .ok (.aload_n 0, 1) := by decide +kernel
theorem dX8_paintRun_30 : decode cX8_paintRun 30 = .ok (.getfield 183, 3) := by decide +kernel
theorem dX8_paintRun_33 : decode cX8_paintRun 33 = .ok (.goto 4, 3) := by decide +kernel
theorem dX8_paintRun_36 : decode cX8_paintRun 36 = .ok (.iconst 1, 1) := by decide +kernel
theorem dX8_paintRun_37 : decode cX8_paintRun 37 = .ok (.putfield 183, 3) := by decide +kernel
theorem dX8_paintRun_40 : decode cX8_paintRun 40 = .ok (.aload_n 0, 1) := by decide +kernel
theorem dX8_paintRun_41 : decode cX8_paintRun 41 = .ok (.iload_n 1, 1) := by decide +kernel
theorem dX8_paintRun_42 : decode cX8_paintRun 42 = .ok (.iload_n 2, 1) := by decide +kernel
theorem dX8_paintRun_43 : decode cX8_paintRun 43 = .ok (.iload 5, 2) := by decide +kernel
theorem dX8_paintRun_45 : decode cX8_paintRun 45 = .ok (.iload 4, 2) := by decide +kernel
theorem dX8_paintRun_47 : decode cX8_paintRun 47 = .ok (.invokevirtual 84, 3) := by decide +kernel
theorem dX8_paintRun_50 : decode cX8_paintRun 50 = .ok (.iload 5, 2) := by decide +kernel
theorem dX8_paintRun_52 : decode cX8_paintRun 52 = .ok (.ireturn, 1) := by decide +kernel
set_option maxRecDepth 20000 in
theorem ggX8_readPlain_X8_takeRun : GoodIn wsX8_readPlain wsX8_takeRun := goodIn_ca (goodIn_r _ [8, 2, 9, 10, 11, 7, 12, 13, 14, 15, 16, 17, 18, 19, 20, 21, 22, 23, 24, 25, 26, 27, 28, 29, 30, 31, 32, 56, 57, 58, 59, 60, 61, 62, 63, 64, 65, 66, 67, 68, 69, 70, 71, 72, 73, 74, 75, 76, 77] (by decide +kernel) (by decide +kernel)) (goodIn_sub (fun _ h => List.mem_cons_of_mem _ (List.mem_append_right _ h)) (by decide +kernel))
set_option maxRecDepth 20000 in
theorem gX8_readPlain_X8_takeRun : GoodIn wsX8_readPlain (wsV RX8 186 RX8 yX8_takeRun wsX8_takeRun) := goodIn_app (goodIn_of _ (by decide +kernel)) ggX8_readPlain_X8_takeRun
set_option maxRecDepth 20000 in
theorem ggX8_readPlain_X8_hasMarks : GoodIn wsX8_readPlain wsX8_hasMarks := goodIn_ca (goodIn_r _ [36, 37, 38, 56, 57, 58, 59, 60, 61, 62, 63, 64, 65, 66, 67, 68, 69, 70, 71, 72, 73, 74, 75, 76, 77] (by decide +kernel) (by decide +kernel)) (goodIn_sub (fun _ h => List.mem_cons_of_mem _ (List.mem_append_right _ h)) (by decide +kernel))
set_option maxRecDepth 20000 in
theorem gX8_readPlain_X8_hasMarks : GoodIn wsX8_readPlain (wsV RX8 142 RX8 yX8_hasMarks wsX8_hasMarks) := goodIn_app (goodIn_of _ (by decide +kernel)) ggX8_readPlain_X8_hasMarks
set_option maxRecDepth 20000 in
theorem ggX8_readPlain_X8_isMarkHere : GoodIn wsX8_readPlain wsX8_isMarkHere := goodIn_ca (goodIn_r _ [42, 43, 44, 45, 7, 46, 15, 23, 24, 25, 26, 27, 28, 29, 30, 31, 32, 56, 57, 58, 59, 60, 61, 62, 63, 64, 65, 66, 67, 68, 69, 70, 71, 72, 73, 74, 75, 76, 77] (by decide +kernel) (by decide +kernel)) (goodIn_sub (fun _ h => List.mem_cons_of_mem _ (List.mem_append_right _ h)) (by decide +kernel))
set_option maxRecDepth 20000 in
theorem gX8_readPlain_X8_isMarkHere : GoodIn wsX8_readPlain (wsV RX8 190 RX8 yX8_isMarkHere wsX8_isMarkHere) := goodIn_app (goodIn_of _ (by decide +kernel)) ggX8_readPlain_X8_isMarkHere
set_option maxRecDepth 20000 in
theorem ggX8_readPlain_X8_zeros : GoodIn wsX8_readPlain wsX8_zeros := goodIn_ca (goodIn_r _ [46, 15, 23, 24, 25, 7, 26, 27, 28, 29, 30, 31, 32, 56, 57, 58, 59, 60, 61, 62, 63, 64, 65, 66, 67, 68, 69, 70, 71, 72, 73, 74, 75, 76, 77] (by decide +kernel) (by decide +kernel)) (goodIn_sub (fun _ h => List.mem_cons_of_mem _ (List.mem_append_right _ h)) (by decide +kernel))
set_option maxRecDepth 20000 in
theorem gX8_readPlain_X8_zeros : GoodIn wsX8_readPlain (wsV RX8 171 RX8 yX8_zeros wsX8_zeros) := goodIn_app (goodIn_of _ (by decide +kernel)) ggX8_readPlain_X8_zeros
set_option maxRecDepth 20000 in
theorem ggX8_readPlain_X8_paintRun : GoodIn wsX8_readPlain wsX8_paintRun := goodIn_ca (goodIn_r _ [50, 1, 3, 51, 52, 53, 7, 54, 55, 56, 57, 58, 59, 60, 61, 62, 63, 64, 65, 66, 67, 68, 69, 70, 71, 72, 73, 74, 75, 76, 77] (by decide +kernel) (by decide +kernel)) (goodIn_sub (fun _ h => List.mem_cons_of_mem _ (List.mem_append_right _ h)) (by decide +kernel))
set_option maxRecDepth 20000 in
theorem gX8_readPlain_X8_paintRun : GoodIn wsX8_readPlain (wsV RX8 193 RX8 yX8_paintRun wsX8_paintRun) := goodIn_app (goodIn_of _ (by decide +kernel)) ggX8_readPlain_X8_paintRun
