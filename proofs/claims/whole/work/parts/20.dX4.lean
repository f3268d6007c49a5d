theorem dX4_init_0 : decode cX4_init 0 = .ok (.aload_n 0, 1) := by decide +kernel
theorem dX4_init_1 : decode cX4_init 1 = .ok (.invokespecial 3, 3) := by decide +kernel
theorem dX4_init_4 : decode cX4_init 4 = .ok (.aload_n 0, 1) := by decide +kernel
theorem dX4_init_5 : decode cX4_init 5 = .ok (.aload_n 1, 1) := by decide +kernel
theorem dX4_init_6 : decode cX4_init 6 = .ok (.putfield 9, 3) := by decide +kernel
theorem dX4_init_9 : decode cX4_init 9 = .ok (.aload_n 0, 1) := by decide +kernel
theorem dX4_init_10 : decode cX4_init 10 = .ok (.aload_n 2, 1) := by decide +kernel
theorem dX4_init_11 : decode cX4_init 11 = .ok (.putfield 15, 3) := by decide +kernel
theorem dX4_init_14 : decode cX4_init 14 = .ok (.aload_n 0, 1) := by decide +kernel
theorem dX4_init_15 : decode cX4_init 15 = .ok (.aload_n 3, 1) := by decide +kernel
theorem dX4_init_16 : decode cX4_init 16 = .ok (.putfield 19, 3) := by decide +kernel
theorem dX4_init_19 : decode cX4_init 19 = .ok (.aload_n 0, 1) := by decide +kernel
theorem dX4_init_20 : decode cX4_init 20 = .ok (.aload 4, 2) := by decide +kernel
theorem dX4_init_22 : decode cX4_init 22 = .ok (.putfield 23, 3) := by decide +kernel
theorem dX4_init_25 : decode cX4_init 25 = .ok (.aload_n 0, 1) := by decide +kernel
theorem dX4_init_26 : decode cX4_init 26 = .ok (.aload 5, 2) := by decide +kernel
theorem dX4_init_28 : decode cX4_init 28 = .ok (.putfield 26, 3) := by decide +kernel
theorem dX4_init_31 : decode cX4_init 31 = .ok (.return_, 1) := by decide +kernel
set_option maxRecDepth 20000 in
theorem ggX4_sendAll_X1_restart : GoodIn wsX4_sendAll wsX1_restart := goodIn_r _ [10, 11, 131, 132] (by decide +kernel) (by decide +kernel)
set_option maxRecDepth 20000 in
theorem gX4_sendAll_X1_restart : GoodIn wsX4_sendAll (wsV RX4 30 RX1 yX1_restart wsX1_restart) := goodIn_app (goodIn_of _ (by decide +kernel)) ggX4_sendAll_X1_restart
set_option maxRecDepth 20000 in
theorem ggX4_sendAll_X4_sendStart : GoodIn wsX4_sendAll wsX4_sendStart := goodIn_ca (goodIn_r _ [16, 4, 17, 1, 18, 19, 20, 21, 22, 23, 24, 25, 26, 27, 9, 28, 11, 29, 30, 31, 32, 33, 34, 35, 36, 15, 37, 5, 38, 116, 117, 118, 119, 120, 126, 127, 128, 129, 130, 131, 132] (by decide +kernel) (by decide +kernel)) (goodIn_sub (fun _ h => List.mem_cons_of_mem _ (List.mem_append_right _ h)) (by decide +kernel))
set_option maxRecDepth 20000 in
theorem gX4_sendAll_X4_sendStart : GoodIn wsX4_sendAll (wsV RX4 46 RX4 yX4_sendStart wsX4_sendStart) := goodIn_app (goodIn_of _ (by decide +kernel)) ggX4_sendAll_X4_sendStart
set_option maxRecDepth 20000 in
theorem ggX4_sendAll_X4_sendPlain : GoodIn wsX4_sendAll wsX4_sendPlain := goodIn_ca (goodIn_r _ [42, 2, 43, 44, 45, 46, 47, 48, 49, 50, 51, 52, 53, 54, 55, 56, 57, 58, 59, 60, 61, 62, 63, 64, 65, 66, 67, 68, 69, 70, 71, 72, 73, 74, 75, 76, 77, 15, 78, 79, 80, 1, 81, 82, 83, 84, 85, 86, 87, 88, 89, 90, 91, 92, 93, 94, 38, 30, 31, 9, 32, 11, 33, 116, 117, 118, 119, 120, 121, 122, 123, 124, 125, 133, 134, 135, 136, 131, 132] (by decide +kernel) (by decide +kernel)) (goodIn_sub (fun _ h => List.mem_cons_of_mem _ (List.mem_append_right _ h)) (by decide +kernel))
set_option maxRecDepth 20000 in
theorem gX4_sendAll_X4_sendPlain : GoodIn wsX4_sendAll (wsV RX4 50 RX4 yX4_sendPlain wsX4_sendPlain) := goodIn_app (goodIn_of _ (by decide +kernel)) ggX4_sendAll_X4_sendPlain
set_option maxRecDepth 20000 in
theorem ggX4_sendAll_X4_sendDrawn : GoodIn wsX4_sendAll wsX4_sendDrawn := goodIn_ca (goodIn_r _ [98, 2, 43, 99, 100, 101, 47, 102, 103, 104, 105, 106, 53, 58, 59, 60, 61, 62, 63, 64, 65, 66, 67, 107, 45, 46, 48, 49, 50, 51, 52, 54, 55, 56, 57, 68, 69, 70, 71, 72, 73, 74, 44, 108, 109, 110, 15, 111, 1, 38, 30, 31, 9, 32, 11, 33, 75, 76, 77, 78, 79, 80, 81, 82, 83, 84, 85, 86, 87, 88, 89, 90, 91, 92, 93, 94, 116, 117, 118, 119, 120, 121, 122, 123, 124, 125, 131, 132, 133, 134, 135, 136] (by decide +kernel) (by decide +kernel)) (goodIn_sub (fun _ h => List.mem_cons_of_mem _ (List.mem_append_right _ h)) (by decide +kernel))
set_option maxRecDepth 20000 in
theorem gX4_sendAll_X4_sendDrawn : GoodIn wsX4_sendAll (wsV RX4 54 RX4 yX4_sendDrawn wsX4_sendDrawn) := goodIn_app (goodIn_of _ (by decide +kernel)) ggX4_sendAll_X4_sendDrawn
set_option maxRecDepth 20000 in
theorem ggX4_sendAll_X4_sendEnd : GoodIn wsX4_sendAll wsX4_sendEnd := goodIn_ca (goodIn_r _ [115, 4, 5, 17, 1, 25, 26, 27, 9, 28, 11, 29, 30, 31, 32, 33, 18, 19, 20, 21, 22, 23, 24, 34, 35, 36, 15, 37, 38, 116, 117, 118, 119, 120, 126, 127, 128, 129, 130, 131, 132] (by decide +kernel) (by decide +kernel)) (goodIn_sub (fun _ h => List.mem_cons_of_mem _ (List.mem_append_right _ h)) (by decide +kernel))
set_option maxRecDepth 20000 in
theorem gX4_sendAll_X4_sendEnd : GoodIn wsX4_sendAll (wsV RX4 57 RX4 yX4_sendEnd wsX4_sendEnd) := goodIn_app (goodIn_of _ (by decide +kernel)) ggX4_sendAll_X4_sendEnd
theorem dX4_sendAll_0 : decode cX4_sendAll 0 = .ok (.aload_n 0, 1) := by decide +kernel
theorem dX4_sendAll_1 : decode cX4_sendAll 1 = .ok (.getfield 26, 3) := by decide +kernel
theorem dX4_sendAll_4 : decode cX4_sendAll 4 = .ok (.invokevirtual 30, 3) := by decide +kernel
theorem dX4_sendAll_7 : decode cX4_sendAll 7 = .ok (.iconst 0, 1) := by decide +kernel
theorem dX4_sendAll_8 : decode cX4_sendAll 8 = .ok (.istore_n 1, 1) := by decide +kernel
theorem dX4_sendAll_9 : decode cX4_sendAll 9 = .ok (.iload_n 1, 1) := by decide +kernel
theorem dX4_sendAll_10 : decode cX4_sendAll 10 = .ok (.aload_n 0, 1) := by decide +kernel
theorem dX4_sendAll_11 : decode cX4_sendAll 11 = .ok (.getfield 15, 3) := by decide +kernel
theorem dX4_sendAll_14 : decode cX4_sendAll 14 = .ok (.getfield 35, 3) := by decide +kernel
theorem dX4_sendAll_17 : decode cX4_sendAll 17 = .ok (.if_icmp .ge 64, 3) := by decide +kernel
theorem dX4_sendAll_20 : decode cX4_sendAll 20 = .ok (.aload_n 0, 1) := by decide +kernel
theorem dX4_sendAll_21 : decode cX4_sendAll 21 = .ok (.getfield 9, 3) := by decide +kernel
theorem dX4_sendAll_24 : decode cX4_sendAll 24 = .ok (.getfield 41, 3) := by decide +kernel
theorem dX4_sendAll_27 : decode cX4_sendAll 27 = .ok (.ifCond .eq 20, 3) := by decide +kernel
theorem dX4_sendAll_30 : decode cX4_sendAll 30 = .ok (.aload_n 0, 1) := by decide +kernel
theorem dX4_sendAll_31 : decode cX4_sendAll 31 = .ok (.getfield 9, 3) := by decide +kernel
theorem dX4_sendAll_34 : decode cX4_sendAll 34 = .ok (.getfield 41, 3) := by decide +kernel
theorem dX4_sendAll_37 : decode cX4_sendAll 37 = .ok (.iconst 1, 1) := by decide +kernel
theorem dX4_sendAll_38 : decode cX4_sendAll 38 = .ok (.if_icmp .ne 13, 3) := by decide +kernel
theorem dX4_sendAll_41 : decode cX4_sendAll 41 = .ok (.iload_n 1, 1) := by decide +kernel
theorem dX4_sendAll_42 : decode cX4_sendAll 42 = .ok (.iconst 4, 1) := by decide +kernel
theorem dX4_sendAll_43 : decode cX4_sendAll 43 = .ok (.irem, 1) := by decide +kernel
theorem dX4_sendAll_44 : decode cX4_sendAll 44 = .ok (.ifCond .ne 7, 3) := by decide +kernel
theorem dX4_sendAll_47 : decode cX4_sendAll 47 = .ok (.iconst 1, 1) := by decide +kernel
theorem dX4_sendAll_48 : decode cX4_sendAll 48 = .ok (.goto 4, 3) := by decide +kernel
theorem dX4_sendAll_51 : decode cX4_sendAll 51 = .ok (.iconst 0, 1) := by decide +kernel
theorem dX4_sendAll_52 : decode cX4_sendAll 52 = .ok (.istore_n 2, 1) := by decide +kernel
theorem dX4_sendAll_53 : decode cX4_sendAll 53 = .ok (.aload_n 0, 1) := by decide +kernel
theorem dX4_sendAll_54 : decode cX4_sendAll 54 = .ok (.iload_n 2, 1) := by decide +kernel
theorem dX4_sendAll_55 : decode cX4_sendAll 55 = .ok (.invokevirtual 46, 3) := by decide +kernel
theorem dX4_sendAll_58 : decode cX4_sendAll 58 = .ok (.iload_n 2, 1) := by decide +kernel
theorem dX4_sendAll_59 : decode cX4_sendAll 59 = .ok (.ifCond .eq 11, 3) := by decide +kernel
theorem dX4_sendAll_62 : decode cX4_sendAll 62 = .ok (.aload_n 0, 1) := by decide +kernel
theorem dX4_sendAll_63 : decode cX4_sendAll 63 = .ok (.iload_n 1, 1) := by decide +kernel
theorem dX4_sendAll_64 : decode cX4_sendAll 64 = .ok (.invokevirtual 50, 3) := by decide +kernel
theorem dX4_sendAll_67 : decode cX4_sendAll 67 = .ok (.goto 8, 3) := by decide +kernel
theorem dX4_sendAll_70 : decode cX4_sendAll 70 = .ok (.aload_n 0, 1) := by decide +kernel
theorem dX4_sendAll_71 : decode cX4_sendAll 71 = .ok (.iload_n 1, 1) := by decide +kernel
theorem dX4_sendAll_72 : decode cX4_sendAll 72 = .ok (.invokevirtual 54, 3) := by decide +kernel
theorem dX4_sendAll_75 : decode cX4_sendAll 75 = .ok (.iinc 1 1, 3) := by decide +kernel
theorem dX4_sendAll_78 : decode cX4_sendAll 78 = .ok (.goto (-69), 3) := by decide +kernel
theorem dX4_sendAll_81 : decode cX4_sendAll 81 = .ok (.aload_n 0, 1) := by decide +kernel
theorem dX4_sendAll_82 : decode cX4_sendAll 82 = .ok (.invokevirtual 57, 3) := by decide +kernel
theorem dX4_sendAll_85 : decode cX4_sendAll 85 = .ok (.return_, 1) := by decide +kernel
set_option maxRecDepth 20000 in
theorem ggX4_sendStart_X5_hasMarks : GoodIn wsX4_sendStart wsX5_hasMarks := goodIn_r _ [8, 9, 10, 34, 35, 36, 37, 38] (by decide +kernel) (by decide +kernel)
set_option maxRecDepth 20000 in
theorem gX4_sendStart_X5_hasMarks : GoodIn wsX4_sendStart (wsV RX4 60 RX5 yX5_hasMarks wsX5_hasMarks) := goodIn_app (goodIn_of _ (by decide +kernel)) ggX4_sendStart_X5_hasMarks
set_option maxRecDepth 20000 in
theorem ggX4_sendStart_X1_alignFor : GoodIn wsX4_sendStart wsX1_alignFor := goodIn_ca (goodIn_r _ [15, 16, 17, 18, 19, 14, 20, 21, 39, 40] (by decide +kernel) (by decide +kernel)) (goodIn_sub (fun _ h => List.mem_cons_of_mem _ (List.mem_append_right _ h)) (by decide +kernel))
set_option maxRecDepth 20000 in
theorem gX4_sendStart_X1_alignFor : GoodIn wsX4_sendStart (wsV RX4 68 RX1 yX1_alignFor wsX1_alignFor) := goodIn_app (goodIn_of _ (by decide +kernel)) ggX4_sendStart_X1_alignFor
set_option maxRecDepth 20000 in
theorem ggX4_sendStart_X4_sendMark : GoodIn wsX4_sendStart wsX4_sendMark := goodIn_ca (goodIn_r _ [26, 3, 1, 27, 28, 18, 19, 14, 20, 16, 21, 29, 30, 31, 32, 33, 34, 35, 36, 37, 38, 39, 40] (by decide +kernel) (by decide +kernel)) (goodIn_sub (fun _ h => List.mem_cons_of_mem _ (List.mem_append_right _ h)) (by decide +kernel))
set_option maxRecDepth 20000 in
theorem gX4_sendStart_X4_sendMark : GoodIn wsX4_sendStart (wsV RX4 71 RX4 yX4_sendMark wsX4_sendMark) := goodIn_app (goodIn_of _ (by decide +kernel)) ggX4_sendStart_X4_sendMark
theorem dX4_sendStart_0 : decode cX4_sendStart 0 = .ok (.aload_n 0, 1) := by decide +kernel
theorem dX4_sendStart_1 : decode cX4_sendStart 1 = .ok (.getfield 9, 3) := by decide +kernel
theorem dX4_sendStart_4 : decode cX4_sendStart 4 = .ok (.invokevirtual 60, 3) := by decide +kernel
theorem dX4_sendStart_7 : decode cX4_sendStart 7 = .ok (.ifCond .ne 22, 3) := by decide +kernel
theorem dX4_sendStart_10 : decode cX4_sendStart 10 = .ok (.aload_n 0, 1) := by decide +kernel
theorem dX4_sendStart_11 : decode cX4_sendStart 11 = .ok (.getfield 9, 3) := by decide +kernel
theorem dX4_sendStart_14 : decode cX4_sendStart 14 = .ok (.getfield 64, 3) := by decide +kernel
theorem dX4_sendStart_17 : decode cX4_sendStart 17 = .ok (.ifCond .eq 11, 3) := by decide +kernel
theorem dX4_sendStart_20 : decode cX4_sendStart 20 = .ok (.aload_n 0, 1) := by decide +kernel
theorem dX4_sendStart_21 : decode cX4_sendStart 21 = .ok (.getfield 26, 3) := by decide +kernel
theorem dX4_sendStart_24 : decode cX4_sendStart 24 = .ok (.iconst 0, 1) := by decide +kernel
theorem dX4_sendStart_25 : decode cX4_sendStart 25 = .ok (.invokevirtual 68, 3) := by decide +kernel
theorem dX4_sendStart_28 : decode cX4_sendStart 28 = .ok (.return_, 1) := by decide +kernel
theorem dX4_sendStart_29 : decode cX4_sendStart 29 = .ok (.aload_n 0, 1) := by decide +kernel
theorem dX4_sendStart_30 : decode cX4_sendStart 30 = .ok (.getfield 9, 3) := by decide +kernel
theorem dX4_sendStart_33 : decode cX4_sendStart 33 = .ok (.getfield 64, 3) := by decide +kernel
theorem dX4_sendStart_36 : decode cX4_sendStart 36 = .ok (.ifCond .eq 12, 3) := by decide +kernel
theorem dX4_sendStart_39 : decode cX4_sendStart 39 = .ok (.aload_n 0, 1) := by decide +kernel
theorem dX4_sendStart_40 : decode cX4_sendStart 40 = .ok (.getfield 26, 3) := by decide +kernel
theorem dX4_sendStart_43 : decode cX4_sendStart 43 = .ok (.bipush 12, 2) := by decide +kernel
theorem dX4_sendStart_45 : decode cX4_sendStart 45 = .ok (.invokevirtual 68, 3) := by decide +kernel
theorem dX4_sendStart_48 : decode cX4_sendStart 48 = .ok (.aload_n 0, 1) := by decide +kernel
theorem dX4_sendStart_49 : decode cX4_sendStart 49 = .ok (.iload_n 1, 1) := by decide +kernel
theorem dX4_sendStart_50 : decode cX4_sendStart 50 = .ok (.invokevirtual 71, 3) := by decide +kernel
theorem dX4_sendStart_53 : decode cX4_sendStart 53 = .ok (.return_, 1) := by decide +kernel
set_option maxRecDepth 20000 in
theorem ggX4_sendMark_X1_send : GoodIn wsX4_sendMark wsX1_send := goodIn_ca (goodIn_r _ [8, 9, 10, 21, 22] (by decide +kernel) (by decide +kernel)) (goodIn_sub (fun _ h => List.mem_cons_of_mem _ (List.mem_append_right _ h)) (by decide +kernel))
set_option maxRecDepth 20000 in
theorem gX4_sendMark_X1_send : GoodIn wsX4_sendMark (wsV RX4 74 RX1 yX1_send wsX1_send) := goodIn_app (goodIn_of _ (by decide +kernel)) ggX4_sendMark_X1_send
theorem dX4_sendMark_0 : decode cX4_sendMark 0 = .ok (.aload_n 0, 1) := by decide +kernel
theorem dX4_sendMark_1 : decode cX4_sendMark 1 = .ok (.getfield 26, 3) := by decide +kernel
theorem dX4_sendMark_4 : decode cX4_sendMark 4 = .ok (.iconst 1, 1) := by decide +kernel
theorem dX4_sendMark_5 : decode cX4_sendMark 5 = .ok (.bipush 12, 2) := by decide +kernel
theorem dX4_sendMark_7 : decode cX4_sendMark 7 = .ok (.invokevirtual 74, 3) := by decide +kernel
theorem dX4_sendMark_10 : decode cX4_sendMark 10 = .ok (.aload_n 0, 1) := by decide +kernel
theorem dX4_sendMark_11 : decode cX4_sendMark 11 = .ok (.getfield 9, 3) := by decide +kernel
theorem dX4_sendMark_14 : decode cX4_sendMark 14 = .ok (.getfield 41, 3) := by decide +kernel
theorem dX4_sendMark_17 : decode cX4_sendMark 17 = .ok (.iconst 1, 1) := by decide +kernel
theorem dX4_sendMark_18 : decode cX4_sendMark 18 = .ok (.if_icmp .ne 20, 3) := by decide +kernel
theorem dX4_sendMark_21 : decode cX4_sendMark 21 = .ok (.aload_n 0, 1) := by decide +kernel
theorem dX4_sendMark_22 : decode cX4_sendMark 22 = .ok (.getfield 26, 3) := by decide +kernel
theorem dX4_sendMark_25 : decode cX4_sendMark 25 = .ok (.iload_n 1, 1) := by decide +kernel
theorem dX4_sendMark_26 : decode cX4_sendMark 26 = .ok (.ifCond .eq 7, 3) := by decide +kernel
theorem dX4_sendMark_29 : decode cX4_sendMark 29 = .ok (.iconst 1, 1) := by decide +kernel
theorem dX4_sendMark_30 : decode cX4_sendMark 30 = .ok (.goto 4, 3) := by decide +kernel
theorem dX4_sendMark_33 : decode cX4_sendMark 33 = .ok (.iconst 0, 1) := by decide +kernel
theorem dX4_sendMark_34 : decode cX4_sendMark 34 = .ok (.iconst 1, 1) := by decide +kernel
theorem dX4_sendMark_35 : decode cX4_sendMark 35 = .ok (.invokevirtual 74, 3) := by decide +kernel
theorem dX4_sendMark_38 : decode cX4_sendMark 38 = .ok (.return_, 1) := by decide +kernel
set_option maxRecDepth 20000 in
theorem ggX4_sendEnd_X1_alignFor : GoodIn wsX4_sendEnd wsX1_alignFor := goodIn_ca (goodIn_r _ [9, 10, 11, 12, 13, 8, 14, 15, 39, 40] (by decide +kernel) (by decide +kernel)) (goodIn_sub (fun _ h => List.mem_cons_of_mem _ (List.mem_append_right _ h)) (by decide +kernel))
set_option maxRecDepth 20000 in
theorem gX4_sendEnd_X1_alignFor : GoodIn wsX4_sendEnd (wsV RX4 68 RX1 yX1_alignFor wsX1_alignFor) := goodIn_app (goodIn_of _ (by decide +kernel)) ggX4_sendEnd_X1_alignFor
set_option maxRecDepth 20000 in
theorem ggX4_sendEnd_X5_hasMarks : GoodIn wsX4_sendEnd wsX5_hasMarks := goodIn_r _ [20, 21, 22, 34, 35, 36, 37, 38] (by decide +kernel) (by decide +kernel)
set_option maxRecDepth 20000 in
theorem gX4_sendEnd_X5_hasMarks : GoodIn wsX4_sendEnd (wsV RX4 60 RX5 yX5_hasMarks wsX5_hasMarks) := goodIn_app (goodIn_of _ (by decide +kernel)) ggX4_sendEnd_X5_hasMarks
set_option maxRecDepth 20000 in
theorem ggX4_sendEnd_X4_sendMark : GoodIn wsX4_sendEnd wsX4_sendMark := goodIn_ca (goodIn_r _ [27, 4, 1, 2, 28, 12, 13, 8, 14, 10, 15, 29, 30, 31, 32, 33, 34, 35, 36, 37, 38, 39, 40] (by decide +kernel) (by decide +kernel)) (goodIn_sub (fun _ h => List.mem_cons_of_mem _ (List.mem_append_right _ h)) (by decide +kernel))
set_option maxRecDepth 20000 in
theorem gX4_sendEnd_X4_sendMark : GoodIn wsX4_sendEnd (wsV RX4 71 RX4 yX4_sendMark wsX4_sendMark) := goodIn_app (goodIn_of _ (by decide +kernel)) ggX4_sendEnd_X4_sendMark
theorem dX4_sendEnd_0 : decode cX4_sendEnd 0 = .ok (.aload_n 0, 1) := by decide +kernel
theorem dX4_sendEnd_1 : decode cX4_sendEnd 1 = .ok (.getfield 9, 3) := by decide +kernel
theorem dX4_sendEnd_4 : decode cX4_sendEnd 4 = .ok (.getfield 41, 3) := by decide +kernel
theorem dX4_sendEnd_7 : decode cX4_sendEnd 7 = .ok (.iconst 2, 1) := by decide +kernel
theorem dX4_sendEnd_8 : decode cX4_sendEnd 8 = .ok (.if_icmp .ne 21, 3) := by decide +kernel
theorem dX4_sendEnd_11 : decode cX4_sendEnd 11 = .ok (.aload_n 0, 1) := by decide +kernel
theorem dX4_sendEnd_12 : decode cX4_sendEnd 12 = .ok (.getfield 9, 3) := by decide +kernel
theorem dX4_sendEnd_15 : decode cX4_sendEnd 15 = .ok (.getfield 64, 3) := by decide +kernel
theorem dX4_sendEnd_18 : decode cX4_sendEnd 18 = .ok (.ifCond .eq 11, 3) := by decide +kernel
theorem dX4_sendEnd_21 : decode cX4_sendEnd 21 = .ok (.aload_n 0, 1) := by decide +kernel
theorem dX4_sendEnd_22 : decode cX4_sendEnd 22 = .ok (.getfield 26, 3) := by decide +kernel
theorem dX4_sendEnd_25 : decode cX4_sendEnd 25 = .ok (.iconst 0, 1) := by decide +kernel
theorem dX4_sendEnd_26 : decode cX4_sendEnd 26 = .ok (.invokevirtual 68, 3) := by decide +kernel
theorem dX4_sendEnd_29 : decode cX4_sendEnd 29 = .ok (.aload_n 0, 1) := by decide +kernel
theorem dX4_sendEnd_30 : decode cX4_sendEnd 30 = .ok (.getfield 9, 3) := by decide +kernel
theorem dX4_sendEnd_33 : decode cX4_sendEnd 33 = .ok (.invokevirtual 60, 3) := by decide +kernel
theorem dX4_sendEnd_36 : decode cX4_sendEnd 36 = .ok (.ifCond .eq 8, 3) := by decide +kernel
theorem dX4_sendEnd_39 : decode cX4_sendEnd 39 = .ok (.bipush 6, 2) := by decide +kernel
theorem dX4_sendEnd_41 : decode cX4_sendEnd 41 = .ok (.goto 4, 3) := by decide +kernel
theorem dX4_sendEnd_44 : decode cX4_sendEnd 44 = .ok (.iconst 0, 1) := by decide +kernel
theorem dX4_sendEnd_45 : decode cX4_sendEnd 45 = .ok (.istore_n 1, 1) := by decide +kernel
theorem dX4_sendEnd_46 : decode cX4_sendEnd 46 = .ok (.aload_n 0, 1) := by decide +kernel
theorem dX4_sendEnd_47 : decode cX4_sendEnd 47 = .ok (.getfield 9, 3) := by decide +kernel
theorem dX4_sendEnd_50 : decode cX4_sendEnd 50 = .ok (.getfield 41, 3) := by decide +kernel
theorem dX4_sendEnd_53 : decode cX4_sendEnd 53 = .ok (.iconst 2, 1) := by decide +kernel
theorem dX4_sendEnd_54 : decode cX4_sendEnd 54 = .ok (.if_icmp .ne 5, 3) := by decide +kernel
theorem dX4_sendEnd_57 : decode cX4_sendEnd 57 = .ok (.iconst 2, 1) := by decide +kernel
theorem dX4_sendEnd_58 : decode cX4_sendEnd 58 = .ok (.istore_n 1, 1) := by decide +kernel
theorem dX4_sendEnd_59 : decode cX4_sendEnd 59 = .ok (.iconst 0, 1) := by decide +kernel
theorem dX4_sendEnd_60 : decode cX4_sendEnd 60 = .ok (.istore_n 2, 1) := by decide +kernel
theorem dX4_sendEnd_61 : decode cX4_sendEnd 61 = .ok (.iload_n 2, 1) := by decide +kernel
theorem dX4_sendEnd_62 : decode cX4_sendEnd 62 = .ok (.iload_n 1, 1) := by decide +kernel
theorem dX4_sendEnd_63 : decode cX4_sendEnd 63 = .ok (.if_icmp .ge 14, 3) := by decide +kernel
theorem dX4_sendEnd_66 : decode cX4_sendEnd 66 = .ok (.aload_n 0, 1) := by decide +kernel
theorem dX4_sendEnd_67 : decode cX4_sendEnd 67 = .ok (.iconst 1, 1) := by decide +kernel
theorem dX4_sendEnd_68 : decode cX4_sendEnd 68 = .ok (.invokevirtual 71, 3) := by decide +kernel
theorem dX4_sendEnd_71 : decode cX4_sendEnd 71 = .ok (.iinc 2 1, 3) := by decide +kernel
theorem dX4_sendEnd_74 : decode cX4_sendEnd 74 = .ok (.goto (-13), 3) := by decide +kernel
theorem dX4_sendEnd_77 : decode cX4_sendEnd 77 = .ok (.aload_n 0, 1) := by decide +kernel
theorem dX4_sendEnd_78 : decode cX4_sendEnd 78 = .ok (.getfield 26, 3) := by decide +kernel
theorem dX4_sendEnd_81 : decode cX4_sendEnd 81 = .ok (.iconst 0, 1) := by decide +kernel
theorem dX4_sendEnd_82 : decode cX4_sendEnd 82 = .ok (.invokevirtual 68, 3) := by decide +kernel
theorem dX4_sendEnd_85 : decode cX4_sendEnd 85 = .ok (.return_, 1) := by decide +kernel
set_option maxRecDepth 20000 in
theorem ggX4_sendPlain_X2_nextOf : GoodIn wsX4_sendPlain wsX2_nextOf := goodIn_ca (goodIn_r _ [7, 8, 9, 10, 11, 12, 13, 14, 15, 16, 17, 18, 19, 6, 20, 21, 22, 23, 24, 25, 26, 27, 28, 29, 30, 31, 32, 33, 68, 69, 70, 71, 72] (by decide +kernel) (by decide +kernel)) (goodIn_sub (fun _ h => List.mem_cons_of_mem _ (List.mem_append_right _ h)) (by decide +kernel))
set_option maxRecDepth 20000 in
theorem gX4_sendPlain_X2_nextOf : GoodIn wsX4_sendPlain (wsV RX4 81 RX2 yX2_nextOf wsX2_nextOf) := goodIn_app (goodIn_of _ (by decide +kernel)) ggX4_sendPlain_X2_nextOf
set_option maxRecDepth 20000 in
theorem ggX4_sendPlain_X4_sendRun : GoodIn wsX4_sendPlain wsX4_sendRun := goodIn_ca (goodIn_r _ [38, 39, 40, 41, 42, 43, 44, 45, 46, 47, 48, 49, 50, 51, 52, 53, 54, 55, 56, 57, 58, 59, 60, 61, 62, 63, 64, 65, 66, 67, 73, 74, 75, 76, 77, 78] (by decide +kernel) (by decide +kernel)) (goodIn_sub (fun _ h => List.mem_cons_of_mem _ (List.mem_append_right _ h)) (by decide +kernel))
set_option maxRecDepth 20000 in
theorem gX4_sendPlain_X4_sendRun : GoodIn wsX4_sendPlain (wsV RX4 85 RX4 yX4_sendRun wsX4_sendRun) := goodIn_app (goodIn_of _ (by decide +kernel)) ggX4_sendPlain_X4_sendRun
theorem dX4_sendPlain_0 : decode cX4_sendPlain 0 = .ok (.iconst 0, 1) := by decide +kernel
theorem dX4_sendPlain_1 : decode cX4_sendPlain 1 = .ok (.istore_n 2, 1) := by decide +kernel
theorem dX4_sendPlain_2 : decode cX4_sendPlain 2 = .ok (.iconst 0, 1) := by decide +kernel
theorem dX4_sendPlain_3 : decode cX4_sendPlain 3 = .ok (.istore_n 3, 1) := by decide +kernel
theorem dX4_sendPlain_4 : decode cX4_sendPlain 4 = .ok (.iconst 0, 1) := by decide +kernel
theorem dX4_sendPlain_5 : decode cX4_sendPlain 5 = .ok (.istore 4, 2) := by decide +kernel
theorem dX4_sendPlain_7 : decode cX4_sendPlain 7 = .ok (.iload_n 2, 1) := by decide +kernel
theorem dX4_sendPlain_8 : decode cX4_sendPlain 8 = .ok (.aload_n 0, 1) := by decide +kernel
theorem dX4_sendPlain_9 : decode cX4_sendPlain 9 = .ok (.getfield 15, 3) := by decide +kernel
theorem dX4_sendPlain_12 : decode cX4_sendPlain 12 = .ok (.getfield 78, 3) := by decide +kernel
theorem dX4_sendPlain_15 : decode cX4_sendPlain 15 = .ok (.if_icmp .ge 63, 3) := by decide +kernel
theorem dX4_sendPlain_18 : decode cX4_sendPlain 18 = .ok (.iload 4, 2) := by decide +kernel
theorem dX4_sendPlain_20 : decode cX4_sendPlain 20 = .ok (.aload_n 0, 1) := by decide +kernel
theorem dX4_sendPlain_21 : decode cX4_sendPlain 21 = .ok (.getfield 15, 3) := by decide +kernel
theorem dX4_sendPlain_24 : decode cX4_sendPlain 24 = .ok (.getfield 78, 3) := by decide +kernel
theorem dX4_sendPlain_27 : decode cX4_sendPlain 27 = .ok (.if_icmp .gt 51, 3) := by decide +kernel
theorem dX4_sendPlain_30 : decode cX4_sendPlain 30 = .ok (.aload_n 0, 1) := by decide +kernel
theorem dX4_sendPlain_31 : decode cX4_sendPlain 31 = .ok (.getfield 15, 3) := by decide +kernel
theorem dX4_sendPlain_34 : decode cX4_sendPlain 34 = .ok (.iload_n 1, 1) := by decide +kernel
theorem dX4_sendPlain_35 : decode cX4_sendPlain 35 = .ok (.iload_n 2, 1) := by decide +kernel
theorem dX4_sendPlain_36 : decode cX4_sendPlain 36 = .ok (.iload_n 3, 1) := by decide +kernel
theorem dX4_sendPlain_37 : decode cX4_sendPlain 37 = .ok (.ifCond .ne 7, 3) := by decide +kernel
theorem dX4_sendPlain_40 : decode cX4_sendPlain 40 = .ok (.iconst 1, 1) := by decide +kernel
theorem dX4_sendPlain_41 : decode cX4_sendPlain 41 = .ok (.goto 4, 3) := by decide +kernel
theorem dX4_sendPlain_44 : decode cX4_sendPlain 44 = .ok (.iconst 0, 1) := by decide +kernel
theorem dX4_sendPlain_45 : decode cX4_sendPlain 45 = .ok (.invokevirtual 81, 3) := by decide +kernel
theorem dX4_sendPlain_48 : decode cX4_sendPlain 48 = .ok (.istore 5, 2) := by decide +kernel
theorem dX4_sendPlain_50 : decode cX4_sendPlain 50 = .ok (.aload_n 0, 1) := by decide +kernel
theorem dX4_sendPlain_51 : decode cX4_sendPlain 51 = .ok (.iload 5, 2) := by decide +kernel
theorem dX4_sendPlain_53 : decode cX4_sendPlain 53 = .ok (.iload_n 2, 1) := by decide +kernel
theorem dX4_sendPlain_54 : decode cX4_sendPlain 54 = .ok (.isub, 1) := by decide +kernel
theorem dX4_sendPlain_55 : decode cX4_sendPlain 55 = .ok (.iload_n 3, 1) := by decide +kernel
theorem dX4_sendPlain_56 : decode cX4_sendPlain 56 = .ok (.invokevirtual 85, 3) := by decide +kernel
theorem dX4_sendPlain_59 : decode cX4_sendPlain 59 = .ok (.iload 5, 2) := by decide +kernel
theorem dX4_sendPlain_61 : decode cX4_sendPlain 61 = .ok (.istore_n 2, 1) := by decide +kernel
theorem dX4_sendPlain_62 : decode cX4_sendPlain 62 = .ok (.iload_n 3, 1) := by decide +kernel
theorem dX4_sendPlain_63 : decode cX4_sendPlain 63 = .ok (.ifCond .ne 7, 3) := by decide +kernel
theorem dX4_sendPlain_66 : decode cX4_sendPlain 66 = .ok (.iconst 1, 1) := by decide +kernel
theorem dX4_sendPlain_67 : decode cX4_sendPlain 67 = .ok (.goto 4, 3) := by decide +kernel
theorem dX4_sendPlain_70 : decode cX4_sendPlain 70 = .ok (.iconst 0, 1) := by decide +kernel
theorem dX4_sendPlain_71 : decode cX4_sendPlain 71 = .ok (.istore_n 3, 1) := by decide +kernel
theorem dX4_sendPlain_72 : decode cX4_sendPlain 72 = .ok (.iinc 4 1, 3) := by decide +kernel
theorem dX4_sendPlain_75 : decode cX4_sendPlain 75 = .ok (.goto (-68), 3) := by decide +kernel
theorem dX4_sendPlain_78 : decode cX4_sendPlain 78 = .ok (.return_, 1) := by decide +kernel
set_option maxRecDepth 20000 in
theorem ggX4_sendDrawn_X2_changeTo : GoodIn wsX4_sendDrawn wsX2_changeTo := goodIn_ca (goodIn_r _ [7, 8, 9, 10, 6, 11, 12, 13, 14, 15, 16, 17, 18, 19, 20, 21, 22, 23, 24, 25, 26, 27, 28, 29, 30, 31, 32, 33, 34, 35, 36, 37, 38, 39, 40, 41, 81, 82, 83, 84, 85] (by decide +kernel) (by decide +kernel)) (goodIn_sub (fun _ h => List.mem_cons_of_mem _ (List.mem_append_right _ h)) (by decide +kernel))
set_option maxRecDepth 20000 in
theorem gX4_sendDrawn_X2_changeTo : GoodIn wsX4_sendDrawn (wsV RX4 89 RX2 yX2_changeTo wsX2_changeTo) := goodIn_app (goodIn_of _ (by decide +kernel)) ggX4_sendDrawn_X2_changeTo
set_option maxRecDepth 20000 in
theorem ggX4_sendDrawn_X2_nextOf : GoodIn wsX4_sendDrawn wsX2_nextOf := goodIn_ca (goodIn_r _ [26, 27, 28, 29, 30, 12, 31, 32, 33, 34, 13, 14, 15, 6, 16, 17, 18, 19, 20, 21, 22, 35, 36, 37, 38, 39, 40, 41, 81, 82, 83, 84, 85] (by decide +kernel) (by decide +kernel)) (goodIn_sub (fun _ h => List.mem_cons_of_mem _ (List.mem_append_right _ h)) (by decide +kernel))
set_option maxRecDepth 20000 in
theorem gX4_sendDrawn_X2_nextOf : GoodIn wsX4_sendDrawn (wsV RX4 81 RX2 yX2_nextOf wsX2_nextOf) := goodIn_app (goodIn_of _ (by decide +kernel)) ggX4_sendDrawn_X2_nextOf
set_option maxRecDepth 20000 in
theorem ggX4_sendDrawn_X4_sendWay : GoodIn wsX4_sendDrawn wsX4_sendWay := goodIn_ca (goodIn_r _ [47, 48, 49, 50, 51, 52, 53, 54, 55, 76, 77, 78, 79, 80, 86, 87] (by decide +kernel) (by decide +kernel)) (goodIn_sub (fun _ h => List.mem_cons_of_mem _ (List.mem_append_right _ h)) (by decide +kernel))
set_option maxRecDepth 20000 in
theorem gX4_sendDrawn_X4_sendWay : GoodIn wsX4_sendDrawn (wsV RX4 92 RX4 yX4_sendWay wsX4_sendWay) := goodIn_app (goodIn_of _ (by decide +kernel)) ggX4_sendDrawn_X4_sendWay
set_option maxRecDepth 20000 in
theorem ggX4_sendDrawn_X4_sendRun : GoodIn wsX4_sendDrawn wsX4_sendRun := goodIn_ca (goodIn_r _ [59, 60, 61, 48, 62, 63, 64, 65, 66, 67, 68, 69, 70, 71, 72, 73, 74, 75, 49, 50, 51, 52, 53, 54, 55, 76, 77, 78, 79, 80, 88, 89, 90, 91, 86, 87] (by decide +kernel) (by decide +kernel)) (goodIn_sub (fun _ h => List.mem_cons_of_mem _ (List.mem_append_right _ h)) (by decide +kernel))
set_option maxRecDepth 20000 in
theorem gX4_sendDrawn_X4_sendRun : GoodIn wsX4_sendDrawn (wsV RX4 85 RX4 yX4_sendRun wsX4_sendRun) := goodIn_app (goodIn_of _ (by decide +kernel)) ggX4_sendDrawn_X4_sendRun
theorem dX4_sendDrawn_0 : decode cX4_sendDrawn 0 = .ok (.iconst 0, 1) := by decide +kernel
theorem dX4_sendDrawn_1 : decode cX4_sendDrawn 1 = .ok (.istore_n 2, 1) := by decide +kernel
theorem dX4_sendDrawn_2 : decode cX4_sendDrawn 2 = .ok (.iconst 0, 1) := by decide +kernel
theorem dX4_sendDrawn_3 : decode cX4_sendDrawn 3 = .ok (.istore_n 3, 1) := by decide +kernel
theorem dX4_sendDrawn_4 : decode cX4_sendDrawn 4 = .ok (.iconst 0, 1) := by decide +kernel
theorem dX4_sendDrawn_5 : decode cX4_sendDrawn 5 = .ok (.istore 4, 2) := by decide +kernel
theorem dX4_sendDrawn_7 : decode cX4_sendDrawn 7 = .ok (.iload_n 2, 1) := by decide +kernel
theorem dX4_sendDrawn_8 : decode cX4_sendDrawn 8 = .ok (.aload_n 0, 1) := by decide +kernel
theorem dX4_sendDrawn_9 : decode cX4_sendDrawn 9 = .ok (.getfield 15, 3) := by decide +kernel
theorem dX4_sendDrawn_12 : decode cX4_sendDrawn 12 = .ok (.getfield 78, 3) := by decide +kernel
theorem dX4_sendDrawn_15 : decode cX4_sendDrawn 15 = .ok (.if_icmp .ge 202, 3) := by decide +kernel
theorem dX4_sendDrawn_18 : decode cX4_sendDrawn 18 = .ok (.iload 4, 2) := by decide +kernel
theorem dX4_sendDrawn_20 : decode cX4_sendDrawn 20 = .ok (.aload_n 0, 1) := by decide +kernel
theorem dX4_sendDrawn_21 : decode cX4_sendDrawn 21 = .ok (.getfield 15, 3) := by decide +kernel
theorem dX4_sendDrawn_24 : decode cX4_sendDrawn 24 = .ok (.getfield 78, 3) := by decide +kernel
theorem dX4_sendDrawn_27 : decode cX4_sendDrawn 27 = .ok (.if_icmp .gt 190, 3) := by decide +kernel
theorem dX4_sendDrawn_30 : decode cX4_sendDrawn 30 = .ok (.aload_n 0, 1) := by decide +kernel
theorem dX4_sendDrawn_31 : decode cX4_sendDrawn 31 = .ok (.getfield 15, 3) := by decide +kernel
theorem dX4_sendDrawn_34 : decode cX4_sendDrawn 34 = .ok (.iload_n 1, 1) := by decide +kernel
theorem dX4_sendDrawn_35 : decode cX4_sendDrawn 35 = .ok (.iconst 1, 1) := by decide +kernel
theorem dX4_sendDrawn_36 : decode cX4_sendDrawn 36 = .ok (.isub, 1) := by decide +kernel
theorem dX4_sendDrawn_37 : decode cX4_sendDrawn 37 = .ok (.iload 4, 2) := by decide +kernel
theorem dX4_sendDrawn_39 : decode cX4_sendDrawn 39 = .ok (.ifCond .ne 7, 3) := by decide +kernel
theorem dX4_sendDrawn_42 : decode cX4_sendDrawn 42 = .ok (.iload_n 2, 1) := by decide +kernel
theorem dX4_sendDrawn_43 : decode cX4_sendDrawn 43 = .ok (.goto 6, 3) := by decide +kernel
theorem dX4_sendDrawn_46 : decode cX4_sendDrawn 46 = .ok (.iload_n 2, 1) := by decide +kernel
theorem dX4_sendDrawn_47 : decode cX4_sendDrawn 47 = .ok (.iconst 1, 1) := by decide +kernel
theorem dX4_sendDrawn_48 : decode cX4_sendDrawn 48 = .ok (.iadd, 1) := by decide +kernel
theorem dX4_sendDrawn_49 : decode cX4_sendDrawn 49 = .ok (.iload_n 3, 1) := by decide +kernel
theorem dX4_sendDrawn_50 : decode cX4_sendDrawn 50 = .ok (.ifCond .ne 7, 3) := by decide +kernel
theorem dX4_sendDrawn_53 : decode cX4_sendDrawn 53 = .ok (.iconst 1, 1) := by decide +kernel
theorem dX4_sendDrawn_54 : decode cX4_sendDrawn 54 = .ok (.goto 4, 3) := by decide +kernel
theorem dX4_sendDrawn_57 : decode cX4_sendDrawn 57 = .ok (.iconst 0, 1) := by decide +kernel
theorem dX4_sendDrawn_58 : decode cX4_sendDrawn 58 = .ok (.invokevirtual 89, 3) := by decide +kernel
theorem dX4_sendDrawn_61 : decode cX4_sendDrawn 61 = .ok (.istore 5, 2) := by decide +kernel
theorem dX4_sendDrawn_63 : decode cX4_sendDrawn 63 = .ok (.aload_n 0, 1) := by decide +kernel
theorem dX4_sendDrawn_64 : decode cX4_sendDrawn 64 = .ok (.getfield 15, 3) := by decide +kernel
theorem dX4_sendDrawn_67 : decode cX4_sendDrawn 67 = .ok (.iload_n 1, 1) := by decide +kernel
theorem dX4_sendDrawn_68 : decode cX4_sendDrawn 68 = .ok (.iconst 1, 1) := by decide +kernel
theorem dX4_sendDrawn_69 : decode cX4_sendDrawn 69 = .ok (.isub, 1) := by decide +kernel
theorem dX4_sendDrawn_70 : decode cX4_sendDrawn 70 = .ok (.iload 5, 2) := by decide +kernel
theorem dX4_sendDrawn_72 : decode cX4_sendDrawn 72 = .ok (.iload_n 3, 1) := by decide +kernel
theorem dX4_sendDrawn_73 : decode cX4_sendDrawn 73 = .ok (.invokevirtual 81, 3) := by decide +kernel
theorem dX4_sendDrawn_76 : decode cX4_sendDrawn 76 = .ok (.istore 6, 2) := by decide +kernel
theorem dX4_sendDrawn_78 : decode cX4_sendDrawn 78 = .ok (.aload_n 0, 1) := by decide +kernel
theorem dX4_sendDrawn_79 : decode cX4_sendDrawn 79 = .ok (.getfield 15, 3) := by decide +kernel
theorem dX4_sendDrawn_82 : decode cX4_sendDrawn 82 = .ok (.iload_n 1, 1) := by decide +kernel
theorem dX4_sendDrawn_83 : decode cX4_sendDrawn 83 = .ok (.iload_n 2, 1) := by decide +kernel
theorem dX4_sendDrawn_84 : decode cX4_sendDrawn 84 = .ok (.iload_n 3, 1) := by decide +kernel
theorem dX4_sendDrawn_85 : decode cX4_sendDrawn 85 = .ok (.ifCond .ne 7, 3) := by decide +kernel
theorem dX4_sendDrawn_88 : decode cX4_sendDrawn 88 = .ok (.iconst 1, 1) := by decide +kernel
theorem dX4_sendDrawn_89 : decode cX4_sendDrawn 89 = .ok (.goto 4, 3) := by decide +kernel
theorem dX4_sendDrawn_92 : decode cX4_sendDrawn 92 = .ok (.iconst 0, 1) := by decide +kernel
theorem dX4_sendDrawn_93 : decode cX4_sendDrawn 93 = .ok (.invokevirtual 81, 3) := by decide +kernel
theorem dX4_sendDrawn_96 : decode cX4_sendDrawn 96 = .ok (.istore 7, 2) := by decide +kernel
theorem dX4_sendDrawn_98 : decode cX4_sendDrawn 98 = .ok (.iload 6, 2) := by decide +kernel
theorem dX4_sendDrawn_100 : decode cX4_sendDrawn 100 = .ok (.iload 7, 2) := by decide +kernel
theorem dX4_sendDrawn_102 : decode cX4_sendDrawn 102 = .ok (.if_icmp .ge 15, 3) := by decide +kernel
theorem dX4_sendDrawn_105 : decode cX4_sendDrawn 105 = .ok (.aload_n 0, 1) := by decide +kernel
theorem dX4_sendDrawn_106 : decode cX4_sendDrawn 106 = .ok (.bipush 7, 2) := by decide +kernel
theorem dX4_sendDrawn_108 : decode cX4_sendDrawn 108 = .ok (.invokevirtual 92, 3) := by decide +kernel
theorem dX4_sendDrawn_111 : decode cX4_sendDrawn 111 = .ok (.iload 6, 2) := by decide +kernel
theorem dX4_sendDrawn_113 : decode cX4_sendDrawn 113 = .ok (.istore_n 2, 1) := by decide +kernel
theorem dX4_sendDrawn_114 : decode cX4_sendDrawn 114 = .ok (.goto 97, 3) := by decide +kernel
theorem dX4_sendDrawn_117 : decode cX4_sendDrawn 117 = .ok (.iload 7, 2) := by decide +kernel
theorem dX4_sendDrawn_119 : decode cX4_sendDrawn 119 = .ok (.iload 5, 2) := by decide +kernel
theorem dX4_sendDrawn_121 : decode cX4_sendDrawn 121 = .ok (.iconst 3, 1) := by decide +kernel
theorem dX4_sendDrawn_122 : decode cX4_sendDrawn 122 = .ok (.isub, 1) := by decide +kernel
theorem dX4_sendDrawn_123 : decode cX4_sendDrawn 123 = .ok (.if_icmp .lt 39, 3) := by decide +kernel
theorem dX4_sendDrawn_126 : decode cX4_sendDrawn 126 = .ok (.iload 7, 2) := by decide +kernel
theorem dX4_sendDrawn_128 : decode cX4_sendDrawn 128 = .ok (.iload 5, 2) := by decide +kernel
theorem dX4_sendDrawn_130 : decode cX4_sendDrawn 130 = .ok (.iconst 3, 1) := by decide +kernel
theorem dX4_sendDrawn_131 : decode cX4_sendDrawn 131 = .ok (.iadd, 1) := by decide +kernel
theorem dX4_sendDrawn_132 : decode cX4_sendDrawn 132 = .ok (.if_icmp .gt 30, 3) := by decide +kernel
theorem dX4_sendDrawn_135 : decode cX4_sendDrawn 135 = .ok (.aload_n 0, 1) := by decide +kernel
theorem dX4_sendDrawn_136 : decode cX4_sendDrawn 136 = .ok (.iload 7, 2) := by decide +kernel
theorem dX4_sendDrawn_138 : decode cX4_sendDrawn 138 = .ok (.iload 5, 2) := by decide +kernel
theorem dX4_sendDrawn_140 : decode cX4_sendDrawn 140 = .ok (.isub, 1) := by decide +kernel
theorem dX4_sendDrawn_141 : decode cX4_sendDrawn 141 = .ok (.iconst 3, 1) := by decide +kernel
theorem dX4_sendDrawn_142 : decode cX4_sendDrawn 142 = .ok (.iadd, 1) := by decide +kernel
theorem dX4_sendDrawn_143 : decode cX4_sendDrawn 143 = .ok (.invokevirtual 92, 3) := by decide +kernel
theorem dX4_sendDrawn_146 : decode cX4_sendDrawn 146 = .ok (.iload 7, 2) := by decide +kernel
theorem dX4_sendDrawn_148 : decode cX4_sendDrawn 148 = .ok (.istore_n 2, 1) := by decide +kernel
theorem dX4_sendDrawn_149 : decode cX4_sendDrawn 149 = .ok (.iload_n 3, 1) := by decide +kernel
theorem dX4_sendDrawn_150 : decode cX4_sendDrawn 150 = .ok (.ifCond .ne 7, 3) := by decide +kernel
theorem dX4_sendDrawn_153 : decode cX4_sendDrawn 153 = .ok (.iconst 1, 1) := by decide +kernel
theorem dX4_sendDrawn_154 : decode cX4_sendDrawn 154 = .ok (.goto 4, 3) := by decide +kernel
theorem dX4_sendDrawn_157 : decode cX4_sendDrawn 157 = .ok (.iconst 0, 1) := by decide +kernel
theorem dX4_sendDrawn_158 : decode cX4_sendDrawn 158 = .ok (.istore_n 3, 1) := by decide +kernel
theorem dX4_sendDrawn_159 : decode cX4_sendDrawn 159 = .ok (.goto 52, 3) := by decide +kernel
theorem dX4_sendDrawn_162 : decode cX4_sendDrawn 162 = .ok (.aload_n 0, 1) := by decide +kernel
theorem dX4_sendDrawn_163 : decode cX4_sendDrawn 163 = .ok (.getfield 15, 3) := by decide +kernel
theorem dX4_sendDrawn_166 : decode cX4_sendDrawn 166 = .ok (.iload_n 1, 1) := by decide +kernel
theorem dX4_sendDrawn_167 : decode cX4_sendDrawn 167 = .ok (.iload 7, 2) := by decide +kernel
theorem dX4_sendDrawn_169 : decode cX4_sendDrawn 169 = .ok (.iload_n 3, 1) := by decide +kernel
theorem dX4_sendDrawn_170 : decode cX4_sendDrawn 170 = .ok (.invokevirtual 81, 3) := by decide +kernel
theorem dX4_sendDrawn_173 : decode cX4_sendDrawn 173 = .ok (.istore 8, 2) := by decide +kernel
theorem dX4_sendDrawn_175 : decode cX4_sendDrawn 175 = .ok (.aload_n 0, 1) := by decide +kernel
theorem dX4_sendDrawn_176 : decode cX4_sendDrawn 176 = .ok (.bipush 8, 2) := by decide +kernel
theorem dX4_sendDrawn_178 : decode cX4_sendDrawn 178 = .ok (.invokevirtual 92, 3) := by decide +kernel
theorem dX4_sendDrawn_181 : decode cX4_sendDrawn 181 = .ok (.aload_n 0, 1) := by decide +kernel
theorem dX4_sendDrawn_182 : decode cX4_sendDrawn 182 = .ok (.iload 7, 2) := by decide +kernel
theorem dX4_sendDrawn_184 : decode cX4_sendDrawn 184 = .ok (.iload_n 2, 1) := by decide +kernel
theorem dX4_sendDrawn_185 : decode cX4_sendDrawn 185 = .ok (.isub, 1) := by decide +kernel
theorem dX4_sendDrawn_186 : decode cX4_sendDrawn 186 = .ok (.iload_n 3, 1) := by decide +kernel
theorem dX4_sendDrawn_187 : decode cX4_sendDrawn 187 = .ok (.invokevirtual 85, 3) := by decide +kernel
theorem dX4_sendDrawn_190 : decode cX4_sendDrawn 190 = .ok (.aload_n 0, 1) := by decide +kernel
theorem dX4_sendDrawn_191 : decode cX4_sendDrawn 191 = .ok (.iload 8, 2) := by decide +kernel
theorem dX4_sendDrawn_193 : decode cX4_sendDrawn 193 = .ok (.iload 7, 2) := by decide +kernel
theorem dX4_sendDrawn_195 : decode cX4_sendDrawn 195 = .ok (.isub, 1) := by decide +kernel
theorem dX4_sendDrawn_196 : decode cX4_sendDrawn 196 = .ok (.iload_n 3, 1) := by decide +kernel
theorem dX4_sendDrawn_197 : decode cX4_sendDrawn 197 = .ok (.ifCond .ne 7, 3) := by decide +kernel
theorem dX4_sendDrawn_200 : decode cX4_sendDrawn 200 = .ok (.iconst 1, 1) := by decide +kernel
theorem dX4_sendDrawn_201 : decode cX4_sendDrawn 201 = .ok (.goto 4, 3) := by decide +kernel
theorem dX4_sendDrawn_204 : decode cX4_sendDrawn 204 = .ok (.iconst 0, 1) := by decide +kernel
theorem dX4_sendDrawn_205 : decode cX4_sendDrawn 205 = .ok (.invokevirtual 85, 3) := by decide +kernel
theorem dX4_sendDrawn_208 : decode cX4_sendDrawn 208 = .ok (.iload 8, 2) := by decide +kernel
theorem dX4_sendDrawn_210 : decode cX4_sendDrawn 210 = .ok (.istore_n 2, 1) := by decide +kernel
theorem dX4_sendDrawn_211 : decode cX4_sendDrawn 211 = .ok (.iinc 4 1, 3) := by decide +kernel
theorem dX4_sendDrawn_214 : decode cX4_sendDrawn 214 = .ok (.goto (-207), 3) := by decide +kernel
theorem dX4_sendDrawn_217 : decode cX4_sendDrawn 217 = .ok (.return_, 1) := by decide +kernel
set_option maxRecDepth 20000 in
theorem ggX4_sendWay_X1_send : GoodIn wsX4_sendWay wsX1_send := goodIn_ca (goodIn_r _ [6, 7, 8, 14, 15] (by decide +kernel) (by decide +kernel)) (goodIn_sub (fun _ h => List.mem_cons_of_mem _ (List.mem_append_right _ h)) (by decide +kernel))
set_option maxRecDepth 20000 in
theorem gX4_sendWay_X1_send : GoodIn wsX4_sendWay (wsV RX4 74 RX1 yX1_send wsX1_send) := goodIn_app (goodIn_of _ (by decide +kernel)) ggX4_sendWay_X1_send
theorem dX4_sendWay_0 : decode cX4_sendWay 0 = .ok (.iload_n 1, 1) := by decide +kernel
theorem dX4_sendWay_1 : decode cX4_sendWay 1 = .ok (.ifCond .lt 36, 3) := by decide +kernel
theorem dX4_sendWay_4 : decode cX4_sendWay 4 = .ok (.iload_n 1, 1) := by decide +kernel
theorem dX4_sendWay_5 : decode cX4_sendWay 5 = .ok (.getstatic 95, 3) := by decide +kernel
theorem dX4_sendWay_8 : decode cX4_sendWay 8 = .ok (.arraylength, 1) := by decide +kernel
theorem dX4_sendWay_9 : decode cX4_sendWay 9 = .ok (.if_icmp .ge 28, 3) := by decide +kernel
theorem dX4_sendWay_12 : decode cX4_sendWay 12 = .ok (.iload_n 1, 1) := by decide +kernel
theorem dX4_sendWay_13 : decode cX4_sendWay 13 = .ok (.getstatic 99, 3) := by decide +kernel
theorem dX4_sendWay_16 : decode cX4_sendWay 16 = .ok (.arraylength, 1) := by decide +kernel
theorem dX4_sendWay_17 : decode cX4_sendWay 17 = .ok (.if_icmp .ge 20, 3) := by decide +kernel
theorem dX4_sendWay_20 : decode cX4_sendWay 20 = .ok (.aload_n 0, 1) := by decide +kernel
theorem dX4_sendWay_21 : decode cX4_sendWay 21 = .ok (.getfield 26, 3) := by decide +kernel
theorem dX4_sendWay_24 : decode cX4_sendWay 24 = .ok (.getstatic 95, 3) := by decide +kernel
theorem dX4_sendWay_27 : decode cX4_sendWay 27 = .ok (.iload_n 1, 1) := by decide +kernel
theorem dX4_sendWay_28 : decode cX4_sendWay 28 = .ok (.iaload, 1) := by decide +kernel
theorem dX4_sendWay_29 : decode cX4_sendWay 29 = .ok (.getstatic 99, 3) := by decide +kernel
theorem dX4_sendWay_32 : decode cX4_sendWay 32 = .ok (.iload_n 1, 1) := by decide +kernel
theorem dX4_sendWay_33 : decode cX4_sendWay 33 = .ok (.iaload, 1) := by decide +kernel
theorem dX4_sendWay_34 : decode cX4_sendWay 34 = .ok (.invokevirtual 74, 3) := by decide +kernel
theorem dX4_sendWay_37 : decode cX4_sendWay 37 = .ok (.return_, 1) := by decide +kernel
set_option maxRecDepth 20000 in
theorem ggX4_sendRun_X6_slotOfMake : GoodIn wsX4_sendRun wsX6_slotOfMake := goodIn_r _ [7] (by decide +kernel) (by decide +kernel)
set_option maxRecDepth 20000 in
theorem gX4_sendRun_X6_slotOfMake : GoodIn wsX4_sendRun (va_wsS RX4 102 yX6_slotOfMake wsX6_slotOfMake) := goodIn_app (goodIn_of _ (by decide +kernel)) ggX4_sendRun_X6_slotOfMake
set_option maxRecDepth 20000 in
theorem ggX4_sendRun_X6_codeOf : GoodIn wsX4_sendRun wsX6_codeOf := goodIn_ca (goodIn_r _ [11, 12, 30, 31, 32, 33] (by decide +kernel) (by decide +kernel)) (goodIn_sub (fun _ h => List.mem_cons_of_mem _ (List.mem_append_right _ h)) (by decide +kernel))
set_option maxRecDepth 20000 in
theorem gX4_sendRun_X6_codeOf : GoodIn wsX4_sendRun (wsV RX4 108 RX6 yX6_codeOf wsX6_codeOf) := goodIn_app (goodIn_of _ (by decide +kernel)) ggX4_sendRun_X6_codeOf
set_option maxRecDepth 20000 in
theorem ggX4_sendRun_X6_bitsOf : GoodIn wsX4_sendRun wsX6_bitsOf := goodIn_ca (goodIn_r _ [16, 17, 30, 31, 32, 33] (by decide +kernel) (by decide +kernel)) (goodIn_sub (fun _ h => List.mem_cons_of_mem _ (List.mem_append_right _ h)) (by decide +kernel))
set_option maxRecDepth 20000 in
theorem gX4_sendRun_X6_bitsOf : GoodIn wsX4_sendRun (wsV RX4 111 RX6 yX6_bitsOf wsX6_bitsOf) := goodIn_app (goodIn_of _ (by decide +kernel)) ggX4_sendRun_X6_bitsOf
set_option maxRecDepth 20000 in
theorem ggX4_sendRun_X1_send : GoodIn wsX4_sendRun wsX1_send := goodIn_ca (goodIn_r _ [22, 23, 24, 34, 35] (by decide +kernel) (by decide +kernel)) (goodIn_sub (fun _ h => List.mem_cons_of_mem _ (List.mem_append_right _ h)) (by decide +kernel))
set_option maxRecDepth 20000 in
theorem gX4_sendRun_X1_send : GoodIn wsX4_sendRun (wsV RX4 74 RX1 yX1_send wsX1_send) := goodIn_app (goodIn_of _ (by decide +kernel)) ggX4_sendRun_X1_send
theorem dX4_sendRun_0 : decode cX4_sendRun 0 = .ok (.iload_n 2, 1) := by decide +kernel
theorem dX4_sendRun_1 : decode cX4_sendRun 1 = .ok (.ifCond .eq 10, 3) := by decide +kernel
theorem dX4_sendRun_4 : decode cX4_sendRun 4 = .ok (.aload_n 0, 1) := by decide +kernel
theorem dX4_sendRun_5 : decode cX4_sendRun 5 = .ok (.getfield 23, 3) := by decide +kernel
theorem dX4_sendRun_8 : decode cX4_sendRun 8 = .ok (.goto 7, 3) := by decide +kernel
theorem dX4_sendRun_11 : decode cX4_sendRun 11 = .ok (.aload_n 0, 1) := by decide +kernel
theorem dX4_sendRun_12 : decode cX4_sendRun 12 = .ok (.getfield 19, 3) := by decide +kernel
theorem dX4_sendRun_15 : decode cX4_sendRun 15 = .ok (.astore_n 3, 1) := by decide +kernel
theorem dX4_sendRun_16 : decode cX4_sendRun 16 = .ok (.iload_n 1, 1) := by decide +kernel
theorem dX4_sendRun_17 : decode cX4_sendRun 17 = .ok (.bipush 64, 2) := by decide +kernel
theorem dX4_sendRun_19 : decode cX4_sendRun 19 = .ok (.if_icmp .lt 28, 3) := by decide +kernel
theorem dX4_sendRun_22 : decode cX4_sendRun 22 = .ok (.iload_n 1, 1) := by decide +kernel
theorem dX4_sendRun_23 : decode cX4_sendRun 23 = .ok (.invokestatic 102, 3) := by decide +kernel
theorem dX4_sendRun_26 : decode cX4_sendRun 26 = .ok (.istore 4, 2) := by decide +kernel
theorem dX4_sendRun_28 : decode cX4_sendRun 28 = .ok (.aload_n 0, 1) := by decide +kernel
theorem dX4_sendRun_29 : decode cX4_sendRun 29 = .ok (.getfield 26, 3) := by decide +kernel
theorem dX4_sendRun_32 : decode cX4_sendRun 32 = .ok (.aload_n 3, 1) := by decide +kernel
theorem dX4_sendRun_33 : decode cX4_sendRun 33 = .ok (.iload 4, 2) := by decide +kernel
theorem dX4_sendRun_35 : decode cX4_sendRun 35 = .ok (.invokevirtual 108, 3) := by decide +kernel
theorem dX4_sendRun_38 : decode cX4_sendRun 38 = .ok (.aload_n 3, 1) := by decide +kernel
theorem dX4_sendRun_39 : decode cX4_sendRun 39 = .ok (.iload 4, 2) := by decide +kernel
theorem dX4_sendRun_41 : decode cX4_sendRun 41 = .ok (.invokevirtual 111, 3) := by decide +kernel
theorem dX4_sendRun_44 : decode cX4_sendRun 44 = .ok (.invokevirtual 74, 3) := by decide +kernel
theorem dX4_sendRun_47 : decode cX4_sendRun 47 = .ok (.iload_n 1, 1) := by decide +kernel
theorem dX4_sendRun_48 : decode cX4_sendRun 48 = .ok (.bipush 64, 2) := by decide +kernel
theorem dX4_sendRun_50 : decode cX4_sendRun 50 = .ok (.irem, 1) := by decide +kernel
theorem dX4_sendRun_51 : decode cX4_sendRun 51 = .ok (.istore 4, 2) := by decide +kernel
theorem dX4_sendRun_53 : decode cX4_sendRun 53 = .ok (.aload_n 0, 1) := by decide +kernel
theorem dX4_sendRun_54 : decode cX4_sendRun 54 = .ok (.getfield 26, 3) := by decide +kernel
theorem dX4_sendRun_57 : decode cX4_sendRun 57 = .ok (.aload_n 3, 1) := by decide +kernel
theorem dX4_sendRun_58 : decode cX4_sendRun 58 = .ok (.iload 4, 2) := by decide +kernel
theorem dX4_sendRun_60 : decode cX4_sendRun 60 = .ok (.invokevirtual 108, 3) := by decide +kernel
theorem dX4_sendRun_63 : decode cX4_sendRun 63 = .ok (.aload_n 3, 1) := by decide +kernel
theorem dX4_sendRun_64 : decode cX4_sendRun 64 = .ok (.iload 4, 2) := by decide +kernel
theorem dX4_sendRun_66 : decode cX4_sendRun 66 = .ok (.invokevirtual 111, 3) := by decide +kernel
theorem dX4_sendRun_69 : decode cX4_sendRun 69 = .ok (.invokevirtual 74, 3) := by decide +kernel
theorem dX4_sendRun_72 : decode cX4_sendRun 72 = .ok (.return_, 1) := by decide +kernel
