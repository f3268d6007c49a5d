theorem dX8_row_57 : decode cX8_row 57 = .ok (.putfield 60, 3) := by decide +kernel
theorem dX8_row_60 : decode cX8_row 60 = .ok (.aload_n 0, 1) := by decide +kernel
theorem dX8_row_61 : decode cX8_row 61 = .ok (.getfield 60, 3) := by decide +kernel
theorem dX8_row_64 : decode cX8_row 64 = .ok (.iconst 1, 1) := by decide +kernel
theorem dX8_row_65 : decode cX8_row 65 = .ok (.isub, 1) := by decide +kernel
theorem dX8_row_66 : decode cX8_row 66 = .ok (.ireturn, 1) := by decide +kernel
theorem dX8_clear_0 : decode cX8_clear 0 = .ok (.aload_n 0, 1) := by decide +kernel
theorem dX8_clear_1 : decode cX8_clear 1 = .ok (.iconst 0, 1) := by decide +kernel
theorem dX8_clear_2 : decode cX8_clear 2 = .ok (.putfield 44, 3) := by decide +kernel
theorem dX8_clear_5 : decode cX8_clear 5 = .ok (.aload_n 0, 1) := by decide +kernel
theorem dX8_clear_6 : decode cX8_clear 6 = .ok (.iconst 0, 1) := by decide +kernel
theorem dX8_clear_7 : decode cX8_clear 7 = .ok (.putfield 60, 3) := by decide +kernel
theorem dX8_clear_10 : decode cX8_clear 10 = .ok (.return_, 1) := by decide +kernel
set_option maxRecDepth 20000 in
theorem ggX8_put_X8_isRow : GoodIn wsX8_put wsX8_isRow := goodIn_r _ [8, 9, 15, 16, 17, 18, 19, 20, 21, 22, 23, 24, 25, 26, 27, 28, 29, 30, 31, 32, 33, 34, 35, 36] (by decide +kernel) (by decide +kernel)
set_option maxRecDepth 20000 in
theorem gX8_put_X8_isRow : GoodIn wsX8_put (wsV RX8 81 RX8 yX8_isRow wsX8_isRow) := goodIn_app (goodIn_of _ (by decide +kernel)) ggX8_put_X8_isRow
set_option maxRecDepth 20000 in
theorem ggX8_put_X8_paint : GoodIn wsX8_put wsX8_paint := goodIn_ca (goodIn_r _ [13, 14, 15, 16, 17, 18, 19, 20, 21, 22, 23, 24, 25, 26, 27, 28, 29, 30, 31, 32, 33, 34, 35, 36] (by decide +kernel) (by decide +kernel)) (goodIn_sub (fun _ h => List.mem_cons_of_mem _ (List.mem_append_right _ h)) (by decide +kernel))
set_option maxRecDepth 20000 in
theorem gX8_put_X8_paint : GoodIn wsX8_put (wsV RX8 84 RX8 yX8_paint wsX8_paint) := goodIn_app (goodIn_of _ (by decide +kernel)) ggX8_put_X8_paint
theorem dX8_put_0 : decode cX8_put 0 = .ok (.aload_n 0, 1) := by decide +kernel
theorem dX8_put_1 : decode cX8_put 1 = .ok (.aload_n 0, 1) := by decide +kernel
theorem dX8_put_2 : decode cX8_put 2 = .ok (.iload_n 1, 1) := by decide +kernel
theorem dX8_put_3 : decode cX8_put 3 = .ok (.invokevirtual 81, 3) := by decide +kernel
theorem dX8_put_6 : decode cX8_put 6 = .ok (.ifCond .ne 7, 3) := by decide +kernel
theorem dX8_put_9 : decode cX8_put 9 = .ok (.iconst 1, 1) := by decide +kernel
theorem dX8_put_10 : decode cX8_put 10 = .ok (.goto 25, 3) := by decide +kernel
theorem dX8_put_13 : decode cX8_put 13 = .ok (.iload_n 2, 1) := by decide +kernel
theorem dX8_put_14 : decode cX8_put 14 = .ok (.ifCond .lt 16, 3) := by decide +kernel
theorem dX8_put_17 : decode cX8_put 17 = .ok (.iload_n 2, 1) := by decide +kernel
theorem dX8_put_18 : decode cX8_put 18 = .ok (.iload_n 3, 1) := by decide +kernel
theorem dX8_put_19 : decode cX8_put 19 = .ok (.if_icmp .ge 11, 3) := by decide +kernel
theorem dX8_put_22 : decode cX8_put 22 = .ok (.iload_n 3, 1) := by decide +kernel
theorem dX8_put_23 : decode cX8_put 23 = .ok (.aload_n 0, 1) := by decide +kernel
theorem dX8_put_24 : decode cX8_put 24 = .ok (.getfield 37, 3) := by decide +kernel
theorem dX8_put_27 : decode cX8_put 27 = .ok (.if_icmp .le 7, 3) := by decide +kernel
theorem dX8_put_30 : decode cX8_put 30 = .ok (.iconst 2, 1) := by decide +kernel
theorem dX8_put_31 : decode cX8_put 31 = .ok (.goto 4, 3) := by decide +kernel
theorem dX8_put_34 : decode cX8_put 34 = .ok (.iconst 0, 1) := by decide +kernel
theorem dX8_put_35 : decode cX8_put 35 = .ok (.putfield 44, 3) := by decide +kernel
theorem dX8_put_38 : decode cX8_put 38 = .ok (.aload_n 0, 1) := by decide +kernel
theorem dX8_put_39 : decode cX8_put 39 = .ok (.getfield 44, 3) := by decide +kernel
theorem dX8_put_42 : decode cX8_put 42 = .ok (.ifCond .ne 19, 3) := by decide +kernel
theorem dX8_put_45 : decode cX8_put 45 = .ok (.aload_n 0, 1) := by decide +kernel
theorem dX8_put_46 : decode cX8_put 46 = .ok (.iload_n 1, 1) := by decide +kernel
theorem dX8_put_47 : decode cX8_put 47 = .ok (.iload_n 2, 1) := by decide +kernel
theorem dX8_put_48 : decode cX8_put 48 = .ok (.iload_n 3, 1) := by decide +kernel
theorem dX8_put_49 : decode cX8_put 49 = .ok (.iload 4, 2) := by decide +kernel
theorem dX8_put_51 : decode cX8_put 51 = .ok (.invokevirtual 84, 3) := by decide +kernel
theorem dX8_put_54 : decode cX8_put 54 = .ok (.aload_n 0, 1) := by decide +kernel
theorem dX8_put_55 : decode cX8_put 55 = .ok (.getfield 23, 3) := by decide +kernel
theorem dX8_put_58 : decode cX8_put 58 = .ok (.iload_n 1, 1) := by decide +kernel
theorem dX8_put_59 : decode cX8_put 59 = .ok (.iconst 0, 1) := by decide +kernel
theorem dX8_put_60 : decode cX8_put 60 = .ok (.iastore, 1) := by decide +kernel
theorem dX8_put_61 : decode cX8_put 61 = .ok (.return_, 1) := by decide +kernel
set_option maxRecDepth 20000 in
theorem ggX8_bit_X8_isRow : GoodIn wsX8_bit wsX8_isRow := goodIn_r _ [9, 10, 11, 12, 13, 14, 15, 16, 17, 18, 19, 20, 21, 22, 23, 24, 25, 26, 27, 28, 29, 30, 31, 32] (by decide +kernel) (by decide +kernel)
set_option maxRecDepth 20000 in
theorem gX8_bit_X8_isRow : GoodIn wsX8_bit (wsV RX8 81 RX8 yX8_isRow wsX8_isRow) := goodIn_app (goodIn_of _ (by decide +kernel)) ggX8_bit_X8_isRow
theorem dX8_bit_0 : decode cX8_bit 0 = .ok (.aload_n 0, 1) := by decide +kernel
theorem dX8_bit_1 : decode cX8_bit 1 = .ok (.aload_n 0, 1) := by decide +kernel
theorem dX8_bit_2 : decode cX8_bit 2 = .ok (.iload_n 1, 1) := by decide +kernel
theorem dX8_bit_3 : decode cX8_bit 3 = .ok (.invokevirtual 81, 3) := by decide +kernel
theorem dX8_bit_6 : decode cX8_bit 6 = .ok (.ifCond .eq 19, 3) := by decide +kernel
theorem dX8_bit_9 : decode cX8_bit 9 = .ok (.iload_n 2, 1) := by decide +kernel
theorem dX8_bit_10 : decode cX8_bit 10 = .ok (.ifCond .lt 15, 3) := by decide +kernel
theorem dX8_bit_13 : decode cX8_bit 13 = .ok (.iload_n 2, 1) := by decide +kernel
theorem dX8_bit_14 : decode cX8_bit 14 = .ok (.aload_n 0, 1) := by decide +kernel
theorem dX8_bit_15 : decode cX8_bit 15 = .ok (.getfield 37, 3) := by decide +kernel
theorem dX8_bit_18 : decode cX8_bit 18 = .ok (.if_icmp .ge 7, 3) := by decide +kernel
theorem dX8_bit_21 : decode cX8_bit 21 = .ok (.iconst 0, 1) := by decide +kernel
theorem dX8_bit_22 : decode cX8_bit 22 = .ok (.goto 4, 3) := by decide +kernel
theorem dX8_bit_25 : decode cX8_bit 25 = .ok (.iconst 1, 1) := by decide +kernel
theorem dX8_bit_26 : decode cX8_bit 26 = .ok (.putfield 44, 3) := by decide +kernel
theorem dX8_bit_29 : decode cX8_bit 29 = .ok (.aload_n 0, 1) := by decide +kernel
theorem dX8_bit_30 : decode cX8_bit 30 = .ok (.getfield 44, 3) := by decide +kernel
theorem dX8_bit_33 : decode cX8_bit 33 = .ok (.ifCond .le 7, 3) := by decide +kernel
theorem dX8_bit_36 : decode cX8_bit 36 = .ok (.iconst 0, 1) := by decide +kernel
theorem dX8_bit_37 : decode cX8_bit 37 = .ok (.goto 29, 3) := by decide +kernel
theorem dX8_bit_40 : decode cX8_bit 40 = .ok (.aload_n 0, 1) := by decide +kernel
theorem dX8_bit_41 : decode cX8_bit 41 = .ok (.getfield 20, 3) := by decide +kernel
theorem dX8_bit_44 : decode cX8_bit 44 = .ok (.sipush 700, 3) := by decide +kernel
theorem dX8_bit_47 : decode cX8_bit 47 = .ok (.iload_n 1, 1) := by decide +kernel
theorem dX8_bit_48 : decode cX8_bit 48 = .ok (.imul, 1) := by decide +kernel
theorem dX8_bit_49 : decode cX8_bit 49 = .ok (.iload_n 2, 1) := by decide +kernel
theorem dX8_bit_50 : decode cX8_bit 50 = .ok (.iadd, 1) := by decide +kernel
theorem dX8_bit_51 : decode cX8_bit 51 = .ok (.baload, 1) := by decide +kernel
theorem dX8_bit_52 : decode cX8_bit 52 = .ok (.aload_n 0, 1) := by decide +kernel
theorem dX8_bit_53 : decode cX8_bit 53 = .ok (.getfield 16, 3) := by decide +kernel
theorem dX8_bit_56 : decode cX8_bit 56 = .ok (.iconst 2, 1) := by decide +kernel
theorem dX8_bit_57 : decode cX8_bit 57 = .ok (.baload, 1) := by decide +kernel
theorem dX8_bit_58 : decode cX8_bit 58 = .ok (.if_icmp .eq 7, 3) := by decide +kernel
theorem dX8_bit_61 : decode cX8_bit 61 = .ok (.iconst 1, 1) := by decide +kernel
theorem dX8_bit_62 : decode cX8_bit 62 = .ok (.goto 4, 3) := by decide +kernel
theorem dX8_bit_65 : decode cX8_bit 65 = .ok (.iconst 0, 1) := by decide +kernel
theorem dX8_bit_66 : decode cX8_bit 66 = .ok (.ireturn, 1) := by decide +kernel
theorem dX8_at_0 : decode cX8_at 0 = .ok (.iload_n 1, 1) := by decide +kernel
theorem dX8_at_1 : decode cX8_at 1 = .ok (.ifCond .lt 26, 3) := by decide +kernel
theorem dX8_at_4 : decode cX8_at 4 = .ok (.iload_n 2, 1) := by decide +kernel
theorem dX8_at_5 : decode cX8_at 5 = .ok (.ifCond .lt 22, 3) := by decide +kernel
theorem dX8_at_8 : decode cX8_at 8 = .ok (.aload_n 0, 1) := by decide +kernel
theorem dX8_at_9 : decode cX8_at 9 = .ok (.getfield 20, 3) := by decide +kernel
theorem dX8_at_12 : decode cX8_at 12 = .ok (.sipush 700, 3) := by decide +kernel
theorem dX8_at_15 : decode cX8_at 15 = .ok (.iload_n 1, 1) := by decide +kernel
theorem dX8_at_16 : decode cX8_at 16 = .ok (.imul, 1) := by decide +kernel
theorem dX8_at_17 : decode cX8_at 17 = .ok (.iload_n 2, 1) := by decide +kernel
theorem dX8_at_18 : decode cX8_at 18 = .ok (.iadd, 1) := by decide +kernel
theorem dX8_at_19 : decode cX8_at 19 = .ok (.baload, 1) := by decide +kernel
theorem dX8_at_20 : decode cX8_at 20 = .ok (.ifCond .eq 7, 3) := by decide +kernel
theorem dX8_at_23 : decode cX8_at 23 = .ok (.iconst 1, 1) := by decide +kernel
theorem dX8_at_24 : decode cX8_at 24 = .ok (.goto 4, 3) := by decide +kernel
theorem dX8_at_27 : decode cX8_at 27 = .ok (.iconst 0, 1) := by decide +kernel
theorem dX8_at_28 : decode cX8_at 28 = .ok (.ireturn, 1) := by decide +kernel
set_option maxRecDepth 20000 in
theorem ggX8_isChange_X8_at : GoodIn wsX8_isChange wsX8_at := goodIn_ca (goodIn_r _ [5, 6, 7, 8, 9, 10, 11, 12, 13, 14, 15, 16, 17, 18, 19, 20, 21, 22, 23, 24, 25, 26, 27, 28] (by decide +kernel) (by decide +kernel)) (goodIn_sub (fun _ h => List.mem_cons_of_mem _ (List.mem_append_right _ h)) (by decide +kernel))
set_option maxRecDepth 20000 in
theorem gX8_isChange_X8_at : GoodIn wsX8_isChange (wsV RX8 88 RX8 yX8_at wsX8_at) := goodIn_app (goodIn_of _ (by decide +kernel)) ggX8_isChange_X8_at
theorem dX8_isChange_0 : decode cX8_isChange 0 = .ok (.aload_n 0, 1) := by decide +kernel
theorem dX8_isChange_1 : decode cX8_isChange 1 = .ok (.iload_n 1, 1) := by decide +kernel
theorem dX8_isChange_2 : decode cX8_isChange 2 = .ok (.iload_n 2, 1) := by decide +kernel
theorem dX8_isChange_3 : decode cX8_isChange 3 = .ok (.invokevirtual 88, 3) := by decide +kernel
theorem dX8_isChange_6 : decode cX8_isChange 6 = .ok (.aload_n 0, 1) := by decide +kernel
theorem dX8_isChange_7 : decode cX8_isChange 7 = .ok (.iload_n 1, 1) := by decide +kernel
theorem dX8_isChange_8 : decode cX8_isChange 8 = .ok (.iload_n 2, 1) := by decide +kernel
theorem dX8_isChange_9 : decode cX8_isChange 9 = .ok (.iconst 1, 1) := by decide +kernel
theorem dX8_isChange_10 : decode cX8_isChange 10 = .ok (.isub, 1) := by decide +kernel
theorem dX8_isChange_11 : decode cX8_isChange 11 = .ok (.invokevirtual 88, 3) := by decide +kernel
theorem dX8_isChange_14 : decode cX8_isChange 14 = .ok (.if_icmp .eq 7, 3) := by decide +kernel
theorem dX8_isChange_17 : decode cX8_isChange 17 = .ok (.iconst 1, 1) := by decide +kernel
theorem dX8_isChange_18 : decode cX8_isChange 18 = .ok (.goto 4, 3) := by decide +kernel
theorem dX8_isChange_21 : decode cX8_isChange 21 = .ok (.iconst 0, 1) := by decide +kernel
theorem dX8_isChange_22 : decode cX8_isChange 22 = .ok (.ireturn, 1) := by decide +kernel
set_option maxRecDepth 20000 in
theorem ggX8_runsOf_X8_isChange : GoodIn wsX8_runsOf wsX8_isChange := goodIn_ca (goodIn_r _ [6, 7, 8, 9, 5, 10, 11, 12, 13, 14, 15, 16, 17, 18, 19, 20, 21, 22, 23, 24, 25, 26, 27, 28, 29, 30, 31, 32, 33] (by decide +kernel) (by decide +kernel)) (goodIn_sub (fun _ h => List.mem_cons_of_mem _ (List.mem_append_right _ h)) (by decide +kernel))
set_option maxRecDepth 20000 in
theorem gX8_runsOf_X8_isChange : GoodIn wsX8_runsOf (wsV RX8 92 RX8 yX8_isChange wsX8_isChange) := goodIn_app (goodIn_of _ (by decide +kernel)) ggX8_runsOf_X8_isChange
theorem dX8_runsOf_0 : decode cX8_runsOf 0 = .ok (.iconst 1, 1) := by decide +kernel
theorem dX8_runsOf_1 : decode cX8_runsOf 1 = .ok (.istore_n 2, 1) := by decide +kernel
theorem dX8_runsOf_2 : decode cX8_runsOf 2 = .ok (.iconst 0, 1) := by decide +kernel
theorem dX8_runsOf_3 : decode cX8_runsOf 3 = .ok (.istore_n 3, 1) := by decide +kernel
theorem dX8_runsOf_4 : decode cX8_runsOf 4 = .ok (.iload_n 3, 1) := by decide +kernel
theorem dX8_runsOf_5 : decode cX8_runsOf 5 = .ok (.aload_n 0, 1) := by decide +kernel
theorem dX8_runsOf_6 : decode cX8_runsOf 6 = .ok (.getfield 37, 3) := by decide +kernel
theorem dX8_runsOf_9 : decode cX8_runsOf 9 = .ok (.if_icmp .ge 26, 3) := by decide +kernel
theorem dX8_runsOf_12 : decode cX8_runsOf 12 = .ok (.iload_n 2, 1) := by decide +kernel
theorem dX8_runsOf_13 : decode cX8_runsOf 13 = .ok (.aload_n 0, 1) := by decide +kernel
theorem dX8_runsOf_14 : decode cX8_runsOf 14 = .ok (.iload_n 1, 1) := by decide +kernel
theorem dX8_runsOf_15 : decode cX8_runsOf 15 = .ok (.iload_n 3, 1) := by decide +kernel
theorem dX8_runsOf_16 : decode cX8_runsOf 16 = .ok (.invokevirtual 92, 3) := by decide +kernel
theorem dX8_runsOf_19 : decode cX8_runsOf 19 = .ok (.ifCond .eq 7, 3) := by decide +kernel
theorem dX8_runsOf_22 : decode cX8_runsOf 22 = .ok (.iconst 1, 1) := by decide +kernel
theorem dX8_runsOf_23 : decode cX8_runsOf 23 = .ok (.goto 4, 3) := by decide +kernel
theorem dX8_runsOf_26 : decode cX8_runsOf 26 = .ok (.iconst 0, 1) := by decide +kernel
theorem dX8_runsOf_27 : decode cX8_runsOf 27 = .ok (.iadd, 1) := by decide +kernel
theorem dX8_runsOf_28 : decode cX8_runsOf 28 = .ok (.istore_n 2, 1) := by decide +kernel
theorem dX8_runsOf_29 : decode cX8_runsOf 29 = .ok (.iinc 3 1, 3) := by decide +kernel
theorem dX8_runsOf_32 : decode cX8_runsOf 32 = .ok (.goto (-28), 3) := by decide +kernel
theorem dX8_runsOf_35 : decode cX8_runsOf 35 = .ok (.iload_n 2, 1) := by decide +kernel
theorem dX8_runsOf_36 : decode cX8_runsOf 36 = .ok (.ireturn, 1) := by decide +kernel
set_option maxRecDepth 20000 in
theorem ggX8_runs_X8_isRow : GoodIn wsX8_runs wsX8_isRow := goodIn_r _ [6, 7, 22, 23, 24, 25, 26, 27, 28, 29, 30, 31, 32, 33, 34, 35, 36, 37, 38, 39, 40, 41, 42, 43] (by decide +kernel) (by decide +kernel)
set_option maxRecDepth 20000 in
theorem gX8_runs_X8_isRow : GoodIn wsX8_runs (wsV RX8 81 RX8 yX8_isRow wsX8_isRow) := goodIn_app (goodIn_of _ (by decide +kernel)) ggX8_runs_X8_isRow
set_option maxRecDepth 20000 in
theorem ggX8_runs_X8_runsOf : GoodIn wsX8_runs wsX8_runsOf := goodIn_ca (goodIn_r _ [11, 12, 13, 14, 15, 5, 16, 17, 18, 19, 20, 21, 22, 23, 24, 25, 26, 27, 28, 29, 30, 31, 32, 33, 34, 35, 36, 37, 38, 39, 40, 41, 42, 43] (by decide +kernel) (by decide +kernel)) (goodIn_sub (fun _ h => List.mem_cons_of_mem _ (List.mem_append_right _ h)) (by decide +kernel))
set_option maxRecDepth 20000 in
theorem gX8_runs_X8_runsOf : GoodIn wsX8_runs (wsV RX8 95 RX8 yX8_runsOf wsX8_runsOf) := goodIn_app (goodIn_of _ (by decide +kernel)) ggX8_runs_X8_runsOf
theorem dX8_runs_0 : decode cX8_runs 0 = .ok (.aload_n 0, 1) := by decide +kernel
theorem dX8_runs_1 : decode cX8_runs 1 = .ok (.aload_n 0, 1) := by decide +kernel
theorem dX8_runs_2 : decode cX8_runs 2 = .ok (.iload_n 1, 1) := by decide +kernel
theorem dX8_runs_3 : decode cX8_runs 3 = .ok (.invokevirtual 81, 3) := by decide +kernel
theorem dX8_runs_6 : decode cX8_runs 6 = .ok (.ifCond .eq 7, 3) := by decide +kernel
theorem dX8_runs_9 : decode cX8_runs 9 = .ok (.iconst 0, 1) := by decide +kernel
theorem dX8_runs_10 : decode cX8_runs 10 = .ok (.goto 4, 3) := by decide +kernel
theorem dX8_runs_13 : decode cX8_runs 13 = .ok (.iconst 1, 1) := by decide +kernel
theorem dX8_runs_14 : decode cX8_runs 14 = .ok (.putfield 44, 3) := by decide +kernel
theorem dX8_runs_17 : decode cX8_runs 17 = .ok (.aload_n 0, 1) := by decide +kernel
theorem dX8_runs_18 : decode cX8_runs 18 = .ok (.getfield 44, 3) := by decide +kernel
theorem dX8_runs_21 : decode cX8_runs 21 = .ok (.ifCond .le 7, 3) := by decide +kernel
theorem dX8_runs_24 : decode cX8_runs 24 = .ok (.iconst 0, 1) := by decide +kernel
theorem dX8_runs_25 : decode cX8_runs 25 = .ok (.goto 8, 3) := by decide +kernel
theorem dX8_runs_28 : decode cX8_runs 28 = .ok (.aload_n 0, 1) := by decide +kernel
theorem dX8_runs_29 : decode cX8_runs 29 = .ok (.iload_n 1, 1) := by decide +kernel
theorem dX8_runs_30 : decode cX8_runs 30 = .ok (.invokevirtual 95, 3) := by decide +kernel
theorem dX8_runs_33 : decode cX8_runs 33 = .ok (.ireturn, 1) := by decide +kernel
set_option maxRecDepth 20000 in
theorem ggX8_run_X8_isRow : GoodIn wsX8_run wsX8_isRow := goodIn_r _ [7, 8, 22, 23, 24, 25, 26, 27, 28, 29, 30, 31, 32, 33, 34, 35, 36, 37, 38, 39, 40, 41, 42, 43] (by decide +kernel) (by decide +kernel)
set_option maxRecDepth 20000 in
theorem gX8_run_X8_isRow : GoodIn wsX8_run (wsV RX8 81 RX8 yX8_isRow wsX8_isRow) := goodIn_app (goodIn_of _ (by decide +kernel)) ggX8_run_X8_isRow
set_option maxRecDepth 20000 in
theorem ggX8_run_X8_runsOf : GoodIn wsX8_run wsX8_runsOf := goodIn_ca (goodIn_r _ [12, 2, 13, 14, 15, 6, 16, 17, 18, 19, 20, 21, 22, 23, 24, 25, 26, 27, 28, 29, 30, 31, 32, 33, 34, 35, 36, 37, 38, 39, 40, 41, 42, 43] (by decide +kernel) (by decide +kernel)) (goodIn_sub (fun _ h => List.mem_cons_of_mem _ (List.mem_append_right _ h)) (by decide +kernel))
set_option maxRecDepth 20000 in
theorem gX8_run_X8_runsOf : GoodIn wsX8_run (wsV RX8 95 RX8 yX8_runsOf wsX8_runsOf) := goodIn_app (goodIn_of _ (by decide +kernel)) ggX8_run_X8_runsOf
set_option maxRecDepth 20000 in
theorem ggX8_run_X8_isChange : GoodIn wsX8_run wsX8_isChange := goodIn_ca (goodIn_r _ [16, 17, 18, 19, 6, 20, 21, 22, 23, 24, 25, 26, 27, 28, 29, 30, 31, 32, 33, 34, 35, 36, 37, 38, 39, 40, 41, 42, 43] (by decide +kernel) (by decide +kernel)) (goodIn_sub (fun _ h => List.mem_cons_of_mem _ (List.mem_append_right _ h)) (by decide +kernel))
set_option maxRecDepth 20000 in
theorem gX8_run_X8_isChange : GoodIn wsX8_run (wsV RX8 92 RX8 yX8_isChange wsX8_isChange) := goodIn_app (goodIn_of _ (by decide +kernel)) ggX8_run_X8_isChange
theorem dX8_run_0 : decode cX8_run 0 = .ok (.aload_n 0, 1) := by decide +kernel
theorem dX8_run_1 : decode cX8_run 1 = .ok (.aload_n 0, 1) := by decide +kernel
theorem dX8_run_2 : decode cX8_run 2 = .ok (.iload_n 1, 1) := by decide +kernel
theorem dX8_run_3 : decode cX8_run 3 = .ok (.invokevirtual 81, 3) := by decide +kernel
theorem dX8_run_6 : decode cX8_run 6 = .ok (.ifCond .eq 20, 3) := by decide +kernel
theorem dX8_run_9 : decode cX8_run 9 = .ok (.iload_n 2, 1) := by decide +kernel
theorem dX8_run_10 : decode cX8_run 10 = .ok (.ifCond .lt 16, 3) := by decide +kernel
theorem dX8_run_13 : decode cX8_run 13 = .ok (.iload_n 2, 1) := by decide +kernel
theorem dX8_run_14 : decode cX8_run 14 = .ok (.aload_n 0, 1) := by decide +kernel
theorem dX8_run_15 : decode cX8_run 15 = .ok (.iload_n 1, 1) := by decide +kernel
theorem dX8_run_16 : decode cX8_run 16 = .ok (.invokevirtual 95, 3) := by decide +kernel
theorem dX8_run_19 : decode cX8_run 19 = .ok (.if_icmp .ge 7, 3) := by decide +kernel
theorem dX8_run_22 : decode cX8_run 22 = .ok (.iconst 0, 1) := by decide +kernel
theorem dX8_run_23 : decode cX8_run 23 = .ok (.goto 4, 3) := by decide +kernel
theorem dX8_run_26 : decode cX8_run 26 = .ok (.iconst 1, 1) := by decide +kernel
theorem dX8_run_27 : decode cX8_run 27 = .ok (.putfield 44, 3) := by decide +kernel
theorem dX8_run_30 : decode cX8_run 30 = .ok (.iconst 0, 1) := by decide +kernel
theorem dX8_run_31 : decode cX8_run 31 = .ok (.istore_n 3, 1) := by decide +kernel
theorem dX8_run_32 : decode cX8_run 32 = .ok (.iconst 0, 1) := by decide +kernel
theorem dX8_run_33 : decode cX8_run 33 = .ok (.istore 4, 2) := by decide +kernel
theorem dX8_run_35 : decode cX8_run 35 = .ok (.iconst 0, 1) := by decide +kernel
theorem dX8_run_36 : decode cX8_run 36 = .ok (.istore 5, 2) := by decide +kernel
theorem dX8_run_38 : decode cX8_run 38 = .ok (.iload 5, 2) := by decide +kernel
theorem dX8_run_40 : decode cX8_run 40 = .ok (.aload_n 0, 1) := by decide +kernel
theorem dX8_run_41 : decode cX8_run 41 = .ok (.getfield 37, 3) := by decide +kernel
theorem dX8_run_44 : decode cX8_run 44 = .ok (.if_icmp .ge 49, 3) := by decide +kernel
theorem dX8_run_47 : decode cX8_run 47 = .ok (.aload_n 0, 1) := by decide +kernel
theorem dX8_run_48 : decode cX8_run 48 = .ok (.getfield 44, 3) := by decide +kernel
theorem dX8_run_51 : decode cX8_run 51 = .ok (.ifCond .ne 42, 3) := by decide +kernel
theorem dX8_run_54 : decode cX8_run 54 = .ok (.iload_n 3, 1) := by decide +kernel
theorem dX8_run_55 : decode cX8_run 55 = .ok (.aload_n 0, 1) := by decide +kernel
theorem dX8_run_56 : decode cX8_run 56 = .ok (.iload_n 1, 1) := by decide +kernel
theorem dX8_run_57 : decode cX8_run 57 = .ok (.iload 5, 2) := by decide +kernel
theorem dX8_run_59 : decode cX8_run 59 = .ok (.invokevirtual 92, 3) := by decide +kernel
theorem dX8_run_62 : decode cX8_run 62 = .ok (.ifCond .eq 7, 3) := by decide +kernel
theorem dX8_run_65 : decode cX8_run 65 = .ok (.iconst 1, 1) := by decide +kernel
theorem dX8_run_66 : decode cX8_run 66 = .ok (.goto 4, 3) := by decide +kernel
theorem dX8_run_69 : decode cX8_run 69 = .ok (.iconst 0, 1) := by decide +kernel
theorem dX8_run_70 : decode cX8_run 70 = .ok (.iadd, 1) := by decide +kernel
theorem dX8_run_71 : decode cX8_run 71 = .ok (.istore_n 3, 1) := by decide +kernel
theorem dX8_run_72 : decode cX8_run 72 = .ok (.iload 4, 2) := by decide +kernel
theorem dX8_run_74 : decode cX8_run 74 = .ok (.iload_n 3, 1) := by decide +kernel
theorem dX8_run_75 : decode cX8_run 75 = .ok (.iload_n 2, 1) := by decide +kernel
theorem dX8_run_76 : decode cX8_run 76 = .ok (.if_icmp .ne 7, 3) := by decide +kernel
theorem dX8_run_79 : decode cX8_run 79 = .ok (.iconst 1, 1) := by decide +kernel
theorem dX8_run_80 : decode cX8_run 80 = .ok (.goto 4, 3) := by decide +kernel
theorem dX8_run_83 : decode cX8_run 83 = .ok (.iconst 0, 1) := by decide +kernel
theorem dX8_run_84 : decode cX8_run 84 = .ok (.iadd, 1) := by decide +kernel
theorem dX8_run_85 : decode cX8_run 85 = .ok (.istore 4, 2) := by decide +kernel
theorem dX8_run_87 : decode cX8_run 87 = .ok (.iinc 5 1, 3) := by decide +kernel
theorem dX8_run_90 : decode cX8_run 90 = .ok (.goto (-52), 3) := by decide +kernel
theorem dX8_run_93 : decode cX8_run 93 = .ok (.iload 4, 2) := by decide +kernel
theorem dX8_run_95 : decode cX8_run 95 = .ok (.ireturn, 1) := by decide +kernel
theorem dX8_putBit_0 : decode cX8_putBit 0 = .ok (.aload_n 0, 1) := by decide +kernel
theorem dX8_putBit_1 : decode cX8_putBit 1 = .ok (.getfield 30, 3) := by decide +kernel
theorem dX8_putBit_4 : decode cX8_putBit 4 = .ok (.aload_n 0, 1) := by decide +kernel
theorem dX8_putBit_5 : decode cX8_putBit 5 = .ok (.getfield 66, 3) := by decide +kernel
theorem dX8_putBit_8 : decode cX8_putBit 8 = .ok (.iload_n 1, 1) := by decide +kernel
theorem dX8_putBit_9 : decode cX8_putBit 9 = .ok (.bastore, 1) := by decide +kernel
theorem dX8_putBit_10 : decode cX8_putBit 10 = .ok (.aload_n 0, 1) := by decide +kernel
theorem dX8_putBit_11 : decode cX8_putBit 11 = .ok (.dup, 1) := by decide +kernel
theorem dX8_putBit_12 : decode cX8_putBit 12 = .ok (.getfield 66, 3) := by decide +kernel
theorem dX8_putBit_15 : decode cX8_putBit 15 = .ok (.iconst 1, 1) := by decide +kernel
theorem dX8_putBit_16 : decode cX8_putBit 16 = .ok (.iadd, 1) := by decide +kernel
theorem dX8_putBit_17 : decode cX8_putBit 17 = .ok (.putfield 66, 3) := by decide +kernel
theorem dX8_putBit_20 : decode cX8_putBit 20 = .ok (.return_, 1) := by decide +kernel
set_option maxRecDepth 20000 in
theorem ggX8_putBits_X8_putBit : GoodIn wsX8_putBits wsX8_putBit := goodIn_ca (goodIn_r _ [5, 6, 7, 8, 9, 10, 11, 12, 13, 14, 15, 16, 17, 18, 19, 20, 21, 22, 23, 24, 25, 26, 27, 28, 29] (by decide +kernel) (by decide +kernel)) (goodIn_sub (fun _ h => List.mem_cons_of_mem _ (List.mem_append_right _ h)) (by decide +kernel))
set_option maxRecDepth 20000 in
theorem gX8_putBits_X8_putBit : GoodIn wsX8_putBits (wsV RX8 98 RX8 yX8_putBit wsX8_putBit) := goodIn_app (goodIn_of _ (by decide +kernel)) ggX8_putBits_X8_putBit
theorem dX8_putBits_0 : decode cX8_putBits 0 = .ok (.iload_n 2, 1) := by decide +kernel
theorem dX8_putBits_1 : decode cX8_putBits 1 = .ok (.iconst 1, 1) := by decide +kernel
theorem dX8_putBits_2 : decode cX8_putBits 2 = .ok (.isub, 1) := by decide +kernel
theorem dX8_putBits_3 : decode cX8_putBits 3 = .ok (.istore_n 3, 1) := by decide +kernel
theorem dX8_putBits_4 : decode cX8_putBits 4 = .ok (.iload_n 3, 1) := by decide +kernel
theorem dX8_putBits_5 : decode cX8_putBits 5 = .ok (.ifCond .lt 27, 3) := by decide +kernel
theorem dX8_putBits_8 : decode cX8_putBits 8 = .ok (.aload_n 0, 1) := by decide +kernel
theorem dX8_putBits_9 : decode cX8_putBits 9 = .ok (.iload_n 1, 1) := by decide +kernel
theorem dX8_putBits_10 : decode cX8_putBits 10 = .ok (.iload_n 3, 1) := by decide +kernel
theorem dX8_putBits_11 : decode cX8_putBits 11 = .ok (.ishr, 1) := by decide +kernel
theorem dX8_putBits_12 : decode cX8_putBits 12 = .ok (.iconst 1, 1) := by decide +kernel
theorem dX8_putBits_13 : decode cX8_putBits 13 = .ok (.iand, 1) := by decide +kernel
theorem dX8_putBits_14 : decode cX8_putBits 14 = .ok (.iconst 1, 1) := by decide +kernel
theorem dX8_putBits_15 : decode cX8_putBits 15 = .ok (.if_icmp .ne 7, 3) := by decide +kernel
theorem dX8_putBits_18 : decode cX8_putBits 18 = .ok (.iconst 1, 1) := by decide +kernel
theorem dX8_putBits_19 : decode cX8_putBits 19 = .ok (.goto 4, 3) := by decide +kernel
theorem dX8_putBits_22 : decode cX8_putBits 22 = .ok (.iconst 0, 1) := by decide +kernel
theorem dX8_putBits_23 : decode cX8_putBits 23 = .ok (.invokevirtual 98, 3) := by decide +kernel
theorem dX8_putBits_26 : decode cX8_putBits 26 = .ok (.iinc 3 (-1), 3) := by decide +kernel
theorem dX8_putBits_29 : decode cX8_putBits 29 = .ok (.goto (-25), 3) := by decide +kernel
theorem dX8_putBits_32 : decode cX8_putBits 32 = .ok (.return_, 1) := by decide +kernel
set_option maxRecDepth 20000 in
theorem ggX8_putCode_X8_putBits : GoodIn wsX8_putCode wsX8_putBits := goodIn_ca (goodIn_r _ [7, 8, 9, 10, 6, 11, 12, 13, 14, 15, 16, 17, 18, 19, 20, 21, 22, 23, 24, 25, 26, 27, 28, 29, 30, 31, 32, 33, 34, 35] (by decide +kernel) (by decide +kernel)) (goodIn_sub (fun _ h => List.mem_cons_of_mem _ (List.mem_append_right _ h)) (by decide +kernel))
set_option maxRecDepth 20000 in
theorem gX8_putCode_X8_putBits : GoodIn wsX8_putCode (wsV RX8 102 RX8 yX8_putBits wsX8_putBits) := goodIn_app (goodIn_of _ (by decide +kernel)) ggX8_putCode_X8_putBits
theorem dX8_putCode_0 : decode cX8_putCode 0 = .ok (.aload_n 0, 1) := by decide +kernel
theorem dX8_putCode_1 : decode cX8_putCode 1 = .ok (.aload_n 0, 1) := by decide +kernel
theorem dX8_putCode_2 : decode cX8_putCode 2 = .ok (.getfield 7, 3) := by decide +kernel
theorem dX8_putCode_5 : decode cX8_putCode 5 = .ok (.sipush 704, 3) := by decide +kernel
theorem dX8_putCode_8 : decode cX8_putCode 8 = .ok (.iload_n 1, 1) := by decide +kernel
theorem dX8_putCode_9 : decode cX8_putCode 9 = .ok (.imul, 1) := by decide +kernel
theorem dX8_putCode_10 : decode cX8_putCode 10 = .ok (.iload_n 2, 1) := by decide +kernel
theorem dX8_putCode_11 : decode cX8_putCode 11 = .ok (.iadd, 1) := by decide +kernel
theorem dX8_putCode_12 : decode cX8_putCode 12 = .ok (.iaload, 1) := by decide +kernel
theorem dX8_putCode_13 : decode cX8_putCode 13 = .ok (.aload_n 0, 1) := by decide +kernel
theorem dX8_putCode_14 : decode cX8_putCode 14 = .ok (.getfield 13, 3) := by decide +kernel
theorem dX8_putCode_17 : decode cX8_putCode 17 = .ok (.sipush 704, 3) := by decide +kernel
theorem dX8_putCode_20 : decode cX8_putCode 20 = .ok (.iload_n 1, 1) := by decide +kernel
theorem dX8_putCode_21 : decode cX8_putCode 21 = .ok (.imul, 1) := by decide +kernel
theorem dX8_putCode_22 : decode cX8_putCode 22 = .ok (.iload_n 2, 1) := by decide +kernel
theorem dX8_putCode_23 : decode cX8_putCode 23 = .ok (.iadd, 1) := by decide +kernel
theorem dX8_putCode_24 : decode cX8_putCode 24 = .ok (.iaload, 1) := by decide +kernel
theorem dX8_putCode_25 : decode cX8_putCode 25 = .ok (.invokevirtual 102, 3) := by decide +kernel
theorem dX8_putCode_28 : decode cX8_putCode 28 = .ok (.return_, 1) := by decide +kernel
set_option maxRecDepth 20000 in
theorem ggX8_putRun_X8_putCode : GoodIn wsX8_putRun wsX8_putCode := goodIn_ca (goodIn_r _ [5, 6, 7, 8, 9, 10, 4, 11, 12, 13, 14, 15, 16, 17, 18, 19, 20, 21, 22, 23, 24, 25, 26, 27, 28, 29, 30, 31, 32, 33, 34, 35, 36, 37, 38, 39] (by decide +kernel) (by decide +kernel)) (goodIn_sub (fun _ h => List.mem_cons_of_mem _ (List.mem_append_right _ h)) (by decide +kernel))
set_option maxRecDepth 20000 in
theorem gX8_putRun_X8_putCode : GoodIn wsX8_putRun (wsV RX8 106 RX8 yX8_putCode wsX8_putCode) := goodIn_app (goodIn_of _ (by decide +kernel)) ggX8_putRun_X8_putCode
theorem dX8_putRun_0 : decode cX8_putRun 0 = .ok (.iload_n 1, 1) := by decide +kernel
theorem dX8_putRun_1 : decode cX8_putRun 1 = .ok (.ifCond .eq 7, 3) := by decide +kernel
theorem dX8_putRun_4 : decode cX8_putRun 4 = .ok (.iconst 1, 1) := by decide +kernel
theorem dX8_putRun_5 : decode cX8_putRun 5 = .ok (.goto 4, 3) := by decide +kernel
theorem dX8_putRun_8 : decode cX8_putRun 8 = .ok (.iconst 0, 1) := by decide +kernel
theorem dX8_putRun_9 : decode cX8_putRun 9 = .ok (.istore_n 3, 1) := by decide +kernel
theorem dX8_putRun_10 : decode cX8_putRun 10 = .ok (.iload_n 2, 1) := by decide +kernel
theorem dX8_putRun_11 : decode cX8_putRun 11 = .ok (.bipush 64, 2) := by decide +kernel
theorem dX8_putRun_13 : decode cX8_putRun 13 = .ok (.if_icmp .lt 15, 3) := by decide +kernel
theorem dX8_putRun_16 : decode cX8_putRun 16 = .ok (.aload_n 0, 1) := by decide +kernel
theorem dX8_putRun_17 : decode cX8_putRun 17 = .ok (.iload_n 3, 1) := by decide +kernel
theorem dX8_putRun_18 : decode cX8_putRun 18 = .ok (.iload_n 2, 1) := by decide +kernel
theorem dX8_putRun_19 : decode cX8_putRun 19 = .ok (.bipush 64, 2) := by decide +kernel
theorem dX8_putRun_21 : decode cX8_putRun 21 = .ok (.idiv, 1) := by decide +kernel
theorem dX8_putRun_22 : decode cX8_putRun 22 = .ok (.bipush 64, 2) := by decide +kernel
theorem dX8_putRun_24 : decode cX8_putRun 24 = .ok (.imul, 1) := by decide +kernel
theorem dX8_putRun_25 : decode cX8_putRun 25 = .ok (.invokevirtual 106, 3) := by decide +kernel
theorem dX8_putRun_28 : decode cX8_putRun 28 = .ok (.aload_n 0, 1) := by decide +kernel
theorem dX8_putRun_29 : decode cX8_putRun 29 = .ok (.iload_n 3, 1) := by decide +kernel
theorem dX8_putRun_30 : decode cX8_putRun 30 = .ok (.iload_n 2, 1) := by decide +kernel
theorem dX8_putRun_31 : decode cX8_putRun 31 = .ok (.bipush 64, 2) := by decide +kernel
theorem dX8_putRun_33 : decode cX8_putRun 33 = .ok (.irem, 1) := by decide +kernel
theorem dX8_putRun_34 : decode cX8_putRun 34 = .ok (.invokevirtual 106, 3) := by decide +kernel
theorem dX8_putRun_37 : decode cX8_putRun 37 = .ok (.return_, 1) := by decide +kernel
set_option maxRecDepth 20000 in
theorem ggX8_fill_X8_putBit : GoodIn wsX8_fill wsX8_putBit := goodIn_ca (goodIn_r _ [6, 7, 1, 8, 9, 10, 11, 12, 13, 14, 15, 16, 17, 18, 19, 20, 21, 22, 23, 24, 25, 26, 27, 28, 29] (by decide +kernel) (by decide +kernel)) (goodIn_sub (fun _ h => List.mem_cons_of_mem _ (List.mem_append_right _ h)) (by decide +kernel))
set_option maxRecDepth 20000 in
theorem gX8_fill_X8_putBit : GoodIn wsX8_fill (wsV RX8 98 RX8 yX8_putBit wsX8_putBit) := goodIn_app (goodIn_of _ (by decide +kernel)) ggX8_fill_X8_putBit
theorem dX8_fill_0 : decode cX8_fill 0 = .ok (.aload_n 0, 1) := by decide +kernel
theorem dX8_fill_1 : decode cX8_fill 1 = .ok (.getfield 66, 3) := by decide +kernel
theorem dX8_fill_4 : decode cX8_fill 4 = .ok (.iload_n 1, 1) := by decide +kernel
theorem dX8_fill_5 : decode cX8_fill 5 = .ok (.iadd, 1) := by decide +kernel
theorem dX8_fill_6 : decode cX8_fill 6 = .ok (.bipush 8, 2) := by decide +kernel
theorem dX8_fill_8 : decode cX8_fill 8 = .ok (.irem, 1) := by decide +kernel
theorem dX8_fill_9 : decode cX8_fill 9 = .ok (.ifCond .le 11, 3) := by decide +kernel
theorem dX8_fill_12 : decode cX8_fill 12 = .ok (.aload_n 0, 1) := by decide +kernel
theorem dX8_fill_13 : decode cX8_fill 13 = .ok (.iconst 0, 1) := by decide +kernel
theorem dX8_fill_14 : decode cX8_fill 14 = .ok (.invokevirtual 98, 3) := by decide +kernel
theorem dX8_fill_17 : decode cX8_fill 17 = .ok (.goto (-17), 3) := by decide +kernel
theorem dX8_fill_20 : decode cX8_fill 20 = .ok (.return_, 1) := by decide +kernel
theorem dX8_hasMarks_0 : decode cX8_hasMarks 0 = .ok (.aload_n 0, 1) := by decide +kernel
theorem dX8_hasMarks_1 : decode cX8_hasMarks 1 = .ok (.getfield 33, 3) := by decide +kernel
theorem dX8_hasMarks_4 : decode cX8_hasMarks 4 = .ok (.iconst 1, 1) := by decide +kernel
theorem dX8_hasMarks_5 : decode cX8_hasMarks 5 = .ok (.if_icmp .eq 19, 3) := by decide +kernel
theorem dX8_hasMarks_8 : decode cX8_hasMarks 8 = .ok (.aload_n 0, 1) := by decide +kernel
theorem dX8_hasMarks_9 : decode cX8_hasMarks 9 = .ok (.getfield 33, 3) := by decide +kernel
theorem dX8_hasMarks_12 : decode cX8_hasMarks 12 = .ok (.ifCond .ne 16, 3) := by decide +kernel
theorem dX8_hasMarks_15 : decode cX8_hasMarks 15 = .ok (.aload_n 0, 1) := by decide +kernel
theorem dX8_hasMarks_16 : decode cX8_hasMarks 16 = .ok (.getfield 16, 3) := by decide +kernel
theorem dX8_hasMarks_19 : decode cX8_hasMarks 19 = .ok (.iconst 0, 1) := by decide +kernel
theorem dX8_hasMarks_20 : decode cX8_hasMarks 20 = .ok (.baload, 1) := by decide +kernel
theorem dX8_hasMarks_21 : decode cX8_hasMarks 21 = .ok (.ifCond .eq 7, 3) := by decide +kernel
theorem dX8_hasMarks_24 : decode cX8_hasMarks 24 = .ok (.iconst 1, 1) := by decide +kernel
theorem dX8_hasMarks_25 : decode cX8_hasMarks 25 = .ok (.goto 4, 3) := by decide +kernel
theorem dX8_hasMarks_28 : decode cX8_hasMarks 28 = .ok (.iconst 0, 1) := by decide +kernel
theorem dX8_hasMarks_29 : decode cX8_hasMarks 29 = .ok (.ireturn, 1) := by decide +kernel
theorem dX8_isPlain_0 : decode cX8_isPlain 0 = .ok (.aload_n 0, 1) := by decide +kernel
theorem dX8_isPlain_1 : decode cX8_isPlain 1 = .ok (.getfield 33, 3) := by decide +kernel
theorem dX8_isPlain_4 : decode cX8_isPlain 4 = .ok (.ifCond .eq 17, 3) := by decide +kernel
theorem dX8_isPlain_7 : decode cX8_isPlain 7 = .ok (.aload_n 0, 1) := by decide +kernel
theorem dX8_isPlain_8 : decode cX8_isPlain 8 = .ok (.getfield 33, 3) := by decide +kernel
theorem dX8_isPlain_11 : decode cX8_isPlain 11 = .ok (.iconst 1, 1) := by decide +kernel
theorem dX8_isPlain_12 : decode cX8_isPlain 12 = .ok (.if_icmp .ne 13, 3) := by decide +kernel
theorem dX8_isPlain_15 : decode cX8_isPlain 15 = .ok (.iload_n 1, 1) := by decide +kernel
theorem dX8_isPlain_16 : decode cX8_isPlain 16 = .ok (.iconst 4, 1) := by decide +kernel
theorem dX8_isPlain_17 : decode cX8_isPlain 17 = .ok (.irem, 1) := by decide +kernel
theorem dX8_isPlain_18 : decode cX8_isPlain 18 = .ok (.ifCond .ne 7, 3) := by decide +kernel
theorem dX8_isPlain_21 : decode cX8_isPlain 21 = .ok (.iconst 1, 1) := by decide +kernel
theorem dX8_isPlain_22 : decode cX8_isPlain 22 = .ok (.goto 4, 3) := by decide +kernel
theorem dX8_isPlain_25 : decode cX8_isPlain 25 = .ok (.iconst 0, 1) := by decide +kernel
theorem dX8_isPlain_26 : decode cX8_isPlain 26 = .ok (.ireturn, 1) := by decide +kernel
set_option maxRecDepth 20000 in
theorem ggX8_otherFrom_X8_at : GoodIn wsX8_otherFrom wsX8_at := goodIn_ca (goodIn_r _ [6, 7, 8, 9, 10, 11, 12, 13, 14, 15, 16, 17, 18, 19, 20, 21, 22, 23, 24, 25, 26, 27, 28, 29] (by decide +kernel) (by decide +kernel)) (goodIn_sub (fun _ h => List.mem_cons_of_mem _ (List.mem_append_right _ h)) (by decide +kernel))
set_option maxRecDepth 20000 in
theorem gX8_otherFrom_X8_at : GoodIn wsX8_otherFrom (wsV RX8 88 RX8 yX8_at wsX8_at) := goodIn_app (goodIn_of _ (by decide +kernel)) ggX8_otherFrom_X8_at
theorem dX8_otherFrom_0 : decode cX8_otherFrom 0 = .ok (.iload_n 2, 1) := by decide +kernel
theorem dX8_otherFrom_1 : decode cX8_otherFrom 1 = .ok (.istore 4, 2) := by decide +kernel
theorem dX8_otherFrom_3 : decode cX8_otherFrom 3 = .ok (.iload 4, 2) := by decide +kernel
theorem dX8_otherFrom_5 : decode cX8_otherFrom 5 = .ok (.aload_n 0, 1) := by decide +kernel
theorem dX8_otherFrom_6 : decode cX8_otherFrom 6 = .ok (.getfield 37, 3) := by decide +kernel
theorem dX8_otherFrom_9 : decode cX8_otherFrom 9 = .ok (.if_icmp .ge 20, 3) := by decide +kernel
theorem dX8_otherFrom_12 : decode cX8_otherFrom 12 = .ok (.aload_n 0, 1) := by decide +kernel
theorem dX8_otherFrom_13 : decode cX8_otherFrom 13 = .ok (.iload_n 1, 1) := by decide +kernel
theorem dX8_otherFrom_14 : decode cX8_otherFrom 14 = .ok (.iload 4, 2) := by decide +kernel
theorem dX8_otherFrom_16 : decode cX8_otherFrom 16 = .ok (.invokevirtual 88, 3) := by decide +kernel
theorem dX8_otherFrom_19 : decode cX8_otherFrom 19 = .ok (.iload_n 3, 1) := by decide +kernel
theorem dX8_otherFrom_20 : decode cX8_otherFrom 20 = .ok (.if_icmp .ne 9, 3) := by decide +kernel
theorem dX8_otherFrom_23 : decode cX8_otherFrom 23 = .ok (.iinc 4 1, 3) := by decide +kernel
theorem dX8_otherFrom_26 : decode cX8_otherFrom 26 = .ok (.goto (-23), 3) := by decide +kernel
theorem dX8_otherFrom_29 : decode cX8_otherFrom 29 = .ok (.iload 4, 2) := by decide +kernel
theorem dX8_otherFrom_31 : decode cX8_otherFrom 31 = .ok (.ireturn, 1) := by decide +kernel
set_option maxRecDepth 20000 in
theorem ggX8_writePlain_X8_otherFrom : GoodIn wsX8_writePlain wsX8_otherFrom := goodIn_ca (goodIn_r _ [6, 1, 7, 8, 9, 5, 10, 11, 32, 33, 34, 35, 36, 37, 38, 39, 40, 41, 42, 43, 44, 45, 46, 47, 48, 49, 50, 51, 52, 53] (by decide +kernel) (by decide +kernel)) (goodIn_sub (fun _ h => List.mem_cons_of_mem _ (List.mem_append_right _ h)) (by decide +kernel))
set_option maxRecDepth 20000 in
theorem gX8_writePlain_X8_otherFrom : GoodIn wsX8_writePlain (wsV RX8 109 RX8 yX8_otherFrom wsX8_otherFrom) := goodIn_app (goodIn_of _ (by decide +kernel)) ggX8_writePlain_X8_otherFrom
set_option maxRecDepth 20000 in
theorem ggX8_writePlain_X8_putRun : GoodIn wsX8_writePlain wsX8_putRun := goodIn_ca (goodIn_r _ [15, 16, 17, 18, 5, 19, 20, 21, 22, 23, 24, 25, 26, 27, 28, 29, 30, 31, 32, 33, 34, 35, 36, 37, 38, 39, 40, 41, 42, 43, 44, 45, 46, 47, 48, 49, 50, 51, 52, 53] (by decide +kernel) (by decide +kernel)) (goodIn_sub (fun _ h => List.mem_cons_of_mem _ (List.mem_append_right _ h)) (by decide +kernel))
set_option maxRecDepth 20000 in
theorem gX8_writePlain_X8_putRun : GoodIn wsX8_writePlain (wsV RX8 113 RX8 yX8_putRun wsX8_putRun) := goodIn_app (goodIn_of _ (by decide +kernel)) ggX8_writePlain_X8_putRun
theorem dX8_writePlain_0 : decode cX8_writePlain 0 = .ok (.iconst 0, 1) := by decide +kernel
theorem dX8_writePlain_1 : decode cX8_writePlain 1 = .ok (.istore_n 2, 1) := by decide +kernel
theorem dX8_writePlain_2 : decode cX8_writePlain 2 = .ok (.iconst 0, 1) := by decide +kernel
theorem dX8_writePlain_3 : decode cX8_writePlain 3 = .ok (.istore_n 3, 1) := by decide +kernel
theorem dX8_writePlain_4 : decode cX8_writePlain 4 = .ok (.iload_n 2, 1) := by decide +kernel
theorem dX8_writePlain_5 : decode cX8_writePlain 5 = .ok (.aload_n 0, 1) := by decide +kernel
theorem dX8_writePlain_6 : decode cX8_writePlain 6 = .ok (.getfield 37, 3) := by decide +kernel
theorem dX8_writePlain_9 : decode cX8_writePlain 9 = .ok (.if_icmp .ge 37, 3) := by decide +kernel
theorem dX8_writePlain_12 : decode cX8_writePlain 12 = .ok (.aload_n 0, 1) := by decide +kernel
theorem dX8_writePlain_13 : decode cX8_writePlain 13 = .ok (.iload_n 1, 1) := by decide +kernel
theorem dX8_writePlain_14 : decode cX8_writePlain 14 = .ok (.iload_n 2, 1) := by decide +kernel
theorem dX8_writePlain_15 : decode cX8_writePlain 15 = .ok (.iload_n 3, 1) := by decide +kernel
theorem dX8_writePlain_16 : decode cX8_writePlain 16 = .ok (.invokevirtual 109, 3) := by decide +kernel
theorem dX8_writePlain_19 : decode cX8_writePlain 19 = .ok (.istore 4, 2) := by decide +kernel
theorem dX8_writePlain_21 : decode cX8_writePlain 21 = .ok (.aload_n 0, 1) := by decide +kernel
theorem dX8_writePlain_22 : decode cX8_writePlain 22 = .ok (.iload_n 3, 1) := by decide +kernel
theorem dX8_writePlain_23 : decode cX8_writePlain 23 = .ok (.iload 4, 2) := by decide +kernel
theorem dX8_writePlain_25 : decode cX8_writePlain 25 = .ok (.iload_n 2, 1) := by decide +kernel
theorem dX8_writePlain_26 : decode cX8_writePlain 26 = .ok (.isub, 1) := by decide +kernel
theorem dX8_writePlain_27 : decode cX8_writePlain 27 = .ok (.invokevirtual 113, 3) := by decide +kernel
theorem dX8_writePlain_30 : decode cX8_writePlain 30 = .ok (.iload 4, 2) := by decide +kernel
theorem dX8_writePlain_32 : decode cX8_writePlain 32 = .ok (.istore_n 2, 1) := by decide +kernel
theorem dX8_writePlain_33 : decode cX8_writePlain 33 = .ok (.iload_n 3, 1) := by decide +kernel
theorem dX8_writePlain_34 : decode cX8_writePlain 34 = .ok (.ifCond .ne 7, 3) := by decide +kernel
theorem dX8_writePlain_37 : decode cX8_writePlain 37 = .ok (.iconst 1, 1) := by decide +kernel
theorem dX8_writePlain_38 : decode cX8_writePlain 38 = .ok (.goto 4, 3) := by decide +kernel
theorem dX8_writePlain_41 : decode cX8_writePlain 41 = .ok (.iconst 0, 1) := by decide +kernel
theorem dX8_writePlain_42 : decode cX8_writePlain 42 = .ok (.istore_n 3, 1) := by decide +kernel
theorem dX8_writePlain_43 : decode cX8_writePlain 43 = .ok (.goto (-39), 3) := by decide +kernel
theorem dX8_writePlain_46 : decode cX8_writePlain 46 = .ok (.return_, 1) := by decide +kernel
set_option maxRecDepth 20000 in
theorem ggX8_look_X8_isChange : GoodIn wsX8_look wsX8_isChange := goodIn_ca (goodIn_r _ [11, 12, 13, 14, 10, 15, 16, 17, 18, 19, 20, 21, 22, 23, 24, 25, 26, 27, 28, 29, 30, 31, 32, 33, 34, 35, 36, 37, 38] (by decide +kernel) (by decide +kernel)) (goodIn_sub (fun _ h => List.mem_cons_of_mem _ (List.mem_append_right _ h)) (by decide +kernel))
set_option maxRecDepth 20000 in
theorem gX8_look_X8_isChange : GoodIn wsX8_look (wsV RX8 92 RX8 yX8_isChange wsX8_isChange) := goodIn_app (goodIn_of _ (by decide +kernel)) ggX8_look_X8_isChange
set_option maxRecDepth 20000 in
theorem ggX8_look_X8_at : GoodIn wsX8_look wsX8_at := goodIn_ca (goodIn_r _ [15, 16, 17, 18, 19, 20, 21, 22, 23, 24, 25, 26, 27, 28, 29, 30, 31, 32, 33, 34, 35, 36, 37, 38] (by decide +kernel) (by decide +kernel)) (goodIn_sub (fun _ h => List.mem_cons_of_mem _ (List.mem_append_right _ h)) (by decide +kernel))
set_option maxRecDepth 20000 in
theorem gX8_look_X8_at : GoodIn wsX8_look (wsV RX8 88 RX8 yX8_at wsX8_at) := goodIn_app (goodIn_of _ (by decide +kernel)) ggX8_look_X8_at
theorem dX8_look_0 : decode cX8_look 0 = .ok (.aload_n 0, 1) := by decide +kernel
theorem dX8_look_1 : decode cX8_look 1 = .ok (.aload_n 0, 1) := by decide +kernel
theorem dX8_look_2 : decode cX8_look 2 = .ok (.getfield 117, 3) := by decide +kernel
theorem dX8_look_5 : decode cX8_look 5 = .ok (.ifCond .eq 10, 3) := by decide +kernel
theorem dX8_look_8 : decode cX8_look 8 = .ok (.aload_n 0, 1) := by decide +kernel
theorem dX8_look_9 : decode cX8_look 9 = .ok (.getfield 121, 3) := by decide +kernel
theorem dX8_look_12 : decode cX8_look 12 = .ok (.goto 9, 3) := by decide +kernel
theorem dX8_look_15 : decode cX8_look 15 = .ok (.aload_n 0, 1) := by decide +kernel
theorem dX8_look_16 : decode cX8_look 16 = .ok (.getfield 121, 3) := by decide +kernel
theorem dX8_look_19 : decode cX8_look 19 = .ok (.iconst 1, 1) := by decide +kernel
theorem dX8_look_20 : decode cX8_look 20 = .ok (.iadd, 1) := by decide +kernel
theorem dX8_look_21 : decode cX8_look 21 = .ok (.putfield 124, 3) := by decide +kernel
theorem dX8_look_24 : decode cX8_look 24 = .ok (.aload_n 0, 1) := by decide +kernel
theorem dX8_look_25 : decode cX8_look 25 = .ok (.getfield 124, 3) := by decide +kernel
theorem dX8_look_28 : decode cX8_look 28 = .ok (.aload_n 0, 1) := by decide +kernel
theorem dX8_look_29 : decode cX8_look 29 = .ok (.getfield 37, 3) := by decide +kernel
theorem dX8_look_32 : decode cX8_look 32 = .ok (.if_icmp .ge 48, 3) := by decide +kernel
theorem dX8_look_35 : decode cX8_look 35 = .ok (.aload_n 0, 1) := by decide +kernel
theorem dX8_look_36 : decode cX8_look 36 = .ok (.iload_n 1, 1) := by decide +kernel
theorem dX8_look_37 : decode cX8_look 37 = .ok (.iconst 1, 1) := by decide +kernel
theorem dX8_look_38 : decode cX8_look 38 = .ok (.isub, 1) := by decide +kernel
theorem dX8_look_39 : decode cX8_look 39 = .ok (.aload_n 0, 1) := by decide +kernel
theorem dX8_look_40 : decode cX8_look 40 = .ok (.getfield 124, 3) := by decide +kernel
theorem dX8_look_43 : decode cX8_look 43 = .ok (.invokevirtual 92, 3) := by decide +kernel
theorem dX8_look_46 : decode cX8_look 46 = .ok (.ifCond .eq 21, 3) := by decide +kernel
theorem dX8_look_49 : decode cX8_look 49 = .ok (.aload_n 0, 1) := by decide +kernel
theorem dX8_look_50 : decode cX8_look 50 = .ok (.iload_n 1, 1) := by decide +kernel
theorem dX8_look_51 : decode cX8_look 51 = .ok (.iconst 1, 1) := by decide +kernel
theorem dX8_look_52 : decode cX8_look 52 = .ok (.isub, 1) := by decide +kernel
theorem dX8_look_53 : decode cX8_look 53 = .ok (.aload_n 0, 1) := by decide +kernel
theorem dX8_look_54 : decode cX8_look 54 = .ok (.getfield 124, 3) := by decide +kernel
theorem dX8_look_57 : decode cX8_look 57 = .ok (.invokevirtual 88, 3) := by decide +kernel
theorem dX8_look_60 : decode cX8_look 60 = .ok (.aload_n 0, 1) := by decide +kernel
theorem dX8_look_61 : decode cX8_look 61 = .ok (.getfield 127, 3) := by decide +kernel
theorem dX8_look_64 : decode cX8_look 64 = .ok (.if_icmp .ne 16, 3) := by decide +kernel
theorem dX8_look_67 : decode cX8_look 67 = .ok (.aload_n 0, 1) := by decide +kernel
theorem dX8_look_68 : decode cX8_look 68 = .ok (.dup, 1) := by decide +kernel
theorem dX8_look_69 : decode cX8_look 69 = .ok (.getfield 124, 3) := by decide +kernel
theorem dX8_look_72 : decode cX8_look 72 = .ok (.iconst 1, 1) := by decide +kernel
theorem dX8_look_73 : decode cX8_look 73 = .ok (.iadd, 1) := by decide +kernel
theorem dX8_look_74 : decode cX8_look 74 = .ok (.putfield 124, 3) := by decide +kernel
theorem dX8_look_77 : decode cX8_look 77 = .ok (.goto (-53), 3) := by decide +kernel
theorem dX8_look_80 : decode cX8_look 80 = .ok (.aload_n 0, 1) := by decide +kernel
theorem dX8_look_81 : decode cX8_look 81 = .ok (.aload_n 0, 1) := by decide +kernel
theorem dX8_look_82 : decode cX8_look 82 = .ok (.getfield 124, 3) := by decide +kernel
theorem dX8_look_85 : decode cX8_look 85 = .ok (.aload_n 0, 1) := by decide +kernel
theorem dX8_look_86 : decode cX8_look 86 = .ok (.getfield 37, 3) := by decide +kernel
theorem dX8_look_89 : decode cX8_look 89 = .ok (.if_icmp .le 10, 3) := by decide +kernel
theorem dX8_look_92 : decode cX8_look 92 = .ok (.aload_n 0, 1) := by decide +kernel
theorem dX8_look_93 : decode cX8_look 93 = .ok (.getfield 37, 3) := by decide +kernel
theorem dX8_look_96 : decode cX8_look 96 = .ok (.goto 7, 3) := by decide +kernel
theorem dX8_look_99 : decode cX8_look 99 = .ok (.aload_n 0, 1) := by decide +kernel
theorem dX8_look_100 : decode cX8_look 100 = .ok (.getfield 124, 3) := by decide +kernel
theorem dX8_look_103 : decode cX8_look 103 = .ok (.putfield 124, 3) := by decide +kernel
theorem dX8_look_106 : decode cX8_look 106 = .ok (.aload_n 0, 1) := by decide +kernel
theorem dX8_look_107 : decode cX8_look 107 = .ok (.aload_n 0, 1) := by decide +kernel
theorem dX8_look_108 : decode cX8_look 108 = .ok (.getfield 124, 3) := by decide +kernel
theorem dX8_look_111 : decode cX8_look 111 = .ok (.iconst 1, 1) := by decide +kernel
theorem dX8_look_112 : decode cX8_look 112 = .ok (.iadd, 1) := by decide +kernel
theorem dX8_look_113 : decode cX8_look 113 = .ok (.putfield 130, 3) := by decide +kernel
theorem dX8_look_116 : decode cX8_look 116 = .ok (.aload_n 0, 1) := by decide +kernel
theorem dX8_look_117 : decode cX8_look 117 = .ok (.getfield 130, 3) := by decide +kernel
theorem dX8_look_120 : decode cX8_look 120 = .ok (.aload_n 0, 1) := by decide +kernel
theorem dX8_look_121 : decode cX8_look 121 = .ok (.getfield 37, 3) := by decide +kernel
theorem dX8_look_124 : decode cX8_look 124 = .ok (.if_icmp .ge 30, 3) := by decide +kernel
theorem dX8_look_127 : decode cX8_look 127 = .ok (.aload_n 0, 1) := by decide +kernel
theorem dX8_look_128 : decode cX8_look 128 = .ok (.iload_n 1, 1) := by decide +kernel
theorem dX8_look_129 : decode cX8_look 129 = .ok (.iconst 1, 1) := by decide +kernel
theorem dX8_look_130 : decode cX8_look 130 = .ok (.isub, 1) := by decide +kernel
theorem dX8_look_131 : decode cX8_look 131 = .ok (.aload_n 0, 1) := by decide +kernel
theorem dX8_look_132 : decode cX8_look 132 = .ok (.getfield 130, 3) := by decide +kernel
theorem dX8_look_135 : decode cX8_look 135 = .ok (.invokevirtual 92, 3) := by decide +kernel
theorem dX8_look_138 : decode cX8_look 138 = .ok (.ifCond .ne 16, 3) := by decide +kernel
theorem dX8_look_141 : decode cX8_look 141 = .ok (.aload_n 0, 1) := by decide +kernel
theorem dX8_look_142 : decode cX8_look 142 = .ok (.dup, 1) := by decide +kernel
theorem dX8_look_143 : decode cX8_look 143 = .ok (.getfield 130, 3) := by decide +kernel
theorem dX8_look_146 : decode cX8_look 146 = .ok (.iconst 1, 1) := by decide +kernel
theorem dX8_look_147 : decode cX8_look 147 = .ok (.iadd, 1) := by decide +kernel
theorem dX8_look_148 : decode cX8_look 148 = .ok (.putfield 130, 3) := by decide +kernel
theorem dX8_look_151 : decode cX8_look 151 = .ok (.goto (-35), 3) := by decide +kernel
theorem dX8_look_154 : decode cX8_look 154 = .ok (.aload_n 0, 1) := by decide +kernel
theorem dX8_look_155 : decode cX8_look 155 = .ok (.aload_n 0, 1) := by decide +kernel
theorem dX8_look_156 : decode cX8_look 156 = .ok (.getfield 130, 3) := by decide +kernel
theorem dX8_look_159 : decode cX8_look 159 = .ok (.aload_n 0, 1) := by decide +kernel
theorem dX8_look_160 : decode cX8_look 160 = .ok (.getfield 37, 3) := by decide +kernel
theorem dX8_look_163 : decode cX8_look 163 = .ok (.if_icmp .le 10, 3) := by decide +kernel
theorem dX8_look_166 : decode cX8_look 166 = .ok (.aload_n 0, 1) := by decide +kernel
theorem dX8_look_167 : decode cX8_look 167 = .ok (.getfield 37, 3) := by decide +kernel
theorem dX8_look_170 : decode cX8_look 170 = .ok (.goto 7, 3) := by decide +kernel
theorem dX8_look_173 : decode cX8_look 173 = .ok (.aload_n 0, 1) := by decide +kernel
theorem dX8_look_174 : decode cX8_look 174 = .ok (.getfield 130, 3) := by decide +kernel
theorem dX8_look_177 : decode cX8_look 177 = .ok (.putfield 130, 3) := by decide +kernel
theorem dX8_look_180 : decode cX8_look 180 = .ok (.return_, 1) := by decide +kernel
set_option maxRecDepth 20000 in
theorem ggX8_putStep_X8_putBits : GoodIn wsX8_putStep wsX8_putBits := goodIn_ca (goodIn_r _ [5, 6, 7, 8, 4, 9, 10, 11, 12, 13, 14, 15, 16, 17, 18, 19, 20, 21, 22, 23, 24, 25, 26, 27, 28, 29, 30, 31, 32, 33] (by decide +kernel) (by decide +kernel)) (goodIn_sub (fun _ h => List.mem_cons_of_mem _ (List.mem_append_right _ h)) (by decide +kernel))
set_option maxRecDepth 20000 in
theorem gX8_putStep_X8_putBits : GoodIn wsX8_putStep (wsV RX8 102 RX8 yX8_putBits wsX8_putBits) := goodIn_app (goodIn_of _ (by decide +kernel)) ggX8_putStep_X8_putBits
theorem dX8_putStep_0 : decode cX8_putStep 0 = .ok (.iload_n 1, 1) := by decide +kernel
theorem dX8_putStep_1 : decode cX8_putStep 1 = .ok (.ifCond .ne 12, 3) := by decide +kernel
theorem dX8_putStep_4 : decode cX8_putStep 4 = .ok (.aload_n 0, 1) := by decide +kernel
theorem dX8_putStep_5 : decode cX8_putStep 5 = .ok (.iconst 1, 1) := by decide +kernel
theorem dX8_putStep_6 : decode cX8_putStep 6 = .ok (.iconst 1, 1) := by decide +kernel
theorem dX8_putStep_7 : decode cX8_putStep 7 = .ok (.invokevirtual 102, 3) := by decide +kernel
theorem dX8_putStep_10 : decode cX8_putStep 10 = .ok (.goto 77, 3) := by decide +kernel
theorem dX8_putStep_13 : decode cX8_putStep 13 = .ok (.iload_n 1, 1) := by decide +kernel
theorem dX8_putStep_14 : decode cX8_putStep 14 = .ok (.iconst 1, 1) := by decide +kernel
theorem dX8_putStep_15 : decode cX8_putStep 15 = .ok (.if_icmp .eq 8, 3) := by decide +kernel
theorem dX8_putStep_18 : decode cX8_putStep 18 = .ok (.iload_n 1, 1) := by decide +kernel
theorem dX8_putStep_19 : decode cX8_putStep 19 = .ok (.iconst (-1), 1) := by decide +kernel
theorem dX8_putStep_20 : decode cX8_putStep 20 = .ok (.if_icmp .ne 21, 3) := by decide +kernel
theorem dX8_putStep_23 : decode cX8_putStep 23 = .ok (.aload_n 0, 1) := by decide +kernel
theorem dX8_putStep_24 : decode cX8_putStep 24 = .ok (.iload_n 1, 1) := by decide +kernel
theorem dX8_putStep_25 : decode cX8_putStep 25 = .ok (.iconst 1, 1) := by decide +kernel
theorem dX8_putStep_26 : decode cX8_putStep 26 = .ok (.if_icmp .ne 7, 3) := by decide +kernel
theorem dX8_putStep_29 : decode cX8_putStep 29 = .ok (.iconst 3, 1) := by decide +kernel
theorem dX8_putStep_30 : decode cX8_putStep 30 = .ok (.goto 4, 3) := by decide +kernel
theorem dX8_putStep_33 : decode cX8_putStep 33 = .ok (.iconst 2, 1) := by decide +kernel
theorem dX8_putStep_34 : decode cX8_putStep 34 = .ok (.iconst 3, 1) := by decide +kernel
theorem dX8_putStep_35 : decode cX8_putStep 35 = .ok (.invokevirtual 102, 3) := by decide +kernel
theorem dX8_putStep_38 : decode cX8_putStep 38 = .ok (.goto 49, 3) := by decide +kernel
theorem dX8_putStep_41 : decode cX8_putStep 41 = .ok (.iload_n 1, 1) := by decide +kernel
theorem dX8_putStep_42 : decode cX8_putStep 42 = .ok (.iconst 2, 1) := by decide +kernel
theorem dX8_putStep_43 : decode cX8_putStep 43 = .ok (.if_icmp .eq 9, 3) := by decide +kernel
theorem dX8_putStep_46 : decode cX8_putStep 46 = .ok (.iload_n 1, 1) := by decide +kernel
theorem dX8_putStep_47 : decode cX8_putStep 47 = .ok (.bipush (-2), 2) := by decide +kernel
theorem dX8_putStep_49 : decode cX8_putStep 49 = .ok (.if_icmp .ne 22, 3) := by decide +kernel
theorem dX8_putStep_52 : decode cX8_putStep 52 = .ok (.aload_n 0, 1) := by decide +kernel
theorem dX8_putStep_53 : decode cX8_putStep 53 = .ok (.iload_n 1, 1) := by decide +kernel
theorem dX8_putStep_54 : decode cX8_putStep 54 = .ok (.iconst 2, 1) := by decide +kernel
theorem dX8_putStep_55 : decode cX8_putStep 55 = .ok (.if_icmp .ne 7, 3) := by decide +kernel
theorem dX8_putStep_58 : decode cX8_putStep 58 = .ok (.iconst 3, 1) := by decide +kernel
theorem dX8_putStep_59 : decode cX8_putStep 59 = .ok (.goto 4, 3) := by decide +kernel
theorem dX8_putStep_62 : decode cX8_putStep 62 = .ok (.iconst 2, 1) := by decide +kernel
theorem dX8_putStep_63 : decode cX8_putStep 63 = .ok (.bipush 6, 2) := by decide +kernel
theorem dX8_putStep_65 : decode cX8_putStep 65 = .ok (.invokevirtual 102, 3) := by decide +kernel
theorem dX8_putStep_68 : decode cX8_putStep 68 = .ok (.goto 19, 3) := by decide +kernel
theorem dX8_putStep_71 : decode cX8_putStep 71 = .ok (.aload_n 0, 1) := by decide +kernel
theorem dX8_putStep_72 : decode cX8_putStep 72 = .ok (.iload_n 1, 1) := by decide +kernel
theorem dX8_putStep_73 : decode cX8_putStep 73 = .ok (.iconst 3, 1) := by decide +kernel
theorem dX8_putStep_74 : decode cX8_putStep 74 = .ok (.if_icmp .ne 7, 3) := by decide +kernel
theorem dX8_putStep_77 : decode cX8_putStep 77 = .ok (.iconst 3, 1) := by decide +kernel
theorem dX8_putStep_78 : decode cX8_putStep 78 = .ok (.goto 4, 3) := by decide +kernel
theorem dX8_putStep_81 : decode cX8_putStep 81 = .ok (.iconst 2, 1) := by decide +kernel
