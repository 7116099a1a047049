set_option maxRecDepth 20000 in
theorem ggX4_init_X3_init : GoodIn wsX4_init wsX3_init := goodIn_r _ [22, 23, 2, 3, 24, 25, 26, 27, 28, 29, 30, 31, 32, 33, 34, 67, 68, 69, 70, 71] (by decide +kernel) (by decide +kernel)
set_option maxRecDepth 20000 in
theorem gX4_init_X3_init : GoodIn wsX4_init (wsX3_init) := ggX4_init_X3_init
set_option maxRecDepth 20000 in
theorem ggX4_init_X2_init : GoodIn wsX4_init wsX2_init := goodIn_r _ [36, 37, 2, 3, 38, 39, 26, 40, 41, 42, 43, 78, 79, 80, 81, 82, 83] (by decide +kernel) (by decide +kernel)
set_option maxRecDepth 20000 in
theorem gX4_init_X2_init_n18 : GoodIn wsX4_init (wsX2_init) := ggX4_init_X2_init
set_option maxRecDepth 20000 in
theorem ggX4_init_X1_init : GoodIn wsX4_init wsX1_init := goodIn_r _ [46, 47, 2, 3, 26, 48, 49, 50, 51, 52, 53, 54, 55, 32, 33, 34, 84, 85, 86, 87, 88, 89] (by decide +kernel) (by decide +kernel)
set_option maxRecDepth 20000 in
theorem gX4_init_X1_init : GoodIn wsX4_init (wsX1_init) := ggX4_init_X1_init
set_option maxRecDepth 20000 in
theorem ggX4_init_X0_init : GoodIn wsX4_init wsX0_init := goodIn_r _ [57, 58, 2, 3, 24, 59, 26, 60, 61, 62, 63, 64, 65, 66, 90, 91, 92, 93, 94, 95, 96, 97, 98] (by decide +kernel) (by decide +kernel)
set_option maxRecDepth 20000 in
theorem gX4_init_X0_init_n32 : GoodIn wsX4_init (wsX0_init) := ggX4_init_X0_init
theorem dX4_init_0 : decode cX4_init 0 = .ok (.aload_n 0, 1) := by decide +kernel
theorem dX4_init_1 : decode cX4_init 1 = .ok (.invokespecial 1, 3) := by decide +kernel
theorem dX4_init_4 : decode cX4_init 4 = .ok (.aload_n 0, 1) := by decide +kernel
theorem dX4_init_5 : decode cX4_init 5 = .ok (.new 7, 3) := by decide +kernel
theorem dX4_init_8 : decode cX4_init 8 = .ok (.dup, 1) := by decide +kernel
theorem dX4_init_9 : decode cX4_init 9 = .ok (.invokespecial 9, 3) := by decide +kernel
theorem dX4_init_12 : decode cX4_init 12 = .ok (.putfield 10, 3) := by decide +kernel
theorem dX4_init_15 : decode cX4_init 15 = .ok (.aload_n 0, 1) := by decide +kernel
theorem dX4_init_16 : decode cX4_init 16 = .ok (.new 16, 3) := by decide +kernel
theorem dX4_init_19 : decode cX4_init 19 = .ok (.dup, 1) := by decide +kernel
theorem dX4_init_20 : decode cX4_init 20 = .ok (.invokespecial 18, 3) := by decide +kernel
theorem dX4_init_23 : decode cX4_init 23 = .ok (.putfield 19, 3) := by decide +kernel
theorem dX4_init_26 : decode cX4_init 26 = .ok (.aload_n 0, 1) := by decide +kernel
theorem dX4_init_27 : decode cX4_init 27 = .ok (.new 23, 3) := by decide +kernel
theorem dX4_init_30 : decode cX4_init 30 = .ok (.dup, 1) := by decide +kernel
theorem dX4_init_31 : decode cX4_init 31 = .ok (.invokespecial 25, 3) := by decide +kernel
theorem dX4_init_34 : decode cX4_init 34 = .ok (.putfield 26, 3) := by decide +kernel
theorem dX4_init_37 : decode cX4_init 37 = .ok (.aload_n 0, 1) := by decide +kernel
theorem dX4_init_38 : decode cX4_init 38 = .ok (.new 30, 3) := by decide +kernel
theorem dX4_init_41 : decode cX4_init 41 = .ok (.dup, 1) := by decide +kernel
theorem dX4_init_42 : decode cX4_init 42 = .ok (.invokespecial 32, 3) := by decide +kernel
theorem dX4_init_45 : decode cX4_init 45 = .ok (.putfield 33, 3) := by decide +kernel
theorem dX4_init_48 : decode cX4_init 48 = .ok (.return_, 1) := by decide +kernel
theorem dX4_pass_0 : decode cX4_pass 0 = .ok (.iload_n 1, 1) := by decide +kernel
theorem dX4_pass_1 : decode cX4_pass 1 = .ok (.iconst 1, 1) := by decide +kernel
theorem dX4_pass_2 : decode cX4_pass 2 = .ok (.if_icmp .lt 9, 3) := by decide +kernel
theorem dX4_pass_5 : decode cX4_pass 5 = .ok (.iload_n 1, 1) := by decide +kernel
theorem dX4_pass_6 : decode cX4_pass 6 = .ok (.bipush 60, 2) := by decide +kernel
theorem dX4_pass_8 : decode cX4_pass 8 = .ok (.if_icmp .le 13, 3) := by decide +kernel
theorem dX4_pass_11 : decode cX4_pass 11 = .ok (.new 37, 3) := by decide +kernel
theorem dX4_pass_14 : decode cX4_pass 14 = .ok (.dup, 1) := by decide +kernel
theorem dX4_pass_15 : decode cX4_pass 15 = .ok (.ldc 39, 2) := by decide +kernel
theorem dX4_pass_17 : decode cX4_pass 17 = .ok (.invokespecial 41, 3) := by decide +kernel
theorem dX4_pass_20 : decode cX4_pass 20 = .ok (.athrow, 1) := by decide +kernel
theorem dX4_pass_21 : decode cX4_pass 21 = .ok (.aload_n 0, 1) := by decide +kernel
theorem dX4_pass_22 : decode cX4_pass 22 = .ok (.dup, 1) := by decide +kernel
theorem dX4_pass_23 : decode cX4_pass 23 = .ok (.getfield 44, 3) := by decide +kernel
theorem dX4_pass_26 : decode cX4_pass 26 = .ok (.iload_n 1, 1) := by decide +kernel
theorem dX4_pass_27 : decode cX4_pass 27 = .ok (.iadd, 1) := by decide +kernel
theorem dX4_pass_28 : decode cX4_pass 28 = .ok (.putfield 44, 3) := by decide +kernel
theorem dX4_pass_31 : decode cX4_pass 31 = .ok (.aload_n 0, 1) := by decide +kernel
theorem dX4_pass_32 : decode cX4_pass 32 = .ok (.getfield 44, 3) := by decide +kernel
theorem dX4_pass_35 : decode cX4_pass 35 = .ok (.ireturn, 1) := by decide +kernel
theorem dX4_time_0 : decode cX4_time 0 = .ok (.aload_n 0, 1) := by decide +kernel
theorem dX4_time_1 : decode cX4_time 1 = .ok (.getfield 44, 3) := by decide +kernel
theorem dX4_time_4 : decode cX4_time 4 = .ok (.ireturn, 1) := by decide +kernel
set_option maxRecDepth 20000 in
theorem ggX4_setDown_X4_checkMember : GoodIn wsX4_setDown wsX4_checkMember := goodIn_ca (goodIn_r _ [7, 8, 9] (by decide +kernel) (by decide +kernel)) (goodIn_sub (fun _ h => List.mem_cons_of_mem _ (List.mem_append_right _ h)) (by decide +kernel))
set_option maxRecDepth 20000 in
theorem gX4_setDown_X4_checkMember : GoodIn wsX4_setDown (wsV RX4 48 RX4 yX4_checkMember wsX4_checkMember) := goodIn_app (goodIn_of _ (by decide +kernel)) ggX4_setDown_X4_checkMember
theorem dX4_setDown_0 : decode cX4_setDown 0 = .ok (.aload_n 0, 1) := by decide +kernel
theorem dX4_setDown_1 : decode cX4_setDown 1 = .ok (.iload_n 1, 1) := by decide +kernel
theorem dX4_setDown_2 : decode cX4_setDown 2 = .ok (.invokevirtual 48, 3) := by decide +kernel
theorem dX4_setDown_5 : decode cX4_setDown 5 = .ok (.aload_n 0, 1) := by decide +kernel
theorem dX4_setDown_6 : decode cX4_setDown 6 = .ok (.getfield 10, 3) := by decide +kernel
theorem dX4_setDown_9 : decode cX4_setDown 9 = .ok (.getfield 52, 3) := by decide +kernel
theorem dX4_setDown_12 : decode cX4_setDown 12 = .ok (.iload_n 1, 1) := by decide +kernel
theorem dX4_setDown_13 : decode cX4_setDown 13 = .ok (.baload, 1) := by decide +kernel
theorem dX4_setDown_14 : decode cX4_setDown 14 = .ok (.istore_n 3, 1) := by decide +kernel
theorem dX4_setDown_15 : decode cX4_setDown 15 = .ok (.aload_n 0, 1) := by decide +kernel
theorem dX4_setDown_16 : decode cX4_setDown 16 = .ok (.getfield 10, 3) := by decide +kernel
theorem dX4_setDown_19 : decode cX4_setDown 19 = .ok (.getfield 52, 3) := by decide +kernel
theorem dX4_setDown_22 : decode cX4_setDown 22 = .ok (.iload_n 1, 1) := by decide +kernel
theorem dX4_setDown_23 : decode cX4_setDown 23 = .ok (.iload_n 2, 1) := by decide +kernel
theorem dX4_setDown_24 : decode cX4_setDown 24 = .ok (.bastore, 1) := by decide +kernel
theorem dX4_setDown_25 : decode cX4_setDown 25 = .ok (.iload_n 3, 1) := by decide +kernel
theorem dX4_setDown_26 : decode cX4_setDown 26 = .ok (.ireturn, 1) := by decide +kernel
set_option maxRecDepth 20000 in
theorem ggX4_setCut_X4_checkMember : GoodIn wsX4_setCut wsX4_checkMember := goodIn_ca (goodIn_r _ [8, 9, 10] (by decide +kernel) (by decide +kernel)) (goodIn_sub (fun _ h => List.mem_cons_of_mem _ (List.mem_append_left _ (List.mem_append_right _ h))) (by decide +kernel))
set_option maxRecDepth 20000 in
theorem gX4_setCut_X4_checkMember : GoodIn wsX4_setCut (wsV RX4 48 RX4 yX4_checkMember wsX4_checkMember) := goodIn_app (goodIn_of _ (by decide +kernel)) ggX4_setCut_X4_checkMember
set_option maxRecDepth 20000 in
theorem ggX4_setCut_X3_cutLink : GoodIn wsX4_setCut wsX3_cutLink := goodIn_ca (goodIn_r _ [15, 16, 23, 24, 25, 26, 27] (by decide +kernel) (by decide +kernel)) (goodIn_sub (fun _ h => List.mem_cons_of_mem _ (List.mem_append_right _ h)) (by decide +kernel))
set_option maxRecDepth 20000 in
theorem gX4_setCut_X3_cutLink : GoodIn wsX4_setCut (wsV RX4 58 RX3 yX3_cutLink wsX3_cutLink) := goodIn_app (goodIn_of _ (by decide +kernel)) ggX4_setCut_X3_cutLink
theorem dX4_setCut_0 : decode cX4_setCut 0 = .ok (.aload_n 0, 1) := by decide +kernel
theorem dX4_setCut_1 : decode cX4_setCut 1 = .ok (.iload_n 1, 1) := by decide +kernel
theorem dX4_setCut_2 : decode cX4_setCut 2 = .ok (.invokevirtual 48, 3) := by decide +kernel
theorem dX4_setCut_5 : decode cX4_setCut 5 = .ok (.aload_n 0, 1) := by decide +kernel
theorem dX4_setCut_6 : decode cX4_setCut 6 = .ok (.iload_n 2, 1) := by decide +kernel
theorem dX4_setCut_7 : decode cX4_setCut 7 = .ok (.invokevirtual 48, 3) := by decide +kernel
theorem dX4_setCut_10 : decode cX4_setCut 10 = .ok (.iload_n 1, 1) := by decide +kernel
theorem dX4_setCut_11 : decode cX4_setCut 11 = .ok (.iload_n 2, 1) := by decide +kernel
theorem dX4_setCut_12 : decode cX4_setCut 12 = .ok (.if_icmp .ne 13, 3) := by decide +kernel
theorem dX4_setCut_15 : decode cX4_setCut 15 = .ok (.new 37, 3) := by decide +kernel
theorem dX4_setCut_18 : decode cX4_setCut 18 = .ok (.dup, 1) := by decide +kernel
theorem dX4_setCut_19 : decode cX4_setCut 19 = .ok (.ldc 56, 2) := by decide +kernel
theorem dX4_setCut_21 : decode cX4_setCut 21 = .ok (.invokespecial 41, 3) := by decide +kernel
theorem dX4_setCut_24 : decode cX4_setCut 24 = .ok (.athrow, 1) := by decide +kernel
theorem dX4_setCut_25 : decode cX4_setCut 25 = .ok (.aload_n 0, 1) := by decide +kernel
theorem dX4_setCut_26 : decode cX4_setCut 26 = .ok (.getfield 10, 3) := by decide +kernel
theorem dX4_setCut_29 : decode cX4_setCut 29 = .ok (.iload_n 1, 1) := by decide +kernel
theorem dX4_setCut_30 : decode cX4_setCut 30 = .ok (.iload_n 2, 1) := by decide +kernel
theorem dX4_setCut_31 : decode cX4_setCut 31 = .ok (.iload_n 3, 1) := by decide +kernel
theorem dX4_setCut_32 : decode cX4_setCut 32 = .ok (.invokevirtual 58, 3) := by decide +kernel
theorem dX4_setCut_35 : decode cX4_setCut 35 = .ok (.ireturn, 1) := by decide +kernel
set_option maxRecDepth 20000 in
theorem ggX4_reached_X4_checkMember : GoodIn wsX4_reached wsX4_checkMember := goodIn_ca (goodIn_r _ [6, 7, 8] (by decide +kernel) (by decide +kernel)) (goodIn_sub (fun _ h => List.mem_cons_of_mem _ (List.mem_append_left _ (List.mem_append_right _ h))) (by decide +kernel))
set_option maxRecDepth 20000 in
theorem gX4_reached_X4_checkMember : GoodIn wsX4_reached (wsV RX4 48 RX4 yX4_checkMember wsX4_checkMember) := goodIn_app (goodIn_of _ (by decide +kernel)) ggX4_reached_X4_checkMember
set_option maxRecDepth 20000 in
theorem ggX4_reached_X3_countReached : GoodIn wsX4_reached wsX3_countReached := goodIn_ca (goodIn_r _ [13, 14, 15, 16, 12, 17, 18, 19, 26, 27, 28, 29, 30] (by decide +kernel) (by decide +kernel)) (goodIn_sub (fun _ h => List.mem_cons_of_mem _ (List.mem_append_right _ h)) (by decide +kernel))
set_option maxRecDepth 20000 in
theorem gX4_reached_X3_countReached : GoodIn wsX4_reached (wsV RX4 62 RX3 yX3_countReached wsX3_countReached) := goodIn_app (goodIn_of _ (by decide +kernel)) ggX4_reached_X3_countReached
theorem dX4_reached_0 : decode cX4_reached 0 = .ok (.aload_n 0, 1) := by decide +kernel
theorem dX4_reached_1 : decode cX4_reached 1 = .ok (.iload_n 1, 1) := by decide +kernel
theorem dX4_reached_2 : decode cX4_reached 2 = .ok (.invokevirtual 48, 3) := by decide +kernel
theorem dX4_reached_5 : decode cX4_reached 5 = .ok (.aload_n 0, 1) := by decide +kernel
theorem dX4_reached_6 : decode cX4_reached 6 = .ok (.getfield 10, 3) := by decide +kernel
theorem dX4_reached_9 : decode cX4_reached 9 = .ok (.iload_n 1, 1) := by decide +kernel
theorem dX4_reached_10 : decode cX4_reached 10 = .ok (.invokevirtual 62, 3) := by decide +kernel
theorem dX4_reached_13 : decode cX4_reached 13 = .ok (.ireturn, 1) := by decide +kernel
set_option maxRecDepth 20000 in
theorem ggX4_stand_X4_checkMember : GoodIn wsX4_stand wsX4_checkMember := goodIn_ca (goodIn_r _ [9, 10, 11] (by decide +kernel) (by decide +kernel)) (goodIn_sub (fun _ h => List.mem_cons_of_mem _ (List.mem_append_right _ h)) (by decide +kernel))
set_option maxRecDepth 20000 in
theorem gX4_stand_X4_checkMember : GoodIn wsX4_stand (wsV RX4 48 RX4 yX4_checkMember wsX4_checkMember) := goodIn_app (goodIn_of _ (by decide +kernel)) ggX4_stand_X4_checkMember
set_option maxRecDepth 20000 in
theorem ggX4_stand_X3_holdVote : GoodIn wsX4_stand wsX3_holdVote := goodIn_ca (goodIn_r _ [16, 17, 18, 19, 20, 21, 22, 15, 23, 24, 25, 32, 33, 34, 35, 36] (by decide +kernel) (by decide +kernel)) (goodIn_sub (fun _ h => List.mem_cons_of_mem _ (List.mem_append_left _ (List.mem_append_left _ (List.mem_append_right _ h)))) (by decide +kernel))
set_option maxRecDepth 20000 in
theorem gX4_stand_X3_holdVote : GoodIn wsX4_stand (wsV RX4 71 RX3 yX3_holdVote wsX3_holdVote) := goodIn_app (goodIn_of _ (by decide +kernel)) ggX4_stand_X3_holdVote
theorem dX4_stand_0 : decode cX4_stand 0 = .ok (.aload_n 0, 1) := by decide +kernel
theorem dX4_stand_1 : decode cX4_stand 1 = .ok (.iload_n 1, 1) := by decide +kernel
theorem dX4_stand_2 : decode cX4_stand 2 = .ok (.invokevirtual 48, 3) := by decide +kernel
theorem dX4_stand_5 : decode cX4_stand 5 = .ok (.aload_n 0, 1) := by decide +kernel
theorem dX4_stand_6 : decode cX4_stand 6 = .ok (.getfield 10, 3) := by decide +kernel
theorem dX4_stand_9 : decode cX4_stand 9 = .ok (.getfield 52, 3) := by decide +kernel
theorem dX4_stand_12 : decode cX4_stand 12 = .ok (.iload_n 1, 1) := by decide +kernel
theorem dX4_stand_13 : decode cX4_stand 13 = .ok (.baload, 1) := by decide +kernel
theorem dX4_stand_14 : decode cX4_stand 14 = .ok (.ifCond .eq 13, 3) := by decide +kernel
theorem dX4_stand_17 : decode cX4_stand 17 = .ok (.new 66, 3) := by decide +kernel
theorem dX4_stand_20 : decode cX4_stand 20 = .ok (.dup, 1) := by decide +kernel
theorem dX4_stand_21 : decode cX4_stand 21 = .ok (.ldc 68, 2) := by decide +kernel
theorem dX4_stand_23 : decode cX4_stand 23 = .ok (.invokespecial 70, 3) := by decide +kernel
theorem dX4_stand_26 : decode cX4_stand 26 = .ok (.athrow, 1) := by decide +kernel
theorem dX4_stand_27 : decode cX4_stand 27 = .ok (.aload_n 0, 1) := by decide +kernel
theorem dX4_stand_28 : decode cX4_stand 28 = .ok (.getfield 10, 3) := by decide +kernel
theorem dX4_stand_31 : decode cX4_stand 31 = .ok (.iload_n 1, 1) := by decide +kernel
theorem dX4_stand_32 : decode cX4_stand 32 = .ok (.invokevirtual 71, 3) := by decide +kernel
theorem dX4_stand_35 : decode cX4_stand 35 = .ok (.ireturn, 1) := by decide +kernel
set_option maxRecDepth 20000 in
theorem ggX4_termOf_X4_checkMember : GoodIn wsX4_termOf wsX4_checkMember := goodIn_ca (goodIn_r _ [7, 8, 9] (by decide +kernel) (by decide +kernel)) (goodIn_sub (fun _ h => List.mem_cons_of_mem _ (List.mem_append_right _ h)) (by decide +kernel))
set_option maxRecDepth 20000 in
theorem gX4_termOf_X4_checkMember : GoodIn wsX4_termOf (wsV RX4 48 RX4 yX4_checkMember wsX4_checkMember) := goodIn_app (goodIn_of _ (by decide +kernel)) ggX4_termOf_X4_checkMember
theorem dX4_termOf_0 : decode cX4_termOf 0 = .ok (.aload_n 0, 1) := by decide +kernel
theorem dX4_termOf_1 : decode cX4_termOf 1 = .ok (.iload_n 1, 1) := by decide +kernel
theorem dX4_termOf_2 : decode cX4_termOf 2 = .ok (.invokevirtual 48, 3) := by decide +kernel
theorem dX4_termOf_5 : decode cX4_termOf 5 = .ok (.aload_n 0, 1) := by decide +kernel
theorem dX4_termOf_6 : decode cX4_termOf 6 = .ok (.getfield 10, 3) := by decide +kernel
theorem dX4_termOf_9 : decode cX4_termOf 9 = .ok (.getfield 74, 3) := by decide +kernel
theorem dX4_termOf_12 : decode cX4_termOf 12 = .ok (.iload_n 1, 1) := by decide +kernel
theorem dX4_termOf_13 : decode cX4_termOf 13 = .ok (.iaload, 1) := by decide +kernel
theorem dX4_termOf_14 : decode cX4_termOf 14 = .ok (.ireturn, 1) := by decide +kernel
set_option maxRecDepth 20000 in
theorem ggX4_isLeader_X4_checkMember : GoodIn wsX4_isLeader wsX4_checkMember := goodIn_ca (goodIn_r _ [6, 7, 8] (by decide +kernel) (by decide +kernel)) (goodIn_sub (fun _ h => List.mem_cons_of_mem _ (List.mem_append_left _ (List.mem_append_right _ h))) (by decide +kernel))
set_option maxRecDepth 20000 in
theorem gX4_isLeader_X4_checkMember : GoodIn wsX4_isLeader (wsV RX4 48 RX4 yX4_checkMember wsX4_checkMember) := goodIn_app (goodIn_of _ (by decide +kernel)) ggX4_isLeader_X4_checkMember
set_option maxRecDepth 20000 in
theorem ggX4_isLeader_X3_leads : GoodIn wsX4_isLeader wsX3_leads := goodIn_ca (goodIn_r _ [13, 14, 15, 16, 17, 12, 18, 19, 26, 27, 28, 29, 30] (by decide +kernel) (by decide +kernel)) (goodIn_sub (fun _ h => List.mem_cons_of_mem _ (List.mem_append_right _ h)) (by decide +kernel))
set_option maxRecDepth 20000 in
theorem gX4_isLeader_X3_leads : GoodIn wsX4_isLeader (wsV RX4 78 RX3 yX3_leads wsX3_leads) := goodIn_app (goodIn_of _ (by decide +kernel)) ggX4_isLeader_X3_leads
theorem dX4_isLeader_0 : decode cX4_isLeader 0 = .ok (.aload_n 0, 1) := by decide +kernel
theorem dX4_isLeader_1 : decode cX4_isLeader 1 = .ok (.iload_n 1, 1) := by decide +kernel
theorem dX4_isLeader_2 : decode cX4_isLeader 2 = .ok (.invokevirtual 48, 3) := by decide +kernel
theorem dX4_isLeader_5 : decode cX4_isLeader 5 = .ok (.aload_n 0, 1) := by decide +kernel
theorem dX4_isLeader_6 : decode cX4_isLeader 6 = .ok (.getfield 10, 3) := by decide +kernel
theorem dX4_isLeader_9 : decode cX4_isLeader 9 = .ok (.iload_n 1, 1) := by decide +kernel
theorem dX4_isLeader_10 : decode cX4_isLeader 10 = .ok (.invokevirtual 78, 3) := by decide +kernel
theorem dX4_isLeader_13 : decode cX4_isLeader 13 = .ok (.ireturn, 1) := by decide +kernel
set_option maxRecDepth 20000 in
theorem ggX4_leaderOf_X3_winnerOf : GoodIn wsX4_leaderOf wsX3_winnerOf := goodIn_ca (goodIn_r _ [8, 9, 16, 17, 18, 19, 20] (by decide +kernel) (by decide +kernel)) (goodIn_sub (fun _ h => List.mem_cons_of_mem _ (List.mem_append_right _ h)) (by decide +kernel))
set_option maxRecDepth 20000 in
theorem gX4_leaderOf_X3_winnerOf : GoodIn wsX4_leaderOf (wsV RX4 82 RX3 yX3_winnerOf wsX3_winnerOf) := goodIn_app (goodIn_of _ (by decide +kernel)) ggX4_leaderOf_X3_winnerOf
theorem dX4_leaderOf_0 : decode cX4_leaderOf 0 = .ok (.aload_n 0, 1) := by decide +kernel
theorem dX4_leaderOf_1 : decode cX4_leaderOf 1 = .ok (.getfield 10, 3) := by decide +kernel
theorem dX4_leaderOf_4 : decode cX4_leaderOf 4 = .ok (.iload_n 1, 1) := by decide +kernel
theorem dX4_leaderOf_5 : decode cX4_leaderOf 5 = .ok (.invokevirtual 82, 3) := by decide +kernel
theorem dX4_leaderOf_8 : decode cX4_leaderOf 8 = .ok (.istore_n 2, 1) := by decide +kernel
theorem dX4_leaderOf_9 : decode cX4_leaderOf 9 = .ok (.iload_n 2, 1) := by decide +kernel
theorem dX4_leaderOf_10 : decode cX4_leaderOf 10 = .ok (.iconst (-1), 1) := by decide +kernel
theorem dX4_leaderOf_11 : decode cX4_leaderOf 11 = .ok (.if_icmp .ne 13, 3) := by decide +kernel
theorem dX4_leaderOf_14 : decode cX4_leaderOf 14 = .ok (.new 85, 3) := by decide +kernel
theorem dX4_leaderOf_17 : decode cX4_leaderOf 17 = .ok (.dup, 1) := by decide +kernel
theorem dX4_leaderOf_18 : decode cX4_leaderOf 18 = .ok (.ldc 87, 2) := by decide +kernel
theorem dX4_leaderOf_20 : decode cX4_leaderOf 20 = .ok (.invokespecial 89, 3) := by decide +kernel
theorem dX4_leaderOf_23 : decode cX4_leaderOf 23 = .ok (.athrow, 1) := by decide +kernel
theorem dX4_leaderOf_24 : decode cX4_leaderOf 24 = .ok (.iload_n 2, 1) := by decide +kernel
theorem dX4_leaderOf_25 : decode cX4_leaderOf 25 = .ok (.ireturn, 1) := by decide +kernel
set_option maxRecDepth 20000 in
theorem ggX4_known_X4_checkMember : GoodIn wsX4_known wsX4_checkMember := goodIn_ca (goodIn_r _ [7, 8, 9] (by decide +kernel) (by decide +kernel)) (goodIn_sub (fun _ h => List.mem_cons_of_mem _ (List.mem_append_right _ h)) (by decide +kernel))
set_option maxRecDepth 20000 in
theorem gX4_known_X4_checkMember : GoodIn wsX4_known (wsV RX4 48 RX4 yX4_checkMember wsX4_checkMember) := goodIn_app (goodIn_of _ (by decide +kernel)) ggX4_known_X4_checkMember
theorem dX4_known_0 : decode cX4_known 0 = .ok (.aload_n 0, 1) := by decide +kernel
theorem dX4_known_1 : decode cX4_known 1 = .ok (.iload_n 1, 1) := by decide +kernel
theorem dX4_known_2 : decode cX4_known 2 = .ok (.invokevirtual 48, 3) := by decide +kernel
theorem dX4_known_5 : decode cX4_known 5 = .ok (.aload_n 0, 1) := by decide +kernel
theorem dX4_known_6 : decode cX4_known 6 = .ok (.getfield 10, 3) := by decide +kernel
theorem dX4_known_9 : decode cX4_known 9 = .ok (.getfield 90, 3) := by decide +kernel
theorem dX4_known_12 : decode cX4_known 12 = .ok (.iload_n 1, 1) := by decide +kernel
theorem dX4_known_13 : decode cX4_known 13 = .ok (.iaload, 1) := by decide +kernel
theorem dX4_known_14 : decode cX4_known 14 = .ok (.ireturn, 1) := by decide +kernel
set_option maxRecDepth 20000 in
theorem ggX4_ownerKnown_X4_checkMember : GoodIn wsX4_ownerKnown wsX4_checkMember := goodIn_ca (goodIn_r _ [10, 11, 12] (by decide +kernel) (by decide +kernel)) (goodIn_sub (fun _ h => List.mem_cons_of_mem _ (List.mem_append_right _ h)) (by decide +kernel))
set_option maxRecDepth 20000 in
theorem gX4_ownerKnown_X4_checkMember : GoodIn wsX4_ownerKnown (wsV RX4 48 RX4 yX4_checkMember wsX4_checkMember) := goodIn_app (goodIn_of _ (by decide +kernel)) ggX4_ownerKnown_X4_checkMember
set_option maxRecDepth 20000 in
theorem ggX4_ownerKnown_X4_checkLock : GoodIn wsX4_ownerKnown wsX4_checkLock := goodIn_ca (goodIn_r _ [16, 11, 12] (by decide +kernel) (by decide +kernel)) (goodIn_sub (fun _ h => List.mem_cons_of_mem _ (List.mem_append_right _ h)) (by decide +kernel))
set_option maxRecDepth 20000 in
theorem gX4_ownerKnown_X4_checkLock : GoodIn wsX4_ownerKnown (wsV RX4 93 RX4 yX4_checkLock wsX4_checkLock) := goodIn_app (goodIn_of _ (by decide +kernel)) ggX4_ownerKnown_X4_checkLock
set_option maxRecDepth 20000 in
theorem ggX4_ownerKnown_X2_ownerBy : GoodIn wsX4_ownerKnown wsX2_ownerBy := goodIn_ca (goodIn_r _ [21, 22, 23, 24, 25, 37, 38, 39, 40, 41, 42] (by decide +kernel) (by decide +kernel)) (goodIn_sub (fun _ h => List.mem_cons_of_mem _ (List.mem_append_left _ (List.mem_append_left _ (List.mem_append_right _ h)))) (by decide +kernel))
set_option maxRecDepth 20000 in
theorem gX4_ownerKnown_X2_ownerBy : GoodIn wsX4_ownerKnown (wsV RX4 96 RX2 yX2_ownerBy wsX2_ownerBy) := goodIn_app (goodIn_of _ (by decide +kernel)) ggX4_ownerKnown_X2_ownerBy
theorem dX4_ownerKnown_0 : decode cX4_ownerKnown 0 = .ok (.aload_n 0, 1) := by decide +kernel
theorem dX4_ownerKnown_1 : decode cX4_ownerKnown 1 = .ok (.iload_n 1, 1) := by decide +kernel
theorem dX4_ownerKnown_2 : decode cX4_ownerKnown 2 = .ok (.invokevirtual 48, 3) := by decide +kernel
theorem dX4_ownerKnown_5 : decode cX4_ownerKnown 5 = .ok (.aload_n 0, 1) := by decide +kernel
theorem dX4_ownerKnown_6 : decode cX4_ownerKnown 6 = .ok (.iload_n 2, 1) := by decide +kernel
theorem dX4_ownerKnown_7 : decode cX4_ownerKnown 7 = .ok (.invokevirtual 93, 3) := by decide +kernel
theorem dX4_ownerKnown_10 : decode cX4_ownerKnown 10 = .ok (.aload_n 0, 1) := by decide +kernel
theorem dX4_ownerKnown_11 : decode cX4_ownerKnown 11 = .ok (.getfield 19, 3) := by decide +kernel
theorem dX4_ownerKnown_14 : decode cX4_ownerKnown 14 = .ok (.aload_n 0, 1) := by decide +kernel
theorem dX4_ownerKnown_15 : decode cX4_ownerKnown 15 = .ok (.getfield 10, 3) := by decide +kernel
theorem dX4_ownerKnown_18 : decode cX4_ownerKnown 18 = .ok (.getfield 90, 3) := by decide +kernel
theorem dX4_ownerKnown_21 : decode cX4_ownerKnown 21 = .ok (.iload_n 1, 1) := by decide +kernel
theorem dX4_ownerKnown_22 : decode cX4_ownerKnown 22 = .ok (.iaload, 1) := by decide +kernel
theorem dX4_ownerKnown_23 : decode cX4_ownerKnown 23 = .ok (.iload_n 2, 1) := by decide +kernel
theorem dX4_ownerKnown_24 : decode cX4_ownerKnown 24 = .ok (.invokevirtual 96, 3) := by decide +kernel
theorem dX4_ownerKnown_27 : decode cX4_ownerKnown 27 = .ok (.istore_n 3, 1) := by decide +kernel
theorem dX4_ownerKnown_28 : decode cX4_ownerKnown 28 = .ok (.iload_n 3, 1) := by decide +kernel
theorem dX4_ownerKnown_29 : decode cX4_ownerKnown 29 = .ok (.iconst (-1), 1) := by decide +kernel
theorem dX4_ownerKnown_30 : decode cX4_ownerKnown 30 = .ok (.if_icmp .ne 13, 3) := by decide +kernel
theorem dX4_ownerKnown_33 : decode cX4_ownerKnown 33 = .ok (.new 85, 3) := by decide +kernel
theorem dX4_ownerKnown_36 : decode cX4_ownerKnown 36 = .ok (.dup, 1) := by decide +kernel
theorem dX4_ownerKnown_37 : decode cX4_ownerKnown 37 = .ok (.ldc 100, 2) := by decide +kernel
theorem dX4_ownerKnown_39 : decode cX4_ownerKnown 39 = .ok (.invokespecial 89, 3) := by decide +kernel
theorem dX4_ownerKnown_42 : decode cX4_ownerKnown 42 = .ok (.athrow, 1) := by decide +kernel
theorem dX4_ownerKnown_43 : decode cX4_ownerKnown 43 = .ok (.iload_n 3, 1) := by decide +kernel
theorem dX4_ownerKnown_44 : decode cX4_ownerKnown 44 = .ok (.ireturn, 1) := by decide +kernel
theorem dX4_addClient_0 : decode cX4_addClient 0 = .ok (.aload_n 0, 1) := by decide +kernel
theorem dX4_addClient_1 : decode cX4_addClient 1 = .ok (.getfield 33, 3) := by decide +kernel
theorem dX4_addClient_4 : decode cX4_addClient 4 = .ok (.getfield 102, 3) := by decide +kernel
theorem dX4_addClient_7 : decode cX4_addClient 7 = .ok (.bipush 6, 2) := by decide +kernel
theorem dX4_addClient_9 : decode cX4_addClient 9 = .ok (.if_icmp .lt 13, 3) := by decide +kernel
theorem dX4_addClient_12 : decode cX4_addClient 12 = .ok (.new 66, 3) := by decide +kernel
theorem dX4_addClient_15 : decode cX4_addClient 15 = .ok (.dup, 1) := by decide +kernel
theorem dX4_addClient_16 : decode cX4_addClient 16 = .ok (.ldc 105, 2) := by decide +kernel
theorem dX4_addClient_18 : decode cX4_addClient 18 = .ok (.invokespecial 70, 3) := by decide +kernel
theorem dX4_addClient_21 : decode cX4_addClient 21 = .ok (.athrow, 1) := by decide +kernel
theorem dX4_addClient_22 : decode cX4_addClient 22 = .ok (.aload_n 0, 1) := by decide +kernel
theorem dX4_addClient_23 : decode cX4_addClient 23 = .ok (.getfield 33, 3) := by decide +kernel
theorem dX4_addClient_26 : decode cX4_addClient 26 = .ok (.getfield 102, 3) := by decide +kernel
theorem dX4_addClient_29 : decode cX4_addClient 29 = .ok (.istore_n 1, 1) := by decide +kernel
theorem dX4_addClient_30 : decode cX4_addClient 30 = .ok (.aload_n 0, 1) := by decide +kernel
theorem dX4_addClient_31 : decode cX4_addClient 31 = .ok (.getfield 33, 3) := by decide +kernel
theorem dX4_addClient_34 : decode cX4_addClient 34 = .ok (.dup, 1) := by decide +kernel
theorem dX4_addClient_35 : decode cX4_addClient 35 = .ok (.getfield 102, 3) := by decide +kernel
theorem dX4_addClient_38 : decode cX4_addClient 38 = .ok (.iconst 1, 1) := by decide +kernel
theorem dX4_addClient_39 : decode cX4_addClient 39 = .ok (.iadd, 1) := by decide +kernel
theorem dX4_addClient_40 : decode cX4_addClient 40 = .ok (.putfield 102, 3) := by decide +kernel
theorem dX4_addClient_43 : decode cX4_addClient 43 = .ok (.iload_n 1, 1) := by decide +kernel
theorem dX4_addClient_44 : decode cX4_addClient 44 = .ok (.ireturn, 1) := by decide +kernel
set_option maxRecDepth 20000 in
theorem ggX4_setOffset_X4_checkClient : GoodIn wsX4_setOffset wsX4_checkClient := goodIn_ca (goodIn_r _ [9, 10, 11, 3, 12, 13, 14, 15, 16, 17, 18, 19, 20, 21, 22, 23, 24, 25, 26, 27] (by decide +kernel) (by decide +kernel)) (goodIn_sub (fun _ h => List.mem_cons_of_mem _ (List.mem_append_right _ h)) (by decide +kernel))
set_option maxRecDepth 20000 in
theorem gX4_setOffset_X4_checkClient : GoodIn wsX4_setOffset (wsV RX4 107 RX4 yX4_checkClient wsX4_checkClient) := goodIn_app (goodIn_of _ (by decide +kernel)) ggX4_setOffset_X4_checkClient
theorem dX4_setOffset_0 : decode cX4_setOffset 0 = .ok (.aload_n 0, 1) := by decide +kernel
theorem dX4_setOffset_1 : decode cX4_setOffset 1 = .ok (.iload_n 1, 1) := by decide +kernel
theorem dX4_setOffset_2 : decode cX4_setOffset 2 = .ok (.invokevirtual 107, 3) := by decide +kernel
theorem dX4_setOffset_5 : decode cX4_setOffset 5 = .ok (.iload_n 2, 1) := by decide +kernel
theorem dX4_setOffset_6 : decode cX4_setOffset 6 = .ok (.bipush (-2), 2) := by decide +kernel
theorem dX4_setOffset_8 : decode cX4_setOffset 8 = .ok (.if_icmp .lt 8, 3) := by decide +kernel
theorem dX4_setOffset_11 : decode cX4_setOffset 11 = .ok (.iload_n 2, 1) := by decide +kernel
theorem dX4_setOffset_12 : decode cX4_setOffset 12 = .ok (.iconst 2, 1) := by decide +kernel
theorem dX4_setOffset_13 : decode cX4_setOffset 13 = .ok (.if_icmp .le 13, 3) := by decide +kernel
theorem dX4_setOffset_16 : decode cX4_setOffset 16 = .ok (.new 37, 3) := by decide +kernel
theorem dX4_setOffset_19 : decode cX4_setOffset 19 = .ok (.dup, 1) := by decide +kernel
theorem dX4_setOffset_20 : decode cX4_setOffset 20 = .ok (.ldc 110, 2) := by decide +kernel
theorem dX4_setOffset_22 : decode cX4_setOffset 22 = .ok (.invokespecial 41, 3) := by decide +kernel
theorem dX4_setOffset_25 : decode cX4_setOffset 25 = .ok (.athrow, 1) := by decide +kernel
theorem dX4_setOffset_26 : decode cX4_setOffset 26 = .ok (.aload_n 0, 1) := by decide +kernel
theorem dX4_setOffset_27 : decode cX4_setOffset 27 = .ok (.getfield 33, 3) := by decide +kernel
theorem dX4_setOffset_30 : decode cX4_setOffset 30 = .ok (.getfield 112, 3) := by decide +kernel
theorem dX4_setOffset_33 : decode cX4_setOffset 33 = .ok (.iload_n 1, 1) := by decide +kernel
theorem dX4_setOffset_34 : decode cX4_setOffset 34 = .ok (.iaload, 1) := by decide +kernel
theorem dX4_setOffset_35 : decode cX4_setOffset 35 = .ok (.istore_n 3, 1) := by decide +kernel
theorem dX4_setOffset_36 : decode cX4_setOffset 36 = .ok (.aload_n 0, 1) := by decide +kernel
theorem dX4_setOffset_37 : decode cX4_setOffset 37 = .ok (.getfield 33, 3) := by decide +kernel
theorem dX4_setOffset_40 : decode cX4_setOffset 40 = .ok (.getfield 112, 3) := by decide +kernel
theorem dX4_setOffset_43 : decode cX4_setOffset 43 = .ok (.iload_n 1, 1) := by decide +kernel
theorem dX4_setOffset_44 : decode cX4_setOffset 44 = .ok (.iload_n 2, 1) := by decide +kernel
theorem dX4_setOffset_45 : decode cX4_setOffset 45 = .ok (.iastore, 1) := by decide +kernel
theorem dX4_setOffset_46 : decode cX4_setOffset 46 = .ok (.iload_n 3, 1) := by decide +kernel
theorem dX4_setOffset_47 : decode cX4_setOffset 47 = .ok (.ireturn, 1) := by decide +kernel
set_option maxRecDepth 20000 in
theorem ggX4_setPaused_X4_checkClient : GoodIn wsX4_setPaused wsX4_checkClient := goodIn_ca (goodIn_r _ [7, 8, 9, 1, 10, 11, 12, 13, 14, 15, 16, 17, 18, 19, 20, 21, 22, 23, 24, 25] (by decide +kernel) (by decide +kernel)) (goodIn_sub (fun _ h => List.mem_cons_of_mem _ (List.mem_append_right _ h)) (by decide +kernel))
set_option maxRecDepth 20000 in
theorem gX4_setPaused_X4_checkClient : GoodIn wsX4_setPaused (wsV RX4 107 RX4 yX4_checkClient wsX4_checkClient) := goodIn_app (goodIn_of _ (by decide +kernel)) ggX4_setPaused_X4_checkClient
theorem dX4_setPaused_0 : decode cX4_setPaused 0 = .ok (.aload_n 0, 1) := by decide +kernel
theorem dX4_setPaused_1 : decode cX4_setPaused 1 = .ok (.iload_n 1, 1) := by decide +kernel
theorem dX4_setPaused_2 : decode cX4_setPaused 2 = .ok (.invokevirtual 107, 3) := by decide +kernel
theorem dX4_setPaused_5 : decode cX4_setPaused 5 = .ok (.aload_n 0, 1) := by decide +kernel
theorem dX4_setPaused_6 : decode cX4_setPaused 6 = .ok (.getfield 33, 3) := by decide +kernel
theorem dX4_setPaused_9 : decode cX4_setPaused 9 = .ok (.getfield 115, 3) := by decide +kernel
theorem dX4_setPaused_12 : decode cX4_setPaused 12 = .ok (.iload_n 1, 1) := by decide +kernel
theorem dX4_setPaused_13 : decode cX4_setPaused 13 = .ok (.baload, 1) := by decide +kernel
theorem dX4_setPaused_14 : decode cX4_setPaused 14 = .ok (.istore_n 3, 1) := by decide +kernel
theorem dX4_setPaused_15 : decode cX4_setPaused 15 = .ok (.aload_n 0, 1) := by decide +kernel
theorem dX4_setPaused_16 : decode cX4_setPaused 16 = .ok (.getfield 33, 3) := by decide +kernel
theorem dX4_setPaused_19 : decode cX4_setPaused 19 = .ok (.getfield 115, 3) := by decide +kernel
theorem dX4_setPaused_22 : decode cX4_setPaused 22 = .ok (.iload_n 1, 1) := by decide +kernel
theorem dX4_setPaused_23 : decode cX4_setPaused 23 = .ok (.iload_n 2, 1) := by decide +kernel
theorem dX4_setPaused_24 : decode cX4_setPaused 24 = .ok (.bastore, 1) := by decide +kernel
theorem dX4_setPaused_25 : decode cX4_setPaused 25 = .ok (.iload_n 3, 1) := by decide +kernel
theorem dX4_setPaused_26 : decode cX4_setPaused 26 = .ok (.ireturn, 1) := by decide +kernel
set_option maxRecDepth 20000 in
theorem ggX4_clockOf_X4_checkClient : GoodIn wsX4_clockOf wsX4_checkClient := goodIn_ca (goodIn_r _ [7, 8, 9, 1, 10, 17, 18, 19, 20, 21, 22, 23, 24, 25, 26, 27, 28, 29, 30, 31] (by decide +kernel) (by decide +kernel)) (goodIn_sub (fun _ h => List.mem_cons_of_mem _ (List.mem_append_left _ (List.mem_append_right _ h))) (by decide +kernel))
set_option maxRecDepth 20000 in
theorem gX4_clockOf_X4_checkClient : GoodIn wsX4_clockOf (wsV RX4 107 RX4 yX4_checkClient wsX4_checkClient) := goodIn_app (goodIn_of _ (by decide +kernel)) ggX4_clockOf_X4_checkClient
set_option maxRecDepth 20000 in
theorem ggX4_clockOf_X0_clockAt : GoodIn wsX4_clockOf wsX0_clockAt := goodIn_ca (goodIn_r _ [15, 16, 23, 24, 25, 26, 27, 28, 29, 30, 31] (by decide +kernel) (by decide +kernel)) (goodIn_sub (fun _ h => List.mem_cons_of_mem _ (List.mem_append_right _ h)) (by decide +kernel))
set_option maxRecDepth 20000 in
theorem gX4_clockOf_X0_clockAt : GoodIn wsX4_clockOf (wsV RX4 118 RX0 yX0_clockAt wsX0_clockAt) := goodIn_app (goodIn_of _ (by decide +kernel)) ggX4_clockOf_X0_clockAt
theorem dX4_clockOf_0 : decode cX4_clockOf 0 = .ok (.aload_n 0, 1) := by decide +kernel
theorem dX4_clockOf_1 : decode cX4_clockOf 1 = .ok (.iload_n 1, 1) := by decide +kernel
theorem dX4_clockOf_2 : decode cX4_clockOf 2 = .ok (.invokevirtual 107, 3) := by decide +kernel
theorem dX4_clockOf_5 : decode cX4_clockOf 5 = .ok (.aload_n 0, 1) := by decide +kernel
theorem dX4_clockOf_6 : decode cX4_clockOf 6 = .ok (.getfield 33, 3) := by decide +kernel
theorem dX4_clockOf_9 : decode cX4_clockOf 9 = .ok (.iload_n 1, 1) := by decide +kernel
theorem dX4_clockOf_10 : decode cX4_clockOf 10 = .ok (.aload_n 0, 1) := by decide +kernel
theorem dX4_clockOf_11 : decode cX4_clockOf 11 = .ok (.getfield 44, 3) := by decide +kernel
theorem dX4_clockOf_14 : decode cX4_clockOf 14 = .ok (.invokevirtual 118, 3) := by decide +kernel
theorem dX4_clockOf_17 : decode cX4_clockOf 17 = .ok (.ireturn, 1) := by decide +kernel
set_option maxRecDepth 20000 in
theorem ggX4_request_X4_obtain : GoodIn wsX4_request wsX4_obtain := goodIn_ca (goodIn_ca (goodIn_ca (goodIn_ca (goodIn_r _ [5, 6, 7, 8, 9, 10, 11, 12, 4, 13, 14, 15, 16, 17, 18, 19, 20, 21, 22, 23, 24, 25, 26, 27, 28, 29, 30, 31, 32, 33, 34, 35, 36, 37, 38, 39, 40, 41, 42, 43, 44, 45, 46, 47, 48, 49, 50, 51, 52, 53, 54, 55, 56, 57, 58, 59, 60, 61, 62, 63, 64, 65, 66, 67, 68, 69, 70, 71, 72, 73, 74, 75, 76, 77, 78, 79, 80, 81, 82, 83, 84, 85, 86, 87, 88, 89, 90, 91, 92, 93, 94, 95, 96, 97, 98, 99, 100, 101, 102, 103, 104, 105, 106, 107, 108, 109, 110, 111, 112, 113, 114, 115, 116, 117, 118, 119, 120, 121, 122, 123, 124, 125, 126, 127, 128, 129, 130, 131, 132, 133, 134, 135, 136, 137, 138, 139, 140, 141, 142, 143, 144, 145, 146, 147, 148, 149, 150, 151, 152, 153, 154, 155, 156, 157, 158, 159, 160, 161, 162, 163, 164, 165, 166, 167, 168, 169, 170, 171, 172, 173, 174, 175, 176, 177, 178, 179, 180, 181] (by decide +kernel) (by decide +kernel)) (goodIn_sub (fun _ h => List.mem_cons_of_mem _ (List.mem_append_left _ (List.mem_append_left _ (List.mem_append_left _ (List.mem_append_right _ h))))) (by decide +kernel))) (goodIn_sub (fun _ h => List.mem_cons_of_mem _ (List.mem_append_left _ (List.mem_append_left _ (List.mem_append_right _ h)))) (by decide +kernel))) (goodIn_sub (fun _ h => List.mem_cons_of_mem _ (List.mem_append_left _ (List.mem_append_right _ h))) (by decide +kernel))) (goodIn_sub (fun _ h => List.mem_cons_of_mem _ (List.mem_append_right _ h)) (by decide +kernel))
set_option maxRecDepth 20000 in
theorem gX4_request_X4_obtain : GoodIn wsX4_request (wsV RX4 121 RX4 yX4_obtain wsX4_obtain) := goodIn_app (goodIn_of _ (by decide +kernel)) ggX4_request_X4_obtain
theorem dX4_request_0 : decode cX4_request 0 = .ok (.aload_n 0, 1) := by decide +kernel
theorem dX4_request_1 : decode cX4_request 1 = .ok (.iload_n 1, 1) := by decide +kernel
theorem dX4_request_2 : decode cX4_request 2 = .ok (.iload_n 2, 1) := by decide +kernel
theorem dX4_request_3 : decode cX4_request 3 = .ok (.iload_n 3, 1) := by decide +kernel
theorem dX4_request_4 : decode cX4_request 4 = .ok (.iconst 0, 1) := by decide +kernel
theorem dX4_request_5 : decode cX4_request 5 = .ok (.invokevirtual 121, 3) := by decide +kernel
theorem dX4_request_8 : decode cX4_request 8 = .ok (.ireturn, 1) := by decide +kernel
set_option maxRecDepth 20000 in
theorem ggX4_steal_X4_obtain : GoodIn wsX4_steal wsX4_obtain := goodIn_ca (goodIn_ca (goodIn_ca (goodIn_ca (goodIn_r _ [5, 6, 7, 8, 9, 10, 11, 12, 4, 13, 14, 15, 16, 17, 18, 19, 20, 21, 22, 23, 24, 25, 26, 27, 28, 29, 30, 31, 32, 33, 34, 35, 36, 37, 38, 39, 40, 41, 42, 43, 44, 45, 46, 47, 48, 49, 50, 51, 52, 53, 54, 55, 56, 57, 58, 59, 60, 61, 62, 63, 64, 65, 66, 67, 68, 69, 70, 71, 72, 73, 74, 75, 76, 77, 78, 79, 80, 81, 82, 83, 84, 85, 86, 87, 88, 89, 90, 91, 92, 93, 94, 95, 96, 97, 98, 99, 100, 101, 102, 103, 104, 105, 106, 107, 108, 109, 110, 111, 112, 113, 114, 115, 116, 117, 118, 119, 120, 121, 122, 123, 124, 125, 126, 127, 128, 129, 130, 131, 132, 133, 134, 135, 136, 137, 138, 139, 140, 141, 142, 143, 144, 145, 146, 147, 148, 149, 150, 151, 152, 153, 154, 155, 156, 157, 158, 159, 160, 161, 162, 163, 164, 165, 166, 167, 168, 169, 170, 171, 172, 173, 174, 175, 176, 177, 178, 179, 180, 181] (by decide +kernel) (by decide +kernel)) (goodIn_sub (fun _ h => List.mem_cons_of_mem _ (List.mem_append_left _ (List.mem_append_left _ (List.mem_append_left _ (List.mem_append_right _ h))))) (by decide +kernel))) (goodIn_sub (fun _ h => List.mem_cons_of_mem _ (List.mem_append_left _ (List.mem_append_left _ (List.mem_append_right _ h)))) (by decide +kernel))) (goodIn_sub (fun _ h => List.mem_cons_of_mem _ (List.mem_append_left _ (List.mem_append_right _ h))) (by decide +kernel))) (goodIn_sub (fun _ h => List.mem_cons_of_mem _ (List.mem_append_right _ h)) (by decide +kernel))
set_option maxRecDepth 20000 in
theorem gX4_steal_X4_obtain : GoodIn wsX4_steal (wsV RX4 121 RX4 yX4_obtain wsX4_obtain) := goodIn_app (goodIn_of _ (by decide +kernel)) ggX4_steal_X4_obtain
theorem dX4_steal_0 : decode cX4_steal 0 = .ok (.aload_n 0, 1) := by decide +kernel
theorem dX4_steal_1 : decode cX4_steal 1 = .ok (.iload_n 1, 1) := by decide +kernel
theorem dX4_steal_2 : decode cX4_steal 2 = .ok (.iload_n 2, 1) := by decide +kernel
theorem dX4_steal_3 : decode cX4_steal 3 = .ok (.iload_n 3, 1) := by decide +kernel
theorem dX4_steal_4 : decode cX4_steal 4 = .ok (.iconst 1, 1) := by decide +kernel
theorem dX4_steal_5 : decode cX4_steal 5 = .ok (.invokevirtual 121, 3) := by decide +kernel
theorem dX4_steal_8 : decode cX4_steal 8 = .ok (.ireturn, 1) := by decide +kernel
set_option maxRecDepth 20000 in
theorem ggX4_renew_X4_askAsOwner : GoodIn wsX4_renew wsX4_askAsOwner := goodIn_ca (goodIn_ca (goodIn_ca (goodIn_ca (goodIn_r _ [7, 8, 1, 9, 10, 11, 12, 6, 13, 14, 15, 16, 17, 18, 19, 20, 21, 22, 23, 24, 25, 26, 27, 28, 29, 30, 31, 32, 33, 34, 35, 36, 37, 38, 39, 40, 41, 42, 43, 44, 45, 46, 47, 48, 49, 50, 51, 52, 53, 54, 55, 56, 57, 58, 59, 60, 61, 62, 63, 64, 65, 66, 67, 68, 69, 70, 71, 72, 73, 74, 75, 76, 77, 78, 79, 80, 81, 124, 125, 126, 127, 128, 129, 136, 137, 138, 139, 140, 141, 142, 143, 144, 145, 146, 147, 148, 149, 150, 151, 152, 153, 154, 155, 130, 131, 132, 133, 134, 135] (by decide +kernel) (by decide +kernel)) (goodIn_sub (fun _ h => List.mem_cons_of_mem _ (List.mem_append_left _ (List.mem_append_left _ (List.mem_append_right _ h)))) (by decide +kernel))) (goodIn_sub (fun _ h => List.mem_cons_of_mem _ (List.mem_append_left _ (List.mem_append_right _ h))) (by decide +kernel))) (goodIn_sub (fun _ h => List.mem_cons_of_mem _ (List.mem_append_left _ (List.mem_append_left _ (List.mem_append_left _ (List.mem_append_right _ h))))) (by decide +kernel))) (goodIn_sub (fun _ h => List.mem_cons_of_mem _ (List.mem_append_right _ h)) (by decide +kernel))
set_option maxRecDepth 20000 in
theorem gX4_renew_X4_askAsOwner : GoodIn wsX4_renew (wsV RX4 125 RX4 yX4_askAsOwner wsX4_askAsOwner) := goodIn_app (goodIn_of _ (by decide +kernel)) ggX4_renew_X4_askAsOwner
set_option maxRecDepth 20000 in
theorem ggX4_renew_X4_extendLease : GoodIn wsX4_renew wsX4_extendLease := goodIn_ca (goodIn_r _ [85, 9, 86, 1, 87, 20, 88, 89, 90, 91, 92, 93, 94, 95, 96, 97, 98, 99, 100, 101, 102, 103, 104, 105, 6, 106, 40, 8, 107, 41, 108, 109, 110, 111, 112, 113, 114, 115, 116, 117, 118, 119, 120, 121, 45, 122, 123, 61, 62, 63, 64, 65, 66, 124, 125, 126, 127, 128, 129, 130, 131, 132, 133, 134, 135, 136, 137, 138, 139, 140, 141, 142, 143, 144, 145, 146, 147, 148, 149, 150, 151, 152, 153, 154, 155] (by decide +kernel) (by decide +kernel)) (goodIn_sub (fun _ h => List.mem_cons_of_mem _ (List.mem_append_left _ (List.mem_append_left _ (List.mem_append_left _ (List.mem_append_right _ h))))) (by decide +kernel))
set_option maxRecDepth 20000 in
theorem gX4_renew_X4_extendLease : GoodIn wsX4_renew (wsV RX4 132 RX4 yX4_extendLease wsX4_extendLease) := goodIn_app (goodIn_of _ (by decide +kernel)) ggX4_renew_X4_extendLease
theorem dX4_renew_0 : decode cX4_renew 0 = .ok (.aload_n 0, 1) := by decide +kernel
theorem dX4_renew_1 : decode cX4_renew 1 = .ok (.iload_n 1, 1) := by decide +kernel
theorem dX4_renew_2 : decode cX4_renew 2 = .ok (.iload_n 2, 1) := by decide +kernel
theorem dX4_renew_3 : decode cX4_renew 3 = .ok (.iload_n 3, 1) := by decide +kernel
theorem dX4_renew_4 : decode cX4_renew 4 = .ok (.invokevirtual 125, 3) := by decide +kernel
theorem dX4_renew_7 : decode cX4_renew 7 = .ok (.istore 4, 2) := by decide +kernel
theorem dX4_renew_9 : decode cX4_renew 9 = .ok (.iload 4, 2) := by decide +kernel
theorem dX4_renew_11 : decode cX4_renew 11 = .ok (.bipush 103, 2) := by decide +kernel
theorem dX4_renew_13 : decode cX4_renew 13 = .ok (.if_icmp .eq 6, 3) := by decide +kernel
theorem dX4_renew_16 : decode cX4_renew 16 = .ok (.iload 4, 2) := by decide +kernel
theorem dX4_renew_18 : decode cX4_renew 18 = .ok (.ireturn, 1) := by decide +kernel
theorem dX4_renew_19 : decode cX4_renew 19 = .ok (.aload_n 0, 1) := by decide +kernel
theorem dX4_renew_20 : decode cX4_renew 20 = .ok (.getfield 26, 3) := by decide +kernel
theorem dX4_renew_23 : decode cX4_renew 23 = .ok (.getfield 129, 3) := by decide +kernel
theorem dX4_renew_26 : decode cX4_renew 26 = .ok (.iload_n 2, 1) := by decide +kernel
theorem dX4_renew_27 : decode cX4_renew 27 = .ok (.iaload, 1) := by decide +kernel
theorem dX4_renew_28 : decode cX4_renew 28 = .ok (.iconst (-1), 1) := by decide +kernel
theorem dX4_renew_29 : decode cX4_renew 29 = .ok (.if_icmp .eq 6, 3) := by decide +kernel
theorem dX4_renew_32 : decode cX4_renew 32 = .ok (.bipush 115, 2) := by decide +kernel
theorem dX4_renew_34 : decode cX4_renew 34 = .ok (.ireturn, 1) := by decide +kernel
theorem dX4_renew_35 : decode cX4_renew 35 = .ok (.aload_n 0, 1) := by decide +kernel
theorem dX4_renew_36 : decode cX4_renew 36 = .ok (.iload_n 1, 1) := by decide +kernel
theorem dX4_renew_37 : decode cX4_renew 37 = .ok (.iload_n 2, 1) := by decide +kernel
theorem dX4_renew_38 : decode cX4_renew 38 = .ok (.iload_n 3, 1) := by decide +kernel
theorem dX4_renew_39 : decode cX4_renew 39 = .ok (.invokevirtual 132, 3) := by decide +kernel
theorem dX4_renew_42 : decode cX4_renew 42 = .ok (.bipush 103, 2) := by decide +kernel
theorem dX4_renew_44 : decode cX4_renew 44 = .ok (.ireturn, 1) := by decide +kernel
set_option maxRecDepth 20000 in
theorem ggX4_release_X4_askAsOwner : GoodIn wsX4_release wsX4_askAsOwner := goodIn_ca (goodIn_ca (goodIn_ca (goodIn_ca (goodIn_r _ [5, 6, 7, 8, 9, 10, 11, 4, 12, 13, 14, 15, 16, 17, 18, 19, 20, 21, 22, 23, 24, 25, 26, 27, 28, 29, 30, 31, 32, 33, 34, 35, 36, 37, 38, 39, 40, 41, 42, 43, 44, 45, 46, 47, 48, 49, 50, 51, 52, 53, 54, 55, 56, 57, 58, 59, 60, 61, 62, 63, 64, 65, 66, 67, 68, 69, 70, 71, 72, 73, 74, 75, 76, 77, 78, 79, 80, 118, 119, 120, 121, 122, 123, 124, 125, 126, 127, 128, 129, 130, 131, 132, 133, 134, 135, 136, 137, 138, 139, 140, 141, 142, 143, 144, 145, 146, 147, 148, 149] (by decide +kernel) (by decide +kernel)) (goodIn_sub (fun _ h => List.mem_cons_of_mem _ (List.mem_append_left _ (List.mem_append_left _ (List.mem_append_left _ (List.mem_append_right _ h))))) (by decide +kernel))) (goodIn_sub (fun _ h => List.mem_cons_of_mem _ (List.mem_append_left _ (List.mem_append_left _ (List.mem_append_right _ h)))) (by decide +kernel))) (goodIn_sub (fun _ h => List.mem_cons_of_mem _ (List.mem_append_left _ (List.mem_append_right _ h))) (by decide +kernel))) (goodIn_sub (fun _ h => List.mem_cons_of_mem _ (List.mem_append_right _ h)) (by decide +kernel))
set_option maxRecDepth 20000 in
theorem gX4_release_X4_askAsOwner : GoodIn wsX4_release (wsV RX4 125 RX4 yX4_askAsOwner wsX4_askAsOwner) := goodIn_app (goodIn_of _ (by decide +kernel)) ggX4_release_X4_askAsOwner
set_option maxRecDepth 20000 in
theorem ggX4_release_X4_endLease : GoodIn wsX4_release wsX4_endLease := goodIn_ca (goodIn_r _ [84, 85, 7, 86, 8, 87, 19, 88, 89, 90, 91, 92, 93, 94, 95, 96, 97, 98, 99, 4, 100, 39, 6, 101, 40, 102, 103, 104, 105, 106, 107, 108, 109, 110, 111, 112, 113, 114, 115, 44, 116, 117, 60, 61, 62, 63, 64, 65, 118, 119, 120, 121, 122, 123, 144, 145, 146, 147, 148, 149, 124, 125, 126, 127, 128, 129, 130, 131, 132, 133, 134, 135, 136, 137, 138, 139, 140, 141, 142, 143] (by decide +kernel) (by decide +kernel)) (goodIn_sub (fun _ h => List.mem_cons_of_mem _ (List.mem_append_left _ (List.mem_append_right _ h))) (by decide +kernel))
set_option maxRecDepth 20000 in
theorem gX4_release_X4_endLease : GoodIn wsX4_release (wsV RX4 136 RX4 yX4_endLease wsX4_endLease) := goodIn_app (goodIn_of _ (by decide +kernel)) ggX4_release_X4_endLease
theorem dX4_release_0 : decode cX4_release 0 = .ok (.aload_n 0, 1) := by decide +kernel
theorem dX4_release_1 : decode cX4_release 1 = .ok (.iload_n 1, 1) := by decide +kernel
theorem dX4_release_2 : decode cX4_release 2 = .ok (.iload_n 2, 1) := by decide +kernel
theorem dX4_release_3 : decode cX4_release 3 = .ok (.iload_n 3, 1) := by decide +kernel
theorem dX4_release_4 : decode cX4_release 4 = .ok (.invokevirtual 125, 3) := by decide +kernel
theorem dX4_release_7 : decode cX4_release 7 = .ok (.istore 4, 2) := by decide +kernel
theorem dX4_release_9 : decode cX4_release 9 = .ok (.iload 4, 2) := by decide +kernel
theorem dX4_release_11 : decode cX4_release 11 = .ok (.bipush 103, 2) := by decide +kernel
theorem dX4_release_13 : decode cX4_release 13 = .ok (.if_icmp .eq 6, 3) := by decide +kernel
theorem dX4_release_16 : decode cX4_release 16 = .ok (.iload 4, 2) := by decide +kernel
theorem dX4_release_18 : decode cX4_release 18 = .ok (.ireturn, 1) := by decide +kernel
theorem dX4_release_19 : decode cX4_release 19 = .ok (.aload_n 0, 1) := by decide +kernel
theorem dX4_release_20 : decode cX4_release 20 = .ok (.iload_n 1, 1) := by decide +kernel
theorem dX4_release_21 : decode cX4_release 21 = .ok (.iload_n 2, 1) := by decide +kernel
theorem dX4_release_22 : decode cX4_release 22 = .ok (.iload_n 3, 1) := by decide +kernel
theorem dX4_release_23 : decode cX4_release 23 = .ok (.invokevirtual 136, 3) := by decide +kernel
theorem dX4_release_26 : decode cX4_release 26 = .ok (.bipush 103, 2) := by decide +kernel
theorem dX4_release_28 : decode cX4_release 28 = .ok (.ireturn, 1) := by decide +kernel
set_option maxRecDepth 20000 in
theorem ggX4_quit_X4_checkClient : GoodIn wsX4_quit wsX4_checkClient := goodIn_ca (goodIn_r _ [10, 11, 12, 13, 14, 33, 34, 35, 36, 37, 38, 45, 46, 47, 48, 49, 50, 51, 52, 53] (by decide +kernel) (by decide +kernel)) (goodIn_sub (fun _ h => List.mem_cons_of_mem _ (List.mem_append_left _ (List.mem_append_right _ h))) (by decide +kernel))
set_option maxRecDepth 20000 in
theorem gX4_quit_X4_checkClient : GoodIn wsX4_quit (wsV RX4 107 RX4 yX4_checkClient wsX4_checkClient) := goodIn_app (goodIn_of _ (by decide +kernel)) ggX4_quit_X4_checkClient
set_option maxRecDepth 20000 in
theorem ggX4_quit_X4_checkLock : GoodIn wsX4_quit wsX4_checkLock := goodIn_ca (goodIn_r _ [18, 19, 20] (by decide +kernel) (by decide +kernel)) (goodIn_sub (fun _ h => List.mem_cons_of_mem _ (List.mem_append_right _ h)) (by decide +kernel))
set_option maxRecDepth 20000 in
theorem gX4_quit_X4_checkLock : GoodIn wsX4_quit (wsV RX4 93 RX4 yX4_checkLock wsX4_checkLock) := goodIn_app (goodIn_of _ (by decide +kernel)) ggX4_quit_X4_checkLock
set_option maxRecDepth 20000 in
theorem ggX4_quit_X1_placeOf : GoodIn wsX4_quit wsX1_placeOf := goodIn_ca (goodIn_r _ [25, 26, 27, 39, 40, 41, 42, 43, 44] (by decide +kernel) (by decide +kernel)) (goodIn_sub (fun _ h => List.mem_cons_of_mem _ (List.mem_append_left _ (List.mem_append_left _ (List.mem_append_right _ h)))) (by decide +kernel))
set_option maxRecDepth 20000 in
theorem gX4_quit_X1_placeOf : GoodIn wsX4_quit (wsV RX4 139 RX1 yX1_placeOf wsX1_placeOf) := goodIn_app (goodIn_of _ (by decide +kernel)) ggX4_quit_X1_placeOf
set_option maxRecDepth 20000 in
theorem ggX4_quit_X1_takeOut : GoodIn wsX4_quit wsX1_takeOut := goodIn_ca (goodIn_r _ [31, 27, 26, 32, 22, 23, 24, 25, 39, 40, 41, 42, 43, 44] (by decide +kernel) (by decide +kernel)) (goodIn_sub (fun _ h => List.mem_cons_of_mem _ (List.mem_append_left _ (List.mem_append_left _ (List.mem_append_right _ h)))) (by decide +kernel))
set_option maxRecDepth 20000 in
theorem gX4_quit_X1_takeOut : GoodIn wsX4_quit (wsV RX4 147 RX1 yX1_takeOut wsX1_takeOut) := goodIn_app (goodIn_of _ (by decide +kernel)) ggX4_quit_X1_takeOut
theorem dX4_quit_0 : decode cX4_quit 0 = .ok (.aload_n 0, 1) := by decide +kernel
theorem dX4_quit_1 : decode cX4_quit 1 = .ok (.iload_n 1, 1) := by decide +kernel
theorem dX4_quit_2 : decode cX4_quit 2 = .ok (.invokevirtual 107, 3) := by decide +kernel
theorem dX4_quit_5 : decode cX4_quit 5 = .ok (.aload_n 0, 1) := by decide +kernel
theorem dX4_quit_6 : decode cX4_quit 6 = .ok (.iload_n 2, 1) := by decide +kernel
theorem dX4_quit_7 : decode cX4_quit 7 = .ok (.invokevirtual 93, 3) := by decide +kernel
theorem dX4_quit_10 : decode cX4_quit 10 = .ok (.aload_n 0, 1) := by decide +kernel
theorem dX4_quit_11 : decode cX4_quit 11 = .ok (.getfield 26, 3) := by decide +kernel
theorem dX4_quit_14 : decode cX4_quit 14 = .ok (.iload_n 2, 1) := by decide +kernel
theorem dX4_quit_15 : decode cX4_quit 15 = .ok (.iload_n 1, 1) := by decide +kernel
theorem dX4_quit_16 : decode cX4_quit 16 = .ok (.invokevirtual 139, 3) := by decide +kernel
theorem dX4_quit_19 : decode cX4_quit 19 = .ok (.iconst (-1), 1) := by decide +kernel
theorem dX4_quit_20 : decode cX4_quit 20 = .ok (.if_icmp .ne 13, 3) := by decide +kernel
theorem dX4_quit_23 : decode cX4_quit 23 = .ok (.new 142, 3) := by decide +kernel
theorem dX4_quit_26 : decode cX4_quit 26 = .ok (.dup, 1) := by decide +kernel
theorem dX4_quit_27 : decode cX4_quit 27 = .ok (.ldc 144, 2) := by decide +kernel
theorem dX4_quit_29 : decode cX4_quit 29 = .ok (.invokespecial 146, 3) := by decide +kernel
theorem dX4_quit_32 : decode cX4_quit 32 = .ok (.athrow, 1) := by decide +kernel
theorem dX4_quit_33 : decode cX4_quit 33 = .ok (.aload_n 0, 1) := by decide +kernel
theorem dX4_quit_34 : decode cX4_quit 34 = .ok (.getfield 26, 3) := by decide +kernel
theorem dX4_quit_37 : decode cX4_quit 37 = .ok (.iload_n 2, 1) := by decide +kernel
theorem dX4_quit_38 : decode cX4_quit 38 = .ok (.iload_n 1, 1) := by decide +kernel
theorem dX4_quit_39 : decode cX4_quit 39 = .ok (.invokevirtual 147, 3) := by decide +kernel
theorem dX4_quit_42 : decode cX4_quit 42 = .ok (.aload_n 0, 1) := by decide +kernel
theorem dX4_quit_43 : decode cX4_quit 43 = .ok (.getfield 26, 3) := by decide +kernel
theorem dX4_quit_46 : decode cX4_quit 46 = .ok (.getfield 129, 3) := by decide +kernel
theorem dX4_quit_49 : decode cX4_quit 49 = .ok (.iload_n 2, 1) := by decide +kernel
theorem dX4_quit_50 : decode cX4_quit 50 = .ok (.iaload, 1) := by decide +kernel
theorem dX4_quit_51 : decode cX4_quit 51 = .ok (.iload_n 1, 1) := by decide +kernel
theorem dX4_quit_52 : decode cX4_quit 52 = .ok (.if_icmp .ne 13, 3) := by decide +kernel
theorem dX4_quit_55 : decode cX4_quit 55 = .ok (.aload_n 0, 1) := by decide +kernel
theorem dX4_quit_56 : decode cX4_quit 56 = .ok (.getfield 26, 3) := by decide +kernel
theorem dX4_quit_59 : decode cX4_quit 59 = .ok (.getfield 129, 3) := by decide +kernel
theorem dX4_quit_62 : decode cX4_quit 62 = .ok (.iload_n 2, 1) := by decide +kernel
theorem dX4_quit_63 : decode cX4_quit 63 = .ok (.iconst (-1), 1) := by decide +kernel
theorem dX4_quit_64 : decode cX4_quit 64 = .ok (.iastore, 1) := by decide +kernel
theorem dX4_quit_65 : decode cX4_quit 65 = .ok (.aload_n 0, 1) := by decide +kernel
theorem dX4_quit_66 : decode cX4_quit 66 = .ok (.getfield 26, 3) := by decide +kernel
theorem dX4_quit_69 : decode cX4_quit 69 = .ok (.getfield 151, 3) := by decide +kernel
theorem dX4_quit_72 : decode cX4_quit 72 = .ok (.iload_n 2, 1) := by decide +kernel
theorem dX4_quit_73 : decode cX4_quit 73 = .ok (.iaload, 1) := by decide +kernel
theorem dX4_quit_74 : decode cX4_quit 74 = .ok (.ireturn, 1) := by decide +kernel
set_option maxRecDepth 20000 in
theorem ggX4_read_X4_checkNumbers : GoodIn wsX4_read wsX4_checkNumbers := goodIn_ca (goodIn_ca (goodIn_r _ [10, 11, 12, 13, 9, 14, 15, 16, 2, 17, 18, 19, 20, 21, 22, 23, 24, 25, 26, 27, 84, 85, 86, 87, 88, 89, 96, 97, 98, 99, 100, 101, 102, 103, 104] (by decide +kernel) (by decide +kernel)) (goodIn_sub (fun _ h => List.mem_cons_of_mem _ (List.mem_append_left _ (List.mem_append_left _ (List.mem_append_right _ h)))) (by decide +kernel))) (goodIn_sub (fun _ h => List.mem_cons_of_mem _ (List.mem_append_left _ (List.mem_append_right _ h))) (by decide +kernel))
set_option maxRecDepth 20000 in
theorem gX4_read_X4_checkNumbers : GoodIn wsX4_read (wsV RX4 154 RX4 yX4_checkNumbers wsX4_checkNumbers) := goodIn_app (goodIn_of _ (by decide +kernel)) ggX4_read_X4_checkNumbers
set_option maxRecDepth 20000 in
theorem ggX4_read_X4_checkCanAsk : GoodIn wsX4_read wsX4_checkCanAsk := goodIn_ca (goodIn_ca (goodIn_r _ [31, 32, 33, 2, 34, 1, 35, 36, 37, 38, 39, 40, 41, 42, 43, 44, 45, 46, 47, 48, 84, 85, 86, 87, 88, 89, 96, 97, 98, 99, 100, 101, 102, 103, 104, 105, 106, 107, 108, 109, 110, 111, 112, 113, 114, 115] (by decide +kernel) (by decide +kernel)) (goodIn_sub (fun _ h => List.mem_cons_of_mem _ (List.mem_append_left _ (List.mem_append_left _ (List.mem_append_left _ (List.mem_append_right _ h))))) (by decide +kernel))) (goodIn_sub (fun _ h => List.mem_cons_of_mem _ (List.mem_append_right _ h)) (by decide +kernel))
set_option maxRecDepth 20000 in
theorem gX4_read_X4_checkCanAsk : GoodIn wsX4_read (wsV RX4 157 RX4 yX4_checkCanAsk wsX4_checkCanAsk) := goodIn_app (goodIn_of _ (by decide +kernel)) ggX4_read_X4_checkCanAsk
set_option maxRecDepth 20000 in
theorem ggX4_read_X3_consult : GoodIn wsX4_read wsX3_consult := goodIn_ca (goodIn_r _ [52, 43, 53, 54, 55, 41, 56, 57, 58, 59, 60, 61, 62, 63, 64, 65, 66, 105, 106, 107, 108, 109] (by decide +kernel) (by decide +kernel)) (goodIn_sub (fun _ h => List.mem_cons_of_mem _ (List.mem_append_left _ (List.mem_append_left _ (List.mem_append_left _ (List.mem_append_right _ h))))) (by decide +kernel))
set_option maxRecDepth 20000 in
theorem gX4_read_X3_consult : GoodIn wsX4_read (wsV RX4 160 RX3 yX3_consult wsX3_consult) := goodIn_app (goodIn_of _ (by decide +kernel)) ggX4_read_X3_consult
set_option maxRecDepth 20000 in
theorem ggX4_read_X0_keepValue : GoodIn wsX4_read wsX0_keepValue := goodIn_ca (goodIn_r _ [71, 72, 73, 74, 75, 76, 77, 70, 78, 79, 80, 81, 82, 83, 96, 97, 98, 99, 100, 101, 102, 103, 104] (by decide +kernel) (by decide +kernel)) (goodIn_sub (fun _ h => List.mem_cons_of_mem _ (List.mem_append_left _ (List.mem_append_left _ (List.mem_append_left _ (List.mem_append_right _ h))))) (by decide +kernel))
set_option maxRecDepth 20000 in
theorem gX4_read_X0_keepValue : GoodIn wsX4_read (wsV RX4 167 RX0 yX0_keepValue wsX0_keepValue) := goodIn_app (goodIn_of _ (by decide +kernel)) ggX4_read_X0_keepValue
theorem dX4_read_0 : decode cX4_read 0 = .ok (.aload_n 0, 1) := by decide +kernel
theorem dX4_read_1 : decode cX4_read 1 = .ok (.iload_n 1, 1) := by decide +kernel
theorem dX4_read_2 : decode cX4_read 2 = .ok (.iload_n 2, 1) := by decide +kernel
theorem dX4_read_3 : decode cX4_read 3 = .ok (.iload_n 3, 1) := by decide +kernel
theorem dX4_read_4 : decode cX4_read 4 = .ok (.invokevirtual 154, 3) := by decide +kernel
theorem dX4_read_7 : decode cX4_read 7 = .ok (.aload_n 0, 1) := by decide +kernel
theorem dX4_read_8 : decode cX4_read 8 = .ok (.iload_n 1, 1) := by decide +kernel
theorem dX4_read_9 : decode cX4_read 9 = .ok (.iload_n 3, 1) := by decide +kernel
theorem dX4_read_10 : decode cX4_read 10 = .ok (.invokevirtual 157, 3) := by decide +kernel
theorem dX4_read_13 : decode cX4_read 13 = .ok (.aload_n 0, 1) := by decide +kernel
theorem dX4_read_14 : decode cX4_read 14 = .ok (.getfield 10, 3) := by decide +kernel
theorem dX4_read_17 : decode cX4_read 17 = .ok (.iload_n 3, 1) := by decide +kernel
theorem dX4_read_18 : decode cX4_read 18 = .ok (.invokevirtual 160, 3) := by decide +kernel
theorem dX4_read_21 : decode cX4_read 21 = .ok (.istore 4, 2) := by decide +kernel
theorem dX4_read_23 : decode cX4_read 23 = .ok (.iload 4, 2) := by decide +kernel
theorem dX4_read_25 : decode cX4_read 25 = .ok (.bipush 103, 2) := by decide +kernel
theorem dX4_read_27 : decode cX4_read 27 = .ok (.if_icmp .ne 25, 3) := by decide +kernel
theorem dX4_read_30 : decode cX4_read 30 = .ok (.aload_n 0, 1) := by decide +kernel
theorem dX4_read_31 : decode cX4_read 31 = .ok (.getfield 33, 3) := by decide +kernel
theorem dX4_read_34 : decode cX4_read 34 = .ok (.iload_n 1, 1) := by decide +kernel
theorem dX4_read_35 : decode cX4_read 35 = .ok (.iload_n 2, 1) := by decide +kernel
theorem dX4_read_36 : decode cX4_read 36 = .ok (.aload_n 0, 1) := by decide +kernel
theorem dX4_read_37 : decode cX4_read 37 = .ok (.getfield 26, 3) := by decide +kernel
theorem dX4_read_40 : decode cX4_read 40 = .ok (.getfield 164, 3) := by decide +kernel
theorem dX4_read_43 : decode cX4_read 43 = .ok (.iload_n 2, 1) := by decide +kernel
theorem dX4_read_44 : decode cX4_read 44 = .ok (.iaload, 1) := by decide +kernel
theorem dX4_read_45 : decode cX4_read 45 = .ok (.aload_n 0, 1) := by decide +kernel
theorem dX4_read_46 : decode cX4_read 46 = .ok (.getfield 44, 3) := by decide +kernel
theorem dX4_read_49 : decode cX4_read 49 = .ok (.invokevirtual 167, 3) := by decide +kernel
theorem dX4_read_52 : decode cX4_read 52 = .ok (.iload 4, 2) := by decide +kernel
theorem dX4_read_54 : decode cX4_read 54 = .ok (.ireturn, 1) := by decide +kernel
set_option maxRecDepth 20000 in
theorem ggX4_write_X4_checkNumbers : GoodIn wsX4_write wsX4_checkNumbers := goodIn_ca (goodIn_ca (goodIn_r _ [11, 12, 13, 14, 10, 15, 16, 17, 4, 18, 19, 20, 21, 22, 23, 24, 25, 26, 27, 28, 132, 133, 134, 135, 136, 137, 138, 139, 140, 141, 142, 143, 144, 145, 146] (by decide +kernel) (by decide +kernel)) (goodIn_sub (fun _ h => List.mem_cons_of_mem _ (List.mem_append_left _ (List.mem_append_left _ (List.mem_append_left _ (List.mem_append_right _ h))))) (by decide +kernel))) (goodIn_sub (fun _ h => List.mem_cons_of_mem _ (List.mem_append_left _ (List.mem_append_left _ (List.mem_append_right _ h)))) (by decide +kernel))
set_option maxRecDepth 20000 in
theorem gX4_write_X4_checkNumbers : GoodIn wsX4_write (wsV RX4 154 RX4 yX4_checkNumbers wsX4_checkNumbers) := goodIn_app (goodIn_of _ (by decide +kernel)) ggX4_write_X4_checkNumbers
set_option maxRecDepth 20000 in
theorem ggX4_write_X4_checkCanAsk : GoodIn wsX4_write wsX4_checkCanAsk := goodIn_ca (goodIn_ca (goodIn_r _ [32, 33, 34, 4, 35, 3, 36, 37, 38, 39, 40, 41, 42, 43, 44, 45, 46, 47, 48, 49, 132, 133, 134, 135, 136, 137, 138, 139, 140, 141, 142, 143, 144, 145, 146, 147, 148, 149, 150, 151, 152, 153, 154, 155, 156, 157] (by decide +kernel) (by decide +kernel)) (goodIn_sub (fun _ h => List.mem_cons_of_mem _ (List.mem_append_left _ (List.mem_append_right _ h))) (by decide +kernel))) (goodIn_sub (fun _ h => List.mem_cons_of_mem _ (List.mem_append_right _ h)) (by decide +kernel))
set_option maxRecDepth 20000 in
theorem gX4_write_X4_checkCanAsk : GoodIn wsX4_write (wsV RX4 157 RX4 yX4_checkCanAsk wsX4_checkCanAsk) := goodIn_app (goodIn_of _ (by decide +kernel)) ggX4_write_X4_checkCanAsk
set_option maxRecDepth 20000 in
theorem ggX4_write_X3_consult : GoodIn wsX4_write wsX3_consult := goodIn_ca (goodIn_r _ [53, 44, 54, 55, 56, 42, 57, 58, 59, 60, 61, 62, 63, 64, 65, 66, 67, 147, 148, 149, 150, 151] (by decide +kernel) (by decide +kernel)) (goodIn_sub (fun _ h => List.mem_cons_of_mem _ (List.mem_append_left _ (List.mem_append_right _ h))) (by decide +kernel))
set_option maxRecDepth 20000 in
theorem gX4_write_X3_consult : GoodIn wsX4_write (wsV RX4 160 RX3 yX3_consult wsX3_consult) := goodIn_app (goodIn_of _ (by decide +kernel)) ggX4_write_X3_consult
set_option maxRecDepth 20000 in
theorem ggX4_write_X0_hasClaim : GoodIn wsX4_write wsX0_hasClaim := goodIn_ca (goodIn_r _ [72, 73, 74, 75, 76, 77, 71, 78, 79, 80, 81, 82, 83, 138, 139, 140, 141, 142, 143, 144, 145, 146] (by decide +kernel) (by decide +kernel)) (goodIn_sub (fun _ h => List.mem_cons_of_mem _ (List.mem_append_left _ (List.mem_append_right _ h))) (by decide +kernel))
set_option maxRecDepth 20000 in
theorem gX4_write_X0_hasClaim : GoodIn wsX4_write (wsV RX4 173 RX0 yX0_hasClaim wsX0_hasClaim) := goodIn_app (goodIn_of _ (by decide +kernel)) ggX4_write_X0_hasClaim
set_option maxRecDepth 20000 in
theorem ggX4_write_X1_isHeldBy : GoodIn wsX4_write wsX1_isHeldBy := goodIn_ca (goodIn_r _ [88, 89, 90, 91, 92, 87, 93, 94, 158, 159, 160, 161, 162, 163] (by decide +kernel) (by decide +kernel)) (goodIn_sub (fun _ h => List.mem_cons_of_mem _ (List.mem_append_left _ (List.mem_append_right _ h))) (by decide +kernel))
set_option maxRecDepth 20000 in
theorem gX4_write_X1_isHeldBy : GoodIn wsX4_write (wsV RX4 177 RX1 yX1_isHeldBy wsX1_isHeldBy) := goodIn_app (goodIn_of _ (by decide +kernel)) ggX4_write_X1_isHeldBy
set_option maxRecDepth 20000 in
theorem ggX4_write_X0_isKeptByPaused : GoodIn wsX4_write wsX0_isKeptByPaused := goodIn_ca (goodIn_r _ [98, 99, 73, 100, 76, 77, 71, 78, 138, 139, 140, 141, 142, 143, 144, 145, 146] (by decide +kernel) (by decide +kernel)) (goodIn_sub (fun _ h => List.mem_cons_of_mem _ (List.mem_append_left _ (List.mem_append_right _ h))) (by decide +kernel))
set_option maxRecDepth 20000 in
theorem gX4_write_X0_isKeptByPaused : GoodIn wsX4_write (wsV RX4 180 RX0 yX0_isKeptByPaused wsX0_isKeptByPaused) := goodIn_app (goodIn_of _ (by decide +kernel)) ggX4_write_X0_isKeptByPaused
set_option maxRecDepth 20000 in
theorem ggX4_write_X4_changeValue : GoodIn wsX4_write wsX4_changeValue := goodIn_ca (goodIn_r _ [104, 4, 6, 105, 106, 107, 108, 71, 109, 99, 110, 100, 76, 77, 78, 111, 112, 113, 10, 114, 37, 3, 115, 38, 116, 117, 118, 119, 120, 121, 122, 123, 124, 125, 126, 127, 128, 129, 42, 130, 131, 58, 59, 60, 61, 62, 63, 132, 133, 134, 135, 136, 137, 158, 159, 160, 161, 162, 163, 138, 139, 140, 141, 142, 143, 144, 145, 146, 147, 148, 149, 150, 151, 152, 153, 154, 155, 156, 157] (by decide +kernel) (by decide +kernel)) (goodIn_sub (fun _ h => List.mem_cons_of_mem _ (List.mem_append_left _ (List.mem_append_right _ h))) (by decide +kernel))
set_option maxRecDepth 20000 in
theorem gX4_write_X4_changeValue : GoodIn wsX4_write (wsV RX4 184 RX4 yX4_changeValue wsX4_changeValue) := goodIn_app (goodIn_of _ (by decide +kernel)) ggX4_write_X4_changeValue
theorem dX4_write_0 : decode cX4_write 0 = .ok (.aload_n 0, 1) := by decide +kernel
theorem dX4_write_1 : decode cX4_write 1 = .ok (.iload_n 1, 1) := by decide +kernel
theorem dX4_write_2 : decode cX4_write 2 = .ok (.iload_n 2, 1) := by decide +kernel
theorem dX4_write_3 : decode cX4_write 3 = .ok (.iload_n 3, 1) := by decide +kernel
theorem dX4_write_4 : decode cX4_write 4 = .ok (.invokevirtual 154, 3) := by decide +kernel
theorem dX4_write_7 : decode cX4_write 7 = .ok (.iload 4, 2) := by decide +kernel
theorem dX4_write_9 : decode cX4_write 9 = .ok (.ifCond .lt 11, 3) := by decide +kernel
theorem dX4_write_12 : decode cX4_write 12 = .ok (.iload 4, 2) := by decide +kernel
theorem dX4_write_14 : decode cX4_write 14 = .ok (.sipush 999, 3) := by decide +kernel
theorem dX4_write_17 : decode cX4_write 17 = .ok (.if_icmp .le 13, 3) := by decide +kernel
theorem dX4_write_20 : decode cX4_write 20 = .ok (.new 37, 3) := by decide +kernel
theorem dX4_write_23 : decode cX4_write 23 = .ok (.dup, 1) := by decide +kernel
theorem dX4_write_24 : decode cX4_write 24 = .ok (.ldc 171, 2) := by decide +kernel
theorem dX4_write_26 : decode cX4_write 26 = .ok (.invokespecial 41, 3) := by decide +kernel
theorem dX4_write_29 : decode cX4_write 29 = .ok (.athrow, 1) := by decide +kernel
theorem dX4_write_30 : decode cX4_write 30 = .ok (.aload_n 0, 1) := by decide +kernel
theorem dX4_write_31 : decode cX4_write 31 = .ok (.iload_n 1, 1) := by decide +kernel
theorem dX4_write_32 : decode cX4_write 32 = .ok (.iload_n 3, 1) := by decide +kernel
theorem dX4_write_33 : decode cX4_write 33 = .ok (.invokevirtual 157, 3) := by decide +kernel
theorem dX4_write_36 : decode cX4_write 36 = .ok (.aload_n 0, 1) := by decide +kernel
theorem dX4_write_37 : decode cX4_write 37 = .ok (.getfield 10, 3) := by decide +kernel
theorem dX4_write_40 : decode cX4_write 40 = .ok (.iload_n 3, 1) := by decide +kernel
theorem dX4_write_41 : decode cX4_write 41 = .ok (.invokevirtual 160, 3) := by decide +kernel
theorem dX4_write_44 : decode cX4_write 44 = .ok (.istore 5, 2) := by decide +kernel
theorem dX4_write_46 : decode cX4_write 46 = .ok (.iload 5, 2) := by decide +kernel
theorem dX4_write_48 : decode cX4_write 48 = .ok (.bipush 103, 2) := by decide +kernel
theorem dX4_write_50 : decode cX4_write 50 = .ok (.if_icmp .eq 6, 3) := by decide +kernel
theorem dX4_write_53 : decode cX4_write 53 = .ok (.iload 5, 2) := by decide +kernel
theorem dX4_write_55 : decode cX4_write 55 = .ok (.ireturn, 1) := by decide +kernel
theorem dX4_write_56 : decode cX4_write 56 = .ok (.aload_n 0, 1) := by decide +kernel
theorem dX4_write_57 : decode cX4_write 57 = .ok (.getfield 33, 3) := by decide +kernel
theorem dX4_write_60 : decode cX4_write 60 = .ok (.iload_n 1, 1) := by decide +kernel
theorem dX4_write_61 : decode cX4_write 61 = .ok (.iload_n 2, 1) := by decide +kernel
theorem dX4_write_62 : decode cX4_write 62 = .ok (.aload_n 0, 1) := by decide +kernel
theorem dX4_write_63 : decode cX4_write 63 = .ok (.getfield 44, 3) := by decide +kernel
theorem dX4_write_66 : decode cX4_write 66 = .ok (.invokevirtual 173, 3) := by decide +kernel
theorem dX4_write_69 : decode cX4_write 69 = .ok (.ifCond .eq 19, 3) := by decide +kernel
theorem dX4_write_72 : decode cX4_write 72 = .ok (.aload_n 0, 1) := by decide +kernel
theorem dX4_write_73 : decode cX4_write 73 = .ok (.getfield 26, 3) := by decide +kernel
theorem dX4_write_76 : decode cX4_write 76 = .ok (.iload_n 2, 1) := by decide +kernel
theorem dX4_write_77 : decode cX4_write 77 = .ok (.iload_n 1, 1) := by decide +kernel
theorem dX4_write_78 : decode cX4_write 78 = .ok (.aload_n 0, 1) := by decide +kernel
theorem dX4_write_79 : decode cX4_write 79 = .ok (.getfield 44, 3) := by decide +kernel
theorem dX4_write_82 : decode cX4_write 82 = .ok (.invokevirtual 177, 3) := by decide +kernel
theorem dX4_write_85 : decode cX4_write 85 = .ok (.ifCond .ne 6, 3) := by decide +kernel
theorem dX4_write_88 : decode cX4_write 88 = .ok (.bipush 111, 2) := by decide +kernel
theorem dX4_write_90 : decode cX4_write 90 = .ok (.ireturn, 1) := by decide +kernel
theorem dX4_write_91 : decode cX4_write 91 = .ok (.aload_n 0, 1) := by decide +kernel
theorem dX4_write_92 : decode cX4_write 92 = .ok (.getfield 33, 3) := by decide +kernel
theorem dX4_write_95 : decode cX4_write 95 = .ok (.iload_n 2, 1) := by decide +kernel
theorem dX4_write_96 : decode cX4_write 96 = .ok (.aload_n 0, 1) := by decide +kernel
theorem dX4_write_97 : decode cX4_write 97 = .ok (.getfield 44, 3) := by decide +kernel
theorem dX4_write_100 : decode cX4_write 100 = .ok (.invokevirtual 180, 3) := by decide +kernel
theorem dX4_write_103 : decode cX4_write 103 = .ok (.ifCond .eq 6, 3) := by decide +kernel
theorem dX4_write_106 : decode cX4_write 106 = .ok (.bipush 98, 2) := by decide +kernel
theorem dX4_write_108 : decode cX4_write 108 = .ok (.ireturn, 1) := by decide +kernel
theorem dX4_write_109 : decode cX4_write 109 = .ok (.aload_n 0, 1) := by decide +kernel
theorem dX4_write_110 : decode cX4_write 110 = .ok (.iload_n 1, 1) := by decide +kernel
theorem dX4_write_111 : decode cX4_write 111 = .ok (.iload_n 2, 1) := by decide +kernel
theorem dX4_write_112 : decode cX4_write 112 = .ok (.iload_n 3, 1) := by decide +kernel
theorem dX4_write_113 : decode cX4_write 113 = .ok (.iload 4, 2) := by decide +kernel
theorem dX4_write_115 : decode cX4_write 115 = .ok (.invokevirtual 184, 3) := by decide +kernel
theorem dX4_write_118 : decode cX4_write 118 = .ok (.bipush 103, 2) := by decide +kernel
theorem dX4_write_120 : decode cX4_write 120 = .ok (.ireturn, 1) := by decide +kernel
set_option maxRecDepth 20000 in
theorem ggX4_owner_X4_checkLock : GoodIn wsX4_owner wsX4_checkLock := goodIn_ca (goodIn_r _ [7, 8, 9] (by decide +kernel) (by decide +kernel)) (goodIn_sub (fun _ h => List.mem_cons_of_mem _ (List.mem_append_left _ (List.mem_append_right _ h))) (by decide +kernel))
set_option maxRecDepth 20000 in
theorem gX4_owner_X4_checkLock : GoodIn wsX4_owner (wsV RX4 93 RX4 yX4_checkLock wsX4_checkLock) := goodIn_app (goodIn_of _ (by decide +kernel)) ggX4_owner_X4_checkLock
set_option maxRecDepth 20000 in
theorem ggX4_owner_X4_checkNotFree : GoodIn wsX4_owner wsX4_checkNotFree := goodIn_ca (goodIn_ca (goodIn_r _ [13, 14, 15, 1, 16, 17, 18, 19, 20, 21, 22, 23, 24, 25, 26, 27, 28, 29, 30, 31, 32, 33, 34, 35] (by decide +kernel) (by decide +kernel)) (goodIn_sub (fun _ h => List.mem_cons_of_mem _ (List.mem_append_right _ h)) (by decide +kernel))) (goodIn_sub (fun _ h => List.mem_cons_of_mem _ (List.mem_append_left _ (List.mem_append_left _ (List.mem_append_right _ h)))) (by decide +kernel))
set_option maxRecDepth 20000 in
theorem gX4_owner_X4_checkNotFree : GoodIn wsX4_owner (wsV RX4 187 RX4 yX4_checkNotFree wsX4_checkNotFree) := goodIn_app (goodIn_of _ (by decide +kernel)) ggX4_owner_X4_checkNotFree
theorem dX4_owner_0 : decode cX4_owner 0 = .ok (.aload_n 0, 1) := by decide +kernel
theorem dX4_owner_1 : decode cX4_owner 1 = .ok (.iload_n 1, 1) := by decide +kernel
theorem dX4_owner_2 : decode cX4_owner 2 = .ok (.invokevirtual 93, 3) := by decide +kernel
theorem dX4_owner_5 : decode cX4_owner 5 = .ok (.aload_n 0, 1) := by decide +kernel
theorem dX4_owner_6 : decode cX4_owner 6 = .ok (.iload_n 1, 1) := by decide +kernel
theorem dX4_owner_7 : decode cX4_owner 7 = .ok (.invokevirtual 187, 3) := by decide +kernel
theorem dX4_owner_10 : decode cX4_owner 10 = .ok (.aload_n 0, 1) := by decide +kernel
theorem dX4_owner_11 : decode cX4_owner 11 = .ok (.getfield 26, 3) := by decide +kernel
theorem dX4_owner_14 : decode cX4_owner 14 = .ok (.getfield 190, 3) := by decide +kernel
theorem dX4_owner_17 : decode cX4_owner 17 = .ok (.iload_n 1, 1) := by decide +kernel
theorem dX4_owner_18 : decode cX4_owner 18 = .ok (.iaload, 1) := by decide +kernel
theorem dX4_owner_19 : decode cX4_owner 19 = .ok (.ireturn, 1) := by decide +kernel
set_option maxRecDepth 20000 in
theorem ggX4_ownerByLog_X4_checkLock : GoodIn wsX4_ownerByLog wsX4_checkLock := goodIn_ca (goodIn_r _ [9, 10, 11] (by decide +kernel) (by decide +kernel)) (goodIn_sub (fun _ h => List.mem_cons_of_mem _ (List.mem_append_left _ (List.mem_append_right _ h))) (by decide +kernel))
set_option maxRecDepth 20000 in
theorem gX4_ownerByLog_X4_checkLock : GoodIn wsX4_ownerByLog (wsV RX4 93 RX4 yX4_checkLock wsX4_checkLock) := goodIn_app (goodIn_of _ (by decide +kernel)) ggX4_ownerByLog_X4_checkLock
set_option maxRecDepth 20000 in
theorem ggX4_ownerByLog_X2_holderAt : GoodIn wsX4_ownerByLog wsX2_holderAt := goodIn_ca (goodIn_r _ [16, 17, 18, 19, 20, 15, 21, 22, 23, 24, 25, 26, 27, 28, 29, 36, 37, 38, 39, 40, 41] (by decide +kernel) (by decide +kernel)) (goodIn_sub (fun _ h => List.mem_cons_of_mem _ (List.mem_append_right _ h)) (by decide +kernel))
set_option maxRecDepth 20000 in
theorem gX4_ownerByLog_X2_holderAt : GoodIn wsX4_ownerByLog (wsV RX4 193 RX2 yX2_holderAt wsX2_holderAt) := goodIn_app (goodIn_of _ (by decide +kernel)) ggX4_ownerByLog_X2_holderAt
theorem dX4_ownerByLog_0 : decode cX4_ownerByLog 0 = .ok (.aload_n 0, 1) := by decide +kernel
theorem dX4_ownerByLog_1 : decode cX4_ownerByLog 1 = .ok (.iload_n 1, 1) := by decide +kernel
theorem dX4_ownerByLog_2 : decode cX4_ownerByLog 2 = .ok (.invokevirtual 93, 3) := by decide +kernel
theorem dX4_ownerByLog_5 : decode cX4_ownerByLog 5 = .ok (.aload_n 0, 1) := by decide +kernel
theorem dX4_ownerByLog_6 : decode cX4_ownerByLog 6 = .ok (.getfield 19, 3) := by decide +kernel
theorem dX4_ownerByLog_9 : decode cX4_ownerByLog 9 = .ok (.iload_n 1, 1) := by decide +kernel
theorem dX4_ownerByLog_10 : decode cX4_ownerByLog 10 = .ok (.aload_n 0, 1) := by decide +kernel
theorem dX4_ownerByLog_11 : decode cX4_ownerByLog 11 = .ok (.getfield 44, 3) := by decide +kernel
theorem dX4_ownerByLog_14 : decode cX4_ownerByLog 14 = .ok (.invokevirtual 193, 3) := by decide +kernel
theorem dX4_ownerByLog_17 : decode cX4_ownerByLog 17 = .ok (.istore_n 2, 1) := by decide +kernel
theorem dX4_ownerByLog_18 : decode cX4_ownerByLog 18 = .ok (.iload_n 2, 1) := by decide +kernel
theorem dX4_ownerByLog_19 : decode cX4_ownerByLog 19 = .ok (.iconst (-1), 1) := by decide +kernel
theorem dX4_ownerByLog_20 : decode cX4_ownerByLog 20 = .ok (.if_icmp .ne 13, 3) := by decide +kernel
theorem dX4_ownerByLog_23 : decode cX4_ownerByLog 23 = .ok (.new 85, 3) := by decide +kernel
theorem dX4_ownerByLog_26 : decode cX4_ownerByLog 26 = .ok (.dup, 1) := by decide +kernel
theorem dX4_ownerByLog_27 : decode cX4_ownerByLog 27 = .ok (.ldc 196, 2) := by decide +kernel
theorem dX4_ownerByLog_29 : decode cX4_ownerByLog 29 = .ok (.invokespecial 89, 3) := by decide +kernel
theorem dX4_ownerByLog_32 : decode cX4_ownerByLog 32 = .ok (.athrow, 1) := by decide +kernel
theorem dX4_ownerByLog_33 : decode cX4_ownerByLog 33 = .ok (.iload_n 2, 1) := by decide +kernel
theorem dX4_ownerByLog_34 : decode cX4_ownerByLog 34 = .ok (.ireturn, 1) := by decide +kernel
set_option maxRecDepth 20000 in
theorem ggX4_endOf_X4_checkLock : GoodIn wsX4_endOf wsX4_checkLock := goodIn_ca (goodIn_r _ [7, 8, 9] (by decide +kernel) (by decide +kernel)) (goodIn_sub (fun _ h => List.mem_cons_of_mem _ (List.mem_append_left _ (List.mem_append_right _ h))) (by decide +kernel))
set_option maxRecDepth 20000 in
theorem gX4_endOf_X4_checkLock : GoodIn wsX4_endOf (wsV RX4 93 RX4 yX4_checkLock wsX4_checkLock) := goodIn_app (goodIn_of _ (by decide +kernel)) ggX4_endOf_X4_checkLock
set_option maxRecDepth 20000 in
theorem ggX4_endOf_X4_checkNotFree : GoodIn wsX4_endOf wsX4_checkNotFree := goodIn_ca (goodIn_ca (goodIn_r _ [13, 14, 15, 1, 16, 17, 18, 19, 20, 21, 22, 23, 24, 25, 26, 27, 28, 29, 30, 31, 32, 33, 34, 35] (by decide +kernel) (by decide +kernel)) (goodIn_sub (fun _ h => List.mem_cons_of_mem _ (List.mem_append_right _ h)) (by decide +kernel))) (goodIn_sub (fun _ h => List.mem_cons_of_mem _ (List.mem_append_left _ (List.mem_append_left _ (List.mem_append_right _ h)))) (by decide +kernel))
set_option maxRecDepth 20000 in
theorem gX4_endOf_X4_checkNotFree : GoodIn wsX4_endOf (wsV RX4 187 RX4 yX4_checkNotFree wsX4_checkNotFree) := goodIn_app (goodIn_of _ (by decide +kernel)) ggX4_endOf_X4_checkNotFree
theorem dX4_endOf_0 : decode cX4_endOf 0 = .ok (.aload_n 0, 1) := by decide +kernel
theorem dX4_endOf_1 : decode cX4_endOf 1 = .ok (.iload_n 1, 1) := by decide +kernel
theorem dX4_endOf_2 : decode cX4_endOf 2 = .ok (.invokevirtual 93, 3) := by decide +kernel
theorem dX4_endOf_5 : decode cX4_endOf 5 = .ok (.aload_n 0, 1) := by decide +kernel
theorem dX4_endOf_6 : decode cX4_endOf 6 = .ok (.iload_n 1, 1) := by decide +kernel
theorem dX4_endOf_7 : decode cX4_endOf 7 = .ok (.invokevirtual 187, 3) := by decide +kernel
theorem dX4_endOf_10 : decode cX4_endOf 10 = .ok (.aload_n 0, 1) := by decide +kernel
theorem dX4_endOf_11 : decode cX4_endOf 11 = .ok (.getfield 26, 3) := by decide +kernel
theorem dX4_endOf_14 : decode cX4_endOf 14 = .ok (.getfield 198, 3) := by decide +kernel
theorem dX4_endOf_17 : decode cX4_endOf 17 = .ok (.iload_n 1, 1) := by decide +kernel
theorem dX4_endOf_18 : decode cX4_endOf 18 = .ok (.iaload, 1) := by decide +kernel
theorem dX4_endOf_19 : decode cX4_endOf 19 = .ok (.ireturn, 1) := by decide +kernel
set_option maxRecDepth 20000 in
theorem ggX4_thief_X4_checkLock : GoodIn wsX4_thief wsX4_checkLock := goodIn_ca (goodIn_r _ [9, 10, 11] (by decide +kernel) (by decide +kernel)) (goodIn_sub (fun _ h => List.mem_cons_of_mem _ (List.mem_append_right _ h)) (by decide +kernel))
set_option maxRecDepth 20000 in
theorem gX4_thief_X4_checkLock : GoodIn wsX4_thief (wsV RX4 93 RX4 yX4_checkLock wsX4_checkLock) := goodIn_app (goodIn_of _ (by decide +kernel)) ggX4_thief_X4_checkLock
theorem dX4_thief_0 : decode cX4_thief 0 = .ok (.aload_n 0, 1) := by decide +kernel
theorem dX4_thief_1 : decode cX4_thief 1 = .ok (.iload_n 1, 1) := by decide +kernel
theorem dX4_thief_2 : decode cX4_thief 2 = .ok (.invokevirtual 93, 3) := by decide +kernel
theorem dX4_thief_5 : decode cX4_thief 5 = .ok (.aload_n 0, 1) := by decide +kernel
theorem dX4_thief_6 : decode cX4_thief 6 = .ok (.getfield 26, 3) := by decide +kernel
theorem dX4_thief_9 : decode cX4_thief 9 = .ok (.getfield 129, 3) := by decide +kernel
theorem dX4_thief_12 : decode cX4_thief 12 = .ok (.iload_n 1, 1) := by decide +kernel
theorem dX4_thief_13 : decode cX4_thief 13 = .ok (.iaload, 1) := by decide +kernel
theorem dX4_thief_14 : decode cX4_thief 14 = .ok (.iconst (-1), 1) := by decide +kernel
theorem dX4_thief_15 : decode cX4_thief 15 = .ok (.if_icmp .ne 13, 3) := by decide +kernel
theorem dX4_thief_18 : decode cX4_thief 18 = .ok (.new 85, 3) := by decide +kernel
theorem dX4_thief_21 : decode cX4_thief 21 = .ok (.dup, 1) := by decide +kernel
theorem dX4_thief_22 : decode cX4_thief 22 = .ok (.ldc 201, 2) := by decide +kernel
theorem dX4_thief_24 : decode cX4_thief 24 = .ok (.invokespecial 89, 3) := by decide +kernel
theorem dX4_thief_27 : decode cX4_thief 27 = .ok (.athrow, 1) := by decide +kernel
theorem dX4_thief_28 : decode cX4_thief 28 = .ok (.aload_n 0, 1) := by decide +kernel
theorem dX4_thief_29 : decode cX4_thief 29 = .ok (.getfield 26, 3) := by decide +kernel
theorem dX4_thief_32 : decode cX4_thief 32 = .ok (.getfield 129, 3) := by decide +kernel
theorem dX4_thief_35 : decode cX4_thief 35 = .ok (.iload_n 1, 1) := by decide +kernel
theorem dX4_thief_36 : decode cX4_thief 36 = .ok (.iaload, 1) := by decide +kernel
theorem dX4_thief_37 : decode cX4_thief 37 = .ok (.ireturn, 1) := by decide +kernel
set_option maxRecDepth 20000 in
theorem ggX4_waiting_X4_checkLock : GoodIn wsX4_waiting wsX4_checkLock := goodIn_ca (goodIn_r _ [7, 8, 9] (by decide +kernel) (by decide +kernel)) (goodIn_sub (fun _ h => List.mem_cons_of_mem _ (List.mem_append_right _ h)) (by decide +kernel))
set_option maxRecDepth 20000 in
theorem gX4_waiting_X4_checkLock : GoodIn wsX4_waiting (wsV RX4 93 RX4 yX4_checkLock wsX4_checkLock) := goodIn_app (goodIn_of _ (by decide +kernel)) ggX4_waiting_X4_checkLock
theorem dX4_waiting_0 : decode cX4_waiting 0 = .ok (.aload_n 0, 1) := by decide +kernel
theorem dX4_waiting_1 : decode cX4_waiting 1 = .ok (.iload_n 1, 1) := by decide +kernel
theorem dX4_waiting_2 : decode cX4_waiting 2 = .ok (.invokevirtual 93, 3) := by decide +kernel
theorem dX4_waiting_5 : decode cX4_waiting 5 = .ok (.aload_n 0, 1) := by decide +kernel
theorem dX4_waiting_6 : decode cX4_waiting 6 = .ok (.getfield 26, 3) := by decide +kernel
theorem dX4_waiting_9 : decode cX4_waiting 9 = .ok (.getfield 151, 3) := by decide +kernel
theorem dX4_waiting_12 : decode cX4_waiting 12 = .ok (.iload_n 1, 1) := by decide +kernel
theorem dX4_waiting_13 : decode cX4_waiting 13 = .ok (.iaload, 1) := by decide +kernel
theorem dX4_waiting_14 : decode cX4_waiting 14 = .ok (.ireturn, 1) := by decide +kernel
set_option maxRecDepth 20000 in
theorem ggX4_waitingAt_X4_checkLock : GoodIn wsX4_waitingAt wsX4_checkLock := goodIn_ca (goodIn_r _ [10, 11, 12] (by decide +kernel) (by decide +kernel)) (goodIn_sub (fun _ h => List.mem_cons_of_mem _ (List.mem_append_right _ h)) (by decide +kernel))
set_option maxRecDepth 20000 in
theorem gX4_waitingAt_X4_checkLock : GoodIn wsX4_waitingAt (wsV RX4 93 RX4 yX4_checkLock wsX4_checkLock) := goodIn_app (goodIn_of _ (by decide +kernel)) ggX4_waitingAt_X4_checkLock
theorem dX4_waitingAt_0 : decode cX4_waitingAt 0 = .ok (.aload_n 0, 1) := by decide +kernel
theorem dX4_waitingAt_1 : decode cX4_waitingAt 1 = .ok (.iload_n 1, 1) := by decide +kernel
theorem dX4_waitingAt_2 : decode cX4_waitingAt 2 = .ok (.invokevirtual 93, 3) := by decide +kernel
theorem dX4_waitingAt_5 : decode cX4_waitingAt 5 = .ok (.iload_n 2, 1) := by decide +kernel
theorem dX4_waitingAt_6 : decode cX4_waitingAt 6 = .ok (.ifCond .lt 16, 3) := by decide +kernel
theorem dX4_waitingAt_9 : decode cX4_waitingAt 9 = .ok (.iload_n 2, 1) := by decide +kernel
theorem dX4_waitingAt_10 : decode cX4_waitingAt 10 = .ok (.aload_n 0, 1) := by decide +kernel
theorem dX4_waitingAt_11 : decode cX4_waitingAt 11 = .ok (.getfield 26, 3) := by decide +kernel
theorem dX4_waitingAt_14 : decode cX4_waitingAt 14 = .ok (.getfield 151, 3) := by decide +kernel
theorem dX4_waitingAt_17 : decode cX4_waitingAt 17 = .ok (.iload_n 1, 1) := by decide +kernel
theorem dX4_waitingAt_18 : decode cX4_waitingAt 18 = .ok (.iaload, 1) := by decide +kernel
theorem dX4_waitingAt_19 : decode cX4_waitingAt 19 = .ok (.if_icmp .lt 13, 3) := by decide +kernel
theorem dX4_waitingAt_22 : decode cX4_waitingAt 22 = .ok (.new 85, 3) := by decide +kernel
theorem dX4_waitingAt_25 : decode cX4_waitingAt 25 = .ok (.dup, 1) := by decide +kernel
theorem dX4_waitingAt_26 : decode cX4_waitingAt 26 = .ok (.ldc 203, 2) := by decide +kernel
theorem dX4_waitingAt_28 : decode cX4_waitingAt 28 = .ok (.invokespecial 89, 3) := by decide +kernel
theorem dX4_waitingAt_31 : decode cX4_waitingAt 31 = .ok (.athrow, 1) := by decide +kernel
theorem dX4_waitingAt_32 : decode cX4_waitingAt 32 = .ok (.aload_n 0, 1) := by decide +kernel
theorem dX4_waitingAt_33 : decode cX4_waitingAt 33 = .ok (.getfield 26, 3) := by decide +kernel
theorem dX4_waitingAt_36 : decode cX4_waitingAt 36 = .ok (.getfield 205, 3) := by decide +kernel
theorem dX4_waitingAt_39 : decode cX4_waitingAt 39 = .ok (.iload_n 1, 1) := by decide +kernel
theorem dX4_waitingAt_40 : decode cX4_waitingAt 40 = .ok (.aaload, 1) := by decide +kernel
theorem dX4_waitingAt_41 : decode cX4_waitingAt 41 = .ok (.iload_n 2, 1) := by decide +kernel
theorem dX4_waitingAt_42 : decode cX4_waitingAt 42 = .ok (.iaload, 1) := by decide +kernel
theorem dX4_waitingAt_43 : decode cX4_waitingAt 43 = .ok (.ireturn, 1) := by decide +kernel
set_option maxRecDepth 20000 in
theorem ggX4_claims_X4_checkClient : GoodIn wsX4_claims wsX4_checkClient := goodIn_ca (goodIn_r _ [7, 8, 9, 1, 10, 33, 34, 35, 36, 37, 38, 39, 40, 41, 42, 43, 44, 45, 46, 47] (by decide +kernel) (by decide +kernel)) (goodIn_sub (fun _ h => List.mem_cons_of_mem _ (List.mem_append_left _ (List.mem_append_left _ (List.mem_append_right _ h)))) (by decide +kernel))
set_option maxRecDepth 20000 in
theorem gX4_claims_X4_checkClient : GoodIn wsX4_claims (wsV RX4 107 RX4 yX4_checkClient wsX4_checkClient) := goodIn_app (goodIn_of _ (by decide +kernel)) ggX4_claims_X4_checkClient
set_option maxRecDepth 20000 in
theorem ggX4_claims_X4_checkLock : GoodIn wsX4_claims wsX4_checkLock := goodIn_ca (goodIn_r _ [14, 15, 16] (by decide +kernel) (by decide +kernel)) (goodIn_sub (fun _ h => List.mem_cons_of_mem _ (List.mem_append_left _ (List.mem_append_right _ h))) (by decide +kernel))
set_option maxRecDepth 20000 in
theorem gX4_claims_X4_checkLock : GoodIn wsX4_claims (wsV RX4 93 RX4 yX4_checkLock wsX4_checkLock) := goodIn_app (goodIn_of _ (by decide +kernel)) ggX4_claims_X4_checkLock
set_option maxRecDepth 20000 in
theorem ggX4_claims_X0_hasClaim : GoodIn wsX4_claims wsX0_hasClaim := goodIn_ca (goodIn_r _ [21, 22, 23, 24, 25, 26, 20, 27, 28, 29, 30, 31, 32, 39, 40, 41, 42, 43, 44, 45, 46, 47] (by decide +kernel) (by decide +kernel)) (goodIn_sub (fun _ h => List.mem_cons_of_mem _ (List.mem_append_right _ h)) (by decide +kernel))
set_option maxRecDepth 20000 in
theorem gX4_claims_X0_hasClaim : GoodIn wsX4_claims (wsV RX4 173 RX0 yX0_hasClaim wsX0_hasClaim) := goodIn_app (goodIn_of _ (by decide +kernel)) ggX4_claims_X0_hasClaim
theorem dX4_claims_0 : decode cX4_claims 0 = .ok (.aload_n 0, 1) := by decide +kernel
theorem dX4_claims_1 : decode cX4_claims 1 = .ok (.iload_n 1, 1) := by decide +kernel
theorem dX4_claims_2 : decode cX4_claims 2 = .ok (.invokevirtual 107, 3) := by decide +kernel
theorem dX4_claims_5 : decode cX4_claims 5 = .ok (.aload_n 0, 1) := by decide +kernel
theorem dX4_claims_6 : decode cX4_claims 6 = .ok (.iload_n 2, 1) := by decide +kernel
theorem dX4_claims_7 : decode cX4_claims 7 = .ok (.invokevirtual 93, 3) := by decide +kernel
theorem dX4_claims_10 : decode cX4_claims 10 = .ok (.aload_n 0, 1) := by decide +kernel
theorem dX4_claims_11 : decode cX4_claims 11 = .ok (.getfield 33, 3) := by decide +kernel
theorem dX4_claims_14 : decode cX4_claims 14 = .ok (.iload_n 1, 1) := by decide +kernel
theorem dX4_claims_15 : decode cX4_claims 15 = .ok (.iload_n 2, 1) := by decide +kernel
theorem dX4_claims_16 : decode cX4_claims 16 = .ok (.aload_n 0, 1) := by decide +kernel
theorem dX4_claims_17 : decode cX4_claims 17 = .ok (.getfield 44, 3) := by decide +kernel
theorem dX4_claims_20 : decode cX4_claims 20 = .ok (.invokevirtual 173, 3) := by decide +kernel
theorem dX4_claims_23 : decode cX4_claims 23 = .ok (.ireturn, 1) := by decide +kernel
set_option maxRecDepth 20000 in
theorem ggX4_claimants_X4_checkLock : GoodIn wsX4_claimants wsX4_checkLock := goodIn_ca (goodIn_r _ [7, 8, 9] (by decide +kernel) (by decide +kernel)) (goodIn_sub (fun _ h => List.mem_cons_of_mem _ (List.mem_append_left _ (List.mem_append_right _ h))) (by decide +kernel))
set_option maxRecDepth 20000 in
theorem gX4_claimants_X4_checkLock : GoodIn wsX4_claimants (wsV RX4 93 RX4 yX4_checkLock wsX4_checkLock) := goodIn_app (goodIn_of _ (by decide +kernel)) ggX4_claimants_X4_checkLock
set_option maxRecDepth 20000 in
theorem ggX4_claimants_X0_countClaims : GoodIn wsX4_claimants wsX0_countClaims := goodIn_ca (goodIn_r _ [14, 15, 16, 17, 18, 13, 19, 20, 21, 22, 23, 24, 25, 26, 27, 28, 29, 30, 37, 38, 39, 40, 41, 42, 43, 44, 45] (by decide +kernel) (by decide +kernel)) (goodIn_sub (fun _ h => List.mem_cons_of_mem _ (List.mem_append_right _ h)) (by decide +kernel))
set_option maxRecDepth 20000 in
theorem gX4_claimants_X0_countClaims : GoodIn wsX4_claimants (wsV RX4 209 RX0 yX0_countClaims wsX0_countClaims) := goodIn_app (goodIn_of _ (by decide +kernel)) ggX4_claimants_X0_countClaims
theorem dX4_claimants_0 : decode cX4_claimants 0 = .ok (.aload_n 0, 1) := by decide +kernel
theorem dX4_claimants_1 : decode cX4_claimants 1 = .ok (.iload_n 1, 1) := by decide +kernel
theorem dX4_claimants_2 : decode cX4_claimants 2 = .ok (.invokevirtual 93, 3) := by decide +kernel
theorem dX4_claimants_5 : decode cX4_claimants 5 = .ok (.aload_n 0, 1) := by decide +kernel
theorem dX4_claimants_6 : decode cX4_claimants 6 = .ok (.getfield 33, 3) := by decide +kernel
theorem dX4_claimants_9 : decode cX4_claimants 9 = .ok (.iload_n 1, 1) := by decide +kernel
theorem dX4_claimants_10 : decode cX4_claimants 10 = .ok (.aload_n 0, 1) := by decide +kernel
theorem dX4_claimants_11 : decode cX4_claimants 11 = .ok (.getfield 44, 3) := by decide +kernel
theorem dX4_claimants_14 : decode cX4_claimants 14 = .ok (.invokevirtual 209, 3) := by decide +kernel
theorem dX4_claimants_17 : decode cX4_claimants 17 = .ok (.ireturn, 1) := by decide +kernel
set_option maxRecDepth 20000 in
theorem ggX4_value_X4_checkLock : GoodIn wsX4_value wsX4_checkLock := goodIn_ca (goodIn_r _ [7, 8, 9] (by decide +kernel) (by decide +kernel)) (goodIn_sub (fun _ h => List.mem_cons_of_mem _ (List.mem_append_right _ h)) (by decide +kernel))
set_option maxRecDepth 20000 in
theorem gX4_value_X4_checkLock : GoodIn wsX4_value (wsV RX4 93 RX4 yX4_checkLock wsX4_checkLock) := goodIn_app (goodIn_of _ (by decide +kernel)) ggX4_value_X4_checkLock
theorem dX4_value_0 : decode cX4_value 0 = .ok (.aload_n 0, 1) := by decide +kernel
theorem dX4_value_1 : decode cX4_value 1 = .ok (.iload_n 1, 1) := by decide +kernel
theorem dX4_value_2 : decode cX4_value 2 = .ok (.invokevirtual 93, 3) := by decide +kernel
theorem dX4_value_5 : decode cX4_value 5 = .ok (.aload_n 0, 1) := by decide +kernel
theorem dX4_value_6 : decode cX4_value 6 = .ok (.getfield 26, 3) := by decide +kernel
theorem dX4_value_9 : decode cX4_value 9 = .ok (.getfield 164, 3) := by decide +kernel
theorem dX4_value_12 : decode cX4_value 12 = .ok (.iload_n 1, 1) := by decide +kernel
theorem dX4_value_13 : decode cX4_value 13 = .ok (.iaload, 1) := by decide +kernel
theorem dX4_value_14 : decode cX4_value 14 = .ok (.ireturn, 1) := by decide +kernel
set_option maxRecDepth 20000 in
theorem ggX4_valueByLog_X4_checkLock : GoodIn wsX4_valueByLog wsX4_checkLock := goodIn_ca (goodIn_r _ [6, 7, 8] (by decide +kernel) (by decide +kernel)) (goodIn_sub (fun _ h => List.mem_cons_of_mem _ (List.mem_append_left _ (List.mem_append_right _ h))) (by decide +kernel))
set_option maxRecDepth 20000 in
theorem gX4_valueByLog_X4_checkLock : GoodIn wsX4_valueByLog (wsV RX4 93 RX4 yX4_checkLock wsX4_checkLock) := goodIn_app (goodIn_of _ (by decide +kernel)) ggX4_valueByLog_X4_checkLock
set_option maxRecDepth 20000 in
theorem ggX4_valueByLog_X2_lastValue : GoodIn wsX4_valueByLog wsX2_lastValue := goodIn_ca (goodIn_r _ [13, 14, 15, 16, 17, 24, 25, 26, 27, 28, 29] (by decide +kernel) (by decide +kernel)) (goodIn_sub (fun _ h => List.mem_cons_of_mem _ (List.mem_append_right _ h)) (by decide +kernel))
set_option maxRecDepth 20000 in
theorem gX4_valueByLog_X2_lastValue : GoodIn wsX4_valueByLog (wsV RX4 212 RX2 yX2_lastValue wsX2_lastValue) := goodIn_app (goodIn_of _ (by decide +kernel)) ggX4_valueByLog_X2_lastValue
theorem dX4_valueByLog_0 : decode cX4_valueByLog 0 = .ok (.aload_n 0, 1) := by decide +kernel
theorem dX4_valueByLog_1 : decode cX4_valueByLog 1 = .ok (.iload_n 1, 1) := by decide +kernel
theorem dX4_valueByLog_2 : decode cX4_valueByLog 2 = .ok (.invokevirtual 93, 3) := by decide +kernel
theorem dX4_valueByLog_5 : decode cX4_valueByLog 5 = .ok (.aload_n 0, 1) := by decide +kernel
theorem dX4_valueByLog_6 : decode cX4_valueByLog 6 = .ok (.getfield 19, 3) := by decide +kernel
theorem dX4_valueByLog_9 : decode cX4_valueByLog 9 = .ok (.iload_n 1, 1) := by decide +kernel
theorem dX4_valueByLog_10 : decode cX4_valueByLog 10 = .ok (.invokevirtual 212, 3) := by decide +kernel
theorem dX4_valueByLog_13 : decode cX4_valueByLog 13 = .ok (.ireturn, 1) := by decide +kernel
set_option maxRecDepth 20000 in
theorem ggX4_kept_X4_checkClient : GoodIn wsX4_kept wsX4_checkClient := goodIn_ca (goodIn_r _ [10, 11, 12, 3, 13, 37, 38, 39, 40, 41, 42, 43, 44, 45, 46, 47, 48, 49, 50, 51] (by decide +kernel) (by decide +kernel)) (goodIn_sub (fun _ h => List.mem_cons_of_mem _ (List.mem_append_left _ (List.mem_append_right _ h))) (by decide +kernel))
set_option maxRecDepth 20000 in
theorem gX4_kept_X4_checkClient : GoodIn wsX4_kept (wsV RX4 107 RX4 yX4_checkClient wsX4_checkClient) := goodIn_app (goodIn_of _ (by decide +kernel)) ggX4_kept_X4_checkClient
set_option maxRecDepth 20000 in
theorem ggX4_kept_X4_checkLock : GoodIn wsX4_kept wsX4_checkLock := goodIn_ca (goodIn_r _ [17, 18, 19] (by decide +kernel) (by decide +kernel)) (goodIn_sub (fun _ h => List.mem_cons_of_mem _ (List.mem_append_right _ h)) (by decide +kernel))
set_option maxRecDepth 20000 in
theorem gX4_kept_X4_checkLock : GoodIn wsX4_kept (wsV RX4 93 RX4 yX4_checkLock wsX4_checkLock) := goodIn_app (goodIn_of _ (by decide +kernel)) ggX4_kept_X4_checkLock
set_option maxRecDepth 20000 in
theorem ggX4_kept_X0_hasValue : GoodIn wsX4_kept wsX0_hasValue := goodIn_ca (goodIn_r _ [24, 25, 26, 27, 28, 29, 23, 30, 31, 32, 33, 34, 35, 43, 44, 45, 46, 47, 48, 49, 50, 51] (by decide +kernel) (by decide +kernel)) (goodIn_sub (fun _ h => List.mem_cons_of_mem _ (List.mem_append_left _ (List.mem_append_left _ (List.mem_append_right _ h)))) (by decide +kernel))
set_option maxRecDepth 20000 in
theorem gX4_kept_X0_hasValue : GoodIn wsX4_kept (wsV RX4 215 RX0 yX0_hasValue wsX0_hasValue) := goodIn_app (goodIn_of _ (by decide +kernel)) ggX4_kept_X0_hasValue
set_option maxRecDepth 20000 in
theorem ggX4_kept_X0_slot : GoodIn wsX4_kept wsX0_slot := goodIn_r _ [30] (by decide +kernel) (by decide +kernel)
set_option maxRecDepth 20000 in
theorem gX4_kept_X0_slot : GoodIn wsX4_kept (va_wsS RX4 223 yX0_slot wsX0_slot) := goodIn_app (goodIn_of _ (by decide +kernel)) ggX4_kept_X0_slot
theorem dX4_kept_0 : decode cX4_kept 0 = .ok (.aload_n 0, 1) := by decide +kernel
theorem dX4_kept_1 : decode cX4_kept 1 = .ok (.iload_n 1, 1) := by decide +kernel
theorem dX4_kept_2 : decode cX4_kept 2 = .ok (.invokevirtual 107, 3) := by decide +kernel
theorem dX4_kept_5 : decode cX4_kept 5 = .ok (.aload_n 0, 1) := by decide +kernel
theorem dX4_kept_6 : decode cX4_kept 6 = .ok (.iload_n 2, 1) := by decide +kernel
theorem dX4_kept_7 : decode cX4_kept 7 = .ok (.invokevirtual 93, 3) := by decide +kernel
theorem dX4_kept_10 : decode cX4_kept 10 = .ok (.aload_n 0, 1) := by decide +kernel
theorem dX4_kept_11 : decode cX4_kept 11 = .ok (.getfield 33, 3) := by decide +kernel
theorem dX4_kept_14 : decode cX4_kept 14 = .ok (.iload_n 1, 1) := by decide +kernel
theorem dX4_kept_15 : decode cX4_kept 15 = .ok (.iload_n 2, 1) := by decide +kernel
theorem dX4_kept_16 : decode cX4_kept 16 = .ok (.aload_n 0, 1) := by decide +kernel
theorem dX4_kept_17 : decode cX4_kept 17 = .ok (.getfield 44, 3) := by decide +kernel
theorem dX4_kept_20 : decode cX4_kept 20 = .ok (.invokevirtual 215, 3) := by decide +kernel
theorem dX4_kept_23 : decode cX4_kept 23 = .ok (.ifCond .ne 13, 3) := by decide +kernel
theorem dX4_kept_26 : decode cX4_kept 26 = .ok (.new 66, 3) := by decide +kernel
theorem dX4_kept_29 : decode cX4_kept 29 = .ok (.dup, 1) := by decide +kernel
theorem dX4_kept_30 : decode cX4_kept 30 = .ok (.ldc 218, 2) := by decide +kernel
theorem dX4_kept_32 : decode cX4_kept 32 = .ok (.invokespecial 70, 3) := by decide +kernel
theorem dX4_kept_35 : decode cX4_kept 35 = .ok (.athrow, 1) := by decide +kernel
theorem dX4_kept_36 : decode cX4_kept 36 = .ok (.aload_n 0, 1) := by decide +kernel
theorem dX4_kept_37 : decode cX4_kept 37 = .ok (.getfield 33, 3) := by decide +kernel
theorem dX4_kept_40 : decode cX4_kept 40 = .ok (.getfield 220, 3) := by decide +kernel
theorem dX4_kept_43 : decode cX4_kept 43 = .ok (.iload_n 1, 1) := by decide +kernel
theorem dX4_kept_44 : decode cX4_kept 44 = .ok (.iload_n 2, 1) := by decide +kernel
theorem dX4_kept_45 : decode cX4_kept 45 = .ok (.invokestatic 223, 3) := by decide +kernel
theorem dX4_kept_48 : decode cX4_kept 48 = .ok (.iaload, 1) := by decide +kernel
theorem dX4_kept_49 : decode cX4_kept 49 = .ok (.ireturn, 1) := by decide +kernel
theorem dX4_entries_0 : decode cX4_entries 0 = .ok (.aload_n 0, 1) := by decide +kernel
theorem dX4_entries_1 : decode cX4_entries 1 = .ok (.getfield 19, 3) := by decide +kernel
theorem dX4_entries_4 : decode cX4_entries 4 = .ok (.getfield 226, 3) := by decide +kernel
theorem dX4_entries_7 : decode cX4_entries 7 = .ok (.ireturn, 1) := by decide +kernel
set_option maxRecDepth 20000 in
theorem ggX4_kindOf_X4_checkEntry : GoodIn wsX4_kindOf wsX4_checkEntry := goodIn_ca (goodIn_r _ [7, 8, 9, 1, 10, 11, 12, 13, 14, 15, 16, 17, 18, 19, 20, 21, 22] (by decide +kernel) (by decide +kernel)) (goodIn_sub (fun _ h => List.mem_cons_of_mem _ (List.mem_append_right _ h)) (by decide +kernel))
set_option maxRecDepth 20000 in
theorem gX4_kindOf_X4_checkEntry : GoodIn wsX4_kindOf (wsV RX4 227 RX4 yX4_checkEntry wsX4_checkEntry) := goodIn_app (goodIn_of _ (by decide +kernel)) ggX4_kindOf_X4_checkEntry
theorem dX4_kindOf_0 : decode cX4_kindOf 0 = .ok (.aload_n 0, 1) := by decide +kernel
theorem dX4_kindOf_1 : decode cX4_kindOf 1 = .ok (.iload_n 1, 1) := by decide +kernel
theorem dX4_kindOf_2 : decode cX4_kindOf 2 = .ok (.invokevirtual 227, 3) := by decide +kernel
theorem dX4_kindOf_5 : decode cX4_kindOf 5 = .ok (.aload_n 0, 1) := by decide +kernel
theorem dX4_kindOf_6 : decode cX4_kindOf 6 = .ok (.getfield 19, 3) := by decide +kernel
theorem dX4_kindOf_9 : decode cX4_kindOf 9 = .ok (.getfield 230, 3) := by decide +kernel
theorem dX4_kindOf_12 : decode cX4_kindOf 12 = .ok (.iload_n 1, 1) := by decide +kernel
theorem dX4_kindOf_13 : decode cX4_kindOf 13 = .ok (.caload, 1) := by decide +kernel
theorem dX4_kindOf_14 : decode cX4_kindOf 14 = .ok (.ireturn, 1) := by decide +kernel
set_option maxRecDepth 20000 in
theorem ggX4_termOfEntry_X4_checkEntry : GoodIn wsX4_termOfEntry wsX4_checkEntry := goodIn_ca (goodIn_r _ [7, 8, 9, 1, 10, 11, 12, 13, 14, 15, 16, 17, 18, 19, 20, 21, 22] (by decide +kernel) (by decide +kernel)) (goodIn_sub (fun _ h => List.mem_cons_of_mem _ (List.mem_append_right _ h)) (by decide +kernel))
set_option maxRecDepth 20000 in
theorem gX4_termOfEntry_X4_checkEntry : GoodIn wsX4_termOfEntry (wsV RX4 227 RX4 yX4_checkEntry wsX4_checkEntry) := goodIn_app (goodIn_of _ (by decide +kernel)) ggX4_termOfEntry_X4_checkEntry
theorem dX4_termOfEntry_0 : decode cX4_termOfEntry 0 = .ok (.aload_n 0, 1) := by decide +kernel
theorem dX4_termOfEntry_1 : decode cX4_termOfEntry 1 = .ok (.iload_n 1, 1) := by decide +kernel
theorem dX4_termOfEntry_2 : decode cX4_termOfEntry 2 = .ok (.invokevirtual 227, 3) := by decide +kernel
theorem dX4_termOfEntry_5 : decode cX4_termOfEntry 5 = .ok (.aload_n 0, 1) := by decide +kernel
theorem dX4_termOfEntry_6 : decode cX4_termOfEntry 6 = .ok (.getfield 19, 3) := by decide +kernel
theorem dX4_termOfEntry_9 : decode cX4_termOfEntry 9 = .ok (.getfield 234, 3) := by decide +kernel
theorem dX4_termOfEntry_12 : decode cX4_termOfEntry 12 = .ok (.iload_n 1, 1) := by decide +kernel
theorem dX4_termOfEntry_13 : decode cX4_termOfEntry 13 = .ok (.iaload, 1) := by decide +kernel
theorem dX4_termOfEntry_14 : decode cX4_termOfEntry 14 = .ok (.ireturn, 1) := by decide +kernel
set_option maxRecDepth 20000 in
theorem ggX4_knownBy_X4_checkEntry : GoodIn wsX4_knownBy wsX4_checkEntry := goodIn_ca (goodIn_r _ [6, 7, 8, 9, 10, 17, 18, 19, 20, 21, 22, 23, 24, 25, 26, 27, 28] (by decide +kernel) (by decide +kernel)) (goodIn_sub (fun _ h => List.mem_cons_of_mem _ (List.mem_append_left _ (List.mem_append_right _ h))) (by decide +kernel))
set_option maxRecDepth 20000 in
theorem gX4_knownBy_X4_checkEntry : GoodIn wsX4_knownBy (wsV RX4 227 RX4 yX4_checkEntry wsX4_checkEntry) := goodIn_app (goodIn_of _ (by decide +kernel)) ggX4_knownBy_X4_checkEntry
set_option maxRecDepth 20000 in
theorem ggX4_knownBy_X3_countKnowing : GoodIn wsX4_knownBy wsX3_countKnowing := goodIn_ca (goodIn_r _ [15, 16, 29, 30, 31, 32, 33] (by decide +kernel) (by decide +kernel)) (goodIn_sub (fun _ h => List.mem_cons_of_mem _ (List.mem_append_right _ h)) (by decide +kernel))
set_option maxRecDepth 20000 in
theorem gX4_knownBy_X3_countKnowing : GoodIn wsX4_knownBy (wsV RX4 235 RX3 yX3_countKnowing wsX3_countKnowing) := goodIn_app (goodIn_of _ (by decide +kernel)) ggX4_knownBy_X3_countKnowing
theorem dX4_knownBy_0 : decode cX4_knownBy 0 = .ok (.aload_n 0, 1) := by decide +kernel
theorem dX4_knownBy_1 : decode cX4_knownBy 1 = .ok (.iload_n 1, 1) := by decide +kernel
theorem dX4_knownBy_2 : decode cX4_knownBy 2 = .ok (.invokevirtual 227, 3) := by decide +kernel
theorem dX4_knownBy_5 : decode cX4_knownBy 5 = .ok (.aload_n 0, 1) := by decide +kernel
theorem dX4_knownBy_6 : decode cX4_knownBy 6 = .ok (.getfield 10, 3) := by decide +kernel
theorem dX4_knownBy_9 : decode cX4_knownBy 9 = .ok (.iload_n 1, 1) := by decide +kernel
theorem dX4_knownBy_10 : decode cX4_knownBy 10 = .ok (.invokevirtual 235, 3) := by decide +kernel
theorem dX4_knownBy_13 : decode cX4_knownBy 13 = .ok (.ireturn, 1) := by decide +kernel
theorem dX4_leased_0 : decode cX4_leased 0 = .ok (.aload_n 0, 1) := by decide +kernel
theorem dX4_leased_1 : decode cX4_leased 1 = .ok (.getfield 238, 3) := by decide +kernel
theorem dX4_leased_4 : decode cX4_leased 4 = .ok (.lreturn, 1) := by decide +kernel
set_option maxRecDepth 20000 in
theorem ggX4_upShare_X3_countUp : GoodIn wsX4_upShare wsX3_countUp := goodIn_ca (goodIn_r _ [7, 8, 15, 16, 17, 18, 19] (by decide +kernel) (by decide +kernel)) (goodIn_sub (fun _ h => List.mem_cons_of_mem _ (List.mem_append_right _ h)) (by decide +kernel))
set_option maxRecDepth 20000 in
theorem gX4_upShare_X3_countUp : GoodIn wsX4_upShare (wsV RX4 242 RX3 yX3_countUp wsX3_countUp) := goodIn_app (goodIn_of _ (by decide +kernel)) ggX4_upShare_X3_countUp
theorem dX4_upShare_0 : decode cX4_upShare 0 = .ok (.aload_n 0, 1) := by decide +kernel
theorem dX4_upShare_1 : decode cX4_upShare 1 = .ok (.getfield 10, 3) := by decide +kernel
theorem dX4_upShare_4 : decode cX4_upShare 4 = .ok (.invokevirtual 242, 3) := by decide +kernel
theorem dX4_upShare_7 : decode cX4_upShare 7 = .ok (.i2f, 1) := by decide +kernel
theorem dX4_upShare_8 : decode cX4_upShare 8 = .ok (.ldc 246, 2) := by decide +kernel
theorem dX4_upShare_10 : decode cX4_upShare 10 = .ok (.fdiv, 1) := by decide +kernel
theorem dX4_upShare_11 : decode cX4_upShare 11 = .ok (.freturn, 1) := by decide +kernel
set_option maxRecDepth 20000 in
theorem ggX4_meanKnown_X3_sumKnown : GoodIn wsX4_meanKnown wsX3_sumKnown := goodIn_ca (goodIn_r _ [10, 11, 24, 25, 26, 27, 28] (by decide +kernel) (by decide +kernel)) (goodIn_sub (fun _ h => List.mem_cons_of_mem _ (List.mem_append_right _ h)) (by decide +kernel))
set_option maxRecDepth 20000 in
theorem gX4_meanKnown_X3_sumKnown : GoodIn wsX4_meanKnown (wsV RX4 252 RX3 yX3_sumKnown wsX3_sumKnown) := goodIn_app (goodIn_of _ (by decide +kernel)) ggX4_meanKnown_X3_sumKnown
theorem dX4_meanKnown_0 : decode cX4_meanKnown 0 = .ok (.aload_n 0, 1) := by decide +kernel
theorem dX4_meanKnown_1 : decode cX4_meanKnown 1 = .ok (.getfield 19, 3) := by decide +kernel
theorem dX4_meanKnown_4 : decode cX4_meanKnown 4 = .ok (.getfield 226, 3) := by decide +kernel
theorem dX4_meanKnown_7 : decode cX4_meanKnown 7 = .ok (.ifCond .ne 13, 3) := by decide +kernel
theorem dX4_meanKnown_10 : decode cX4_meanKnown 10 = .ok (.new 247, 3) := by decide +kernel
theorem dX4_meanKnown_13 : decode cX4_meanKnown 13 = .ok (.dup, 1) := by decide +kernel
theorem dX4_meanKnown_14 : decode cX4_meanKnown 14 = .ok (.ldc 249, 2) := by decide +kernel
theorem dX4_meanKnown_16 : decode cX4_meanKnown 16 = .ok (.invokespecial 251, 3) := by decide +kernel
theorem dX4_meanKnown_19 : decode cX4_meanKnown 19 = .ok (.athrow, 1) := by decide +kernel
theorem dX4_meanKnown_20 : decode cX4_meanKnown 20 = .ok (.aload_n 0, 1) := by decide +kernel
theorem dX4_meanKnown_21 : decode cX4_meanKnown 21 = .ok (.getfield 10, 3) := by decide +kernel
theorem dX4_meanKnown_24 : decode cX4_meanKnown 24 = .ok (.invokevirtual 252, 3) := by decide +kernel
theorem dX4_meanKnown_27 : decode cX4_meanKnown 27 = .ok (.i2d, 1) := by decide +kernel
theorem dX4_meanKnown_28 : decode cX4_meanKnown 28 = .ok (.iconst 5, 1) := by decide +kernel
theorem dX4_meanKnown_29 : decode cX4_meanKnown 29 = .ok (.aload_n 0, 1) := by decide +kernel
theorem dX4_meanKnown_30 : decode cX4_meanKnown 30 = .ok (.getfield 19, 3) := by decide +kernel
theorem dX4_meanKnown_33 : decode cX4_meanKnown 33 = .ok (.getfield 226, 3) := by decide +kernel
theorem dX4_meanKnown_36 : decode cX4_meanKnown 36 = .ok (.imul, 1) := by decide +kernel
theorem dX4_meanKnown_37 : decode cX4_meanKnown 37 = .ok (.i2d, 1) := by decide +kernel
theorem dX4_meanKnown_38 : decode cX4_meanKnown 38 = .ok (.ddiv, 1) := by decide +kernel
theorem dX4_meanKnown_39 : decode cX4_meanKnown 39 = .ok (.dreturn, 1) := by decide +kernel
set_option maxRecDepth 20000 in
theorem ggX4_isOneOrder_X2_isInTermOrder : GoodIn wsX4_isOneOrder wsX2_isInTermOrder := goodIn_ca (goodIn_r _ [6, 7, 8, 89, 90, 91, 92, 93, 94] (by decide +kernel) (by decide +kernel)) (goodIn_sub (fun _ h => List.mem_cons_of_mem _ (List.mem_append_right _ h)) (by decide +kernel))
set_option maxRecDepth 20000 in
theorem gX4_isOneOrder_X2_isInTermOrder : GoodIn wsX4_isOneOrder (wsV RX4 255 RX2 yX2_isInTermOrder wsX2_isInTermOrder) := goodIn_app (goodIn_of _ (by decide +kernel)) ggX4_isOneOrder_X2_isInTermOrder
set_option maxRecDepth 20000 in
theorem ggX4_isOneOrder_X4_isKnownByMost : GoodIn wsX4_isOneOrder wsX4_isKnownByMost := goodIn_ca (goodIn_r _ [13, 1, 14, 15, 16, 17, 18, 19, 20, 21, 83, 84, 85, 86, 87, 88, 89, 90, 91, 92, 93, 94, 95, 96, 97, 98, 99] (by decide +kernel) (by decide +kernel)) (goodIn_sub (fun _ h => List.mem_cons_of_mem _ (List.mem_append_right _ h)) (by decide +kernel))
set_option maxRecDepth 20000 in
theorem gX4_isOneOrder_X4_isKnownByMost : GoodIn wsX4_isOneOrder (wsV RX4 259 RX4 yX4_isKnownByMost wsX4_isKnownByMost) := goodIn_app (goodIn_of _ (by decide +kernel)) ggX4_isOneOrder_X4_isKnownByMost
set_option maxRecDepth 20000 in
theorem ggX4_isOneOrder_X4_agreesWithLog : GoodIn wsX4_isOneOrder wsX4_agreesWithLog := goodIn_ca (goodIn_r _ [25, 26, 27, 28, 1, 29, 30, 31, 32, 33, 34, 35, 36, 37, 38, 39, 5, 40, 7, 41, 42, 43, 44, 45, 46, 47, 48, 49, 50, 51, 52, 53, 54, 55, 56, 83, 84, 85, 86, 87, 88, 100, 101, 102, 103, 104, 105, 89, 90, 91, 92, 93, 94] (by decide +kernel) (by decide +kernel)) (goodIn_sub (fun _ h => List.mem_cons_of_mem _ (List.mem_append_right _ h)) (by decide +kernel))
set_option maxRecDepth 20000 in
theorem gX4_isOneOrder_X4_agreesWithLog : GoodIn wsX4_isOneOrder (wsV RX4 262 RX4 yX4_agreesWithLog wsX4_agreesWithLog) := goodIn_app (goodIn_of _ (by decide +kernel)) ggX4_isOneOrder_X4_agreesWithLog
set_option maxRecDepth 20000 in
theorem ggX4_isOneOrder_X4_isClaimedOnce : GoodIn wsX4_isOneOrder wsX4_isClaimedOnce := goodIn_ca (goodIn_r _ [60, 61, 27, 62, 63, 64, 65, 66, 67, 68, 69, 70, 71, 72, 73, 74, 75, 76, 77, 78, 79, 80, 81, 82, 83, 84, 85, 86, 87, 88, 106, 107, 108, 109, 110, 111, 112, 113, 114] (by decide +kernel) (by decide +kernel)) (goodIn_sub (fun _ h => List.mem_cons_of_mem _ (List.mem_append_right _ h)) (by decide +kernel))
set_option maxRecDepth 20000 in
theorem gX4_isOneOrder_X4_isClaimedOnce : GoodIn wsX4_isOneOrder (wsV RX4 265 RX4 yX4_isClaimedOnce wsX4_isClaimedOnce) := goodIn_app (goodIn_of _ (by decide +kernel)) ggX4_isOneOrder_X4_isClaimedOnce
theorem dX4_isOneOrder_0 : decode cX4_isOneOrder 0 = .ok (.aload_n 0, 1) := by decide +kernel
theorem dX4_isOneOrder_1 : decode cX4_isOneOrder 1 = .ok (.getfield 19, 3) := by decide +kernel
theorem dX4_isOneOrder_4 : decode cX4_isOneOrder 4 = .ok (.invokevirtual 255, 3) := by decide +kernel
theorem dX4_isOneOrder_7 : decode cX4_isOneOrder 7 = .ok (.ifCond .eq 28, 3) := by decide +kernel
theorem dX4_isOneOrder_10 : decode cX4_isOneOrder 10 = .ok (.aload_n 0, 1) := by decide +kernel
theorem dX4_isOneOrder_11 : decode cX4_isOneOrder 11 = .ok (.invokevirtual 259, 3) := by decide +kernel
theorem dX4_isOneOrder_14 : decode cX4_isOneOrder 14 = .ok (.ifCond .eq 21, 3) := by decide +kernel
theorem dX4_isOneOrder_17 : decode cX4_isOneOrder 17 = .ok (.aload_n 0, 1) := by decide +kernel
theorem dX4_isOneOrder_18 : decode cX4_isOneOrder 18 = .ok (.invokevirtual 262, 3) := by decide +kernel
theorem dX4_isOneOrder_21 : decode cX4_isOneOrder 21 = .ok (.ifCond .eq 14, 3) := by decide +kernel
theorem dX4_isOneOrder_24 : decode cX4_isOneOrder 24 = .ok (.aload_n 0, 1) := by decide +kernel
theorem dX4_isOneOrder_25 : decode cX4_isOneOrder 25 = .ok (.invokevirtual 265, 3) := by decide +kernel
theorem dX4_isOneOrder_28 : decode cX4_isOneOrder 28 = .ok (.ifCond .eq 7, 3) := by decide +kernel
theorem dX4_isOneOrder_31 : decode cX4_isOneOrder 31 = .ok (.iconst 1, 1) := by decide +kernel
theorem dX4_isOneOrder_32 : decode cX4_isOneOrder 32 = .ok (.goto 4, 3) := by decide +kernel
theorem dX4_isOneOrder_35 : decode cX4_isOneOrder 35 = .ok (.iconst 0, 1) := by decide +kernel
theorem dX4_isOneOrder_36 : decode cX4_isOneOrder 36 = .ok (.ireturn, 1) := by decide +kernel
theorem dX4_checkMember_0 : decode cX4_checkMember 0 = .ok (.iload_n 1, 1) := by decide +kernel
theorem dX4_checkMember_1 : decode cX4_checkMember 1 = .ok (.ifCond .lt 8, 3) := by decide +kernel
theorem dX4_checkMember_4 : decode cX4_checkMember 4 = .ok (.iload_n 1, 1) := by decide +kernel
theorem dX4_checkMember_5 : decode cX4_checkMember 5 = .ok (.iconst 5, 1) := by decide +kernel
theorem dX4_checkMember_6 : decode cX4_checkMember 6 = .ok (.if_icmp .lt 14, 3) := by decide +kernel
theorem dX4_checkMember_9 : decode cX4_checkMember 9 = .ok (.new 268, 3) := by decide +kernel
theorem dX4_checkMember_12 : decode cX4_checkMember 12 = .ok (.dup, 1) := by decide +kernel
theorem dX4_checkMember_13 : decode cX4_checkMember 13 = .ok (.ldc_w 270, 3) := by decide +kernel
theorem dX4_checkMember_16 : decode cX4_checkMember 16 = .ok (.invokespecial 272, 3) := by decide +kernel
theorem dX4_checkMember_19 : decode cX4_checkMember 19 = .ok (.athrow, 1) := by decide +kernel
theorem dX4_checkMember_20 : decode cX4_checkMember 20 = .ok (.return_, 1) := by decide +kernel
theorem dX4_checkLock_0 : decode cX4_checkLock 0 = .ok (.iload_n 1, 1) := by decide +kernel
theorem dX4_checkLock_1 : decode cX4_checkLock 1 = .ok (.ifCond .lt 8, 3) := by decide +kernel
theorem dX4_checkLock_4 : decode cX4_checkLock 4 = .ok (.iload_n 1, 1) := by decide +kernel
theorem dX4_checkLock_5 : decode cX4_checkLock 5 = .ok (.iconst 4, 1) := by decide +kernel
theorem dX4_checkLock_6 : decode cX4_checkLock 6 = .ok (.if_icmp .lt 14, 3) := by decide +kernel
theorem dX4_checkLock_9 : decode cX4_checkLock 9 = .ok (.new 268, 3) := by decide +kernel
theorem dX4_checkLock_12 : decode cX4_checkLock 12 = .ok (.dup, 1) := by decide +kernel
theorem dX4_checkLock_13 : decode cX4_checkLock 13 = .ok (.ldc_w 273, 3) := by decide +kernel
theorem dX4_checkLock_16 : decode cX4_checkLock 16 = .ok (.invokespecial 272, 3) := by decide +kernel
theorem dX4_checkLock_19 : decode cX4_checkLock 19 = .ok (.athrow, 1) := by decide +kernel
theorem dX4_checkLock_20 : decode cX4_checkLock 20 = .ok (.return_, 1) := by decide +kernel
theorem dX4_checkClient_0 : decode cX4_checkClient 0 = .ok (.iload_n 1, 1) := by decide +kernel
theorem dX4_checkClient_1 : decode cX4_checkClient 1 = .ok (.ifCond .lt 14, 3) := by decide +kernel
theorem dX4_checkClient_4 : decode cX4_checkClient 4 = .ok (.iload_n 1, 1) := by decide +kernel
theorem dX4_checkClient_5 : decode cX4_checkClient 5 = .ok (.aload_n 0, 1) := by decide +kernel
theorem dX4_checkClient_6 : decode cX4_checkClient 6 = .ok (.getfield 33, 3) := by decide +kernel
theorem dX4_checkClient_9 : decode cX4_checkClient 9 = .ok (.getfield 102, 3) := by decide +kernel
theorem dX4_checkClient_12 : decode cX4_checkClient 12 = .ok (.if_icmp .lt 14, 3) := by decide +kernel
theorem dX4_checkClient_15 : decode cX4_checkClient 15 = .ok (.new 85, 3) := by decide +kernel
theorem dX4_checkClient_18 : decode cX4_checkClient 18 = .ok (.dup, 1) := by decide +kernel
theorem dX4_checkClient_19 : decode cX4_checkClient 19 = .ok (.ldc_w 275, 3) := by decide +kernel
theorem dX4_checkClient_22 : decode cX4_checkClient 22 = .ok (.invokespecial 89, 3) := by decide +kernel
theorem dX4_checkClient_25 : decode cX4_checkClient 25 = .ok (.athrow, 1) := by decide +kernel
theorem dX4_checkClient_26 : decode cX4_checkClient 26 = .ok (.return_, 1) := by decide +kernel
theorem dX4_checkEntry_0 : decode cX4_checkEntry 0 = .ok (.iload_n 1, 1) := by decide +kernel
theorem dX4_checkEntry_1 : decode cX4_checkEntry 1 = .ok (.ifCond .lt 14, 3) := by decide +kernel
theorem dX4_checkEntry_4 : decode cX4_checkEntry 4 = .ok (.iload_n 1, 1) := by decide +kernel
theorem dX4_checkEntry_5 : decode cX4_checkEntry 5 = .ok (.aload_n 0, 1) := by decide +kernel
theorem dX4_checkEntry_6 : decode cX4_checkEntry 6 = .ok (.getfield 19, 3) := by decide +kernel
theorem dX4_checkEntry_9 : decode cX4_checkEntry 9 = .ok (.getfield 226, 3) := by decide +kernel
theorem dX4_checkEntry_12 : decode cX4_checkEntry 12 = .ok (.if_icmp .lt 14, 3) := by decide +kernel
theorem dX4_checkEntry_15 : decode cX4_checkEntry 15 = .ok (.new 85, 3) := by decide +kernel
theorem dX4_checkEntry_18 : decode cX4_checkEntry 18 = .ok (.dup, 1) := by decide +kernel
theorem dX4_checkEntry_19 : decode cX4_checkEntry 19 = .ok (.ldc_w 277, 3) := by decide +kernel
theorem dX4_checkEntry_22 : decode cX4_checkEntry 22 = .ok (.invokespecial 89, 3) := by decide +kernel
theorem dX4_checkEntry_25 : decode cX4_checkEntry 25 = .ok (.athrow, 1) := by decide +kernel
theorem dX4_checkEntry_26 : decode cX4_checkEntry 26 = .ok (.return_, 1) := by decide +kernel
set_option maxRecDepth 20000 in
theorem ggX4_checkNotFree_X1_isFree : GoodIn wsX4_checkNotFree wsX1_isFree := goodIn_ca (goodIn_r _ [9, 10, 11, 18, 19, 20, 21, 22, 23] (by decide +kernel) (by decide +kernel)) (goodIn_sub (fun _ h => List.mem_cons_of_mem _ (List.mem_append_right _ h)) (by decide +kernel))
set_option maxRecDepth 20000 in
theorem gX4_checkNotFree_X1_isFree : GoodIn wsX4_checkNotFree (wsV RX4 279 RX1 yX1_isFree wsX1_isFree) := goodIn_app (goodIn_of _ (by decide +kernel)) ggX4_checkNotFree_X1_isFree
theorem dX4_checkNotFree_0 : decode cX4_checkNotFree 0 = .ok (.aload_n 0, 1) := by decide +kernel
theorem dX4_checkNotFree_1 : decode cX4_checkNotFree 1 = .ok (.getfield 26, 3) := by decide +kernel
theorem dX4_checkNotFree_4 : decode cX4_checkNotFree 4 = .ok (.iload_n 1, 1) := by decide +kernel
theorem dX4_checkNotFree_5 : decode cX4_checkNotFree 5 = .ok (.aload_n 0, 1) := by decide +kernel
theorem dX4_checkNotFree_6 : decode cX4_checkNotFree 6 = .ok (.getfield 44, 3) := by decide +kernel
theorem dX4_checkNotFree_9 : decode cX4_checkNotFree 9 = .ok (.invokevirtual 279, 3) := by decide +kernel
theorem dX4_checkNotFree_12 : decode cX4_checkNotFree 12 = .ok (.ifCond .eq 13, 3) := by decide +kernel
theorem dX4_checkNotFree_15 : decode cX4_checkNotFree 15 = .ok (.new 85, 3) := by decide +kernel
theorem dX4_checkNotFree_18 : decode cX4_checkNotFree 18 = .ok (.dup, 1) := by decide +kernel
theorem dX4_checkNotFree_19 : decode cX4_checkNotFree 19 = .ok (.ldc 196, 2) := by decide +kernel
theorem dX4_checkNotFree_21 : decode cX4_checkNotFree 21 = .ok (.invokespecial 89, 3) := by decide +kernel
theorem dX4_checkNotFree_24 : decode cX4_checkNotFree 24 = .ok (.athrow, 1) := by decide +kernel
theorem dX4_checkNotFree_25 : decode cX4_checkNotFree 25 = .ok (.return_, 1) := by decide +kernel
set_option maxRecDepth 20000 in
theorem ggX4_checkNumbers_X4_checkClient : GoodIn wsX4_checkNumbers wsX4_checkClient := goodIn_ca (goodIn_r _ [5, 6, 7, 8, 9, 20, 21, 22, 23, 24, 25, 26, 27, 28, 29, 30, 31, 32, 33, 34] (by decide +kernel) (by decide +kernel)) (goodIn_sub (fun _ h => List.mem_cons_of_mem _ (List.mem_append_left _ (List.mem_append_right _ h))) (by decide +kernel))
set_option maxRecDepth 20000 in
theorem gX4_checkNumbers_X4_checkClient : GoodIn wsX4_checkNumbers (wsV RX4 107 RX4 yX4_checkClient wsX4_checkClient) := goodIn_app (goodIn_of _ (by decide +kernel)) ggX4_checkNumbers_X4_checkClient
set_option maxRecDepth 20000 in
theorem ggX4_checkNumbers_X4_checkLock : GoodIn wsX4_checkNumbers wsX4_checkLock := goodIn_ca (goodIn_r _ [13, 14, 15] (by decide +kernel) (by decide +kernel)) (goodIn_sub (fun _ h => List.mem_cons_of_mem _ (List.mem_append_right _ h)) (by decide +kernel))
set_option maxRecDepth 20000 in
theorem gX4_checkNumbers_X4_checkLock : GoodIn wsX4_checkNumbers (wsV RX4 93 RX4 yX4_checkLock wsX4_checkLock) := goodIn_app (goodIn_of _ (by decide +kernel)) ggX4_checkNumbers_X4_checkLock
set_option maxRecDepth 20000 in
theorem ggX4_checkNumbers_X4_checkMember : GoodIn wsX4_checkNumbers wsX4_checkMember := goodIn_ca (goodIn_r _ [19, 14, 15] (by decide +kernel) (by decide +kernel)) (goodIn_sub (fun _ h => List.mem_cons_of_mem _ (List.mem_append_right _ h)) (by decide +kernel))
set_option maxRecDepth 20000 in
theorem gX4_checkNumbers_X4_checkMember : GoodIn wsX4_checkNumbers (wsV RX4 48 RX4 yX4_checkMember wsX4_checkMember) := goodIn_app (goodIn_of _ (by decide +kernel)) ggX4_checkNumbers_X4_checkMember
theorem dX4_checkNumbers_0 : decode cX4_checkNumbers 0 = .ok (.aload_n 0, 1) := by decide +kernel
theorem dX4_checkNumbers_1 : decode cX4_checkNumbers 1 = .ok (.iload_n 1, 1) := by decide +kernel
theorem dX4_checkNumbers_2 : decode cX4_checkNumbers 2 = .ok (.invokevirtual 107, 3) := by decide +kernel
theorem dX4_checkNumbers_5 : decode cX4_checkNumbers 5 = .ok (.aload_n 0, 1) := by decide +kernel
theorem dX4_checkNumbers_6 : decode cX4_checkNumbers 6 = .ok (.iload_n 2, 1) := by decide +kernel
theorem dX4_checkNumbers_7 : decode cX4_checkNumbers 7 = .ok (.invokevirtual 93, 3) := by decide +kernel
theorem dX4_checkNumbers_10 : decode cX4_checkNumbers 10 = .ok (.aload_n 0, 1) := by decide +kernel
theorem dX4_checkNumbers_11 : decode cX4_checkNumbers 11 = .ok (.iload_n 3, 1) := by decide +kernel
theorem dX4_checkNumbers_12 : decode cX4_checkNumbers 12 = .ok (.invokevirtual 48, 3) := by decide +kernel
theorem dX4_checkNumbers_15 : decode cX4_checkNumbers 15 = .ok (.return_, 1) := by decide +kernel
set_option maxRecDepth 20000 in
theorem ggX4_checkCanAsk_X3_leads : GoodIn wsX4_checkCanAsk wsX3_leads := goodIn_ca (goodIn_r _ [13, 14, 15, 16, 17, 12, 18, 19, 35, 36, 37, 38, 39] (by decide +kernel) (by decide +kernel)) (goodIn_sub (fun _ h => List.mem_cons_of_mem _ (List.mem_append_left _ (List.mem_append_right _ h))) (by decide +kernel))
set_option maxRecDepth 20000 in
theorem gX4_checkCanAsk_X3_leads : GoodIn wsX4_checkCanAsk (wsV RX4 78 RX3 yX3_leads wsX3_leads) := goodIn_app (goodIn_of _ (by decide +kernel)) ggX4_checkCanAsk_X3_leads
theorem dX4_checkCanAsk_0 : decode cX4_checkCanAsk 0 = .ok (.aload_n 0, 1) := by decide +kernel
theorem dX4_checkCanAsk_1 : decode cX4_checkCanAsk 1 = .ok (.getfield 33, 3) := by decide +kernel
theorem dX4_checkCanAsk_4 : decode cX4_checkCanAsk 4 = .ok (.getfield 115, 3) := by decide +kernel
theorem dX4_checkCanAsk_7 : decode cX4_checkCanAsk 7 = .ok (.iload_n 1, 1) := by decide +kernel
theorem dX4_checkCanAsk_8 : decode cX4_checkCanAsk 8 = .ok (.baload, 1) := by decide +kernel
theorem dX4_checkCanAsk_9 : decode cX4_checkCanAsk 9 = .ok (.ifCond .eq 14, 3) := by decide +kernel
theorem dX4_checkCanAsk_12 : decode cX4_checkCanAsk 12 = .ok (.new 66, 3) := by decide +kernel
theorem dX4_checkCanAsk_15 : decode cX4_checkCanAsk 15 = .ok (.dup, 1) := by decide +kernel
theorem dX4_checkCanAsk_16 : decode cX4_checkCanAsk 16 = .ok (.ldc_w 282, 3) := by decide +kernel
theorem dX4_checkCanAsk_19 : decode cX4_checkCanAsk 19 = .ok (.invokespecial 70, 3) := by decide +kernel
theorem dX4_checkCanAsk_22 : decode cX4_checkCanAsk 22 = .ok (.athrow, 1) := by decide +kernel
theorem dX4_checkCanAsk_23 : decode cX4_checkCanAsk 23 = .ok (.aload_n 0, 1) := by decide +kernel
theorem dX4_checkCanAsk_24 : decode cX4_checkCanAsk 24 = .ok (.getfield 10, 3) := by decide +kernel
theorem dX4_checkCanAsk_27 : decode cX4_checkCanAsk 27 = .ok (.getfield 52, 3) := by decide +kernel
theorem dX4_checkCanAsk_30 : decode cX4_checkCanAsk 30 = .ok (.iload_n 2, 1) := by decide +kernel
theorem dX4_checkCanAsk_31 : decode cX4_checkCanAsk 31 = .ok (.baload, 1) := by decide +kernel
theorem dX4_checkCanAsk_32 : decode cX4_checkCanAsk 32 = .ok (.ifCond .ne 14, 3) := by decide +kernel
theorem dX4_checkCanAsk_35 : decode cX4_checkCanAsk 35 = .ok (.aload_n 0, 1) := by decide +kernel
theorem dX4_checkCanAsk_36 : decode cX4_checkCanAsk 36 = .ok (.getfield 10, 3) := by decide +kernel
theorem dX4_checkCanAsk_39 : decode cX4_checkCanAsk 39 = .ok (.iload_n 2, 1) := by decide +kernel
theorem dX4_checkCanAsk_40 : decode cX4_checkCanAsk 40 = .ok (.invokevirtual 78, 3) := by decide +kernel
theorem dX4_checkCanAsk_43 : decode cX4_checkCanAsk 43 = .ok (.ifCond .ne 14, 3) := by decide +kernel
theorem dX4_checkCanAsk_46 : decode cX4_checkCanAsk 46 = .ok (.new 66, 3) := by decide +kernel
theorem dX4_checkCanAsk_49 : decode cX4_checkCanAsk 49 = .ok (.dup, 1) := by decide +kernel
theorem dX4_checkCanAsk_50 : decode cX4_checkCanAsk 50 = .ok (.ldc_w 284, 3) := by decide +kernel
theorem dX4_checkCanAsk_53 : decode cX4_checkCanAsk 53 = .ok (.invokespecial 70, 3) := by decide +kernel
theorem dX4_checkCanAsk_56 : decode cX4_checkCanAsk 56 = .ok (.athrow, 1) := by decide +kernel
theorem dX4_checkCanAsk_57 : decode cX4_checkCanAsk 57 = .ok (.aload_n 0, 1) := by decide +kernel
theorem dX4_checkCanAsk_58 : decode cX4_checkCanAsk 58 = .ok (.getfield 19, 3) := by decide +kernel
theorem dX4_checkCanAsk_61 : decode cX4_checkCanAsk 61 = .ok (.getfield 226, 3) := by decide +kernel
theorem dX4_checkCanAsk_64 : decode cX4_checkCanAsk 64 = .ok (.sipush 250, 3) := by decide +kernel
theorem dX4_checkCanAsk_67 : decode cX4_checkCanAsk 67 = .ok (.if_icmp .lt 14, 3) := by decide +kernel
theorem dX4_checkCanAsk_70 : decode cX4_checkCanAsk 70 = .ok (.new 66, 3) := by decide +kernel
theorem dX4_checkCanAsk_73 : decode cX4_checkCanAsk 73 = .ok (.dup, 1) := by decide +kernel
theorem dX4_checkCanAsk_74 : decode cX4_checkCanAsk 74 = .ok (.ldc_w 286, 3) := by decide +kernel
theorem dX4_checkCanAsk_77 : decode cX4_checkCanAsk 77 = .ok (.invokespecial 70, 3) := by decide +kernel
theorem dX4_checkCanAsk_80 : decode cX4_checkCanAsk 80 = .ok (.athrow, 1) := by decide +kernel
theorem dX4_checkCanAsk_81 : decode cX4_checkCanAsk 81 = .ok (.return_, 1) := by decide +kernel
set_option maxRecDepth 20000 in
theorem ggX4_obtain_X4_checkNumbers : GoodIn wsX4_obtain wsX4_checkNumbers := goodIn_ca (goodIn_ca (goodIn_r _ [9, 10, 11, 12, 8, 13, 14, 15, 16, 17, 18, 19, 20, 21, 22, 23, 24, 25, 26, 27, 146, 147, 148, 149, 150, 151, 158, 159, 160, 161, 162, 163, 164, 165, 166] (by decide +kernel) (by decide +kernel)) (goodIn_sub (fun _ h => List.mem_cons_of_mem _ (List.mem_append_left _ (List.mem_append_left _ (List.mem_append_right _ h)))) (by decide +kernel))) (goodIn_sub (fun _ h => List.mem_cons_of_mem _ (List.mem_append_left _ (List.mem_append_right _ h))) (by decide +kernel))
set_option maxRecDepth 20000 in
theorem gX4_obtain_X4_checkNumbers : GoodIn wsX4_obtain (wsV RX4 154 RX4 yX4_checkNumbers wsX4_checkNumbers) := goodIn_app (goodIn_of _ (by decide +kernel)) ggX4_obtain_X4_checkNumbers
set_option maxRecDepth 20000 in
theorem ggX4_obtain_X4_checkCanAsk : GoodIn wsX4_obtain wsX4_checkCanAsk := goodIn_ca (goodIn_ca (goodIn_r _ [31, 32, 33, 16, 34, 1, 35, 36, 37, 38, 39, 40, 41, 42, 43, 44, 45, 46, 47, 48, 146, 147, 148, 149, 150, 151, 158, 159, 160, 161, 162, 163, 164, 165, 166, 167, 168, 169, 170, 171, 172, 173, 174, 175, 176, 177] (by decide +kernel) (by decide +kernel)) (goodIn_sub (fun _ h => List.mem_cons_of_mem _ (List.mem_append_left _ (List.mem_append_left _ (List.mem_append_left _ (List.mem_append_right _ h))))) (by decide +kernel))) (goodIn_sub (fun _ h => List.mem_cons_of_mem _ (List.mem_append_right _ h)) (by decide +kernel))
set_option maxRecDepth 20000 in
theorem gX4_obtain_X4_checkCanAsk : GoodIn wsX4_obtain (wsV RX4 157 RX4 yX4_checkCanAsk wsX4_checkCanAsk) := goodIn_app (goodIn_of _ (by decide +kernel)) ggX4_obtain_X4_checkCanAsk
set_option maxRecDepth 20000 in
theorem ggX4_obtain_X3_consult : GoodIn wsX4_obtain wsX3_consult := goodIn_ca (goodIn_r _ [52, 43, 53, 54, 55, 41, 56, 57, 58, 59, 60, 61, 62, 63, 64, 65, 66, 167, 168, 169, 170, 171] (by decide +kernel) (by decide +kernel)) (goodIn_sub (fun _ h => List.mem_cons_of_mem _ (List.mem_append_left _ (List.mem_append_left _ (List.mem_append_left _ (List.mem_append_right _ h))))) (by decide +kernel))
set_option maxRecDepth 20000 in
theorem gX4_obtain_X3_consult : GoodIn wsX4_obtain (wsV RX4 160 RX3 yX3_consult wsX3_consult) := goodIn_app (goodIn_of _ (by decide +kernel)) ggX4_obtain_X3_consult
set_option maxRecDepth 20000 in
theorem ggX4_obtain_X1_isHeldBy : GoodIn wsX4_obtain wsX1_isHeldBy := goodIn_ca (goodIn_r _ [71, 72, 73, 74, 75, 70, 76, 77, 152, 153, 154, 155, 156, 157] (by decide +kernel) (by decide +kernel)) (goodIn_sub (fun _ h => List.mem_cons_of_mem _ (List.mem_append_left _ (List.mem_append_left _ (List.mem_append_left _ (List.mem_append_right _ h))))) (by decide +kernel))
set_option maxRecDepth 20000 in
theorem gX4_obtain_X1_isHeldBy : GoodIn wsX4_obtain (wsV RX4 177 RX1 yX1_isHeldBy wsX1_isHeldBy) := goodIn_app (goodIn_of _ (by decide +kernel)) ggX4_obtain_X1_isHeldBy
set_option maxRecDepth 20000 in
theorem ggX4_obtain_X1_isFree : GoodIn wsX4_obtain wsX1_isFree := goodIn_ca (goodIn_r _ [76, 72, 77, 152, 153, 154, 155, 156, 157] (by decide +kernel) (by decide +kernel)) (goodIn_sub (fun _ h => List.mem_cons_of_mem _ (List.mem_append_left _ (List.mem_append_left _ (List.mem_append_left _ (List.mem_append_right _ h))))) (by decide +kernel))
set_option maxRecDepth 20000 in
theorem gX4_obtain_X1_isFree : GoodIn wsX4_obtain (wsV RX4 279 RX1 yX1_isFree wsX1_isFree) := goodIn_app (goodIn_of _ (by decide +kernel)) ggX4_obtain_X1_isFree
set_option maxRecDepth 20000 in
theorem ggX4_obtain_X1_isNext : GoodIn wsX4_obtain wsX1_isNext := goodIn_ca (goodIn_r _ [82, 83, 84, 152, 153, 154, 155, 156, 157] (by decide +kernel) (by decide +kernel)) (goodIn_sub (fun _ h => List.mem_cons_of_mem _ (List.mem_append_left _ (List.mem_append_left _ (List.mem_append_left _ (List.mem_append_right _ h))))) (by decide +kernel))
set_option maxRecDepth 20000 in
theorem gX4_obtain_X1_isNext : GoodIn wsX4_obtain (wsV RX4 288 RX1 yX1_isNext wsX1_isNext) := goodIn_app (goodIn_of _ (by decide +kernel)) ggX4_obtain_X1_isNext
set_option maxRecDepth 20000 in
theorem ggX4_obtain_X4_startLease : GoodIn wsX4_obtain wsX4_startLease := goodIn_ca (goodIn_r _ [88, 2, 4, 89, 90, 3, 91, 92, 16, 93, 94, 95, 70, 96, 84, 83, 97, 98, 99, 100, 101, 102, 103, 104, 105, 106, 107, 108, 109, 110, 111, 112, 113, 114, 115, 116, 117, 118, 8, 119, 36, 1, 120, 37, 121, 122, 123, 124, 125, 126, 127, 128, 129, 130, 131, 132, 133, 134, 41, 135, 136, 57, 58, 59, 60, 61, 62, 146, 147, 148, 149, 150, 151, 152, 153, 154, 155, 156, 157, 158, 159, 160, 161, 162, 163, 164, 165, 166, 167, 168, 169, 170, 171, 172, 173, 174, 175, 176, 177] (by decide +kernel) (by decide +kernel)) (goodIn_sub (fun _ h => List.mem_cons_of_mem _ (List.mem_append_left _ (List.mem_append_left _ (List.mem_append_left _ (List.mem_append_right _ h))))) (by decide +kernel))
set_option maxRecDepth 20000 in
theorem gX4_obtain_X4_startLease : GoodIn wsX4_obtain (wsV RX4 291 RX4 yX4_startLease wsX4_startLease) := goodIn_app (goodIn_of _ (by decide +kernel)) ggX4_obtain_X4_startLease
set_option maxRecDepth 20000 in
theorem ggX4_obtain_X1_putFirst : GoodIn wsX4_obtain wsX1_putFirst := goodIn_ca (goodIn_r _ [140, 84, 83, 141, 94, 95, 70, 96, 97, 98, 99, 100, 152, 153, 154, 155, 156, 157] (by decide +kernel) (by decide +kernel)) (goodIn_sub (fun _ h => List.mem_cons_of_mem _ (List.mem_append_left _ (List.mem_append_left _ (List.mem_append_left _ (List.mem_append_right _ h))))) (by decide +kernel))
set_option maxRecDepth 20000 in
theorem gX4_obtain_X1_putFirst : GoodIn wsX4_obtain (wsV RX4 294 RX1 yX1_putFirst wsX1_putFirst) := goodIn_app (goodIn_of _ (by decide +kernel)) ggX4_obtain_X1_putFirst
set_option maxRecDepth 20000 in
theorem ggX4_obtain_X1_putLast : GoodIn wsX4_obtain wsX1_putLast := goodIn_ca (goodIn_r _ [145, 83, 84, 97, 98, 99, 70, 100, 152, 153, 154, 155, 156, 157] (by decide +kernel) (by decide +kernel)) (goodIn_sub (fun _ h => List.mem_cons_of_mem _ (List.mem_append_left _ (List.mem_append_left _ (List.mem_append_left _ (List.mem_append_right _ h))))) (by decide +kernel))
set_option maxRecDepth 20000 in
theorem gX4_obtain_X1_putLast : GoodIn wsX4_obtain (wsV RX4 297 RX1 yX1_putLast wsX1_putLast) := goodIn_app (goodIn_of _ (by decide +kernel)) ggX4_obtain_X1_putLast
theorem dX4_obtain_0 : decode cX4_obtain 0 = .ok (.aload_n 0, 1) := by decide +kernel
theorem dX4_obtain_1 : decode cX4_obtain 1 = .ok (.iload_n 1, 1) := by decide +kernel
theorem dX4_obtain_2 : decode cX4_obtain 2 = .ok (.iload_n 2, 1) := by decide +kernel
theorem dX4_obtain_3 : decode cX4_obtain 3 = .ok (.iload_n 3, 1) := by decide +kernel
theorem dX4_obtain_4 : decode cX4_obtain 4 = .ok (.invokevirtual 154, 3) := by decide +kernel
theorem dX4_obtain_7 : decode cX4_obtain 7 = .ok (.aload_n 0, 1) := by decide +kernel
theorem dX4_obtain_8 : decode cX4_obtain 8 = .ok (.iload_n 1, 1) := by decide +kernel
theorem dX4_obtain_9 : decode cX4_obtain 9 = .ok (.iload_n 3, 1) := by decide +kernel
theorem dX4_obtain_10 : decode cX4_obtain 10 = .ok (.invokevirtual 157, 3) := by decide +kernel
theorem dX4_obtain_13 : decode cX4_obtain 13 = .ok (.aload_n 0, 1) := by decide +kernel
theorem dX4_obtain_14 : decode cX4_obtain 14 = .ok (.getfield 10, 3) := by decide +kernel
theorem dX4_obtain_17 : decode cX4_obtain 17 = .ok (.iload_n 3, 1) := by decide +kernel
theorem dX4_obtain_18 : decode cX4_obtain 18 = .ok (.invokevirtual 160, 3) := by decide +kernel
theorem dX4_obtain_21 : decode cX4_obtain 21 = .ok (.istore 5, 2) := by decide +kernel
theorem dX4_obtain_23 : decode cX4_obtain 23 = .ok (.iload 5, 2) := by decide +kernel
theorem dX4_obtain_25 : decode cX4_obtain 25 = .ok (.bipush 103, 2) := by decide +kernel
theorem dX4_obtain_27 : decode cX4_obtain 27 = .ok (.if_icmp .eq 6, 3) := by decide +kernel
theorem dX4_obtain_30 : decode cX4_obtain 30 = .ok (.iload 5, 2) := by decide +kernel
theorem dX4_obtain_32 : decode cX4_obtain 32 = .ok (.ireturn, 1) := by decide +kernel
theorem dX4_obtain_33 : decode cX4_obtain 33 = .ok (.aload_n 0, 1) := by decide +kernel
theorem dX4_obtain_34 : decode cX4_obtain 34 = .ok (.getfield 26, 3) := by decide +kernel
theorem dX4_obtain_37 : decode cX4_obtain 37 = .ok (.iload_n 2, 1) := by decide +kernel
theorem dX4_obtain_38 : decode cX4_obtain 38 = .ok (.iload_n 1, 1) := by decide +kernel
theorem dX4_obtain_39 : decode cX4_obtain 39 = .ok (.aload_n 0, 1) := by decide +kernel
theorem dX4_obtain_40 : decode cX4_obtain 40 = .ok (.getfield 44, 3) := by decide +kernel
theorem dX4_obtain_43 : decode cX4_obtain 43 = .ok (.invokevirtual 177, 3) := by decide +kernel
theorem dX4_obtain_46 : decode cX4_obtain 46 = .ok (.ifCond .eq 6, 3) := by decide +kernel
theorem dX4_obtain_49 : decode cX4_obtain 49 = .ok (.bipush 104, 2) := by decide +kernel
theorem dX4_obtain_51 : decode cX4_obtain 51 = .ok (.ireturn, 1) := by decide +kernel
theorem dX4_obtain_52 : decode cX4_obtain 52 = .ok (.aload_n 0, 1) := by decide +kernel
theorem dX4_obtain_53 : decode cX4_obtain 53 = .ok (.getfield 26, 3) := by decide +kernel
theorem dX4_obtain_56 : decode cX4_obtain 56 = .ok (.iload_n 2, 1) := by decide +kernel
theorem dX4_obtain_57 : decode cX4_obtain 57 = .ok (.aload_n 0, 1) := by decide +kernel
theorem dX4_obtain_58 : decode cX4_obtain 58 = .ok (.getfield 44, 3) := by decide +kernel
theorem dX4_obtain_61 : decode cX4_obtain 61 = .ok (.invokevirtual 279, 3) := by decide +kernel
theorem dX4_obtain_64 : decode cX4_obtain 64 = .ok (.ifCond .eq 25, 3) := by decide +kernel
theorem dX4_obtain_67 : decode cX4_obtain 67 = .ok (.aload_n 0, 1) := by decide +kernel
theorem dX4_obtain_68 : decode cX4_obtain 68 = .ok (.getfield 26, 3) := by decide +kernel
theorem dX4_obtain_71 : decode cX4_obtain 71 = .ok (.iload_n 2, 1) := by decide +kernel
theorem dX4_obtain_72 : decode cX4_obtain 72 = .ok (.iload_n 1, 1) := by decide +kernel
theorem dX4_obtain_73 : decode cX4_obtain 73 = .ok (.invokevirtual 288, 3) := by decide +kernel
theorem dX4_obtain_76 : decode cX4_obtain 76 = .ok (.ifCond .eq 13, 3) := by decide +kernel
theorem dX4_obtain_79 : decode cX4_obtain 79 = .ok (.aload_n 0, 1) := by decide +kernel
theorem dX4_obtain_80 : decode cX4_obtain 80 = .ok (.iload_n 1, 1) := by decide +kernel
theorem dX4_obtain_81 : decode cX4_obtain 81 = .ok (.iload_n 2, 1) := by decide +kernel
theorem dX4_obtain_82 : decode cX4_obtain 82 = .ok (.iload_n 3, 1) := by decide +kernel
theorem dX4_obtain_83 : decode cX4_obtain 83 = .ok (.invokevirtual 291, 3) := by decide +kernel
theorem dX4_obtain_86 : decode cX4_obtain 86 = .ok (.bipush 103, 2) := by decide +kernel
theorem dX4_obtain_88 : decode cX4_obtain 88 = .ok (.ireturn, 1) := by decide +kernel
theorem dX4_obtain_89 : decode cX4_obtain 89 = .ok (.iload 4, 2) := by decide +kernel
theorem dX4_obtain_91 : decode cX4_obtain 91 = .ok (.ifCond .eq 25, 3) := by decide +kernel
theorem dX4_obtain_94 : decode cX4_obtain 94 = .ok (.aload_n 0, 1) := by decide +kernel
theorem dX4_obtain_95 : decode cX4_obtain 95 = .ok (.getfield 26, 3) := by decide +kernel
theorem dX4_obtain_98 : decode cX4_obtain 98 = .ok (.iload_n 2, 1) := by decide +kernel
theorem dX4_obtain_99 : decode cX4_obtain 99 = .ok (.iload_n 1, 1) := by decide +kernel
theorem dX4_obtain_100 : decode cX4_obtain 100 = .ok (.invokevirtual 294, 3) := by decide +kernel
theorem dX4_obtain_103 : decode cX4_obtain 103 = .ok (.aload_n 0, 1) := by decide +kernel
theorem dX4_obtain_104 : decode cX4_obtain 104 = .ok (.getfield 26, 3) := by decide +kernel
theorem dX4_obtain_107 : decode cX4_obtain 107 = .ok (.getfield 129, 3) := by decide +kernel
theorem dX4_obtain_110 : decode cX4_obtain 110 = .ok (.iload_n 2, 1) := by decide +kernel
theorem dX4_obtain_111 : decode cX4_obtain 111 = .ok (.iload_n 1, 1) := by decide +kernel
theorem dX4_obtain_112 : decode cX4_obtain 112 = .ok (.iastore, 1) := by decide +kernel
theorem dX4_obtain_113 : decode cX4_obtain 113 = .ok (.bipush 109, 2) := by decide +kernel
theorem dX4_obtain_115 : decode cX4_obtain 115 = .ok (.ireturn, 1) := by decide +kernel
theorem dX4_obtain_116 : decode cX4_obtain 116 = .ok (.aload_n 0, 1) := by decide +kernel
theorem dX4_obtain_117 : decode cX4_obtain 117 = .ok (.getfield 26, 3) := by decide +kernel
theorem dX4_obtain_120 : decode cX4_obtain 120 = .ok (.iload_n 2, 1) := by decide +kernel
theorem dX4_obtain_121 : decode cX4_obtain 121 = .ok (.iload_n 1, 1) := by decide +kernel
theorem dX4_obtain_122 : decode cX4_obtain 122 = .ok (.invokevirtual 297, 3) := by decide +kernel
theorem dX4_obtain_125 : decode cX4_obtain 125 = .ok (.bipush 119, 2) := by decide +kernel
theorem dX4_obtain_127 : decode cX4_obtain 127 = .ok (.ireturn, 1) := by decide +kernel
set_option maxRecDepth 20000 in
theorem ggX4_askAsOwner_X4_checkNumbers : GoodIn wsX4_askAsOwner wsX4_checkNumbers := goodIn_ca (goodIn_ca (goodIn_r _ [8, 9, 10, 11, 7, 12, 13, 14, 15, 16, 17, 18, 19, 20, 21, 22, 23, 24, 25, 26, 77, 78, 79, 80, 81, 82, 83, 84, 85, 86, 87, 88, 89, 90, 91] (by decide +kernel) (by decide +kernel)) (goodIn_sub (fun _ h => List.mem_cons_of_mem _ (List.mem_append_left _ (List.mem_append_left _ (List.mem_append_left _ (List.mem_append_right _ h))))) (by decide +kernel))) (goodIn_sub (fun _ h => List.mem_cons_of_mem _ (List.mem_append_left _ (List.mem_append_left _ (List.mem_append_right _ h)))) (by decide +kernel))
set_option maxRecDepth 20000 in
theorem gX4_askAsOwner_X4_checkNumbers : GoodIn wsX4_askAsOwner (wsV RX4 154 RX4 yX4_checkNumbers wsX4_checkNumbers) := goodIn_app (goodIn_of _ (by decide +kernel)) ggX4_askAsOwner_X4_checkNumbers
set_option maxRecDepth 20000 in
theorem ggX4_askAsOwner_X4_checkCanAsk : GoodIn wsX4_askAsOwner wsX4_checkCanAsk := goodIn_ca (goodIn_ca (goodIn_r _ [30, 31, 32, 15, 33, 1, 34, 35, 36, 37, 38, 39, 40, 41, 42, 43, 44, 45, 46, 47, 77, 78, 79, 80, 81, 82, 83, 84, 85, 86, 87, 88, 89, 90, 91, 92, 93, 94, 95, 96, 97, 98, 99, 100, 101, 102] (by decide +kernel) (by decide +kernel)) (goodIn_sub (fun _ h => List.mem_cons_of_mem _ (List.mem_append_left _ (List.mem_append_right _ h))) (by decide +kernel))) (goodIn_sub (fun _ h => List.mem_cons_of_mem _ (List.mem_append_right _ h)) (by decide +kernel))
set_option maxRecDepth 20000 in
theorem gX4_askAsOwner_X4_checkCanAsk : GoodIn wsX4_askAsOwner (wsV RX4 157 RX4 yX4_checkCanAsk wsX4_checkCanAsk) := goodIn_app (goodIn_of _ (by decide +kernel)) ggX4_askAsOwner_X4_checkCanAsk
set_option maxRecDepth 20000 in
theorem ggX4_askAsOwner_X3_consult : GoodIn wsX4_askAsOwner wsX3_consult := goodIn_ca (goodIn_r _ [51, 42, 52, 53, 54, 40, 55, 56, 57, 58, 59, 60, 61, 62, 63, 64, 65, 92, 93, 94, 95, 96] (by decide +kernel) (by decide +kernel)) (goodIn_sub (fun _ h => List.mem_cons_of_mem _ (List.mem_append_left _ (List.mem_append_right _ h))) (by decide +kernel))
set_option maxRecDepth 20000 in
theorem gX4_askAsOwner_X3_consult : GoodIn wsX4_askAsOwner (wsV RX4 160 RX3 yX3_consult wsX3_consult) := goodIn_app (goodIn_of _ (by decide +kernel)) ggX4_askAsOwner_X3_consult
set_option maxRecDepth 20000 in
theorem ggX4_askAsOwner_X1_isHeldBy : GoodIn wsX4_askAsOwner wsX1_isHeldBy := goodIn_ca (goodIn_r _ [70, 71, 72, 73, 74, 69, 75, 76, 103, 104, 105, 106, 107, 108] (by decide +kernel) (by decide +kernel)) (goodIn_sub (fun _ h => List.mem_cons_of_mem _ (List.mem_append_left _ (List.mem_append_right _ h))) (by decide +kernel))
set_option maxRecDepth 20000 in
theorem gX4_askAsOwner_X1_isHeldBy : GoodIn wsX4_askAsOwner (wsV RX4 177 RX1 yX1_isHeldBy wsX1_isHeldBy) := goodIn_app (goodIn_of _ (by decide +kernel)) ggX4_askAsOwner_X1_isHeldBy
theorem dX4_askAsOwner_0 : decode cX4_askAsOwner 0 = .ok (.aload_n 0, 1) := by decide +kernel
theorem dX4_askAsOwner_1 : decode cX4_askAsOwner 1 = .ok (.iload_n 1, 1) := by decide +kernel
theorem dX4_askAsOwner_2 : decode cX4_askAsOwner 2 = .ok (.iload_n 2, 1) := by decide +kernel
theorem dX4_askAsOwner_3 : decode cX4_askAsOwner 3 = .ok (.iload_n 3, 1) := by decide +kernel
theorem dX4_askAsOwner_4 : decode cX4_askAsOwner 4 = .ok (.invokevirtual 154, 3) := by decide +kernel
theorem dX4_askAsOwner_7 : decode cX4_askAsOwner 7 = .ok (.aload_n 0, 1) := by decide +kernel
theorem dX4_askAsOwner_8 : decode cX4_askAsOwner 8 = .ok (.iload_n 1, 1) := by decide +kernel
theorem dX4_askAsOwner_9 : decode cX4_askAsOwner 9 = .ok (.iload_n 3, 1) := by decide +kernel
theorem dX4_askAsOwner_10 : decode cX4_askAsOwner 10 = .ok (.invokevirtual 157, 3) := by decide +kernel
theorem dX4_askAsOwner_13 : decode cX4_askAsOwner 13 = .ok (.aload_n 0, 1) := by decide +kernel
theorem dX4_askAsOwner_14 : decode cX4_askAsOwner 14 = .ok (.getfield 10, 3) := by decide +kernel
theorem dX4_askAsOwner_17 : decode cX4_askAsOwner 17 = .ok (.iload_n 3, 1) := by decide +kernel
theorem dX4_askAsOwner_18 : decode cX4_askAsOwner 18 = .ok (.invokevirtual 160, 3) := by decide +kernel
theorem dX4_askAsOwner_21 : decode cX4_askAsOwner 21 = .ok (.istore 4, 2) := by decide +kernel
theorem dX4_askAsOwner_23 : decode cX4_askAsOwner 23 = .ok (.iload 4, 2) := by decide +kernel
theorem dX4_askAsOwner_25 : decode cX4_askAsOwner 25 = .ok (.bipush 103, 2) := by decide +kernel
theorem dX4_askAsOwner_27 : decode cX4_askAsOwner 27 = .ok (.if_icmp .ne 24, 3) := by decide +kernel
theorem dX4_askAsOwner_30 : decode cX4_askAsOwner 30 = .ok (.aload_n 0, 1) := by decide +kernel
theorem dX4_askAsOwner_31 : decode cX4_askAsOwner 31 = .ok (.getfield 26, 3) := by decide +kernel
theorem dX4_askAsOwner_34 : decode cX4_askAsOwner 34 = .ok (.iload_n 2, 1) := by decide +kernel
theorem dX4_askAsOwner_35 : decode cX4_askAsOwner 35 = .ok (.iload_n 1, 1) := by decide +kernel
theorem dX4_askAsOwner_36 : decode cX4_askAsOwner 36 = .ok (.aload_n 0, 1) := by decide +kernel
theorem dX4_askAsOwner_37 : decode cX4_askAsOwner 37 = .ok (.getfield 44, 3) := by decide +kernel
theorem dX4_askAsOwner_40 : decode cX4_askAsOwner 40 = .ok (.invokevirtual 177, 3) := by decide +kernel
theorem dX4_askAsOwner_43 : decode cX4_askAsOwner 43 = .ok (.ifCond .ne 8, 3) := by decide +kernel
theorem dX4_askAsOwner_46 : decode cX4_askAsOwner 46 = .ok (.bipush 111, 2) := by decide +kernel
theorem dX4_askAsOwner_48 : decode cX4_askAsOwner 48 = .ok (.goto 5, 3) := by decide +kernel
theorem dX4_askAsOwner_51 : decode cX4_askAsOwner 51 = .ok (.iload 4, 2) := by decide +kernel
theorem dX4_askAsOwner_53 : decode cX4_askAsOwner 53 = .ok (.ireturn, 1) := by decide +kernel
set_option maxRecDepth 20000 in
theorem ggX4_startLease_X1_takeOut : GoodIn wsX4_startLease wsX1_takeOut := goodIn_ca (goodIn_r _ [13, 14, 15, 16, 17, 18, 12, 19, 73, 74, 75, 76, 77, 78] (by decide +kernel) (by decide +kernel)) (goodIn_sub (fun _ h => List.mem_cons_of_mem _ (List.mem_append_right _ h)) (by decide +kernel))
set_option maxRecDepth 20000 in
theorem gX4_startLease_X1_takeOut : GoodIn wsX4_startLease (wsV RX4 147 RX1 yX1_takeOut wsX1_takeOut) := goodIn_app (goodIn_of _ (by decide +kernel)) ggX4_startLease_X1_takeOut
set_option maxRecDepth 20000 in
theorem ggX4_startLease_X0_noteLease : GoodIn wsX4_startLease wsX0_noteLease := goodIn_ca (goodIn_r _ [24, 25, 26, 27, 28, 23, 29, 30, 31, 32, 33, 34, 79, 80, 81, 82, 83, 84, 85, 86, 87] (by decide +kernel) (by decide +kernel)) (goodIn_sub (fun _ h => List.mem_cons_of_mem _ (List.mem_append_right _ h)) (by decide +kernel))
set_option maxRecDepth 20000 in
theorem gX4_startLease_X0_noteLease : GoodIn wsX4_startLease (wsV RX4 302 RX0 yX0_noteLease wsX0_noteLease) := goodIn_app (goodIn_of _ (by decide +kernel)) ggX4_startLease_X0_noteLease
set_option maxRecDepth 20000 in
theorem ggX4_startLease_X4_makeEntry : GoodIn wsX4_startLease wsX4_makeEntry := goodIn_ca (goodIn_r _ [39, 40, 41, 42, 43, 44, 45, 46, 47, 48, 49, 50, 51, 52, 53, 54, 55, 56, 57, 58, 59, 60, 61, 62, 63, 64, 65, 66, 67, 68, 69, 70, 71, 72, 88, 89, 90, 91, 92, 93, 94, 95, 96, 97, 98] (by decide +kernel) (by decide +kernel)) (goodIn_sub (fun _ h => List.mem_cons_of_mem _ (List.mem_append_right _ h)) (by decide +kernel))
set_option maxRecDepth 20000 in
theorem gX4_startLease_X4_makeEntry : GoodIn wsX4_startLease (wsV RX4 305 RX4 yX4_makeEntry wsX4_makeEntry) := goodIn_app (goodIn_of _ (by decide +kernel)) ggX4_startLease_X4_makeEntry
theorem dX4_startLease_0 : decode cX4_startLease 0 = .ok (.aload_n 0, 1) := by decide +kernel
theorem dX4_startLease_1 : decode cX4_startLease 1 = .ok (.getfield 26, 3) := by decide +kernel
theorem dX4_startLease_4 : decode cX4_startLease 4 = .ok (.iload_n 2, 1) := by decide +kernel
theorem dX4_startLease_5 : decode cX4_startLease 5 = .ok (.iload_n 1, 1) := by decide +kernel
theorem dX4_startLease_6 : decode cX4_startLease 6 = .ok (.invokevirtual 147, 3) := by decide +kernel
theorem dX4_startLease_9 : decode cX4_startLease 9 = .ok (.aload_n 0, 1) := by decide +kernel
theorem dX4_startLease_10 : decode cX4_startLease 10 = .ok (.getfield 26, 3) := by decide +kernel
theorem dX4_startLease_13 : decode cX4_startLease 13 = .ok (.getfield 129, 3) := by decide +kernel
theorem dX4_startLease_16 : decode cX4_startLease 16 = .ok (.iload_n 2, 1) := by decide +kernel
theorem dX4_startLease_17 : decode cX4_startLease 17 = .ok (.iconst (-1), 1) := by decide +kernel
theorem dX4_startLease_18 : decode cX4_startLease 18 = .ok (.iastore, 1) := by decide +kernel
theorem dX4_startLease_19 : decode cX4_startLease 19 = .ok (.aload_n 0, 1) := by decide +kernel
theorem dX4_startLease_20 : decode cX4_startLease 20 = .ok (.getfield 26, 3) := by decide +kernel
theorem dX4_startLease_23 : decode cX4_startLease 23 = .ok (.getfield 190, 3) := by decide +kernel
theorem dX4_startLease_26 : decode cX4_startLease 26 = .ok (.iload_n 2, 1) := by decide +kernel
theorem dX4_startLease_27 : decode cX4_startLease 27 = .ok (.iload_n 1, 1) := by decide +kernel
theorem dX4_startLease_28 : decode cX4_startLease 28 = .ok (.iastore, 1) := by decide +kernel
theorem dX4_startLease_29 : decode cX4_startLease 29 = .ok (.aload_n 0, 1) := by decide +kernel
theorem dX4_startLease_30 : decode cX4_startLease 30 = .ok (.getfield 26, 3) := by decide +kernel
theorem dX4_startLease_33 : decode cX4_startLease 33 = .ok (.getfield 198, 3) := by decide +kernel
theorem dX4_startLease_36 : decode cX4_startLease 36 = .ok (.iload_n 2, 1) := by decide +kernel
theorem dX4_startLease_37 : decode cX4_startLease 37 = .ok (.aload_n 0, 1) := by decide +kernel
theorem dX4_startLease_38 : decode cX4_startLease 38 = .ok (.getfield 44, 3) := by decide +kernel
theorem dX4_startLease_41 : decode cX4_startLease 41 = .ok (.bipush 12, 2) := by decide +kernel
theorem dX4_startLease_43 : decode cX4_startLease 43 = .ok (.iadd, 1) := by decide +kernel
theorem dX4_startLease_44 : decode cX4_startLease 44 = .ok (.iastore, 1) := by decide +kernel
theorem dX4_startLease_45 : decode cX4_startLease 45 = .ok (.aload_n 0, 1) := by decide +kernel
theorem dX4_startLease_46 : decode cX4_startLease 46 = .ok (.dup, 1) := by decide +kernel
theorem dX4_startLease_47 : decode cX4_startLease 47 = .ok (.getfield 238, 3) := by decide +kernel
theorem dX4_startLease_50 : decode cX4_startLease 50 = .ok (.ldc2_w 300, 3) := by decide +kernel
theorem dX4_startLease_53 : decode cX4_startLease 53 = .ok (.ladd, 1) := by decide +kernel
theorem dX4_startLease_54 : decode cX4_startLease 54 = .ok (.putfield 238, 3) := by decide +kernel
theorem dX4_startLease_57 : decode cX4_startLease 57 = .ok (.aload_n 0, 1) := by decide +kernel
theorem dX4_startLease_58 : decode cX4_startLease 58 = .ok (.getfield 33, 3) := by decide +kernel
theorem dX4_startLease_61 : decode cX4_startLease 61 = .ok (.iload_n 1, 1) := by decide +kernel
theorem dX4_startLease_62 : decode cX4_startLease 62 = .ok (.iload_n 2, 1) := by decide +kernel
theorem dX4_startLease_63 : decode cX4_startLease 63 = .ok (.aload_n 0, 1) := by decide +kernel
theorem dX4_startLease_64 : decode cX4_startLease 64 = .ok (.getfield 44, 3) := by decide +kernel
theorem dX4_startLease_67 : decode cX4_startLease 67 = .ok (.invokevirtual 302, 3) := by decide +kernel
theorem dX4_startLease_70 : decode cX4_startLease 70 = .ok (.aload_n 0, 1) := by decide +kernel
theorem dX4_startLease_71 : decode cX4_startLease 71 = .ok (.iload_n 3, 1) := by decide +kernel
theorem dX4_startLease_72 : decode cX4_startLease 72 = .ok (.bipush 108, 2) := by decide +kernel
theorem dX4_startLease_74 : decode cX4_startLease 74 = .ok (.iload_n 1, 1) := by decide +kernel
theorem dX4_startLease_75 : decode cX4_startLease 75 = .ok (.iload_n 2, 1) := by decide +kernel
theorem dX4_startLease_76 : decode cX4_startLease 76 = .ok (.aload_n 0, 1) := by decide +kernel
theorem dX4_startLease_77 : decode cX4_startLease 77 = .ok (.getfield 26, 3) := by decide +kernel
theorem dX4_startLease_80 : decode cX4_startLease 80 = .ok (.getfield 198, 3) := by decide +kernel
theorem dX4_startLease_83 : decode cX4_startLease 83 = .ok (.iload_n 2, 1) := by decide +kernel
theorem dX4_startLease_84 : decode cX4_startLease 84 = .ok (.iaload, 1) := by decide +kernel
theorem dX4_startLease_85 : decode cX4_startLease 85 = .ok (.invokevirtual 305, 3) := by decide +kernel
theorem dX4_startLease_88 : decode cX4_startLease 88 = .ok (.return_, 1) := by decide +kernel
set_option maxRecDepth 20000 in
theorem ggX4_extendLease_X0_noteLease : GoodIn wsX4_extendLease wsX0_noteLease := goodIn_ca (goodIn_r _ [10, 11, 12, 13, 14, 9, 15, 16, 17, 18, 19, 20, 65, 66, 67, 68, 69, 70, 71, 72, 73] (by decide +kernel) (by decide +kernel)) (goodIn_sub (fun _ h => List.mem_cons_of_mem _ (List.mem_append_right _ h)) (by decide +kernel))
set_option maxRecDepth 20000 in
theorem gX4_extendLease_X0_noteLease : GoodIn wsX4_extendLease (wsV RX4 302 RX0 yX0_noteLease wsX0_noteLease) := goodIn_app (goodIn_of _ (by decide +kernel)) ggX4_extendLease_X0_noteLease
set_option maxRecDepth 20000 in
theorem ggX4_extendLease_X4_makeEntry : GoodIn wsX4_extendLease wsX4_makeEntry := goodIn_ca (goodIn_r _ [25, 26, 27, 28, 29, 30, 31, 32, 33, 34, 35, 36, 37, 38, 39, 40, 41, 42, 43, 44, 45, 46, 47, 48, 49, 50, 51, 52, 53, 54, 55, 56, 57, 58, 74, 75, 76, 77, 78, 79, 80, 81, 82, 83, 84] (by decide +kernel) (by decide +kernel)) (goodIn_sub (fun _ h => List.mem_cons_of_mem _ (List.mem_append_right _ h)) (by decide +kernel))
set_option maxRecDepth 20000 in
theorem gX4_extendLease_X4_makeEntry : GoodIn wsX4_extendLease (wsV RX4 305 RX4 yX4_makeEntry wsX4_makeEntry) := goodIn_app (goodIn_of _ (by decide +kernel)) ggX4_extendLease_X4_makeEntry
theorem dX4_extendLease_0 : decode cX4_extendLease 0 = .ok (.aload_n 0, 1) := by decide +kernel
theorem dX4_extendLease_1 : decode cX4_extendLease 1 = .ok (.getfield 44, 3) := by decide +kernel
theorem dX4_extendLease_4 : decode cX4_extendLease 4 = .ok (.bipush 12, 2) := by decide +kernel
theorem dX4_extendLease_6 : decode cX4_extendLease 6 = .ok (.iadd, 1) := by decide +kernel
theorem dX4_extendLease_7 : decode cX4_extendLease 7 = .ok (.istore 4, 2) := by decide +kernel
theorem dX4_extendLease_9 : decode cX4_extendLease 9 = .ok (.aload_n 0, 1) := by decide +kernel
theorem dX4_extendLease_10 : decode cX4_extendLease 10 = .ok (.dup, 1) := by decide +kernel
theorem dX4_extendLease_11 : decode cX4_extendLease 11 = .ok (.getfield 238, 3) := by decide +kernel
theorem dX4_extendLease_14 : decode cX4_extendLease 14 = .ok (.iload 4, 2) := by decide +kernel
theorem dX4_extendLease_16 : decode cX4_extendLease 16 = .ok (.aload_n 0, 1) := by decide +kernel
theorem dX4_extendLease_17 : decode cX4_extendLease 17 = .ok (.getfield 26, 3) := by decide +kernel
theorem dX4_extendLease_20 : decode cX4_extendLease 20 = .ok (.getfield 198, 3) := by decide +kernel
theorem dX4_extendLease_23 : decode cX4_extendLease 23 = .ok (.iload_n 2, 1) := by decide +kernel
theorem dX4_extendLease_24 : decode cX4_extendLease 24 = .ok (.iaload, 1) := by decide +kernel
theorem dX4_extendLease_25 : decode cX4_extendLease 25 = .ok (.isub, 1) := by decide +kernel
theorem dX4_extendLease_26 : decode cX4_extendLease 26 = .ok (.i2l, 1) := by decide +kernel
theorem dX4_extendLease_27 : decode cX4_extendLease 27 = .ok (.ladd, 1) := by decide +kernel
theorem dX4_extendLease_28 : decode cX4_extendLease 28 = .ok (.putfield 238, 3) := by decide +kernel
theorem dX4_extendLease_31 : decode cX4_extendLease 31 = .ok (.aload_n 0, 1) := by decide +kernel
theorem dX4_extendLease_32 : decode cX4_extendLease 32 = .ok (.getfield 26, 3) := by decide +kernel
theorem dX4_extendLease_35 : decode cX4_extendLease 35 = .ok (.getfield 198, 3) := by decide +kernel
theorem dX4_extendLease_38 : decode cX4_extendLease 38 = .ok (.iload_n 2, 1) := by decide +kernel
theorem dX4_extendLease_39 : decode cX4_extendLease 39 = .ok (.iload 4, 2) := by decide +kernel
theorem dX4_extendLease_41 : decode cX4_extendLease 41 = .ok (.iastore, 1) := by decide +kernel
theorem dX4_extendLease_42 : decode cX4_extendLease 42 = .ok (.aload_n 0, 1) := by decide +kernel
theorem dX4_extendLease_43 : decode cX4_extendLease 43 = .ok (.getfield 33, 3) := by decide +kernel
theorem dX4_extendLease_46 : decode cX4_extendLease 46 = .ok (.iload_n 1, 1) := by decide +kernel
theorem dX4_extendLease_47 : decode cX4_extendLease 47 = .ok (.iload_n 2, 1) := by decide +kernel
theorem dX4_extendLease_48 : decode cX4_extendLease 48 = .ok (.aload_n 0, 1) := by decide +kernel
theorem dX4_extendLease_49 : decode cX4_extendLease 49 = .ok (.getfield 44, 3) := by decide +kernel
theorem dX4_extendLease_52 : decode cX4_extendLease 52 = .ok (.invokevirtual 302, 3) := by decide +kernel
theorem dX4_extendLease_55 : decode cX4_extendLease 55 = .ok (.aload_n 0, 1) := by decide +kernel
theorem dX4_extendLease_56 : decode cX4_extendLease 56 = .ok (.iload_n 3, 1) := by decide +kernel
theorem dX4_extendLease_57 : decode cX4_extendLease 57 = .ok (.bipush 114, 2) := by decide +kernel
theorem dX4_extendLease_59 : decode cX4_extendLease 59 = .ok (.iload_n 1, 1) := by decide +kernel
theorem dX4_extendLease_60 : decode cX4_extendLease 60 = .ok (.iload_n 2, 1) := by decide +kernel
theorem dX4_extendLease_61 : decode cX4_extendLease 61 = .ok (.iload 4, 2) := by decide +kernel
theorem dX4_extendLease_63 : decode cX4_extendLease 63 = .ok (.invokevirtual 305, 3) := by decide +kernel
theorem dX4_extendLease_66 : decode cX4_extendLease 66 = .ok (.return_, 1) := by decide +kernel
set_option maxRecDepth 20000 in
theorem ggX4_endLease_X0_dropLease : GoodIn wsX4_endLease wsX0_dropLease := goodIn_ca (goodIn_r _ [11, 12, 13, 14, 10, 15, 60, 61, 62, 63, 64, 65, 66, 67, 68] (by decide +kernel) (by decide +kernel)) (goodIn_sub (fun _ h => List.mem_cons_of_mem _ (List.mem_append_right _ h)) (by decide +kernel))
set_option maxRecDepth 20000 in
theorem gX4_endLease_X0_dropLease : GoodIn wsX4_endLease (wsV RX4 309 RX0 yX0_dropLease wsX0_dropLease) := goodIn_app (goodIn_of _ (by decide +kernel)) ggX4_endLease_X0_dropLease
set_option maxRecDepth 20000 in
theorem ggX4_endLease_X4_makeEntry : GoodIn wsX4_endLease wsX4_makeEntry := goodIn_ca (goodIn_r _ [20, 21, 22, 23, 24, 25, 26, 27, 28, 29, 30, 31, 32, 33, 34, 35, 36, 37, 38, 39, 40, 41, 42, 43, 44, 45, 46, 47, 48, 49, 50, 51, 52, 53, 69, 70, 71, 72, 73, 74, 75, 76, 77, 78, 79] (by decide +kernel) (by decide +kernel)) (goodIn_sub (fun _ h => List.mem_cons_of_mem _ (List.mem_append_right _ h)) (by decide +kernel))
set_option maxRecDepth 20000 in
theorem gX4_endLease_X4_makeEntry : GoodIn wsX4_endLease (wsV RX4 305 RX4 yX4_makeEntry wsX4_makeEntry) := goodIn_app (goodIn_of _ (by decide +kernel)) ggX4_endLease_X4_makeEntry
theorem dX4_endLease_0 : decode cX4_endLease 0 = .ok (.aload_n 0, 1) := by decide +kernel
theorem dX4_endLease_1 : decode cX4_endLease 1 = .ok (.dup, 1) := by decide +kernel
theorem dX4_endLease_2 : decode cX4_endLease 2 = .ok (.getfield 238, 3) := by decide +kernel
theorem dX4_endLease_5 : decode cX4_endLease 5 = .ok (.aload_n 0, 1) := by decide +kernel
theorem dX4_endLease_6 : decode cX4_endLease 6 = .ok (.getfield 26, 3) := by decide +kernel
theorem dX4_endLease_9 : decode cX4_endLease 9 = .ok (.getfield 198, 3) := by decide +kernel
theorem dX4_endLease_12 : decode cX4_endLease 12 = .ok (.iload_n 2, 1) := by decide +kernel
theorem dX4_endLease_13 : decode cX4_endLease 13 = .ok (.iaload, 1) := by decide +kernel
theorem dX4_endLease_14 : decode cX4_endLease 14 = .ok (.aload_n 0, 1) := by decide +kernel
theorem dX4_endLease_15 : decode cX4_endLease 15 = .ok (.getfield 44, 3) := by decide +kernel
theorem dX4_endLease_18 : decode cX4_endLease 18 = .ok (.isub, 1) := by decide +kernel
theorem dX4_endLease_19 : decode cX4_endLease 19 = .ok (.i2l, 1) := by decide +kernel
theorem dX4_endLease_20 : decode cX4_endLease 20 = .ok (.lsub, 1) := by decide +kernel
theorem dX4_endLease_21 : decode cX4_endLease 21 = .ok (.putfield 238, 3) := by decide +kernel
theorem dX4_endLease_24 : decode cX4_endLease 24 = .ok (.aload_n 0, 1) := by decide +kernel
theorem dX4_endLease_25 : decode cX4_endLease 25 = .ok (.getfield 26, 3) := by decide +kernel
theorem dX4_endLease_28 : decode cX4_endLease 28 = .ok (.getfield 190, 3) := by decide +kernel
theorem dX4_endLease_31 : decode cX4_endLease 31 = .ok (.iload_n 2, 1) := by decide +kernel
theorem dX4_endLease_32 : decode cX4_endLease 32 = .ok (.iconst (-1), 1) := by decide +kernel
theorem dX4_endLease_33 : decode cX4_endLease 33 = .ok (.iastore, 1) := by decide +kernel
theorem dX4_endLease_34 : decode cX4_endLease 34 = .ok (.aload_n 0, 1) := by decide +kernel
theorem dX4_endLease_35 : decode cX4_endLease 35 = .ok (.getfield 33, 3) := by decide +kernel
theorem dX4_endLease_38 : decode cX4_endLease 38 = .ok (.iload_n 1, 1) := by decide +kernel
theorem dX4_endLease_39 : decode cX4_endLease 39 = .ok (.iload_n 2, 1) := by decide +kernel
theorem dX4_endLease_40 : decode cX4_endLease 40 = .ok (.invokevirtual 309, 3) := by decide +kernel
theorem dX4_endLease_43 : decode cX4_endLease 43 = .ok (.aload_n 0, 1) := by decide +kernel
theorem dX4_endLease_44 : decode cX4_endLease 44 = .ok (.iload_n 3, 1) := by decide +kernel
theorem dX4_endLease_45 : decode cX4_endLease 45 = .ok (.bipush 117, 2) := by decide +kernel
theorem dX4_endLease_47 : decode cX4_endLease 47 = .ok (.iload_n 1, 1) := by decide +kernel
theorem dX4_endLease_48 : decode cX4_endLease 48 = .ok (.iload_n 2, 1) := by decide +kernel
theorem dX4_endLease_49 : decode cX4_endLease 49 = .ok (.iconst 0, 1) := by decide +kernel
theorem dX4_endLease_50 : decode cX4_endLease 50 = .ok (.invokevirtual 305, 3) := by decide +kernel
theorem dX4_endLease_53 : decode cX4_endLease 53 = .ok (.return_, 1) := by decide +kernel
set_option maxRecDepth 20000 in
theorem ggX4_changeValue_X0_dropValues : GoodIn wsX4_changeValue wsX0_dropValues := goodIn_ca (goodIn_r _ [8, 9, 10, 11, 12, 13, 7, 14, 59, 60, 61, 62, 63, 64, 65, 66, 67] (by decide +kernel) (by decide +kernel)) (goodIn_sub (fun _ h => List.mem_cons_of_mem _ (List.mem_append_right _ h)) (by decide +kernel))
set_option maxRecDepth 20000 in
theorem gX4_changeValue_X0_dropValues : GoodIn wsX4_changeValue (wsV RX4 312 RX0 yX0_dropValues wsX0_dropValues) := goodIn_app (goodIn_of _ (by decide +kernel)) ggX4_changeValue_X0_dropValues
set_option maxRecDepth 20000 in
theorem ggX4_changeValue_X4_makeEntry : GoodIn wsX4_changeValue wsX4_makeEntry := goodIn_ca (goodIn_r _ [19, 20, 21, 22, 23, 24, 25, 26, 27, 28, 29, 30, 31, 32, 33, 34, 35, 36, 37, 38, 39, 40, 41, 42, 43, 44, 45, 46, 47, 48, 49, 50, 51, 52, 68, 69, 70, 71, 72, 73, 74, 75, 76, 77, 78] (by decide +kernel) (by decide +kernel)) (goodIn_sub (fun _ h => List.mem_cons_of_mem _ (List.mem_append_right _ h)) (by decide +kernel))
set_option maxRecDepth 20000 in
theorem gX4_changeValue_X4_makeEntry : GoodIn wsX4_changeValue (wsV RX4 305 RX4 yX4_makeEntry wsX4_makeEntry) := goodIn_app (goodIn_of _ (by decide +kernel)) ggX4_changeValue_X4_makeEntry
theorem dX4_changeValue_0 : decode cX4_changeValue 0 = .ok (.aload_n 0, 1) := by decide +kernel
theorem dX4_changeValue_1 : decode cX4_changeValue 1 = .ok (.getfield 33, 3) := by decide +kernel
theorem dX4_changeValue_4 : decode cX4_changeValue 4 = .ok (.iload_n 2, 1) := by decide +kernel
theorem dX4_changeValue_5 : decode cX4_changeValue 5 = .ok (.invokevirtual 312, 3) := by decide +kernel
theorem dX4_changeValue_8 : decode cX4_changeValue 8 = .ok (.aload_n 0, 1) := by decide +kernel
theorem dX4_changeValue_9 : decode cX4_changeValue 9 = .ok (.getfield 26, 3) := by decide +kernel
theorem dX4_changeValue_12 : decode cX4_changeValue 12 = .ok (.getfield 164, 3) := by decide +kernel
theorem dX4_changeValue_15 : decode cX4_changeValue 15 = .ok (.iload_n 2, 1) := by decide +kernel
theorem dX4_changeValue_16 : decode cX4_changeValue 16 = .ok (.iload 4, 2) := by decide +kernel
theorem dX4_changeValue_18 : decode cX4_changeValue 18 = .ok (.iastore, 1) := by decide +kernel
theorem dX4_changeValue_19 : decode cX4_changeValue 19 = .ok (.aload_n 0, 1) := by decide +kernel
theorem dX4_changeValue_20 : decode cX4_changeValue 20 = .ok (.iload_n 3, 1) := by decide +kernel
theorem dX4_changeValue_21 : decode cX4_changeValue 21 = .ok (.bipush 118, 2) := by decide +kernel
theorem dX4_changeValue_23 : decode cX4_changeValue 23 = .ok (.iload_n 1, 1) := by decide +kernel
theorem dX4_changeValue_24 : decode cX4_changeValue 24 = .ok (.iload_n 2, 1) := by decide +kernel
theorem dX4_changeValue_25 : decode cX4_changeValue 25 = .ok (.iload 4, 2) := by decide +kernel
theorem dX4_changeValue_27 : decode cX4_changeValue 27 = .ok (.invokevirtual 305, 3) := by decide +kernel
theorem dX4_changeValue_30 : decode cX4_changeValue 30 = .ok (.return_, 1) := by decide +kernel
set_option maxRecDepth 20000 in
theorem ggX4_makeEntry_X2_add : GoodIn wsX4_makeEntry wsX2_add := goodIn_ca (goodIn_r _ [9, 10, 11, 12, 13, 14, 15, 39, 40, 41, 42, 43, 44] (by decide +kernel) (by decide +kernel)) (goodIn_sub (fun _ h => List.mem_cons_of_mem _ (List.mem_append_right _ h)) (by decide +kernel))
set_option maxRecDepth 20000 in
theorem gX4_makeEntry_X2_add : GoodIn wsX4_makeEntry (wsV RX4 315 RX2 yX2_add wsX2_add) := goodIn_app (goodIn_of _ (by decide +kernel)) ggX4_makeEntry_X2_add
set_option maxRecDepth 20000 in
theorem ggX4_makeEntry_X3_teach : GoodIn wsX4_makeEntry wsX3_teach := goodIn_ca (goodIn_r _ [20, 21, 22, 23, 24, 19, 25, 26, 27, 34, 35, 36, 37, 38] (by decide +kernel) (by decide +kernel)) (goodIn_sub (fun _ h => List.mem_cons_of_mem _ (List.mem_append_right _ h)) (by decide +kernel))
set_option maxRecDepth 20000 in
theorem gX4_makeEntry_X3_teach : GoodIn wsX4_makeEntry (wsV RX4 319 RX3 yX3_teach wsX3_teach) := goodIn_app (goodIn_of _ (by decide +kernel)) ggX4_makeEntry_X3_teach
theorem dX4_makeEntry_0 : decode cX4_makeEntry 0 = .ok (.aload_n 0, 1) := by decide +kernel
theorem dX4_makeEntry_1 : decode cX4_makeEntry 1 = .ok (.getfield 19, 3) := by decide +kernel
theorem dX4_makeEntry_4 : decode cX4_makeEntry 4 = .ok (.iload_n 2, 1) := by decide +kernel
theorem dX4_makeEntry_5 : decode cX4_makeEntry 5 = .ok (.aload_n 0, 1) := by decide +kernel
theorem dX4_makeEntry_6 : decode cX4_makeEntry 6 = .ok (.getfield 10, 3) := by decide +kernel
theorem dX4_makeEntry_9 : decode cX4_makeEntry 9 = .ok (.getfield 74, 3) := by decide +kernel
theorem dX4_makeEntry_12 : decode cX4_makeEntry 12 = .ok (.iload_n 1, 1) := by decide +kernel
theorem dX4_makeEntry_13 : decode cX4_makeEntry 13 = .ok (.iaload, 1) := by decide +kernel
theorem dX4_makeEntry_14 : decode cX4_makeEntry 14 = .ok (.iload_n 3, 1) := by decide +kernel
theorem dX4_makeEntry_15 : decode cX4_makeEntry 15 = .ok (.iload 4, 2) := by decide +kernel
theorem dX4_makeEntry_17 : decode cX4_makeEntry 17 = .ok (.iload 5, 2) := by decide +kernel
theorem dX4_makeEntry_19 : decode cX4_makeEntry 19 = .ok (.invokevirtual 315, 3) := by decide +kernel
theorem dX4_makeEntry_22 : decode cX4_makeEntry 22 = .ok (.aload_n 0, 1) := by decide +kernel
theorem dX4_makeEntry_23 : decode cX4_makeEntry 23 = .ok (.getfield 10, 3) := by decide +kernel
theorem dX4_makeEntry_26 : decode cX4_makeEntry 26 = .ok (.iload_n 1, 1) := by decide +kernel
theorem dX4_makeEntry_27 : decode cX4_makeEntry 27 = .ok (.aload_n 0, 1) := by decide +kernel
theorem dX4_makeEntry_28 : decode cX4_makeEntry 28 = .ok (.getfield 19, 3) := by decide +kernel
theorem dX4_makeEntry_31 : decode cX4_makeEntry 31 = .ok (.getfield 226, 3) := by decide +kernel
theorem dX4_makeEntry_34 : decode cX4_makeEntry 34 = .ok (.invokevirtual 319, 3) := by decide +kernel
theorem dX4_makeEntry_37 : decode cX4_makeEntry 37 = .ok (.return_, 1) := by decide +kernel
set_option maxRecDepth 20000 in
theorem ggX4_isKnownByMost_X3_countKnowing : GoodIn wsX4_isKnownByMost wsX3_countKnowing := goodIn_ca (goodIn_r _ [8, 9, 22, 23, 24, 25, 26] (by decide +kernel) (by decide +kernel)) (goodIn_sub (fun _ h => List.mem_cons_of_mem _ (List.mem_append_right _ h)) (by decide +kernel))
set_option maxRecDepth 20000 in
theorem gX4_isKnownByMost_X3_countKnowing : GoodIn wsX4_isKnownByMost (wsV RX4 235 RX3 yX3_countKnowing wsX3_countKnowing) := goodIn_app (goodIn_of _ (by decide +kernel)) ggX4_isKnownByMost_X3_countKnowing
theorem dX4_isKnownByMost_0 : decode cX4_isKnownByMost 0 = .ok (.iconst 0, 1) := by decide +kernel
theorem dX4_isKnownByMost_1 : decode cX4_isKnownByMost 1 = .ok (.istore_n 1, 1) := by decide +kernel
theorem dX4_isKnownByMost_2 : decode cX4_isKnownByMost 2 = .ok (.iload_n 1, 1) := by decide +kernel
theorem dX4_isKnownByMost_3 : decode cX4_isKnownByMost 3 = .ok (.aload_n 0, 1) := by decide +kernel
theorem dX4_isKnownByMost_4 : decode cX4_isKnownByMost 4 = .ok (.getfield 19, 3) := by decide +kernel
theorem dX4_isKnownByMost_7 : decode cX4_isKnownByMost 7 = .ok (.getfield 226, 3) := by decide +kernel
theorem dX4_isKnownByMost_10 : decode cX4_isKnownByMost 10 = .ok (.if_icmp .ge 23, 3) := by decide +kernel
theorem dX4_isKnownByMost_13 : decode cX4_isKnownByMost 13 = .ok (.aload_n 0, 1) := by decide +kernel
theorem dX4_isKnownByMost_14 : decode cX4_isKnownByMost 14 = .ok (.getfield 10, 3) := by decide +kernel
theorem dX4_isKnownByMost_17 : decode cX4_isKnownByMost 17 = .ok (.iload_n 1, 1) := by decide +kernel
theorem dX4_isKnownByMost_18 : decode cX4_isKnownByMost 18 = .ok (.invokevirtual 235, 3) := by decide +kernel
theorem dX4_isKnownByMost_21 : decode cX4_isKnownByMost 21 = .ok (.iconst 3, 1) := by decide +kernel
theorem dX4_isKnownByMost_22 : decode cX4_isKnownByMost 22 = .ok (.if_icmp .ge 5, 3) := by decide +kernel
theorem dX4_isKnownByMost_25 : decode cX4_isKnownByMost 25 = .ok (.iconst 0, 1) := by decide +kernel
theorem dX4_isKnownByMost_26 : decode cX4_isKnownByMost 26 = .ok (.ireturn, 1) := by decide +kernel
theorem dX4_isKnownByMost_27 : decode cX4_isKnownByMost 27 = .ok (.iinc 1 1, 3) := by decide +kernel
theorem dX4_isKnownByMost_30 : decode cX4_isKnownByMost 30 = .ok (.goto (-28), 3) := by decide +kernel
theorem dX4_isKnownByMost_33 : decode cX4_isKnownByMost 33 = .ok (.iconst 1, 1) := by decide +kernel
theorem dX4_isKnownByMost_34 : decode cX4_isKnownByMost 34 = .ok (.ireturn, 1) := by decide +kernel
set_option maxRecDepth 20000 in
theorem ggX4_agreesWithLog_X1_isFree : GoodIn wsX4_agreesWithLog wsX1_isFree := goodIn_ca (goodIn_r _ [10, 11, 12, 41, 42, 43, 44, 45, 46] (by decide +kernel) (by decide +kernel)) (goodIn_sub (fun _ h => List.mem_cons_of_mem _ (List.mem_append_right _ h)) (by decide +kernel))
set_option maxRecDepth 20000 in
theorem gX4_agreesWithLog_X1_isFree : GoodIn wsX4_agreesWithLog (wsV RX4 279 RX1 yX1_isFree wsX1_isFree) := goodIn_app (goodIn_of _ (by decide +kernel)) ggX4_agreesWithLog_X1_isFree
set_option maxRecDepth 20000 in
theorem ggX4_agreesWithLog_X2_holderAt : GoodIn wsX4_agreesWithLog wsX2_holderAt := goodIn_ca (goodIn_r _ [17, 18, 19, 20, 21, 16, 22, 23, 24, 25, 26, 27, 28, 29, 30, 47, 48, 49, 50, 51, 52] (by decide +kernel) (by decide +kernel)) (goodIn_sub (fun _ h => List.mem_cons_of_mem _ (List.mem_append_right _ h)) (by decide +kernel))
set_option maxRecDepth 20000 in
theorem gX4_agreesWithLog_X2_holderAt : GoodIn wsX4_agreesWithLog (wsV RX4 193 RX2 yX2_holderAt wsX2_holderAt) := goodIn_app (goodIn_of _ (by decide +kernel)) ggX4_agreesWithLog_X2_holderAt
set_option maxRecDepth 20000 in
theorem ggX4_agreesWithLog_X2_lastValue : GoodIn wsX4_agreesWithLog wsX2_lastValue := goodIn_ca (goodIn_r _ [34, 18, 23, 24, 25, 47, 48, 49, 50, 51, 52] (by decide +kernel) (by decide +kernel)) (goodIn_sub (fun _ h => List.mem_cons_of_mem _ (List.mem_append_right _ h)) (by decide +kernel))
set_option maxRecDepth 20000 in
theorem gX4_agreesWithLog_X2_lastValue : GoodIn wsX4_agreesWithLog (wsV RX4 212 RX2 yX2_lastValue wsX2_lastValue) := goodIn_app (goodIn_of _ (by decide +kernel)) ggX4_agreesWithLog_X2_lastValue
theorem dX4_agreesWithLog_0 : decode cX4_agreesWithLog 0 = .ok (.iconst 0, 1) := by decide +kernel
theorem dX4_agreesWithLog_1 : decode cX4_agreesWithLog 1 = .ok (.istore_n 1, 1) := by decide +kernel
theorem dX4_agreesWithLog_2 : decode cX4_agreesWithLog 2 = .ok (.iload_n 1, 1) := by decide +kernel
theorem dX4_agreesWithLog_3 : decode cX4_agreesWithLog 3 = .ok (.iconst 4, 1) := by decide +kernel
theorem dX4_agreesWithLog_4 : decode cX4_agreesWithLog 4 = .ok (.if_icmp .ge 76, 3) := by decide +kernel
theorem dX4_agreesWithLog_7 : decode cX4_agreesWithLog 7 = .ok (.aload_n 0, 1) := by decide +kernel
theorem dX4_agreesWithLog_8 : decode cX4_agreesWithLog 8 = .ok (.getfield 26, 3) := by decide +kernel
theorem dX4_agreesWithLog_11 : decode cX4_agreesWithLog 11 = .ok (.iload_n 1, 1) := by decide +kernel
theorem dX4_agreesWithLog_12 : decode cX4_agreesWithLog 12 = .ok (.aload_n 0, 1) := by decide +kernel
theorem dX4_agreesWithLog_13 : decode cX4_agreesWithLog 13 = .ok (.getfield 44, 3) := by decide +kernel
theorem dX4_agreesWithLog_16 : decode cX4_agreesWithLog 16 = .ok (.invokevirtual 279, 3) := by decide +kernel
theorem dX4_agreesWithLog_19 : decode cX4_agreesWithLog 19 = .ok (.ifCond .eq 7, 3) := by decide +kernel
theorem dX4_agreesWithLog_22 : decode cX4_agreesWithLog 22 = .ok (.iconst (-1), 1) := by decide +kernel
theorem dX4_agreesWithLog_23 : decode cX4_agreesWithLog 23 = .ok (.goto 12, 3) := by decide +kernel
theorem dX4_agreesWithLog_26 : decode cX4_agreesWithLog 26 = .ok (.aload_n 0, 1) := by decide +kernel
theorem dX4_agreesWithLog_27 : decode cX4_agreesWithLog 27 = .ok (.getfield 26, 3) := by decide +kernel
theorem dX4_agreesWithLog_30 : decode cX4_agreesWithLog 30 = .ok (.getfield 190, 3) := by decide +kernel
theorem dX4_agreesWithLog_33 : decode cX4_agreesWithLog 33 = .ok (.iload_n 1, 1) := by decide +kernel
theorem dX4_agreesWithLog_34 : decode cX4_agreesWithLog 34 = .ok (.iaload, 1) := by decide +kernel
theorem dX4_agreesWithLog_35 : decode cX4_agreesWithLog 35 = .ok (.istore_n 2, 1) := by decide +kernel
theorem dX4_agreesWithLog_36 : decode cX4_agreesWithLog 36 = .ok (.iload_n 2, 1) := by decide +kernel
theorem dX4_agreesWithLog_37 : decode cX4_agreesWithLog 37 = .ok (.aload_n 0, 1) := by decide +kernel
theorem dX4_agreesWithLog_38 : decode cX4_agreesWithLog 38 = .ok (.getfield 19, 3) := by decide +kernel
theorem dX4_agreesWithLog_41 : decode cX4_agreesWithLog 41 = .ok (.iload_n 1, 1) := by decide +kernel
theorem dX4_agreesWithLog_42 : decode cX4_agreesWithLog 42 = .ok (.aload_n 0, 1) := by decide +kernel
theorem dX4_agreesWithLog_43 : decode cX4_agreesWithLog 43 = .ok (.getfield 44, 3) := by decide +kernel
theorem dX4_agreesWithLog_46 : decode cX4_agreesWithLog 46 = .ok (.invokevirtual 193, 3) := by decide +kernel
theorem dX4_agreesWithLog_49 : decode cX4_agreesWithLog 49 = .ok (.if_icmp .ne 23, 3) := by decide +kernel
theorem dX4_agreesWithLog_52 : decode cX4_agreesWithLog 52 = .ok (.aload_n 0, 1) := by decide +kernel
theorem dX4_agreesWithLog_53 : decode cX4_agreesWithLog 53 = .ok (.getfield 26, 3) := by decide +kernel
theorem dX4_agreesWithLog_56 : decode cX4_agreesWithLog 56 = .ok (.getfield 164, 3) := by decide +kernel
theorem dX4_agreesWithLog_59 : decode cX4_agreesWithLog 59 = .ok (.iload_n 1, 1) := by decide +kernel
theorem dX4_agreesWithLog_60 : decode cX4_agreesWithLog 60 = .ok (.iaload, 1) := by decide +kernel
theorem dX4_agreesWithLog_61 : decode cX4_agreesWithLog 61 = .ok (.aload_n 0, 1) := by decide +kernel
theorem dX4_agreesWithLog_62 : decode cX4_agreesWithLog 62 = .ok (.getfield 19, 3) := by decide +kernel
theorem dX4_agreesWithLog_65 : decode cX4_agreesWithLog 65 = .ok (.iload_n 1, 1) := by decide +kernel
theorem dX4_agreesWithLog_66 : decode cX4_agreesWithLog 66 = .ok (.invokevirtual 212, 3) := by decide +kernel
theorem dX4_agreesWithLog_69 : decode cX4_agreesWithLog 69 = .ok (.if_icmp .eq 5, 3) := by decide +kernel
theorem dX4_agreesWithLog_72 : decode cX4_agreesWithLog 72 = .ok (.iconst 0, 1) := by decide +kernel
theorem dX4_agreesWithLog_73 : decode cX4_agreesWithLog 73 = .ok (.ireturn, 1) := by decide +kernel
theorem dX4_agreesWithLog_74 : decode cX4_agreesWithLog 74 = .ok (.iinc 1 1, 3) := by decide +kernel
theorem dX4_agreesWithLog_77 : decode cX4_agreesWithLog 77 = .ok (.goto (-75), 3) := by decide +kernel
theorem dX4_agreesWithLog_80 : decode cX4_agreesWithLog 80 = .ok (.iconst 1, 1) := by decide +kernel
theorem dX4_agreesWithLog_81 : decode cX4_agreesWithLog 81 = .ok (.ireturn, 1) := by decide +kernel
set_option maxRecDepth 20000 in
theorem ggX4_isClaimedOnce_X0_countClaims : GoodIn wsX4_isClaimedOnce wsX0_countClaims := goodIn_ca (goodIn_r _ [7, 8, 9, 10, 11, 6, 12, 13, 14, 15, 16, 17, 18, 19, 20, 21, 22, 23, 30, 31, 32, 33, 34, 35, 36, 37, 38] (by decide +kernel) (by decide +kernel)) (goodIn_sub (fun _ h => List.mem_cons_of_mem _ (List.mem_append_right _ h)) (by decide +kernel))
set_option maxRecDepth 20000 in
theorem gX4_isClaimedOnce_X0_countClaims : GoodIn wsX4_isClaimedOnce (wsV RX4 209 RX0 yX0_countClaims wsX0_countClaims) := goodIn_app (goodIn_of _ (by decide +kernel)) ggX4_isClaimedOnce_X0_countClaims
theorem dX4_isClaimedOnce_0 : decode cX4_isClaimedOnce 0 = .ok (.iconst 0, 1) := by decide +kernel
theorem dX4_isClaimedOnce_1 : decode cX4_isClaimedOnce 1 = .ok (.istore_n 1, 1) := by decide +kernel
theorem dX4_isClaimedOnce_2 : decode cX4_isClaimedOnce 2 = .ok (.iload_n 1, 1) := by decide +kernel
theorem dX4_isClaimedOnce_3 : decode cX4_isClaimedOnce 3 = .ok (.iconst 4, 1) := by decide +kernel
theorem dX4_isClaimedOnce_4 : decode cX4_isClaimedOnce 4 = .ok (.if_icmp .ge 27, 3) := by decide +kernel
theorem dX4_isClaimedOnce_7 : decode cX4_isClaimedOnce 7 = .ok (.aload_n 0, 1) := by decide +kernel
theorem dX4_isClaimedOnce_8 : decode cX4_isClaimedOnce 8 = .ok (.getfield 33, 3) := by decide +kernel
theorem dX4_isClaimedOnce_11 : decode cX4_isClaimedOnce 11 = .ok (.iload_n 1, 1) := by decide +kernel
theorem dX4_isClaimedOnce_12 : decode cX4_isClaimedOnce 12 = .ok (.aload_n 0, 1) := by decide +kernel
theorem dX4_isClaimedOnce_13 : decode cX4_isClaimedOnce 13 = .ok (.getfield 44, 3) := by decide +kernel
theorem dX4_isClaimedOnce_16 : decode cX4_isClaimedOnce 16 = .ok (.invokevirtual 209, 3) := by decide +kernel
theorem dX4_isClaimedOnce_19 : decode cX4_isClaimedOnce 19 = .ok (.iconst 1, 1) := by decide +kernel
theorem dX4_isClaimedOnce_20 : decode cX4_isClaimedOnce 20 = .ok (.if_icmp .le 5, 3) := by decide +kernel
theorem dX4_isClaimedOnce_23 : decode cX4_isClaimedOnce 23 = .ok (.iconst 0, 1) := by decide +kernel
theorem dX4_isClaimedOnce_24 : decode cX4_isClaimedOnce 24 = .ok (.ireturn, 1) := by decide +kernel
theorem dX4_isClaimedOnce_25 : decode cX4_isClaimedOnce 25 = .ok (.iinc 1 1, 3) := by decide +kernel
theorem dX4_isClaimedOnce_28 : decode cX4_isClaimedOnce 28 = .ok (.goto (-26), 3) := by decide +kernel
theorem dX4_isClaimedOnce_31 : decode cX4_isClaimedOnce 31 = .ok (.iconst 1, 1) := by decide +kernel
theorem dX4_isClaimedOnce_32 : decode cX4_isClaimedOnce 32 = .ok (.ireturn, 1) := by decide +kernel
