set_option maxRecDepth 20000 in
theorem ggL_pass_X4_pass : GoodIn wsL_pass wsX4_pass := goodIn_ca (goodIn_r _ [6, 7, 8, 9, 10, 11, 12, 13, 14, 15] (by decide +kernel) (by decide +kernel)) (goodIn_sub (fun _ h => List.mem_cons_of_mem _ (List.mem_append_right _ h)) (by decide +kernel))
set_option maxRecDepth 20000 in
theorem gL_pass_X4_pass : GoodIn wsL_pass (wsV RL 7 RX4 yX4_pass wsX4_pass) := goodIn_app (goodIn_of _ (by decide +kernel)) ggL_pass_X4_pass
theorem dL_pass_0 : decode cL_pass 0 = .ok (.aload_n 2, 1) := by decide +kernel
theorem dL_pass_1 : decode cL_pass 1 = .ok (.iconst 0, 1) := by decide +kernel
theorem dL_pass_2 : decode cL_pass 2 = .ok (.aload_n 0, 1) := by decide +kernel
theorem dL_pass_3 : decode cL_pass 3 = .ok (.iload_n 1, 1) := by decide +kernel
theorem dL_pass_4 : decode cL_pass 4 = .ok (.invokevirtual 7, 3) := by decide +kernel
theorem dL_pass_7 : decode cL_pass 7 = .ok (.i2l, 1) := by decide +kernel
theorem dL_pass_8 : decode cL_pass 8 = .ok (.lastore, 1) := by decide +kernel
theorem dL_pass_9 : decode cL_pass 9 = .ok (.goto 6, 3) := by decide +kernel
theorem dL_pass_12 : decode cL_pass 12 = .ok (.astore_n 3, 1) := by decide +kernel
theorem dL_pass_13 : decode cL_pass 13 = .ok (.iconst 1, 1) := by decide +kernel
theorem dL_pass_14 : decode cL_pass 14 = .ok (.ireturn, 1) := by decide +kernel
theorem dL_pass_15 : decode cL_pass 15 = .ok (.iconst 0, 1) := by decide +kernel
theorem dL_pass_16 : decode cL_pass 16 = .ok (.ireturn, 1) := by decide +kernel
set_option maxRecDepth 20000 in
theorem ggL_setDown_X4_setDown : GoodIn wsL_setDown wsX4_setDown := goodIn_ca (goodIn_ca (goodIn_r _ [6, 7, 8, 9, 10, 11, 5, 12, 13, 14, 15, 16, 17, 18, 19, 20, 21, 22, 23, 24, 25] (by decide +kernel) (by decide +kernel)) (goodIn_sub (fun _ h => List.mem_cons_of_mem _ (List.mem_append_left _ (List.mem_append_right _ h))) (by decide +kernel))) (goodIn_sub (fun _ h => List.mem_cons_of_mem _ (List.mem_append_right _ h)) (by decide +kernel))
set_option maxRecDepth 20000 in
theorem gL_setDown_X4_setDown : GoodIn wsL_setDown (wsV RL 15 RX4 yX4_setDown wsX4_setDown) := goodIn_app (goodIn_of _ (by decide +kernel)) ggL_setDown_X4_setDown
theorem dL_setDown_0 : decode cL_setDown 0 = .ok (.aload_n 3, 1) := by decide +kernel
theorem dL_setDown_1 : decode cL_setDown 1 = .ok (.iconst 0, 1) := by decide +kernel
theorem dL_setDown_2 : decode cL_setDown 2 = .ok (.aload_n 0, 1) := by decide +kernel
theorem dL_setDown_3 : decode cL_setDown 3 = .ok (.iload_n 1, 1) := by decide +kernel
theorem dL_setDown_4 : decode cL_setDown 4 = .ok (.iload_n 2, 1) := by decide +kernel
theorem dL_setDown_5 : decode cL_setDown 5 = .ok (.invokevirtual 15, 3) := by decide +kernel
theorem dL_setDown_8 : decode cL_setDown 8 = .ok (.ifCond .eq 7, 3) := by decide +kernel
theorem dL_setDown_11 : decode cL_setDown 11 = .ok (.lconst 1, 1) := by decide +kernel
theorem dL_setDown_12 : decode cL_setDown 12 = .ok (.goto 4, 3) := by decide +kernel
theorem dL_setDown_15 : decode cL_setDown 15 = .ok (.lconst 0, 1) := by decide +kernel
theorem dL_setDown_16 : decode cL_setDown 16 = .ok (.lastore, 1) := by decide +kernel
theorem dL_setDown_17 : decode cL_setDown 17 = .ok (.goto 7, 3) := by decide +kernel
theorem dL_setDown_20 : decode cL_setDown 20 = .ok (.astore 4, 2) := by decide +kernel
theorem dL_setDown_22 : decode cL_setDown 22 = .ok (.iconst 1, 1) := by decide +kernel
theorem dL_setDown_23 : decode cL_setDown 23 = .ok (.ireturn, 1) := by decide +kernel
theorem dL_setDown_24 : decode cL_setDown 24 = .ok (.iconst 0, 1) := by decide +kernel
theorem dL_setDown_25 : decode cL_setDown 25 = .ok (.ireturn, 1) := by decide +kernel
set_option maxRecDepth 20000 in
theorem ggL_setCut_X4_setCut : GoodIn wsL_setCut wsX4_setCut := goodIn_ca (goodIn_ca (goodIn_ca (goodIn_r _ [7, 8, 9, 10, 11, 12, 13, 6, 14, 15, 16, 17, 18, 19, 20, 21, 22, 23, 24, 25, 26, 27, 28, 29, 30, 31, 32, 33] (by decide +kernel) (by decide +kernel)) (goodIn_sub (fun _ h => List.mem_cons_of_mem _ (List.mem_append_left _ (List.mem_append_right _ h))) (by decide +kernel))) (goodIn_sub (fun _ h => List.mem_cons_of_mem _ (List.mem_append_right _ h)) (by decide +kernel))) (goodIn_sub (fun _ h => List.mem_cons_of_mem _ (List.mem_append_left _ (List.mem_append_left _ (List.mem_append_right _ h)))) (by decide +kernel))
set_option maxRecDepth 20000 in
theorem gL_setCut_X4_setCut : GoodIn wsL_setCut (wsV RL 21 RX4 yX4_setCut wsX4_setCut) := goodIn_app (goodIn_of _ (by decide +kernel)) ggL_setCut_X4_setCut
theorem dL_setCut_0 : decode cL_setCut 0 = .ok (.aload 4, 2) := by decide +kernel
theorem dL_setCut_2 : decode cL_setCut 2 = .ok (.iconst 0, 1) := by decide +kernel
theorem dL_setCut_3 : decode cL_setCut 3 = .ok (.aload_n 0, 1) := by decide +kernel
theorem dL_setCut_4 : decode cL_setCut 4 = .ok (.iload_n 1, 1) := by decide +kernel
theorem dL_setCut_5 : decode cL_setCut 5 = .ok (.iload_n 2, 1) := by decide +kernel
theorem dL_setCut_6 : decode cL_setCut 6 = .ok (.iload_n 3, 1) := by decide +kernel
theorem dL_setCut_7 : decode cL_setCut 7 = .ok (.invokevirtual 21, 3) := by decide +kernel
theorem dL_setCut_10 : decode cL_setCut 10 = .ok (.ifCond .eq 7, 3) := by decide +kernel
theorem dL_setCut_13 : decode cL_setCut 13 = .ok (.lconst 1, 1) := by decide +kernel
theorem dL_setCut_14 : decode cL_setCut 14 = .ok (.goto 4, 3) := by decide +kernel
theorem dL_setCut_17 : decode cL_setCut 17 = .ok (.lconst 0, 1) := by decide +kernel
theorem dL_setCut_18 : decode cL_setCut 18 = .ok (.lastore, 1) := by decide +kernel
theorem dL_setCut_19 : decode cL_setCut 19 = .ok (.goto 11, 3) := by decide +kernel
theorem dL_setCut_22 : decode cL_setCut 22 = .ok (.astore 5, 2) := by decide +kernel
theorem dL_setCut_24 : decode cL_setCut 24 = .ok (.iconst 1, 1) := by decide +kernel
theorem dL_setCut_25 : decode cL_setCut 25 = .ok (.ireturn, 1) := by decide +kernel
theorem dL_setCut_26 : decode cL_setCut 26 = .ok (.astore 5, 2) := by decide +kernel
theorem dL_setCut_28 : decode cL_setCut 28 = .ok (.iconst 2, 1) := by decide +kernel
theorem dL_setCut_29 : decode cL_setCut 29 = .ok (.ireturn, 1) := by decide +kernel
theorem dL_setCut_30 : decode cL_setCut 30 = .ok (.iconst 0, 1) := by decide +kernel
theorem dL_setCut_31 : decode cL_setCut 31 = .ok (.ireturn, 1) := by decide +kernel
set_option maxRecDepth 20000 in
theorem ggL_reached_X4_reached : GoodIn wsL_reached wsX4_reached := goodIn_ca (goodIn_ca (goodIn_r _ [6, 7, 8, 9, 10, 5, 11, 12, 13, 14, 15, 16, 17, 18, 19, 20, 21, 22, 23, 24, 25, 26, 27, 28, 29, 30, 31, 32, 33, 34, 35] (by decide +kernel) (by decide +kernel)) (goodIn_sub (fun _ h => List.mem_cons_of_mem _ (List.mem_append_right _ h)) (by decide +kernel))) (goodIn_sub (fun _ h => List.mem_cons_of_mem _ (List.mem_append_left _ (List.mem_append_right _ h))) (by decide +kernel))
set_option maxRecDepth 20000 in
theorem gL_reached_X4_reached : GoodIn wsL_reached (wsV RL 25 RX4 yX4_reached wsX4_reached) := goodIn_app (goodIn_of _ (by decide +kernel)) ggL_reached_X4_reached
theorem dL_reached_0 : decode cL_reached 0 = .ok (.aload_n 2, 1) := by decide +kernel
theorem dL_reached_1 : decode cL_reached 1 = .ok (.iconst 0, 1) := by decide +kernel
theorem dL_reached_2 : decode cL_reached 2 = .ok (.aload_n 0, 1) := by decide +kernel
theorem dL_reached_3 : decode cL_reached 3 = .ok (.iload_n 1, 1) := by decide +kernel
theorem dL_reached_4 : decode cL_reached 4 = .ok (.invokevirtual 25, 3) := by decide +kernel
theorem dL_reached_7 : decode cL_reached 7 = .ok (.i2l, 1) := by decide +kernel
theorem dL_reached_8 : decode cL_reached 8 = .ok (.lastore, 1) := by decide +kernel
theorem dL_reached_9 : decode cL_reached 9 = .ok (.goto 6, 3) := by decide +kernel
theorem dL_reached_12 : decode cL_reached 12 = .ok (.astore_n 3, 1) := by decide +kernel
theorem dL_reached_13 : decode cL_reached 13 = .ok (.iconst 1, 1) := by decide +kernel
theorem dL_reached_14 : decode cL_reached 14 = .ok (.ireturn, 1) := by decide +kernel
theorem dL_reached_15 : decode cL_reached 15 = .ok (.iconst 0, 1) := by decide +kernel
theorem dL_reached_16 : decode cL_reached 16 = .ok (.ireturn, 1) := by decide +kernel
set_option maxRecDepth 20000 in
theorem ggL_stand_X4_stand : GoodIn wsL_stand wsX4_stand := goodIn_ca (goodIn_ca (goodIn_ca (goodIn_r _ [7, 8, 9, 10, 11, 12, 13, 14, 6, 15, 16, 17, 18, 19, 20, 21, 22, 23, 24, 25, 26, 27, 28, 29, 30, 31, 32, 33, 34, 35, 36, 37, 38, 39, 40, 41, 42] (by decide +kernel) (by decide +kernel)) (goodIn_sub (fun _ h => List.mem_cons_of_mem _ (List.mem_append_left _ (List.mem_append_left _ (List.mem_append_right _ h)))) (by decide +kernel))) (goodIn_sub (fun _ h => List.mem_cons_of_mem _ (List.mem_append_left _ (List.mem_append_right _ h))) (by decide +kernel))) (goodIn_sub (fun _ h => List.mem_cons_of_mem _ (List.mem_append_right _ h)) (by decide +kernel))
set_option maxRecDepth 20000 in
theorem gL_stand_X4_stand : GoodIn wsL_stand (wsV RL 28 RX4 yX4_stand wsX4_stand) := goodIn_app (goodIn_of _ (by decide +kernel)) ggL_stand_X4_stand
theorem dL_stand_0 : decode cL_stand 0 = .ok (.aload_n 2, 1) := by decide +kernel
theorem dL_stand_1 : decode cL_stand 1 = .ok (.iconst 0, 1) := by decide +kernel
theorem dL_stand_2 : decode cL_stand 2 = .ok (.aload_n 0, 1) := by decide +kernel
theorem dL_stand_3 : decode cL_stand 3 = .ok (.iload_n 1, 1) := by decide +kernel
theorem dL_stand_4 : decode cL_stand 4 = .ok (.invokevirtual 28, 3) := by decide +kernel
theorem dL_stand_7 : decode cL_stand 7 = .ok (.i2l, 1) := by decide +kernel
theorem dL_stand_8 : decode cL_stand 8 = .ok (.lastore, 1) := by decide +kernel
theorem dL_stand_9 : decode cL_stand 9 = .ok (.goto 9, 3) := by decide +kernel
theorem dL_stand_12 : decode cL_stand 12 = .ok (.astore_n 3, 1) := by decide +kernel
theorem dL_stand_13 : decode cL_stand 13 = .ok (.iconst 1, 1) := by decide +kernel
theorem dL_stand_14 : decode cL_stand 14 = .ok (.ireturn, 1) := by decide +kernel
theorem dL_stand_15 : decode cL_stand 15 = .ok (.astore_n 3, 1) := by decide +kernel
theorem dL_stand_16 : decode cL_stand 16 = .ok (.iconst 2, 1) := by decide +kernel
theorem dL_stand_17 : decode cL_stand 17 = .ok (.ireturn, 1) := by decide +kernel
theorem dL_stand_18 : decode cL_stand 18 = .ok (.iconst 0, 1) := by decide +kernel
theorem dL_stand_19 : decode cL_stand 19 = .ok (.ireturn, 1) := by decide +kernel
set_option maxRecDepth 20000 in
theorem ggL_termOf_X4_termOf : GoodIn wsL_termOf wsX4_termOf := goodIn_ca (goodIn_ca (goodIn_r _ [6, 7, 8, 9, 10, 11, 5, 12, 13, 14, 15, 16, 17, 18, 19, 20, 21, 22, 23, 24, 25] (by decide +kernel) (by decide +kernel)) (goodIn_sub (fun _ h => List.mem_cons_of_mem _ (List.mem_append_left _ (List.mem_append_right _ h))) (by decide +kernel))) (goodIn_sub (fun _ h => List.mem_cons_of_mem _ (List.mem_append_right _ h)) (by decide +kernel))
set_option maxRecDepth 20000 in
theorem gL_termOf_X4_termOf : GoodIn wsL_termOf (wsV RL 33 RX4 yX4_termOf wsX4_termOf) := goodIn_app (goodIn_of _ (by decide +kernel)) ggL_termOf_X4_termOf
theorem dL_termOf_0 : decode cL_termOf 0 = .ok (.aload_n 2, 1) := by decide +kernel
theorem dL_termOf_1 : decode cL_termOf 1 = .ok (.iconst 0, 1) := by decide +kernel
theorem dL_termOf_2 : decode cL_termOf 2 = .ok (.aload_n 0, 1) := by decide +kernel
theorem dL_termOf_3 : decode cL_termOf 3 = .ok (.iload_n 1, 1) := by decide +kernel
theorem dL_termOf_4 : decode cL_termOf 4 = .ok (.invokevirtual 33, 3) := by decide +kernel
theorem dL_termOf_7 : decode cL_termOf 7 = .ok (.i2l, 1) := by decide +kernel
theorem dL_termOf_8 : decode cL_termOf 8 = .ok (.lastore, 1) := by decide +kernel
theorem dL_termOf_9 : decode cL_termOf 9 = .ok (.goto 6, 3) := by decide +kernel
theorem dL_termOf_12 : decode cL_termOf 12 = .ok (.astore_n 3, 1) := by decide +kernel
theorem dL_termOf_13 : decode cL_termOf 13 = .ok (.iconst 1, 1) := by decide +kernel
theorem dL_termOf_14 : decode cL_termOf 14 = .ok (.ireturn, 1) := by decide +kernel
theorem dL_termOf_15 : decode cL_termOf 15 = .ok (.iconst 0, 1) := by decide +kernel
theorem dL_termOf_16 : decode cL_termOf 16 = .ok (.ireturn, 1) := by decide +kernel
set_option maxRecDepth 20000 in
theorem ggL_isLeader_X4_isLeader : GoodIn wsL_isLeader wsX4_isLeader := goodIn_ca (goodIn_ca (goodIn_r _ [6, 7, 8, 9, 10, 5, 11, 12, 13, 14, 15, 16, 17, 18, 19, 20, 21, 22, 23, 24, 25, 26, 27, 28, 29, 30, 31, 32, 33, 34, 35] (by decide +kernel) (by decide +kernel)) (goodIn_sub (fun _ h => List.mem_cons_of_mem _ (List.mem_append_right _ h)) (by decide +kernel))) (goodIn_sub (fun _ h => List.mem_cons_of_mem _ (List.mem_append_left _ (List.mem_append_right _ h))) (by decide +kernel))
set_option maxRecDepth 20000 in
theorem gL_isLeader_X4_isLeader : GoodIn wsL_isLeader (wsV RL 36 RX4 yX4_isLeader wsX4_isLeader) := goodIn_app (goodIn_of _ (by decide +kernel)) ggL_isLeader_X4_isLeader
theorem dL_isLeader_0 : decode cL_isLeader 0 = .ok (.aload_n 2, 1) := by decide +kernel
theorem dL_isLeader_1 : decode cL_isLeader 1 = .ok (.iconst 0, 1) := by decide +kernel
theorem dL_isLeader_2 : decode cL_isLeader 2 = .ok (.aload_n 0, 1) := by decide +kernel
theorem dL_isLeader_3 : decode cL_isLeader 3 = .ok (.iload_n 1, 1) := by decide +kernel
theorem dL_isLeader_4 : decode cL_isLeader 4 = .ok (.invokevirtual 36, 3) := by decide +kernel
theorem dL_isLeader_7 : decode cL_isLeader 7 = .ok (.ifCond .eq 7, 3) := by decide +kernel
theorem dL_isLeader_10 : decode cL_isLeader 10 = .ok (.lconst 1, 1) := by decide +kernel
theorem dL_isLeader_11 : decode cL_isLeader 11 = .ok (.goto 4, 3) := by decide +kernel
theorem dL_isLeader_14 : decode cL_isLeader 14 = .ok (.lconst 0, 1) := by decide +kernel
theorem dL_isLeader_15 : decode cL_isLeader 15 = .ok (.lastore, 1) := by decide +kernel
theorem dL_isLeader_16 : decode cL_isLeader 16 = .ok (.goto 6, 3) := by decide +kernel
theorem dL_isLeader_19 : decode cL_isLeader 19 = .ok (.astore_n 3, 1) := by decide +kernel
theorem dL_isLeader_20 : decode cL_isLeader 20 = .ok (.iconst 1, 1) := by decide +kernel
theorem dL_isLeader_21 : decode cL_isLeader 21 = .ok (.ireturn, 1) := by decide +kernel
theorem dL_isLeader_22 : decode cL_isLeader 22 = .ok (.iconst 0, 1) := by decide +kernel
theorem dL_isLeader_23 : decode cL_isLeader 23 = .ok (.ireturn, 1) := by decide +kernel
set_option maxRecDepth 20000 in
theorem ggL_leaderOf_X4_leaderOf : GoodIn wsL_leaderOf wsX4_leaderOf := goodIn_ca (goodIn_ca (goodIn_r _ [6, 7, 8, 9, 10, 11, 12, 13, 14, 15, 16, 17, 18, 19, 20, 21, 22, 23, 24, 25, 26] (by decide +kernel) (by decide +kernel)) (goodIn_sub (fun _ h => List.mem_cons_of_mem _ (List.mem_append_right _ h)) (by decide +kernel))) (goodIn_sub (fun _ h => List.mem_cons_of_mem _ (List.mem_append_left _ (List.mem_append_right _ h))) (by decide +kernel))
set_option maxRecDepth 20000 in
theorem gL_leaderOf_X4_leaderOf : GoodIn wsL_leaderOf (wsV RL 40 RX4 yX4_leaderOf wsX4_leaderOf) := goodIn_app (goodIn_of _ (by decide +kernel)) ggL_leaderOf_X4_leaderOf
theorem dL_leaderOf_0 : decode cL_leaderOf 0 = .ok (.aload_n 2, 1) := by decide +kernel
theorem dL_leaderOf_1 : decode cL_leaderOf 1 = .ok (.iconst 0, 1) := by decide +kernel
theorem dL_leaderOf_2 : decode cL_leaderOf 2 = .ok (.aload_n 0, 1) := by decide +kernel
theorem dL_leaderOf_3 : decode cL_leaderOf 3 = .ok (.iload_n 1, 1) := by decide +kernel
theorem dL_leaderOf_4 : decode cL_leaderOf 4 = .ok (.invokevirtual 40, 3) := by decide +kernel
theorem dL_leaderOf_7 : decode cL_leaderOf 7 = .ok (.i2l, 1) := by decide +kernel
theorem dL_leaderOf_8 : decode cL_leaderOf 8 = .ok (.lastore, 1) := by decide +kernel
theorem dL_leaderOf_9 : decode cL_leaderOf 9 = .ok (.goto 6, 3) := by decide +kernel
theorem dL_leaderOf_12 : decode cL_leaderOf 12 = .ok (.astore_n 3, 1) := by decide +kernel
theorem dL_leaderOf_13 : decode cL_leaderOf 13 = .ok (.iconst 1, 1) := by decide +kernel
theorem dL_leaderOf_14 : decode cL_leaderOf 14 = .ok (.ireturn, 1) := by decide +kernel
theorem dL_leaderOf_15 : decode cL_leaderOf 15 = .ok (.iconst 0, 1) := by decide +kernel
theorem dL_leaderOf_16 : decode cL_leaderOf 16 = .ok (.ireturn, 1) := by decide +kernel
set_option maxRecDepth 20000 in
theorem ggL_known_X4_known : GoodIn wsL_known wsX4_known := goodIn_ca (goodIn_ca (goodIn_r _ [6, 7, 8, 9, 10, 11, 5, 12, 13, 14, 15, 16, 17, 18, 19, 20, 21, 22, 23, 24, 25] (by decide +kernel) (by decide +kernel)) (goodIn_sub (fun _ h => List.mem_cons_of_mem _ (List.mem_append_left _ (List.mem_append_right _ h))) (by decide +kernel))) (goodIn_sub (fun _ h => List.mem_cons_of_mem _ (List.mem_append_right _ h)) (by decide +kernel))
set_option maxRecDepth 20000 in
theorem gL_known_X4_known : GoodIn wsL_known (wsV RL 45 RX4 yX4_known wsX4_known) := goodIn_app (goodIn_of _ (by decide +kernel)) ggL_known_X4_known
theorem dL_known_0 : decode cL_known 0 = .ok (.aload_n 2, 1) := by decide +kernel
theorem dL_known_1 : decode cL_known 1 = .ok (.iconst 0, 1) := by decide +kernel
theorem dL_known_2 : decode cL_known 2 = .ok (.aload_n 0, 1) := by decide +kernel
theorem dL_known_3 : decode cL_known 3 = .ok (.iload_n 1, 1) := by decide +kernel
theorem dL_known_4 : decode cL_known 4 = .ok (.invokevirtual 45, 3) := by decide +kernel
theorem dL_known_7 : decode cL_known 7 = .ok (.i2l, 1) := by decide +kernel
theorem dL_known_8 : decode cL_known 8 = .ok (.lastore, 1) := by decide +kernel
theorem dL_known_9 : decode cL_known 9 = .ok (.goto 6, 3) := by decide +kernel
theorem dL_known_12 : decode cL_known 12 = .ok (.astore_n 3, 1) := by decide +kernel
theorem dL_known_13 : decode cL_known 13 = .ok (.iconst 1, 1) := by decide +kernel
theorem dL_known_14 : decode cL_known 14 = .ok (.ireturn, 1) := by decide +kernel
theorem dL_known_15 : decode cL_known 15 = .ok (.iconst 0, 1) := by decide +kernel
theorem dL_known_16 : decode cL_known 16 = .ok (.ireturn, 1) := by decide +kernel
set_option maxRecDepth 20000 in
theorem ggL_ownerKnown_X4_ownerKnown : GoodIn wsL_ownerKnown wsX4_ownerKnown := goodIn_ca (goodIn_ca (goodIn_ca (goodIn_r _ [7, 8, 9, 10, 11, 12, 13, 14, 15, 6, 16, 17, 18, 19, 20, 21, 22, 23, 24, 25, 26, 27, 28, 29, 30, 31, 32, 33, 34, 35, 36, 37, 38, 39, 40, 41, 42, 43, 44, 45, 46, 47, 48] (by decide +kernel) (by decide +kernel)) (goodIn_sub (fun _ h => List.mem_cons_of_mem _ (List.mem_append_left _ (List.mem_append_left _ (List.mem_append_right _ h)))) (by decide +kernel))) (goodIn_sub (fun _ h => List.mem_cons_of_mem _ (List.mem_append_left _ (List.mem_append_right _ h))) (by decide +kernel))) (goodIn_sub (fun _ h => List.mem_cons_of_mem _ (List.mem_append_right _ h)) (by decide +kernel))
set_option maxRecDepth 20000 in
theorem gL_ownerKnown_X4_ownerKnown : GoodIn wsL_ownerKnown (wsV RL 48 RX4 yX4_ownerKnown wsX4_ownerKnown) := goodIn_app (goodIn_of _ (by decide +kernel)) ggL_ownerKnown_X4_ownerKnown
theorem dL_ownerKnown_0 : decode cL_ownerKnown 0 = .ok (.aload_n 3, 1) := by decide +kernel
theorem dL_ownerKnown_1 : decode cL_ownerKnown 1 = .ok (.iconst 0, 1) := by decide +kernel
theorem dL_ownerKnown_2 : decode cL_ownerKnown 2 = .ok (.aload_n 0, 1) := by decide +kernel
theorem dL_ownerKnown_3 : decode cL_ownerKnown 3 = .ok (.iload_n 1, 1) := by decide +kernel
theorem dL_ownerKnown_4 : decode cL_ownerKnown 4 = .ok (.iload_n 2, 1) := by decide +kernel
theorem dL_ownerKnown_5 : decode cL_ownerKnown 5 = .ok (.invokevirtual 48, 3) := by decide +kernel
theorem dL_ownerKnown_8 : decode cL_ownerKnown 8 = .ok (.i2l, 1) := by decide +kernel
theorem dL_ownerKnown_9 : decode cL_ownerKnown 9 = .ok (.lastore, 1) := by decide +kernel
theorem dL_ownerKnown_10 : decode cL_ownerKnown 10 = .ok (.goto 11, 3) := by decide +kernel
theorem dL_ownerKnown_13 : decode cL_ownerKnown 13 = .ok (.astore 4, 2) := by decide +kernel
theorem dL_ownerKnown_15 : decode cL_ownerKnown 15 = .ok (.iconst 1, 1) := by decide +kernel
theorem dL_ownerKnown_16 : decode cL_ownerKnown 16 = .ok (.ireturn, 1) := by decide +kernel
theorem dL_ownerKnown_17 : decode cL_ownerKnown 17 = .ok (.astore 4, 2) := by decide +kernel
theorem dL_ownerKnown_19 : decode cL_ownerKnown 19 = .ok (.iconst 2, 1) := by decide +kernel
theorem dL_ownerKnown_20 : decode cL_ownerKnown 20 = .ok (.ireturn, 1) := by decide +kernel
theorem dL_ownerKnown_21 : decode cL_ownerKnown 21 = .ok (.iconst 0, 1) := by decide +kernel
theorem dL_ownerKnown_22 : decode cL_ownerKnown 22 = .ok (.ireturn, 1) := by decide +kernel
set_option maxRecDepth 20000 in
theorem ggL_addClient_X4_addClient : GoodIn wsL_addClient wsX4_addClient := goodIn_ca (goodIn_r _ [6, 7, 8, 9, 10, 11, 12, 13, 14, 15, 16, 17, 18, 19, 20, 21, 22, 23, 24, 25] (by decide +kernel) (by decide +kernel)) (goodIn_sub (fun _ h => List.mem_cons_of_mem _ (List.mem_append_right _ h)) (by decide +kernel))
set_option maxRecDepth 20000 in
theorem gL_addClient_X4_addClient : GoodIn wsL_addClient (wsV RL 52 RX4 yX4_addClient wsX4_addClient) := goodIn_app (goodIn_of _ (by decide +kernel)) ggL_addClient_X4_addClient
theorem dL_addClient_0 : decode cL_addClient 0 = .ok (.aload_n 1, 1) := by decide +kernel
theorem dL_addClient_1 : decode cL_addClient 1 = .ok (.iconst 0, 1) := by decide +kernel
theorem dL_addClient_2 : decode cL_addClient 2 = .ok (.aload_n 0, 1) := by decide +kernel
theorem dL_addClient_3 : decode cL_addClient 3 = .ok (.invokevirtual 52, 3) := by decide +kernel
theorem dL_addClient_6 : decode cL_addClient 6 = .ok (.i2l, 1) := by decide +kernel
theorem dL_addClient_7 : decode cL_addClient 7 = .ok (.lastore, 1) := by decide +kernel
theorem dL_addClient_8 : decode cL_addClient 8 = .ok (.goto 6, 3) := by decide +kernel
theorem dL_addClient_11 : decode cL_addClient 11 = .ok (.astore_n 2, 1) := by decide +kernel
theorem dL_addClient_12 : decode cL_addClient 12 = .ok (.iconst 1, 1) := by decide +kernel
theorem dL_addClient_13 : decode cL_addClient 13 = .ok (.ireturn, 1) := by decide +kernel
theorem dL_addClient_14 : decode cL_addClient 14 = .ok (.iconst 0, 1) := by decide +kernel
theorem dL_addClient_15 : decode cL_addClient 15 = .ok (.ireturn, 1) := by decide +kernel
set_option maxRecDepth 20000 in
theorem ggL_setOffset_X4_setOffset : GoodIn wsL_setOffset wsX4_setOffset := goodIn_ca (goodIn_ca (goodIn_ca (goodIn_r _ [7, 8, 9, 10, 11, 12, 13, 14, 6, 15, 16, 17, 18, 19, 20, 21, 22, 23, 24, 25, 26, 27, 28, 29, 30, 31, 32, 33] (by decide +kernel) (by decide +kernel)) (goodIn_sub (fun _ h => List.mem_cons_of_mem _ (List.mem_append_left _ (List.mem_append_right _ h))) (by decide +kernel))) (goodIn_sub (fun _ h => List.mem_cons_of_mem _ (List.mem_append_left _ (List.mem_append_left _ (List.mem_append_right _ h)))) (by decide +kernel))) (goodIn_sub (fun _ h => List.mem_cons_of_mem _ (List.mem_append_right _ h)) (by decide +kernel))
set_option maxRecDepth 20000 in
theorem gL_setOffset_X4_setOffset : GoodIn wsL_setOffset (wsV RL 56 RX4 yX4_setOffset wsX4_setOffset) := goodIn_app (goodIn_of _ (by decide +kernel)) ggL_setOffset_X4_setOffset
theorem dL_setOffset_0 : decode cL_setOffset 0 = .ok (.aload_n 3, 1) := by decide +kernel
theorem dL_setOffset_1 : decode cL_setOffset 1 = .ok (.iconst 0, 1) := by decide +kernel
theorem dL_setOffset_2 : decode cL_setOffset 2 = .ok (.aload_n 0, 1) := by decide +kernel
theorem dL_setOffset_3 : decode cL_setOffset 3 = .ok (.iload_n 1, 1) := by decide +kernel
theorem dL_setOffset_4 : decode cL_setOffset 4 = .ok (.iload_n 2, 1) := by decide +kernel
theorem dL_setOffset_5 : decode cL_setOffset 5 = .ok (.invokevirtual 56, 3) := by decide +kernel
theorem dL_setOffset_8 : decode cL_setOffset 8 = .ok (.i2l, 1) := by decide +kernel
theorem dL_setOffset_9 : decode cL_setOffset 9 = .ok (.lastore, 1) := by decide +kernel
theorem dL_setOffset_10 : decode cL_setOffset 10 = .ok (.goto 11, 3) := by decide +kernel
theorem dL_setOffset_13 : decode cL_setOffset 13 = .ok (.astore 4, 2) := by decide +kernel
theorem dL_setOffset_15 : decode cL_setOffset 15 = .ok (.iconst 1, 1) := by decide +kernel
theorem dL_setOffset_16 : decode cL_setOffset 16 = .ok (.ireturn, 1) := by decide +kernel
theorem dL_setOffset_17 : decode cL_setOffset 17 = .ok (.astore 4, 2) := by decide +kernel
theorem dL_setOffset_19 : decode cL_setOffset 19 = .ok (.iconst 2, 1) := by decide +kernel
theorem dL_setOffset_20 : decode cL_setOffset 20 = .ok (.ireturn, 1) := by decide +kernel
theorem dL_setOffset_21 : decode cL_setOffset 21 = .ok (.iconst 0, 1) := by decide +kernel
theorem dL_setOffset_22 : decode cL_setOffset 22 = .ok (.ireturn, 1) := by decide +kernel
set_option maxRecDepth 20000 in
theorem ggL_setPaused_X4_setPaused : GoodIn wsL_setPaused wsX4_setPaused := goodIn_ca (goodIn_ca (goodIn_r _ [6, 7, 8, 9, 10, 11, 5, 12, 13, 14, 15, 16, 17, 18, 19, 20, 21, 22, 23, 24, 25, 26, 27, 28, 29, 30] (by decide +kernel) (by decide +kernel)) (goodIn_sub (fun _ h => List.mem_cons_of_mem _ (List.mem_append_left _ (List.mem_append_right _ h))) (by decide +kernel))) (goodIn_sub (fun _ h => List.mem_cons_of_mem _ (List.mem_append_right _ h)) (by decide +kernel))
set_option maxRecDepth 20000 in
theorem gL_setPaused_X4_setPaused : GoodIn wsL_setPaused (wsV RL 59 RX4 yX4_setPaused wsX4_setPaused) := goodIn_app (goodIn_of _ (by decide +kernel)) ggL_setPaused_X4_setPaused
theorem dL_setPaused_0 : decode cL_setPaused 0 = .ok (.aload_n 3, 1) := by decide +kernel
theorem dL_setPaused_1 : decode cL_setPaused 1 = .ok (.iconst 0, 1) := by decide +kernel
theorem dL_setPaused_2 : decode cL_setPaused 2 = .ok (.aload_n 0, 1) := by decide +kernel
theorem dL_setPaused_3 : decode cL_setPaused 3 = .ok (.iload_n 1, 1) := by decide +kernel
theorem dL_setPaused_4 : decode cL_setPaused 4 = .ok (.iload_n 2, 1) := by decide +kernel
theorem dL_setPaused_5 : decode cL_setPaused 5 = .ok (.invokevirtual 59, 3) := by decide +kernel
theorem dL_setPaused_8 : decode cL_setPaused 8 = .ok (.ifCond .eq 7, 3) := by decide +kernel
theorem dL_setPaused_11 : decode cL_setPaused 11 = .ok (.lconst 1, 1) := by decide +kernel
theorem dL_setPaused_12 : decode cL_setPaused 12 = .ok (.goto 4, 3) := by decide +kernel
theorem dL_setPaused_15 : decode cL_setPaused 15 = .ok (.lconst 0, 1) := by decide +kernel
theorem dL_setPaused_16 : decode cL_setPaused 16 = .ok (.lastore, 1) := by decide +kernel
theorem dL_setPaused_17 : decode cL_setPaused 17 = .ok (.goto 7, 3) := by decide +kernel
theorem dL_setPaused_20 : decode cL_setPaused 20 = .ok (.astore 4, 2) := by decide +kernel
theorem dL_setPaused_22 : decode cL_setPaused 22 = .ok (.iconst 1, 1) := by decide +kernel
theorem dL_setPaused_23 : decode cL_setPaused 23 = .ok (.ireturn, 1) := by decide +kernel
theorem dL_setPaused_24 : decode cL_setPaused 24 = .ok (.iconst 0, 1) := by decide +kernel
theorem dL_setPaused_25 : decode cL_setPaused 25 = .ok (.ireturn, 1) := by decide +kernel
set_option maxRecDepth 20000 in
theorem ggL_clockOf_X4_clockOf : GoodIn wsL_clockOf wsX4_clockOf := goodIn_ca (goodIn_ca (goodIn_r _ [6, 7, 8, 9, 10, 11, 5, 12, 13, 14, 15, 16, 17, 18, 19, 20, 21, 22, 23, 24, 25, 26, 27, 28, 29, 30, 31, 32, 33, 34, 35, 36] (by decide +kernel) (by decide +kernel)) (goodIn_sub (fun _ h => List.mem_cons_of_mem _ (List.mem_append_right _ h)) (by decide +kernel))) (goodIn_sub (fun _ h => List.mem_cons_of_mem _ (List.mem_append_left _ (List.mem_append_right _ h))) (by decide +kernel))
set_option maxRecDepth 20000 in
theorem gL_clockOf_X4_clockOf : GoodIn wsL_clockOf (wsV RL 62 RX4 yX4_clockOf wsX4_clockOf) := goodIn_app (goodIn_of _ (by decide +kernel)) ggL_clockOf_X4_clockOf
theorem dL_clockOf_0 : decode cL_clockOf 0 = .ok (.aload_n 2, 1) := by decide +kernel
theorem dL_clockOf_1 : decode cL_clockOf 1 = .ok (.iconst 0, 1) := by decide +kernel
theorem dL_clockOf_2 : decode cL_clockOf 2 = .ok (.aload_n 0, 1) := by decide +kernel
theorem dL_clockOf_3 : decode cL_clockOf 3 = .ok (.iload_n 1, 1) := by decide +kernel
theorem dL_clockOf_4 : decode cL_clockOf 4 = .ok (.invokevirtual 62, 3) := by decide +kernel
theorem dL_clockOf_7 : decode cL_clockOf 7 = .ok (.i2l, 1) := by decide +kernel
theorem dL_clockOf_8 : decode cL_clockOf 8 = .ok (.lastore, 1) := by decide +kernel
theorem dL_clockOf_9 : decode cL_clockOf 9 = .ok (.goto 6, 3) := by decide +kernel
theorem dL_clockOf_12 : decode cL_clockOf 12 = .ok (.astore_n 3, 1) := by decide +kernel
theorem dL_clockOf_13 : decode cL_clockOf 13 = .ok (.iconst 1, 1) := by decide +kernel
theorem dL_clockOf_14 : decode cL_clockOf 14 = .ok (.ireturn, 1) := by decide +kernel
theorem dL_clockOf_15 : decode cL_clockOf 15 = .ok (.iconst 0, 1) := by decide +kernel
theorem dL_clockOf_16 : decode cL_clockOf 16 = .ok (.ireturn, 1) := by decide +kernel
set_option maxRecDepth 20000 in
theorem ggL_request_X4_request : GoodIn wsL_request wsX4_request := goodIn_ca (goodIn_ca (goodIn_ca (goodIn_ca (goodIn_r _ [8, 9, 10, 11, 7, 12, 13, 14, 15, 16, 17, 18, 19, 20, 21, 22, 23, 24, 25, 26, 27, 28, 29, 30, 31, 32, 33, 34, 35, 36, 37, 38, 39, 40, 41, 42, 43, 44, 45, 46, 47, 48, 49, 50, 51, 52, 53, 54, 55, 56, 57, 58, 59, 60, 61, 62, 63, 64, 65, 66, 67, 68, 69, 70, 71, 72, 73, 74, 75, 76, 77, 78, 79, 80, 81, 82, 83, 84, 85, 86, 87, 88, 89, 90, 91, 92, 93, 94, 95, 96, 97, 98, 99, 100, 101, 102, 103, 104, 105, 106, 107, 108, 109, 110, 111, 112, 113, 114, 115, 116, 117, 118, 119, 120, 121, 122, 123, 124, 125, 126, 127, 128, 129, 130, 131, 132, 133, 134, 135, 136, 137, 138, 139, 140, 141, 142, 143, 144, 145, 146, 147, 148, 149, 150, 151, 152, 153, 154, 155, 156, 157, 158, 159, 160, 161, 162, 163, 164, 165, 166, 167, 168, 169, 170, 171, 172, 173, 174, 175, 176, 177, 178, 179, 180, 181, 182, 183, 184, 185, 186, 187, 188] (by decide +kernel) (by decide +kernel)) (goodIn_sub (fun _ h => List.mem_cons_of_mem _ (List.mem_append_left _ (List.mem_append_left _ (List.mem_append_left _ (List.mem_append_right _ h))))) (by decide +kernel))) (goodIn_sub (fun _ h => List.mem_cons_of_mem _ (List.mem_append_left _ (List.mem_append_left _ (List.mem_append_right _ h)))) (by decide +kernel))) (goodIn_sub (fun _ h => List.mem_cons_of_mem _ (List.mem_append_left _ (List.mem_append_right _ h))) (by decide +kernel))) (goodIn_sub (fun _ h => List.mem_cons_of_mem _ (List.mem_append_right _ h)) (by decide +kernel))
set_option maxRecDepth 20000 in
theorem gL_request_X4_request : GoodIn wsL_request (wsV RL 65 RX4 yX4_request wsX4_request) := goodIn_app (goodIn_of _ (by decide +kernel)) ggL_request_X4_request
theorem dL_request_0 : decode cL_request 0 = .ok (.aload 4, 2) := by decide +kernel
theorem dL_request_2 : decode cL_request 2 = .ok (.iconst 0, 1) := by decide +kernel
theorem dL_request_3 : decode cL_request 3 = .ok (.aload_n 0, 1) := by decide +kernel
theorem dL_request_4 : decode cL_request 4 = .ok (.iload_n 1, 1) := by decide +kernel
theorem dL_request_5 : decode cL_request 5 = .ok (.iload_n 2, 1) := by decide +kernel
theorem dL_request_6 : decode cL_request 6 = .ok (.iload_n 3, 1) := by decide +kernel
theorem dL_request_7 : decode cL_request 7 = .ok (.invokevirtual 65, 3) := by decide +kernel
theorem dL_request_10 : decode cL_request 10 = .ok (.i2l, 1) := by decide +kernel
theorem dL_request_11 : decode cL_request 11 = .ok (.lastore, 1) := by decide +kernel
theorem dL_request_12 : decode cL_request 12 = .ok (.goto 15, 3) := by decide +kernel
theorem dL_request_15 : decode cL_request 15 = .ok (.astore 5, 2) := by decide +kernel
theorem dL_request_17 : decode cL_request 17 = .ok (.iconst 1, 1) := by decide +kernel
theorem dL_request_18 : decode cL_request 18 = .ok (.ireturn, 1) := by decide +kernel
theorem dL_request_19 : decode cL_request 19 = .ok (.astore 5, 2) := by decide +kernel
theorem dL_request_21 : decode cL_request 21 = .ok (.iconst 2, 1) := by decide +kernel
theorem dL_request_22 : decode cL_request 22 = .ok (.ireturn, 1) := by decide +kernel
theorem dL_request_23 : decode cL_request 23 = .ok (.astore 5, 2) := by decide +kernel
theorem dL_request_25 : decode cL_request 25 = .ok (.iconst 3, 1) := by decide +kernel
theorem dL_request_26 : decode cL_request 26 = .ok (.ireturn, 1) := by decide +kernel
theorem dL_request_27 : decode cL_request 27 = .ok (.iconst 0, 1) := by decide +kernel
theorem dL_request_28 : decode cL_request 28 = .ok (.ireturn, 1) := by decide +kernel
set_option maxRecDepth 20000 in
theorem ggL_steal_X4_steal : GoodIn wsL_steal wsX4_steal := goodIn_ca (goodIn_ca (goodIn_ca (goodIn_ca (goodIn_r _ [8, 9, 10, 11, 7, 12, 13, 14, 15, 16, 17, 18, 19, 20, 21, 22, 23, 24, 25, 26, 27, 28, 29, 30, 31, 32, 33, 34, 35, 36, 37, 38, 39, 40, 41, 42, 43, 44, 45, 46, 47, 48, 49, 50, 51, 52, 53, 54, 55, 56, 57, 58, 59, 60, 61, 62, 63, 64, 65, 66, 67, 68, 69, 70, 71, 72, 73, 74, 75, 76, 77, 78, 79, 80, 81, 82, 83, 84, 85, 86, 87, 88, 89, 90, 91, 92, 93, 94, 95, 96, 97, 98, 99, 100, 101, 102, 103, 104, 105, 106, 107, 108, 109, 110, 111, 112, 113, 114, 115, 116, 117, 118, 119, 120, 121, 122, 123, 124, 125, 126, 127, 128, 129, 130, 131, 132, 133, 134, 135, 136, 137, 138, 139, 140, 141, 142, 143, 144, 145, 146, 147, 148, 149, 150, 151, 152, 153, 154, 155, 156, 157, 158, 159, 160, 161, 162, 163, 164, 165, 166, 167, 168, 169, 170, 171, 172, 173, 174, 175, 176, 177, 178, 179, 180, 181, 182, 183, 184, 185, 186, 187, 188] (by decide +kernel) (by decide +kernel)) (goodIn_sub (fun _ h => List.mem_cons_of_mem _ (List.mem_append_left _ (List.mem_append_left _ (List.mem_append_left _ (List.mem_append_right _ h))))) (by decide +kernel))) (goodIn_sub (fun _ h => List.mem_cons_of_mem _ (List.mem_append_left _ (List.mem_append_left _ (List.mem_append_right _ h)))) (by decide +kernel))) (goodIn_sub (fun _ h => List.mem_cons_of_mem _ (List.mem_append_left _ (List.mem_append_right _ h))) (by decide +kernel))) (goodIn_sub (fun _ h => List.mem_cons_of_mem _ (List.mem_append_right _ h)) (by decide +kernel))
set_option maxRecDepth 20000 in
theorem gL_steal_X4_steal : GoodIn wsL_steal (wsV RL 69 RX4 yX4_steal wsX4_steal) := goodIn_app (goodIn_of _ (by decide +kernel)) ggL_steal_X4_steal
theorem dL_steal_0 : decode cL_steal 0 = .ok (.aload 4, 2) := by decide +kernel
theorem dL_steal_2 : decode cL_steal 2 = .ok (.iconst 0, 1) := by decide +kernel
theorem dL_steal_3 : decode cL_steal 3 = .ok (.aload_n 0, 1) := by decide +kernel
theorem dL_steal_4 : decode cL_steal 4 = .ok (.iload_n 1, 1) := by decide +kernel
theorem dL_steal_5 : decode cL_steal 5 = .ok (.iload_n 2, 1) := by decide +kernel
theorem dL_steal_6 : decode cL_steal 6 = .ok (.iload_n 3, 1) := by decide +kernel
theorem dL_steal_7 : decode cL_steal 7 = .ok (.invokevirtual 69, 3) := by decide +kernel
theorem dL_steal_10 : decode cL_steal 10 = .ok (.i2l, 1) := by decide +kernel
theorem dL_steal_11 : decode cL_steal 11 = .ok (.lastore, 1) := by decide +kernel
theorem dL_steal_12 : decode cL_steal 12 = .ok (.goto 15, 3) := by decide +kernel
theorem dL_steal_15 : decode cL_steal 15 = .ok (.astore 5, 2) := by decide +kernel
theorem dL_steal_17 : decode cL_steal 17 = .ok (.iconst 1, 1) := by decide +kernel
theorem dL_steal_18 : decode cL_steal 18 = .ok (.ireturn, 1) := by decide +kernel
theorem dL_steal_19 : decode cL_steal 19 = .ok (.astore 5, 2) := by decide +kernel
theorem dL_steal_21 : decode cL_steal 21 = .ok (.iconst 2, 1) := by decide +kernel
theorem dL_steal_22 : decode cL_steal 22 = .ok (.ireturn, 1) := by decide +kernel
theorem dL_steal_23 : decode cL_steal 23 = .ok (.astore 5, 2) := by decide +kernel
theorem dL_steal_25 : decode cL_steal 25 = .ok (.iconst 3, 1) := by decide +kernel
theorem dL_steal_26 : decode cL_steal 26 = .ok (.ireturn, 1) := by decide +kernel
theorem dL_steal_27 : decode cL_steal 27 = .ok (.iconst 0, 1) := by decide +kernel
theorem dL_steal_28 : decode cL_steal 28 = .ok (.ireturn, 1) := by decide +kernel
set_option maxRecDepth 20000 in
theorem ggL_renew_X4_renew : GoodIn wsL_renew wsX4_renew := goodIn_ca (goodIn_ca (goodIn_ca (goodIn_ca (goodIn_r _ [8, 9, 10, 11, 12, 13, 7, 14, 15, 16, 17, 18, 19, 20, 21, 22, 23, 24, 25, 26, 27, 28, 29, 30, 31, 32, 33, 34, 35, 36, 37, 38, 39, 40, 41, 42, 43, 44, 45, 46, 47, 48, 49, 50, 51, 52, 53, 54, 55, 56, 57, 58, 59, 60, 61, 62, 63, 64, 65, 66, 67, 68, 69, 70, 71, 72, 73, 74, 75, 76, 77, 78, 79, 80, 81, 82, 83, 84, 85, 86, 87, 88, 89, 90, 91, 92, 93, 94, 95, 96, 97, 98, 99, 100, 101, 102, 103, 104, 105, 106, 107, 108, 109, 110, 111, 112, 113, 114, 115, 116, 117, 118, 119, 120, 121, 122, 123, 124, 125, 126, 127, 128, 129, 130, 131, 132, 133, 134, 135, 136, 137, 138, 139, 140, 141, 142, 143, 144, 145, 146, 147, 148, 149, 150, 151, 152, 153, 154, 155, 156, 157, 158, 159, 160, 161, 162] (by decide +kernel) (by decide +kernel)) (goodIn_sub (fun _ h => List.mem_cons_of_mem _ (List.mem_append_left _ (List.mem_append_left _ (List.mem_append_left _ (List.mem_append_right _ h))))) (by decide +kernel))) (goodIn_sub (fun _ h => List.mem_cons_of_mem _ (List.mem_append_left _ (List.mem_append_left _ (List.mem_append_right _ h)))) (by decide +kernel))) (goodIn_sub (fun _ h => List.mem_cons_of_mem _ (List.mem_append_left _ (List.mem_append_right _ h))) (by decide +kernel))) (goodIn_sub (fun _ h => List.mem_cons_of_mem _ (List.mem_append_right _ h)) (by decide +kernel))
set_option maxRecDepth 20000 in
theorem gL_renew_X4_renew : GoodIn wsL_renew (wsV RL 72 RX4 yX4_renew wsX4_renew) := goodIn_app (goodIn_of _ (by decide +kernel)) ggL_renew_X4_renew
theorem dL_renew_0 : decode cL_renew 0 = .ok (.aload 4, 2) := by decide +kernel
theorem dL_renew_2 : decode cL_renew 2 = .ok (.iconst 0, 1) := by decide +kernel
theorem dL_renew_3 : decode cL_renew 3 = .ok (.aload_n 0, 1) := by decide +kernel
theorem dL_renew_4 : decode cL_renew 4 = .ok (.iload_n 1, 1) := by decide +kernel
theorem dL_renew_5 : decode cL_renew 5 = .ok (.iload_n 2, 1) := by decide +kernel
theorem dL_renew_6 : decode cL_renew 6 = .ok (.iload_n 3, 1) := by decide +kernel
theorem dL_renew_7 : decode cL_renew 7 = .ok (.invokevirtual 72, 3) := by decide +kernel
theorem dL_renew_10 : decode cL_renew 10 = .ok (.i2l, 1) := by decide +kernel
theorem dL_renew_11 : decode cL_renew 11 = .ok (.lastore, 1) := by decide +kernel
theorem dL_renew_12 : decode cL_renew 12 = .ok (.goto 15, 3) := by decide +kernel
theorem dL_renew_15 : decode cL_renew 15 = .ok (.astore 5, 2) := by decide +kernel
theorem dL_renew_17 : decode cL_renew 17 = .ok (.iconst 1, 1) := by decide +kernel
theorem dL_renew_18 : decode cL_renew 18 = .ok (.ireturn, 1) := by decide +kernel
theorem dL_renew_19 : decode cL_renew 19 = .ok (.astore 5, 2) := by decide +kernel
theorem dL_renew_21 : decode cL_renew 21 = .ok (.iconst 2, 1) := by decide +kernel
theorem dL_renew_22 : decode cL_renew 22 = .ok (.ireturn, 1) := by decide +kernel
theorem dL_renew_23 : decode cL_renew 23 = .ok (.astore 5, 2) := by decide +kernel
theorem dL_renew_25 : decode cL_renew 25 = .ok (.iconst 3, 1) := by decide +kernel
theorem dL_renew_26 : decode cL_renew 26 = .ok (.ireturn, 1) := by decide +kernel
theorem dL_renew_27 : decode cL_renew 27 = .ok (.iconst 0, 1) := by decide +kernel
theorem dL_renew_28 : decode cL_renew 28 = .ok (.ireturn, 1) := by decide +kernel
set_option maxRecDepth 20000 in
theorem ggL_release_X4_release : GoodIn wsL_release wsX4_release := goodIn_ca (goodIn_ca (goodIn_ca (goodIn_ca (goodIn_r _ [8, 9, 10, 11, 7, 12, 13, 14, 15, 16, 17, 18, 19, 20, 21, 22, 23, 24, 25, 26, 27, 28, 29, 30, 31, 32, 33, 34, 35, 36, 37, 38, 39, 40, 41, 42, 43, 44, 45, 46, 47, 48, 49, 50, 51, 52, 53, 54, 55, 56, 57, 58, 59, 60, 61, 62, 63, 64, 65, 66, 67, 68, 69, 70, 71, 72, 73, 74, 75, 76, 77, 78, 79, 80, 81, 82, 83, 84, 85, 86, 87, 88, 89, 90, 91, 92, 93, 94, 95, 96, 97, 98, 99, 100, 101, 102, 103, 104, 105, 106, 107, 108, 109, 110, 111, 112, 113, 114, 115, 116, 117, 118, 119, 120, 121, 122, 123, 124, 125, 126, 127, 128, 129, 130, 131, 132, 133, 134, 135, 136, 137, 138, 139, 140, 141, 142, 143, 144, 145, 146, 147, 148, 149, 150, 151, 152, 153, 154, 155, 156] (by decide +kernel) (by decide +kernel)) (goodIn_sub (fun _ h => List.mem_cons_of_mem _ (List.mem_append_left _ (List.mem_append_left _ (List.mem_append_right _ h)))) (by decide +kernel))) (goodIn_sub (fun _ h => List.mem_cons_of_mem _ (List.mem_append_left _ (List.mem_append_right _ h))) (by decide +kernel))) (goodIn_sub (fun _ h => List.mem_cons_of_mem _ (List.mem_append_left _ (List.mem_append_left _ (List.mem_append_left _ (List.mem_append_right _ h))))) (by decide +kernel))) (goodIn_sub (fun _ h => List.mem_cons_of_mem _ (List.mem_append_right _ h)) (by decide +kernel))
set_option maxRecDepth 20000 in
theorem gL_release_X4_release : GoodIn wsL_release (wsV RL 75 RX4 yX4_release wsX4_release) := goodIn_app (goodIn_of _ (by decide +kernel)) ggL_release_X4_release
theorem dL_release_0 : decode cL_release 0 = .ok (.aload 4, 2) := by decide +kernel
theorem dL_release_2 : decode cL_release 2 = .ok (.iconst 0, 1) := by decide +kernel
theorem dL_release_3 : decode cL_release 3 = .ok (.aload_n 0, 1) := by decide +kernel
theorem dL_release_4 : decode cL_release 4 = .ok (.iload_n 1, 1) := by decide +kernel
theorem dL_release_5 : decode cL_release 5 = .ok (.iload_n 2, 1) := by decide +kernel
theorem dL_release_6 : decode cL_release 6 = .ok (.iload_n 3, 1) := by decide +kernel
theorem dL_release_7 : decode cL_release 7 = .ok (.invokevirtual 75, 3) := by decide +kernel
theorem dL_release_10 : decode cL_release 10 = .ok (.i2l, 1) := by decide +kernel
theorem dL_release_11 : decode cL_release 11 = .ok (.lastore, 1) := by decide +kernel
theorem dL_release_12 : decode cL_release 12 = .ok (.goto 15, 3) := by decide +kernel
theorem dL_release_15 : decode cL_release 15 = .ok (.astore 5, 2) := by decide +kernel
theorem dL_release_17 : decode cL_release 17 = .ok (.iconst 1, 1) := by decide +kernel
theorem dL_release_18 : decode cL_release 18 = .ok (.ireturn, 1) := by decide +kernel
theorem dL_release_19 : decode cL_release 19 = .ok (.astore 5, 2) := by decide +kernel
theorem dL_release_21 : decode cL_release 21 = .ok (.iconst 2, 1) := by decide +kernel
theorem dL_release_22 : decode cL_release 22 = .ok (.ireturn, 1) := by decide +kernel
theorem dL_release_23 : decode cL_release 23 = .ok (.astore 5, 2) := by decide +kernel
theorem dL_release_25 : decode cL_release 25 = .ok (.iconst 3, 1) := by decide +kernel
theorem dL_release_26 : decode cL_release 26 = .ok (.ireturn, 1) := by decide +kernel
theorem dL_release_27 : decode cL_release 27 = .ok (.iconst 0, 1) := by decide +kernel
theorem dL_release_28 : decode cL_release 28 = .ok (.ireturn, 1) := by decide +kernel
set_option maxRecDepth 20000 in
theorem ggL_quit_X4_quit : GoodIn wsL_quit wsX4_quit := goodIn_ca (goodIn_ca (goodIn_ca (goodIn_ca (goodIn_r _ [8, 9, 10, 11, 12, 13, 14, 15, 16, 7, 17, 18, 19, 20, 21, 22, 23, 24, 25, 26, 27, 28, 29, 30, 31, 32, 33, 34, 35, 36, 37, 38, 39, 40, 41, 42, 43, 44, 45, 46, 47, 48, 49, 50, 51, 52, 53, 54, 55, 56, 57, 58, 59, 60] (by decide +kernel) (by decide +kernel)) (goodIn_sub (fun _ h => List.mem_cons_of_mem _ (List.mem_append_left _ (List.mem_append_left _ (List.mem_append_right _ h)))) (by decide +kernel))) (goodIn_sub (fun _ h => List.mem_cons_of_mem _ (List.mem_append_left _ (List.mem_append_left _ (List.mem_append_left _ (List.mem_append_right _ h))))) (by decide +kernel))) (goodIn_sub (fun _ h => List.mem_cons_of_mem _ (List.mem_append_left _ (List.mem_append_right _ h))) (by decide +kernel))) (goodIn_sub (fun _ h => List.mem_cons_of_mem _ (List.mem_append_right _ h)) (by decide +kernel))
set_option maxRecDepth 20000 in
theorem gL_quit_X4_quit : GoodIn wsL_quit (wsV RL 78 RX4 yX4_quit wsX4_quit) := goodIn_app (goodIn_of _ (by decide +kernel)) ggL_quit_X4_quit
theorem dL_quit_0 : decode cL_quit 0 = .ok (.aload_n 3, 1) := by decide +kernel
theorem dL_quit_1 : decode cL_quit 1 = .ok (.iconst 0, 1) := by decide +kernel
theorem dL_quit_2 : decode cL_quit 2 = .ok (.aload_n 0, 1) := by decide +kernel
theorem dL_quit_3 : decode cL_quit 3 = .ok (.iload_n 1, 1) := by decide +kernel
theorem dL_quit_4 : decode cL_quit 4 = .ok (.iload_n 2, 1) := by decide +kernel
theorem dL_quit_5 : decode cL_quit 5 = .ok (.invokevirtual 78, 3) := by decide +kernel
theorem dL_quit_8 : decode cL_quit 8 = .ok (.i2l, 1) := by decide +kernel
theorem dL_quit_9 : decode cL_quit 9 = .ok (.lastore, 1) := by decide +kernel
theorem dL_quit_10 : decode cL_quit 10 = .ok (.goto 15, 3) := by decide +kernel
theorem dL_quit_13 : decode cL_quit 13 = .ok (.astore 4, 2) := by decide +kernel
theorem dL_quit_15 : decode cL_quit 15 = .ok (.iconst 1, 1) := by decide +kernel
theorem dL_quit_16 : decode cL_quit 16 = .ok (.ireturn, 1) := by decide +kernel
theorem dL_quit_17 : decode cL_quit 17 = .ok (.astore 4, 2) := by decide +kernel
theorem dL_quit_19 : decode cL_quit 19 = .ok (.iconst 2, 1) := by decide +kernel
theorem dL_quit_20 : decode cL_quit 20 = .ok (.ireturn, 1) := by decide +kernel
theorem dL_quit_21 : decode cL_quit 21 = .ok (.astore 4, 2) := by decide +kernel
theorem dL_quit_23 : decode cL_quit 23 = .ok (.iconst 3, 1) := by decide +kernel
theorem dL_quit_24 : decode cL_quit 24 = .ok (.ireturn, 1) := by decide +kernel
theorem dL_quit_25 : decode cL_quit 25 = .ok (.iconst 0, 1) := by decide +kernel
theorem dL_quit_26 : decode cL_quit 26 = .ok (.ireturn, 1) := by decide +kernel
set_option maxRecDepth 20000 in
theorem ggL_read_X4_read : GoodIn wsL_read wsX4_read := goodIn_ca (goodIn_ca (goodIn_ca (goodIn_ca (goodIn_r _ [8, 9, 10, 11, 12, 13, 14, 15, 16, 7, 17, 18, 19, 20, 21, 22, 23, 24, 25, 26, 27, 28, 29, 30, 31, 32, 33, 34, 35, 36, 37, 38, 39, 40, 41, 42, 43, 44, 45, 46, 47, 48, 49, 50, 51, 52, 53, 54, 55, 56, 57, 58, 59, 60, 61, 62, 63, 64, 65, 66, 67, 68, 69, 70, 71, 72, 73, 74, 75, 76, 77, 78, 79, 80, 81, 82, 83, 84, 85, 86, 87, 88, 89, 90, 91, 92, 93, 94, 95, 96, 97, 98, 99, 100, 101, 102, 103, 104, 105, 106, 107, 108, 109, 110, 111, 112, 113, 114, 115, 116, 117, 118, 119, 120, 121, 122] (by decide +kernel) (by decide +kernel)) (goodIn_sub (fun _ h => List.mem_cons_of_mem _ (List.mem_append_left _ (List.mem_append_left _ (List.mem_append_left _ (List.mem_append_right _ h))))) (by decide +kernel))) (goodIn_sub (fun _ h => List.mem_cons_of_mem _ (List.mem_append_left _ (List.mem_append_left _ (List.mem_append_right _ h)))) (by decide +kernel))) (goodIn_sub (fun _ h => List.mem_cons_of_mem _ (List.mem_append_left _ (List.mem_append_right _ h))) (by decide +kernel))) (goodIn_sub (fun _ h => List.mem_cons_of_mem _ (List.mem_append_right _ h)) (by decide +kernel))
set_option maxRecDepth 20000 in
theorem gL_read_X4_read : GoodIn wsL_read (wsV RL 83 RX4 yX4_read wsX4_read) := goodIn_app (goodIn_of _ (by decide +kernel)) ggL_read_X4_read
theorem dL_read_0 : decode cL_read 0 = .ok (.aload 4, 2) := by decide +kernel
theorem dL_read_2 : decode cL_read 2 = .ok (.iconst 0, 1) := by decide +kernel
theorem dL_read_3 : decode cL_read 3 = .ok (.aload_n 0, 1) := by decide +kernel
theorem dL_read_4 : decode cL_read 4 = .ok (.iload_n 1, 1) := by decide +kernel
theorem dL_read_5 : decode cL_read 5 = .ok (.iload_n 2, 1) := by decide +kernel
theorem dL_read_6 : decode cL_read 6 = .ok (.iload_n 3, 1) := by decide +kernel
theorem dL_read_7 : decode cL_read 7 = .ok (.invokevirtual 83, 3) := by decide +kernel
theorem dL_read_10 : decode cL_read 10 = .ok (.i2l, 1) := by decide +kernel
theorem dL_read_11 : decode cL_read 11 = .ok (.lastore, 1) := by decide +kernel
theorem dL_read_12 : decode cL_read 12 = .ok (.goto 15, 3) := by decide +kernel
theorem dL_read_15 : decode cL_read 15 = .ok (.astore 5, 2) := by decide +kernel
theorem dL_read_17 : decode cL_read 17 = .ok (.iconst 1, 1) := by decide +kernel
theorem dL_read_18 : decode cL_read 18 = .ok (.ireturn, 1) := by decide +kernel
theorem dL_read_19 : decode cL_read 19 = .ok (.astore 5, 2) := by decide +kernel
theorem dL_read_21 : decode cL_read 21 = .ok (.iconst 2, 1) := by decide +kernel
theorem dL_read_22 : decode cL_read 22 = .ok (.ireturn, 1) := by decide +kernel
theorem dL_read_23 : decode cL_read 23 = .ok (.astore 5, 2) := by decide +kernel
theorem dL_read_25 : decode cL_read 25 = .ok (.iconst 3, 1) := by decide +kernel
theorem dL_read_26 : decode cL_read 26 = .ok (.ireturn, 1) := by decide +kernel
theorem dL_read_27 : decode cL_read 27 = .ok (.iconst 0, 1) := by decide +kernel
theorem dL_read_28 : decode cL_read 28 = .ok (.ireturn, 1) := by decide +kernel
set_option maxRecDepth 20000 in
theorem ggL_write_X4_write : GoodIn wsL_write wsX4_write := goodIn_ca (goodIn_ca (goodIn_ca (goodIn_ca (goodIn_ca (goodIn_r _ [9, 10, 11, 12, 13, 14, 15, 16, 17, 18, 8, 19, 20, 21, 22, 23, 24, 25, 26, 27, 28, 29, 30, 31, 32, 33, 34, 35, 36, 37, 38, 39, 40, 41, 42, 43, 44, 45, 46, 47, 48, 49, 50, 51, 52, 53, 54, 55, 56, 57, 58, 59, 60, 61, 62, 63, 64, 65, 66, 67, 68, 69, 70, 71, 72, 73, 74, 75, 76, 77, 78, 79, 80, 81, 82, 83, 84, 85, 86, 87, 88, 89, 90, 91, 92, 93, 94, 95, 96, 97, 98, 99, 100, 101, 102, 103, 104, 105, 106, 107, 108, 109, 110, 111, 112, 113, 114, 115, 116, 117, 118, 119, 120, 121, 122, 123, 124, 125, 126, 127, 128, 129, 130, 131, 132, 133, 134, 135, 136, 137, 138, 139, 140, 141, 142, 143, 144, 145, 146, 147, 148, 149, 150, 151, 152, 153, 154, 155, 156, 157, 158, 159, 160, 161, 162, 163, 164, 165, 166, 167, 168, 169, 170, 171] (by decide +kernel) (by decide +kernel)) (goodIn_sub (fun _ h => List.mem_cons_of_mem _ (List.mem_append_left _ (List.mem_append_left _ (List.mem_append_left _ (List.mem_append_right _ h))))) (by decide +kernel))) (goodIn_sub (fun _ h => List.mem_cons_of_mem _ (List.mem_append_left _ (List.mem_append_left _ (List.mem_append_right _ h)))) (by decide +kernel))) (goodIn_sub (fun _ h => List.mem_cons_of_mem _ (List.mem_append_left _ (List.mem_append_right _ h))) (by decide +kernel))) (goodIn_sub (fun _ h => List.mem_cons_of_mem _ (List.mem_append_left _ (List.mem_append_left _ (List.mem_append_left _ (List.mem_append_left _ (List.mem_append_right _ h)))))) (by decide +kernel))) (goodIn_sub (fun _ h => List.mem_cons_of_mem _ (List.mem_append_right _ h)) (by decide +kernel))
set_option maxRecDepth 20000 in
theorem gL_write_X4_write : GoodIn wsL_write (wsV RL 86 RX4 yX4_write wsX4_write) := goodIn_app (goodIn_of _ (by decide +kernel)) ggL_write_X4_write
theorem dL_write_0 : decode cL_write 0 = .ok (.aload 5, 2) := by decide +kernel
theorem dL_write_2 : decode cL_write 2 = .ok (.iconst 0, 1) := by decide +kernel
theorem dL_write_3 : decode cL_write 3 = .ok (.aload_n 0, 1) := by decide +kernel
theorem dL_write_4 : decode cL_write 4 = .ok (.iload_n 1, 1) := by decide +kernel
theorem dL_write_5 : decode cL_write 5 = .ok (.iload_n 2, 1) := by decide +kernel
theorem dL_write_6 : decode cL_write 6 = .ok (.iload_n 3, 1) := by decide +kernel
theorem dL_write_7 : decode cL_write 7 = .ok (.iload 4, 2) := by decide +kernel
theorem dL_write_9 : decode cL_write 9 = .ok (.invokevirtual 86, 3) := by decide +kernel
theorem dL_write_12 : decode cL_write 12 = .ok (.i2l, 1) := by decide +kernel
theorem dL_write_13 : decode cL_write 13 = .ok (.lastore, 1) := by decide +kernel
theorem dL_write_14 : decode cL_write 14 = .ok (.goto 19, 3) := by decide +kernel
theorem dL_write_17 : decode cL_write 17 = .ok (.astore 6, 2) := by decide +kernel
theorem dL_write_19 : decode cL_write 19 = .ok (.iconst 1, 1) := by decide +kernel
theorem dL_write_20 : decode cL_write 20 = .ok (.ireturn, 1) := by decide +kernel
theorem dL_write_21 : decode cL_write 21 = .ok (.astore 6, 2) := by decide +kernel
theorem dL_write_23 : decode cL_write 23 = .ok (.iconst 2, 1) := by decide +kernel
theorem dL_write_24 : decode cL_write 24 = .ok (.ireturn, 1) := by decide +kernel
theorem dL_write_25 : decode cL_write 25 = .ok (.astore 6, 2) := by decide +kernel
theorem dL_write_27 : decode cL_write 27 = .ok (.iconst 3, 1) := by decide +kernel
theorem dL_write_28 : decode cL_write 28 = .ok (.ireturn, 1) := by decide +kernel
theorem dL_write_29 : decode cL_write 29 = .ok (.astore 6, 2) := by decide +kernel
theorem dL_write_31 : decode cL_write 31 = .ok (.iconst 4, 1) := by decide +kernel
theorem dL_write_32 : decode cL_write 32 = .ok (.ireturn, 1) := by decide +kernel
theorem dL_write_33 : decode cL_write 33 = .ok (.iconst 0, 1) := by decide +kernel
theorem dL_write_34 : decode cL_write 34 = .ok (.ireturn, 1) := by decide +kernel
set_option maxRecDepth 20000 in
theorem ggL_owner_X4_owner : GoodIn wsL_owner wsX4_owner := goodIn_ca (goodIn_ca (goodIn_ca (goodIn_r _ [7, 8, 9, 10, 11, 12, 6, 13, 14, 15, 16, 17, 18, 19, 20, 21, 22, 23, 24, 25, 26, 27, 28, 29, 30, 31, 32, 33, 34, 35, 36, 37, 38, 39, 40, 41] (by decide +kernel) (by decide +kernel)) (goodIn_sub (fun _ h => List.mem_cons_of_mem _ (List.mem_append_left _ (List.mem_append_left _ (List.mem_append_right _ h)))) (by decide +kernel))) (goodIn_sub (fun _ h => List.mem_cons_of_mem _ (List.mem_append_left _ (List.mem_append_right _ h))) (by decide +kernel))) (goodIn_sub (fun _ h => List.mem_cons_of_mem _ (List.mem_append_right _ h)) (by decide +kernel))
set_option maxRecDepth 20000 in
theorem gL_owner_X4_owner : GoodIn wsL_owner (wsV RL 90 RX4 yX4_owner wsX4_owner) := goodIn_app (goodIn_of _ (by decide +kernel)) ggL_owner_X4_owner
theorem dL_owner_0 : decode cL_owner 0 = .ok (.aload_n 2, 1) := by decide +kernel
theorem dL_owner_1 : decode cL_owner 1 = .ok (.iconst 0, 1) := by decide +kernel
theorem dL_owner_2 : decode cL_owner 2 = .ok (.aload_n 0, 1) := by decide +kernel
theorem dL_owner_3 : decode cL_owner 3 = .ok (.iload_n 1, 1) := by decide +kernel
theorem dL_owner_4 : decode cL_owner 4 = .ok (.invokevirtual 90, 3) := by decide +kernel
theorem dL_owner_7 : decode cL_owner 7 = .ok (.i2l, 1) := by decide +kernel
theorem dL_owner_8 : decode cL_owner 8 = .ok (.lastore, 1) := by decide +kernel
theorem dL_owner_9 : decode cL_owner 9 = .ok (.goto 9, 3) := by decide +kernel
theorem dL_owner_12 : decode cL_owner 12 = .ok (.astore_n 3, 1) := by decide +kernel
theorem dL_owner_13 : decode cL_owner 13 = .ok (.iconst 1, 1) := by decide +kernel
theorem dL_owner_14 : decode cL_owner 14 = .ok (.ireturn, 1) := by decide +kernel
theorem dL_owner_15 : decode cL_owner 15 = .ok (.astore_n 3, 1) := by decide +kernel
theorem dL_owner_16 : decode cL_owner 16 = .ok (.iconst 2, 1) := by decide +kernel
theorem dL_owner_17 : decode cL_owner 17 = .ok (.ireturn, 1) := by decide +kernel
theorem dL_owner_18 : decode cL_owner 18 = .ok (.iconst 0, 1) := by decide +kernel
theorem dL_owner_19 : decode cL_owner 19 = .ok (.ireturn, 1) := by decide +kernel
set_option maxRecDepth 20000 in
theorem ggL_ownerByLog_X4_ownerByLog : GoodIn wsL_ownerByLog wsX4_ownerByLog := goodIn_ca (goodIn_ca (goodIn_ca (goodIn_r _ [7, 8, 9, 10, 11, 12, 13, 14, 6, 15, 16, 17, 18, 19, 20, 21, 22, 23, 24, 25, 26, 27, 28, 29, 30, 31, 32, 33, 34, 35, 36, 37, 38, 39, 40, 41, 42, 43, 44, 45, 46, 47] (by decide +kernel) (by decide +kernel)) (goodIn_sub (fun _ h => List.mem_cons_of_mem _ (List.mem_append_left _ (List.mem_append_right _ h))) (by decide +kernel))) (goodIn_sub (fun _ h => List.mem_cons_of_mem _ (List.mem_append_right _ h)) (by decide +kernel))) (goodIn_sub (fun _ h => List.mem_cons_of_mem _ (List.mem_append_left _ (List.mem_append_left _ (List.mem_append_right _ h)))) (by decide +kernel))
set_option maxRecDepth 20000 in
theorem gL_ownerByLog_X4_ownerByLog : GoodIn wsL_ownerByLog (wsV RL 93 RX4 yX4_ownerByLog wsX4_ownerByLog) := goodIn_app (goodIn_of _ (by decide +kernel)) ggL_ownerByLog_X4_ownerByLog
theorem dL_ownerByLog_0 : decode cL_ownerByLog 0 = .ok (.aload_n 2, 1) := by decide +kernel
theorem dL_ownerByLog_1 : decode cL_ownerByLog 1 = .ok (.iconst 0, 1) := by decide +kernel
theorem dL_ownerByLog_2 : decode cL_ownerByLog 2 = .ok (.aload_n 0, 1) := by decide +kernel
theorem dL_ownerByLog_3 : decode cL_ownerByLog 3 = .ok (.iload_n 1, 1) := by decide +kernel
theorem dL_ownerByLog_4 : decode cL_ownerByLog 4 = .ok (.invokevirtual 93, 3) := by decide +kernel
theorem dL_ownerByLog_7 : decode cL_ownerByLog 7 = .ok (.i2l, 1) := by decide +kernel
theorem dL_ownerByLog_8 : decode cL_ownerByLog 8 = .ok (.lastore, 1) := by decide +kernel
theorem dL_ownerByLog_9 : decode cL_ownerByLog 9 = .ok (.goto 9, 3) := by decide +kernel
theorem dL_ownerByLog_12 : decode cL_ownerByLog 12 = .ok (.astore_n 3, 1) := by decide +kernel
theorem dL_ownerByLog_13 : decode cL_ownerByLog 13 = .ok (.iconst 1, 1) := by decide +kernel
theorem dL_ownerByLog_14 : decode cL_ownerByLog 14 = .ok (.ireturn, 1) := by decide +kernel
theorem dL_ownerByLog_15 : decode cL_ownerByLog 15 = .ok (.astore_n 3, 1) := by decide +kernel
theorem dL_ownerByLog_16 : decode cL_ownerByLog 16 = .ok (.iconst 2, 1) := by decide +kernel
theorem dL_ownerByLog_17 : decode cL_ownerByLog 17 = .ok (.ireturn, 1) := by decide +kernel
theorem dL_ownerByLog_18 : decode cL_ownerByLog 18 = .ok (.iconst 0, 1) := by decide +kernel
theorem dL_ownerByLog_19 : decode cL_ownerByLog 19 = .ok (.ireturn, 1) := by decide +kernel
set_option maxRecDepth 20000 in
theorem ggL_endOf_X4_endOf : GoodIn wsL_endOf wsX4_endOf := goodIn_ca (goodIn_ca (goodIn_ca (goodIn_r _ [7, 8, 9, 10, 11, 12, 6, 13, 14, 15, 16, 17, 18, 19, 20, 21, 22, 23, 24, 25, 26, 27, 28, 29, 30, 31, 32, 33, 34, 35, 36, 37, 38, 39, 40, 41] (by decide +kernel) (by decide +kernel)) (goodIn_sub (fun _ h => List.mem_cons_of_mem _ (List.mem_append_left _ (List.mem_append_left _ (List.mem_append_right _ h)))) (by decide +kernel))) (goodIn_sub (fun _ h => List.mem_cons_of_mem _ (List.mem_append_left _ (List.mem_append_right _ h))) (by decide +kernel))) (goodIn_sub (fun _ h => List.mem_cons_of_mem _ (List.mem_append_right _ h)) (by decide +kernel))
set_option maxRecDepth 20000 in
theorem gL_endOf_X4_endOf : GoodIn wsL_endOf (wsV RL 96 RX4 yX4_endOf wsX4_endOf) := goodIn_app (goodIn_of _ (by decide +kernel)) ggL_endOf_X4_endOf
theorem dL_endOf_0 : decode cL_endOf 0 = .ok (.aload_n 2, 1) := by decide +kernel
theorem dL_endOf_1 : decode cL_endOf 1 = .ok (.iconst 0, 1) := by decide +kernel
theorem dL_endOf_2 : decode cL_endOf 2 = .ok (.aload_n 0, 1) := by decide +kernel
theorem dL_endOf_3 : decode cL_endOf 3 = .ok (.iload_n 1, 1) := by decide +kernel
theorem dL_endOf_4 : decode cL_endOf 4 = .ok (.invokevirtual 96, 3) := by decide +kernel
theorem dL_endOf_7 : decode cL_endOf 7 = .ok (.i2l, 1) := by decide +kernel
theorem dL_endOf_8 : decode cL_endOf 8 = .ok (.lastore, 1) := by decide +kernel
theorem dL_endOf_9 : decode cL_endOf 9 = .ok (.goto 9, 3) := by decide +kernel
theorem dL_endOf_12 : decode cL_endOf 12 = .ok (.astore_n 3, 1) := by decide +kernel
theorem dL_endOf_13 : decode cL_endOf 13 = .ok (.iconst 1, 1) := by decide +kernel
theorem dL_endOf_14 : decode cL_endOf 14 = .ok (.ireturn, 1) := by decide +kernel
theorem dL_endOf_15 : decode cL_endOf 15 = .ok (.astore_n 3, 1) := by decide +kernel
theorem dL_endOf_16 : decode cL_endOf 16 = .ok (.iconst 2, 1) := by decide +kernel
theorem dL_endOf_17 : decode cL_endOf 17 = .ok (.ireturn, 1) := by decide +kernel
theorem dL_endOf_18 : decode cL_endOf 18 = .ok (.iconst 0, 1) := by decide +kernel
theorem dL_endOf_19 : decode cL_endOf 19 = .ok (.ireturn, 1) := by decide +kernel
set_option maxRecDepth 20000 in
theorem ggL_thief_X4_thief : GoodIn wsL_thief wsX4_thief := goodIn_ca (goodIn_ca (goodIn_ca (goodIn_r _ [7, 8, 9, 10, 11, 12, 13, 14, 6, 15, 16, 17, 18, 19, 20, 21, 22, 23, 24, 25, 26, 27, 28, 29] (by decide +kernel) (by decide +kernel)) (goodIn_sub (fun _ h => List.mem_cons_of_mem _ (List.mem_append_left _ (List.mem_append_left _ (List.mem_append_right _ h)))) (by decide +kernel))) (goodIn_sub (fun _ h => List.mem_cons_of_mem _ (List.mem_append_left _ (List.mem_append_right _ h))) (by decide +kernel))) (goodIn_sub (fun _ h => List.mem_cons_of_mem _ (List.mem_append_right _ h)) (by decide +kernel))
set_option maxRecDepth 20000 in
theorem gL_thief_X4_thief : GoodIn wsL_thief (wsV RL 99 RX4 yX4_thief wsX4_thief) := goodIn_app (goodIn_of _ (by decide +kernel)) ggL_thief_X4_thief
theorem dL_thief_0 : decode cL_thief 0 = .ok (.aload_n 2, 1) := by decide +kernel
theorem dL_thief_1 : decode cL_thief 1 = .ok (.iconst 0, 1) := by decide +kernel
theorem dL_thief_2 : decode cL_thief 2 = .ok (.aload_n 0, 1) := by decide +kernel
theorem dL_thief_3 : decode cL_thief 3 = .ok (.iload_n 1, 1) := by decide +kernel
theorem dL_thief_4 : decode cL_thief 4 = .ok (.invokevirtual 99, 3) := by decide +kernel
theorem dL_thief_7 : decode cL_thief 7 = .ok (.i2l, 1) := by decide +kernel
theorem dL_thief_8 : decode cL_thief 8 = .ok (.lastore, 1) := by decide +kernel
theorem dL_thief_9 : decode cL_thief 9 = .ok (.goto 9, 3) := by decide +kernel
theorem dL_thief_12 : decode cL_thief 12 = .ok (.astore_n 3, 1) := by decide +kernel
theorem dL_thief_13 : decode cL_thief 13 = .ok (.iconst 1, 1) := by decide +kernel
theorem dL_thief_14 : decode cL_thief 14 = .ok (.ireturn, 1) := by decide +kernel
theorem dL_thief_15 : decode cL_thief 15 = .ok (.astore_n 3, 1) := by decide +kernel
theorem dL_thief_16 : decode cL_thief 16 = .ok (.iconst 2, 1) := by decide +kernel
theorem dL_thief_17 : decode cL_thief 17 = .ok (.ireturn, 1) := by decide +kernel
theorem dL_thief_18 : decode cL_thief 18 = .ok (.iconst 0, 1) := by decide +kernel
theorem dL_thief_19 : decode cL_thief 19 = .ok (.ireturn, 1) := by decide +kernel
set_option maxRecDepth 20000 in
theorem ggL_waiting_X4_waiting : GoodIn wsL_waiting wsX4_waiting := goodIn_ca (goodIn_ca (goodIn_r _ [6, 7, 8, 9, 10, 11, 5, 12, 13, 14, 15, 16, 17, 18, 19, 20, 21, 22, 23, 24, 25, 26] (by decide +kernel) (by decide +kernel)) (goodIn_sub (fun _ h => List.mem_cons_of_mem _ (List.mem_append_left _ (List.mem_append_right _ h))) (by decide +kernel))) (goodIn_sub (fun _ h => List.mem_cons_of_mem _ (List.mem_append_right _ h)) (by decide +kernel))
set_option maxRecDepth 20000 in
theorem gL_waiting_X4_waiting : GoodIn wsL_waiting (wsV RL 102 RX4 yX4_waiting wsX4_waiting) := goodIn_app (goodIn_of _ (by decide +kernel)) ggL_waiting_X4_waiting
theorem dL_waiting_0 : decode cL_waiting 0 = .ok (.aload_n 2, 1) := by decide +kernel
theorem dL_waiting_1 : decode cL_waiting 1 = .ok (.iconst 0, 1) := by decide +kernel
theorem dL_waiting_2 : decode cL_waiting 2 = .ok (.aload_n 0, 1) := by decide +kernel
theorem dL_waiting_3 : decode cL_waiting 3 = .ok (.iload_n 1, 1) := by decide +kernel
theorem dL_waiting_4 : decode cL_waiting 4 = .ok (.invokevirtual 102, 3) := by decide +kernel
theorem dL_waiting_7 : decode cL_waiting 7 = .ok (.i2l, 1) := by decide +kernel
theorem dL_waiting_8 : decode cL_waiting 8 = .ok (.lastore, 1) := by decide +kernel
theorem dL_waiting_9 : decode cL_waiting 9 = .ok (.goto 6, 3) := by decide +kernel
theorem dL_waiting_12 : decode cL_waiting 12 = .ok (.astore_n 3, 1) := by decide +kernel
theorem dL_waiting_13 : decode cL_waiting 13 = .ok (.iconst 1, 1) := by decide +kernel
theorem dL_waiting_14 : decode cL_waiting 14 = .ok (.ireturn, 1) := by decide +kernel
theorem dL_waiting_15 : decode cL_waiting 15 = .ok (.iconst 0, 1) := by decide +kernel
theorem dL_waiting_16 : decode cL_waiting 16 = .ok (.ireturn, 1) := by decide +kernel
set_option maxRecDepth 20000 in
theorem ggL_waitingAt_X4_waitingAt : GoodIn wsL_waitingAt wsX4_waitingAt := goodIn_ca (goodIn_ca (goodIn_ca (goodIn_r _ [7, 8, 9, 10, 11, 12, 13, 14, 15, 6, 16, 17, 18, 19, 20, 21, 22, 23, 24, 25, 26, 27, 28, 29, 30] (by decide +kernel) (by decide +kernel)) (goodIn_sub (fun _ h => List.mem_cons_of_mem _ (List.mem_append_left _ (List.mem_append_left _ (List.mem_append_right _ h)))) (by decide +kernel))) (goodIn_sub (fun _ h => List.mem_cons_of_mem _ (List.mem_append_left _ (List.mem_append_right _ h))) (by decide +kernel))) (goodIn_sub (fun _ h => List.mem_cons_of_mem _ (List.mem_append_right _ h)) (by decide +kernel))
set_option maxRecDepth 20000 in
theorem gL_waitingAt_X4_waitingAt : GoodIn wsL_waitingAt (wsV RL 105 RX4 yX4_waitingAt wsX4_waitingAt) := goodIn_app (goodIn_of _ (by decide +kernel)) ggL_waitingAt_X4_waitingAt
theorem dL_waitingAt_0 : decode cL_waitingAt 0 = .ok (.aload_n 3, 1) := by decide +kernel
theorem dL_waitingAt_1 : decode cL_waitingAt 1 = .ok (.iconst 0, 1) := by decide +kernel
theorem dL_waitingAt_2 : decode cL_waitingAt 2 = .ok (.aload_n 0, 1) := by decide +kernel
theorem dL_waitingAt_3 : decode cL_waitingAt 3 = .ok (.iload_n 1, 1) := by decide +kernel
theorem dL_waitingAt_4 : decode cL_waitingAt 4 = .ok (.iload_n 2, 1) := by decide +kernel
theorem dL_waitingAt_5 : decode cL_waitingAt 5 = .ok (.invokevirtual 105, 3) := by decide +kernel
theorem dL_waitingAt_8 : decode cL_waitingAt 8 = .ok (.i2l, 1) := by decide +kernel
theorem dL_waitingAt_9 : decode cL_waitingAt 9 = .ok (.lastore, 1) := by decide +kernel
theorem dL_waitingAt_10 : decode cL_waitingAt 10 = .ok (.goto 11, 3) := by decide +kernel
theorem dL_waitingAt_13 : decode cL_waitingAt 13 = .ok (.astore 4, 2) := by decide +kernel
theorem dL_waitingAt_15 : decode cL_waitingAt 15 = .ok (.iconst 1, 1) := by decide +kernel
theorem dL_waitingAt_16 : decode cL_waitingAt 16 = .ok (.ireturn, 1) := by decide +kernel
theorem dL_waitingAt_17 : decode cL_waitingAt 17 = .ok (.astore 4, 2) := by decide +kernel
theorem dL_waitingAt_19 : decode cL_waitingAt 19 = .ok (.iconst 2, 1) := by decide +kernel
theorem dL_waitingAt_20 : decode cL_waitingAt 20 = .ok (.ireturn, 1) := by decide +kernel
theorem dL_waitingAt_21 : decode cL_waitingAt 21 = .ok (.iconst 0, 1) := by decide +kernel
theorem dL_waitingAt_22 : decode cL_waitingAt 22 = .ok (.ireturn, 1) := by decide +kernel
set_option maxRecDepth 20000 in
theorem ggL_claims_X4_claims : GoodIn wsL_claims wsX4_claims := goodIn_ca (goodIn_ca (goodIn_ca (goodIn_r _ [7, 8, 9, 10, 11, 12, 6, 13, 14, 15, 16, 17, 18, 19, 20, 21, 22, 23, 24, 25, 26, 27, 28, 29, 30, 31, 32, 33, 34, 35, 36, 37, 38, 39, 40, 41, 42, 43, 44, 45, 46, 47, 48, 49, 50, 51, 52, 53] (by decide +kernel) (by decide +kernel)) (goodIn_sub (fun _ h => List.mem_cons_of_mem _ (List.mem_append_left _ (List.mem_append_right _ h))) (by decide +kernel))) (goodIn_sub (fun _ h => List.mem_cons_of_mem _ (List.mem_append_right _ h)) (by decide +kernel))) (goodIn_sub (fun _ h => List.mem_cons_of_mem _ (List.mem_append_left _ (List.mem_append_left _ (List.mem_append_right _ h)))) (by decide +kernel))
set_option maxRecDepth 20000 in
theorem gL_claims_X4_claims : GoodIn wsL_claims (wsV RL 108 RX4 yX4_claims wsX4_claims) := goodIn_app (goodIn_of _ (by decide +kernel)) ggL_claims_X4_claims
theorem dL_claims_0 : decode cL_claims 0 = .ok (.aload_n 3, 1) := by decide +kernel
theorem dL_claims_1 : decode cL_claims 1 = .ok (.iconst 0, 1) := by decide +kernel
theorem dL_claims_2 : decode cL_claims 2 = .ok (.aload_n 0, 1) := by decide +kernel
theorem dL_claims_3 : decode cL_claims 3 = .ok (.iload_n 1, 1) := by decide +kernel
theorem dL_claims_4 : decode cL_claims 4 = .ok (.iload_n 2, 1) := by decide +kernel
theorem dL_claims_5 : decode cL_claims 5 = .ok (.invokevirtual 108, 3) := by decide +kernel
theorem dL_claims_8 : decode cL_claims 8 = .ok (.ifCond .eq 7, 3) := by decide +kernel
theorem dL_claims_11 : decode cL_claims 11 = .ok (.lconst 1, 1) := by decide +kernel
theorem dL_claims_12 : decode cL_claims 12 = .ok (.goto 4, 3) := by decide +kernel
theorem dL_claims_15 : decode cL_claims 15 = .ok (.lconst 0, 1) := by decide +kernel
theorem dL_claims_16 : decode cL_claims 16 = .ok (.lastore, 1) := by decide +kernel
theorem dL_claims_17 : decode cL_claims 17 = .ok (.goto 11, 3) := by decide +kernel
theorem dL_claims_20 : decode cL_claims 20 = .ok (.astore 4, 2) := by decide +kernel
theorem dL_claims_22 : decode cL_claims 22 = .ok (.iconst 1, 1) := by decide +kernel
theorem dL_claims_23 : decode cL_claims 23 = .ok (.ireturn, 1) := by decide +kernel
theorem dL_claims_24 : decode cL_claims 24 = .ok (.astore 4, 2) := by decide +kernel
theorem dL_claims_26 : decode cL_claims 26 = .ok (.iconst 2, 1) := by decide +kernel
theorem dL_claims_27 : decode cL_claims 27 = .ok (.ireturn, 1) := by decide +kernel
theorem dL_claims_28 : decode cL_claims 28 = .ok (.iconst 0, 1) := by decide +kernel
theorem dL_claims_29 : decode cL_claims 29 = .ok (.ireturn, 1) := by decide +kernel
set_option maxRecDepth 20000 in
theorem ggL_claimants_X4_claimants : GoodIn wsL_claimants wsX4_claimants := goodIn_ca (goodIn_ca (goodIn_r _ [6, 7, 8, 9, 10, 11, 5, 12, 13, 14, 15, 16, 17, 18, 19, 20, 21, 22, 23, 24, 25, 26, 27, 28, 29, 30, 31, 32, 33, 34, 35, 36, 37, 38, 39, 40, 41, 42, 43, 44, 45, 46, 47, 48, 49, 50] (by decide +kernel) (by decide +kernel)) (goodIn_sub (fun _ h => List.mem_cons_of_mem _ (List.mem_append_right _ h)) (by decide +kernel))) (goodIn_sub (fun _ h => List.mem_cons_of_mem _ (List.mem_append_left _ (List.mem_append_right _ h))) (by decide +kernel))
set_option maxRecDepth 20000 in
theorem gL_claimants_X4_claimants : GoodIn wsL_claimants (wsV RL 112 RX4 yX4_claimants wsX4_claimants) := goodIn_app (goodIn_of _ (by decide +kernel)) ggL_claimants_X4_claimants
theorem dL_claimants_0 : decode cL_claimants 0 = .ok (.aload_n 2, 1) := by decide +kernel
theorem dL_claimants_1 : decode cL_claimants 1 = .ok (.iconst 0, 1) := by decide +kernel
theorem dL_claimants_2 : decode cL_claimants 2 = .ok (.aload_n 0, 1) := by decide +kernel
theorem dL_claimants_3 : decode cL_claimants 3 = .ok (.iload_n 1, 1) := by decide +kernel
theorem dL_claimants_4 : decode cL_claimants 4 = .ok (.invokevirtual 112, 3) := by decide +kernel
theorem dL_claimants_7 : decode cL_claimants 7 = .ok (.i2l, 1) := by decide +kernel
theorem dL_claimants_8 : decode cL_claimants 8 = .ok (.lastore, 1) := by decide +kernel
theorem dL_claimants_9 : decode cL_claimants 9 = .ok (.goto 6, 3) := by decide +kernel
theorem dL_claimants_12 : decode cL_claimants 12 = .ok (.astore_n 3, 1) := by decide +kernel
theorem dL_claimants_13 : decode cL_claimants 13 = .ok (.iconst 1, 1) := by decide +kernel
theorem dL_claimants_14 : decode cL_claimants 14 = .ok (.ireturn, 1) := by decide +kernel
theorem dL_claimants_15 : decode cL_claimants 15 = .ok (.iconst 0, 1) := by decide +kernel
theorem dL_claimants_16 : decode cL_claimants 16 = .ok (.ireturn, 1) := by decide +kernel
set_option maxRecDepth 20000 in
theorem ggL_value_X4_value : GoodIn wsL_value wsX4_value := goodIn_ca (goodIn_ca (goodIn_r _ [6, 7, 8, 9, 10, 11, 5, 12, 13, 14, 15, 16, 17, 18, 19, 20, 21, 22, 23, 24, 25, 26] (by decide +kernel) (by decide +kernel)) (goodIn_sub (fun _ h => List.mem_cons_of_mem _ (List.mem_append_left _ (List.mem_append_right _ h))) (by decide +kernel))) (goodIn_sub (fun _ h => List.mem_cons_of_mem _ (List.mem_append_right _ h)) (by decide +kernel))
set_option maxRecDepth 20000 in
theorem gL_value_X4_value : GoodIn wsL_value (wsV RL 115 RX4 yX4_value wsX4_value) := goodIn_app (goodIn_of _ (by decide +kernel)) ggL_value_X4_value
theorem dL_value_0 : decode cL_value 0 = .ok (.aload_n 2, 1) := by decide +kernel
theorem dL_value_1 : decode cL_value 1 = .ok (.iconst 0, 1) := by decide +kernel
theorem dL_value_2 : decode cL_value 2 = .ok (.aload_n 0, 1) := by decide +kernel
theorem dL_value_3 : decode cL_value 3 = .ok (.iload_n 1, 1) := by decide +kernel
theorem dL_value_4 : decode cL_value 4 = .ok (.invokevirtual 115, 3) := by decide +kernel
theorem dL_value_7 : decode cL_value 7 = .ok (.i2l, 1) := by decide +kernel
theorem dL_value_8 : decode cL_value 8 = .ok (.lastore, 1) := by decide +kernel
theorem dL_value_9 : decode cL_value 9 = .ok (.goto 6, 3) := by decide +kernel
theorem dL_value_12 : decode cL_value 12 = .ok (.astore_n 3, 1) := by decide +kernel
theorem dL_value_13 : decode cL_value 13 = .ok (.iconst 1, 1) := by decide +kernel
theorem dL_value_14 : decode cL_value 14 = .ok (.ireturn, 1) := by decide +kernel
theorem dL_value_15 : decode cL_value 15 = .ok (.iconst 0, 1) := by decide +kernel
theorem dL_value_16 : decode cL_value 16 = .ok (.ireturn, 1) := by decide +kernel
set_option maxRecDepth 20000 in
theorem ggL_valueByLog_X4_valueByLog : GoodIn wsL_valueByLog wsX4_valueByLog := goodIn_ca (goodIn_ca (goodIn_r _ [6, 7, 8, 9, 10, 5, 11, 12, 13, 14, 15, 16, 17, 18, 19, 20, 21, 22, 23, 24, 25, 26, 27, 28, 29, 30, 31, 32, 33, 34] (by decide +kernel) (by decide +kernel)) (goodIn_sub (fun _ h => List.mem_cons_of_mem _ (List.mem_append_right _ h)) (by decide +kernel))) (goodIn_sub (fun _ h => List.mem_cons_of_mem _ (List.mem_append_left _ (List.mem_append_right _ h))) (by decide +kernel))
set_option maxRecDepth 20000 in
theorem gL_valueByLog_X4_valueByLog : GoodIn wsL_valueByLog (wsV RL 118 RX4 yX4_valueByLog wsX4_valueByLog) := goodIn_app (goodIn_of _ (by decide +kernel)) ggL_valueByLog_X4_valueByLog
theorem dL_valueByLog_0 : decode cL_valueByLog 0 = .ok (.aload_n 2, 1) := by decide +kernel
theorem dL_valueByLog_1 : decode cL_valueByLog 1 = .ok (.iconst 0, 1) := by decide +kernel
theorem dL_valueByLog_2 : decode cL_valueByLog 2 = .ok (.aload_n 0, 1) := by decide +kernel
theorem dL_valueByLog_3 : decode cL_valueByLog 3 = .ok (.iload_n 1, 1) := by decide +kernel
theorem dL_valueByLog_4 : decode cL_valueByLog 4 = .ok (.invokevirtual 118, 3) := by decide +kernel
theorem dL_valueByLog_7 : decode cL_valueByLog 7 = .ok (.i2l, 1) := by decide +kernel
theorem dL_valueByLog_8 : decode cL_valueByLog 8 = .ok (.lastore, 1) := by decide +kernel
theorem dL_valueByLog_9 : decode cL_valueByLog 9 = .ok (.goto 6, 3) := by decide +kernel
theorem dL_valueByLog_12 : decode cL_valueByLog 12 = .ok (.astore_n 3, 1) := by decide +kernel
theorem dL_valueByLog_13 : decode cL_valueByLog 13 = .ok (.iconst 1, 1) := by decide +kernel
theorem dL_valueByLog_14 : decode cL_valueByLog 14 = .ok (.ireturn, 1) := by decide +kernel
theorem dL_valueByLog_15 : decode cL_valueByLog 15 = .ok (.iconst 0, 1) := by decide +kernel
theorem dL_valueByLog_16 : decode cL_valueByLog 16 = .ok (.ireturn, 1) := by decide +kernel
set_option maxRecDepth 20000 in
theorem ggL_kept_X4_kept : GoodIn wsL_kept wsX4_kept := goodIn_ca (goodIn_ca (goodIn_ca (goodIn_ca (goodIn_r _ [8, 9, 10, 11, 12, 13, 14, 15, 16, 7, 17, 18, 19, 20, 21, 22, 23, 24, 25, 26, 27, 28, 29, 30, 31, 32, 33, 34, 35, 36, 37, 38, 39, 40, 41, 42, 43, 44, 45, 46, 47, 48, 49, 50, 51, 52, 53, 54, 55, 56, 57, 58] (by decide +kernel) (by decide +kernel)) (goodIn_sub (fun _ h => List.mem_cons_of_mem _ (List.mem_append_left _ (List.mem_append_left _ (List.mem_append_right _ h)))) (by decide +kernel))) (goodIn_sub (fun _ h => List.mem_cons_of_mem _ (List.mem_append_left _ (List.mem_append_left _ (List.mem_append_left _ (List.mem_append_right _ h))))) (by decide +kernel))) (goodIn_sub (fun _ h => List.mem_cons_of_mem _ (List.mem_append_left _ (List.mem_append_right _ h))) (by decide +kernel))) (goodIn_sub (fun _ h => List.mem_cons_of_mem _ (List.mem_append_right _ h)) (by decide +kernel))
set_option maxRecDepth 20000 in
theorem gL_kept_X4_kept : GoodIn wsL_kept (wsV RL 121 RX4 yX4_kept wsX4_kept) := goodIn_app (goodIn_of _ (by decide +kernel)) ggL_kept_X4_kept
theorem dL_kept_0 : decode cL_kept 0 = .ok (.aload_n 3, 1) := by decide +kernel
theorem dL_kept_1 : decode cL_kept 1 = .ok (.iconst 0, 1) := by decide +kernel
theorem dL_kept_2 : decode cL_kept 2 = .ok (.aload_n 0, 1) := by decide +kernel
theorem dL_kept_3 : decode cL_kept 3 = .ok (.iload_n 1, 1) := by decide +kernel
theorem dL_kept_4 : decode cL_kept 4 = .ok (.iload_n 2, 1) := by decide +kernel
theorem dL_kept_5 : decode cL_kept 5 = .ok (.invokevirtual 121, 3) := by decide +kernel
theorem dL_kept_8 : decode cL_kept 8 = .ok (.i2l, 1) := by decide +kernel
theorem dL_kept_9 : decode cL_kept 9 = .ok (.lastore, 1) := by decide +kernel
theorem dL_kept_10 : decode cL_kept 10 = .ok (.goto 15, 3) := by decide +kernel
theorem dL_kept_13 : decode cL_kept 13 = .ok (.astore 4, 2) := by decide +kernel
theorem dL_kept_15 : decode cL_kept 15 = .ok (.iconst 1, 1) := by decide +kernel
theorem dL_kept_16 : decode cL_kept 16 = .ok (.ireturn, 1) := by decide +kernel
theorem dL_kept_17 : decode cL_kept 17 = .ok (.astore 4, 2) := by decide +kernel
theorem dL_kept_19 : decode cL_kept 19 = .ok (.iconst 2, 1) := by decide +kernel
theorem dL_kept_20 : decode cL_kept 20 = .ok (.ireturn, 1) := by decide +kernel
theorem dL_kept_21 : decode cL_kept 21 = .ok (.astore 4, 2) := by decide +kernel
theorem dL_kept_23 : decode cL_kept 23 = .ok (.iconst 3, 1) := by decide +kernel
theorem dL_kept_24 : decode cL_kept 24 = .ok (.ireturn, 1) := by decide +kernel
theorem dL_kept_25 : decode cL_kept 25 = .ok (.iconst 0, 1) := by decide +kernel
theorem dL_kept_26 : decode cL_kept 26 = .ok (.ireturn, 1) := by decide +kernel
set_option maxRecDepth 20000 in
theorem ggL_kindOf_X4_kindOf : GoodIn wsL_kindOf wsX4_kindOf := goodIn_ca (goodIn_ca (goodIn_r _ [6, 7, 8, 9, 10, 11, 5, 12, 13, 14, 15, 16, 17, 18, 19, 20, 21, 22, 23, 24, 25, 26, 27] (by decide +kernel) (by decide +kernel)) (goodIn_sub (fun _ h => List.mem_cons_of_mem _ (List.mem_append_left _ (List.mem_append_right _ h))) (by decide +kernel))) (goodIn_sub (fun _ h => List.mem_cons_of_mem _ (List.mem_append_right _ h)) (by decide +kernel))
set_option maxRecDepth 20000 in
theorem gL_kindOf_X4_kindOf : GoodIn wsL_kindOf (wsV RL 124 RX4 yX4_kindOf wsX4_kindOf) := goodIn_app (goodIn_of _ (by decide +kernel)) ggL_kindOf_X4_kindOf
theorem dL_kindOf_0 : decode cL_kindOf 0 = .ok (.aload_n 2, 1) := by decide +kernel
theorem dL_kindOf_1 : decode cL_kindOf 1 = .ok (.iconst 0, 1) := by decide +kernel
theorem dL_kindOf_2 : decode cL_kindOf 2 = .ok (.aload_n 0, 1) := by decide +kernel
theorem dL_kindOf_3 : decode cL_kindOf 3 = .ok (.iload_n 1, 1) := by decide +kernel
theorem dL_kindOf_4 : decode cL_kindOf 4 = .ok (.invokevirtual 124, 3) := by decide +kernel
theorem dL_kindOf_7 : decode cL_kindOf 7 = .ok (.i2l, 1) := by decide +kernel
theorem dL_kindOf_8 : decode cL_kindOf 8 = .ok (.lastore, 1) := by decide +kernel
theorem dL_kindOf_9 : decode cL_kindOf 9 = .ok (.goto 6, 3) := by decide +kernel
theorem dL_kindOf_12 : decode cL_kindOf 12 = .ok (.astore_n 3, 1) := by decide +kernel
theorem dL_kindOf_13 : decode cL_kindOf 13 = .ok (.iconst 1, 1) := by decide +kernel
theorem dL_kindOf_14 : decode cL_kindOf 14 = .ok (.ireturn, 1) := by decide +kernel
theorem dL_kindOf_15 : decode cL_kindOf 15 = .ok (.iconst 0, 1) := by decide +kernel
theorem dL_kindOf_16 : decode cL_kindOf 16 = .ok (.ireturn, 1) := by decide +kernel
set_option maxRecDepth 20000 in
theorem ggL_termOfEntry_X4_termOfEntry : GoodIn wsL_termOfEntry wsX4_termOfEntry := goodIn_ca (goodIn_ca (goodIn_r _ [6, 7, 8, 9, 10, 11, 5, 12, 13, 14, 15, 16, 17, 18, 19, 20, 21, 22, 23, 24, 25, 26, 27] (by decide +kernel) (by decide +kernel)) (goodIn_sub (fun _ h => List.mem_cons_of_mem _ (List.mem_append_left _ (List.mem_append_right _ h))) (by decide +kernel))) (goodIn_sub (fun _ h => List.mem_cons_of_mem _ (List.mem_append_right _ h)) (by decide +kernel))
set_option maxRecDepth 20000 in
theorem gL_termOfEntry_X4_termOfEntry : GoodIn wsL_termOfEntry (wsV RL 128 RX4 yX4_termOfEntry wsX4_termOfEntry) := goodIn_app (goodIn_of _ (by decide +kernel)) ggL_termOfEntry_X4_termOfEntry
theorem dL_termOfEntry_0 : decode cL_termOfEntry 0 = .ok (.aload_n 2, 1) := by decide +kernel
theorem dL_termOfEntry_1 : decode cL_termOfEntry 1 = .ok (.iconst 0, 1) := by decide +kernel
theorem dL_termOfEntry_2 : decode cL_termOfEntry 2 = .ok (.aload_n 0, 1) := by decide +kernel
theorem dL_termOfEntry_3 : decode cL_termOfEntry 3 = .ok (.iload_n 1, 1) := by decide +kernel
theorem dL_termOfEntry_4 : decode cL_termOfEntry 4 = .ok (.invokevirtual 128, 3) := by decide +kernel
theorem dL_termOfEntry_7 : decode cL_termOfEntry 7 = .ok (.i2l, 1) := by decide +kernel
theorem dL_termOfEntry_8 : decode cL_termOfEntry 8 = .ok (.lastore, 1) := by decide +kernel
theorem dL_termOfEntry_9 : decode cL_termOfEntry 9 = .ok (.goto 6, 3) := by decide +kernel
theorem dL_termOfEntry_12 : decode cL_termOfEntry 12 = .ok (.astore_n 3, 1) := by decide +kernel
theorem dL_termOfEntry_13 : decode cL_termOfEntry 13 = .ok (.iconst 1, 1) := by decide +kernel
theorem dL_termOfEntry_14 : decode cL_termOfEntry 14 = .ok (.ireturn, 1) := by decide +kernel
theorem dL_termOfEntry_15 : decode cL_termOfEntry 15 = .ok (.iconst 0, 1) := by decide +kernel
theorem dL_termOfEntry_16 : decode cL_termOfEntry 16 = .ok (.ireturn, 1) := by decide +kernel
set_option maxRecDepth 20000 in
theorem ggL_knownBy_X4_knownBy : GoodIn wsL_knownBy wsX4_knownBy := goodIn_ca (goodIn_ca (goodIn_r _ [6, 7, 8, 9, 10, 5, 11, 12, 13, 14, 15, 16, 17, 18, 19, 20, 21, 22, 23, 24, 25, 26, 27, 28, 29, 30, 31, 32, 33, 34, 35, 36, 37, 38] (by decide +kernel) (by decide +kernel)) (goodIn_sub (fun _ h => List.mem_cons_of_mem _ (List.mem_append_right _ h)) (by decide +kernel))) (goodIn_sub (fun _ h => List.mem_cons_of_mem _ (List.mem_append_left _ (List.mem_append_right _ h))) (by decide +kernel))
set_option maxRecDepth 20000 in
theorem gL_knownBy_X4_knownBy : GoodIn wsL_knownBy (wsV RL 131 RX4 yX4_knownBy wsX4_knownBy) := goodIn_app (goodIn_of _ (by decide +kernel)) ggL_knownBy_X4_knownBy
theorem dL_knownBy_0 : decode cL_knownBy 0 = .ok (.aload_n 2, 1) := by decide +kernel
theorem dL_knownBy_1 : decode cL_knownBy 1 = .ok (.iconst 0, 1) := by decide +kernel
theorem dL_knownBy_2 : decode cL_knownBy 2 = .ok (.aload_n 0, 1) := by decide +kernel
theorem dL_knownBy_3 : decode cL_knownBy 3 = .ok (.iload_n 1, 1) := by decide +kernel
theorem dL_knownBy_4 : decode cL_knownBy 4 = .ok (.invokevirtual 131, 3) := by decide +kernel
theorem dL_knownBy_7 : decode cL_knownBy 7 = .ok (.i2l, 1) := by decide +kernel
theorem dL_knownBy_8 : decode cL_knownBy 8 = .ok (.lastore, 1) := by decide +kernel
theorem dL_knownBy_9 : decode cL_knownBy 9 = .ok (.goto 6, 3) := by decide +kernel
theorem dL_knownBy_12 : decode cL_knownBy 12 = .ok (.astore_n 3, 1) := by decide +kernel
theorem dL_knownBy_13 : decode cL_knownBy 13 = .ok (.iconst 1, 1) := by decide +kernel
theorem dL_knownBy_14 : decode cL_knownBy 14 = .ok (.ireturn, 1) := by decide +kernel
theorem dL_knownBy_15 : decode cL_knownBy 15 = .ok (.iconst 0, 1) := by decide +kernel
theorem dL_knownBy_16 : decode cL_knownBy 16 = .ok (.ireturn, 1) := by decide +kernel
set_option maxRecDepth 20000 in
theorem ggL_meanKnown_X4_meanKnown : GoodIn wsL_meanKnown wsX4_meanKnown := goodIn_ca (goodIn_ca (goodIn_r _ [6, 7, 8, 9, 10, 11, 12, 13, 14, 15, 16, 17, 18, 19, 20, 21, 22, 23, 24, 25, 26, 27, 28, 29, 30, 31, 32, 33, 34] (by decide +kernel) (by decide +kernel)) (goodIn_sub (fun _ h => List.mem_cons_of_mem _ (List.mem_append_right _ h)) (by decide +kernel))) (goodIn_sub (fun _ h => List.mem_cons_of_mem _ (List.mem_append_left _ (List.mem_append_right _ h))) (by decide +kernel))
set_option maxRecDepth 20000 in
theorem gL_meanKnown_X4_meanKnown : GoodIn wsL_meanKnown (wsV RL 134 RX4 yX4_meanKnown wsX4_meanKnown) := goodIn_app (goodIn_of _ (by decide +kernel)) ggL_meanKnown_X4_meanKnown
theorem dL_meanKnown_0 : decode cL_meanKnown 0 = .ok (.aload_n 1, 1) := by decide +kernel
theorem dL_meanKnown_1 : decode cL_meanKnown 1 = .ok (.iconst 0, 1) := by decide +kernel
theorem dL_meanKnown_2 : decode cL_meanKnown 2 = .ok (.aload_n 0, 1) := by decide +kernel
theorem dL_meanKnown_3 : decode cL_meanKnown 3 = .ok (.invokevirtual 134, 3) := by decide +kernel
theorem dL_meanKnown_6 : decode cL_meanKnown 6 = .ok (.dastore, 1) := by decide +kernel
theorem dL_meanKnown_7 : decode cL_meanKnown 7 = .ok (.goto 6, 3) := by decide +kernel
theorem dL_meanKnown_10 : decode cL_meanKnown 10 = .ok (.astore_n 2, 1) := by decide +kernel
theorem dL_meanKnown_11 : decode cL_meanKnown 11 = .ok (.iconst 1, 1) := by decide +kernel
theorem dL_meanKnown_12 : decode cL_meanKnown 12 = .ok (.ireturn, 1) := by decide +kernel
theorem dL_meanKnown_13 : decode cL_meanKnown 13 = .ok (.iconst 0, 1) := by decide +kernel
theorem dL_meanKnown_14 : decode cL_meanKnown 14 = .ok (.ireturn, 1) := by decide +kernel
set_option maxRecDepth 20000 in
theorem ggL_law_X4_init : GoodIn wsL_law wsX4_init := goodIn_r _ [10, 11, 12, 13, 14, 15, 16, 17, 18, 19, 20, 21, 22, 23, 24, 25, 26, 27, 28, 29, 30, 31, 32, 33, 34, 35, 36, 37, 38, 39, 40, 41, 42, 43, 44, 45, 46, 47, 48, 49, 50, 51, 52, 53, 54, 55, 56, 57, 58, 59, 60, 61, 62, 63, 64, 65, 66, 67, 68, 69, 70, 71, 72, 73, 74, 75, 76, 955, 956, 957, 958, 959, 919, 920, 921, 922, 923, 924, 960, 961, 962, 963, 964, 965, 966, 967, 968, 969, 970, 971, 972, 973, 974, 975, 976, 977, 978, 979, 980] (by decide +kernel) (by decide +kernel)
set_option maxRecDepth 20000 in
theorem gL_law_X4_init : GoodIn wsL_law (wsX4_init) := ggL_law_X4_init
set_option maxRecDepth 20000 in
theorem ggL_law_X5_init : GoodIn wsL_law wsX5_init := goodIn_ca (goodIn_r _ [79, 80, 12, 13, 34, 81, 82, 83, 84, 85, 36, 86, 87, 88, 89, 90, 91, 92, 93, 94, 95, 96, 97, 98, 99, 100, 101, 48, 102, 103, 104, 105, 106, 107, 108, 109, 110, 925, 926, 927, 928, 929, 930, 931, 932, 933, 934, 935, 936, 937, 938, 939, 940, 941, 942, 943, 944, 945, 946, 947, 948, 949, 950, 951, 952, 953, 954] (by decide +kernel) (by decide +kernel)) (goodIn_sub (fun _ h => List.mem_append_left _ (List.mem_append_left _ (List.mem_append_left _ (List.mem_append_left _ (List.mem_append_left _ (List.mem_append_left _ (List.mem_append_right _ h))))))) (by decide +kernel))
set_option maxRecDepth 20000 in
theorem gL_law_X5_init : GoodIn wsL_law (wsX5_init) := ggL_law_X5_init
set_option maxRecDepth 20000 in
theorem ggL_law_L_pass : GoodIn wsL_law wsL_pass := goodIn_ca (goodIn_ca (goodIn_r _ [114, 115, 116, 117, 118, 2, 119, 120, 121, 122, 919, 920, 921, 922, 923, 924] (by decide +kernel) (by decide +kernel)) (goodIn_sub (fun _ h => List.mem_append_left _ (List.mem_append_left _ (List.mem_append_left _ (List.mem_append_left _ (List.mem_append_left _ (List.mem_append_left _ (List.mem_append_right _ h))))))) (by decide +kernel))) (goodIn_sub (fun _ h => List.mem_append_left _ (List.mem_append_left _ (List.mem_append_left _ (List.mem_append_left _ (List.mem_append_left _ (List.mem_append_right _ h)))))) (by decide +kernel))
set_option maxRecDepth 20000 in
theorem gL_law_L_pass : GoodIn wsL_law (va_wsS RL 144 yL_pass wsL_pass) := goodIn_app (goodIn_of _ (by decide +kernel)) ggL_law_L_pass
set_option maxRecDepth 20000 in
theorem ggL_law_X5_pass : GoodIn wsL_law wsX5_pass := goodIn_r _ [126, 107, 127, 128, 5, 129, 130, 131, 132, 133, 106, 925, 926, 927, 928, 929, 930, 931, 932, 933, 934, 935, 936, 937, 938, 939, 940, 941, 942, 943, 944, 945, 946, 947, 948, 949, 950, 951, 952, 953, 954] (by decide +kernel) (by decide +kernel)
set_option maxRecDepth 20000 in
theorem gL_law_X5_pass : GoodIn wsL_law (wsV RL 149 RX5 yX5_pass wsX5_pass) := goodIn_app (goodIn_of _ (by decide +kernel)) ggL_law_X5_pass
set_option maxRecDepth 20000 in
theorem ggL_law_X5_thrown : GoodIn wsL_law wsX5_thrown := goodIn_r _ [137, 106, 925, 926, 927, 928, 929, 930, 931, 932, 933, 934, 935, 936, 937, 938, 939, 940, 941, 942, 943, 944, 945, 946, 947, 948, 949, 950, 951, 952, 953, 954] (by decide +kernel) (by decide +kernel)
set_option maxRecDepth 20000 in
theorem gL_law_X5_thrown : GoodIn wsL_law (wsV RL 150 RX5 yX5_thrown wsX5_thrown) := goodIn_app (goodIn_of _ (by decide +kernel)) ggL_law_X5_thrown
set_option maxRecDepth 20000 in
theorem ggL_law_X4_time : GoodIn wsL_law wsX4_time := goodIn_r _ [141, 122, 919, 920, 921, 922, 923, 924] (by decide +kernel) (by decide +kernel)
set_option maxRecDepth 20000 in
theorem gL_law_X4_time : GoodIn wsL_law (wsV RL 153 RX4 yX4_time wsX4_time) := goodIn_app (goodIn_of _ (by decide +kernel)) ggL_law_X4_time
set_option maxRecDepth 20000 in
theorem ggL_law_X5_time : GoodIn wsL_law wsX5_time := goodIn_r _ [145, 107, 146, 147, 148, 5, 149, 106, 925, 926, 927, 928, 929, 930, 931, 932, 933, 934, 935, 936, 937, 938, 939, 940, 941, 942, 943, 944, 945, 946, 947, 948, 949, 950, 951, 952, 953, 954] (by decide +kernel) (by decide +kernel)
set_option maxRecDepth 20000 in
theorem gL_law_X5_time : GoodIn wsL_law (wsV RL 156 RX5 yX5_time wsX5_time) := goodIn_app (goodIn_of _ (by decide +kernel)) ggL_law_X5_time
set_option maxRecDepth 20000 in
theorem ggL_law_L_setDown : GoodIn wsL_law wsL_setDown := goodIn_ca (goodIn_ca (goodIn_r _ [152, 153, 154, 155, 156, 2, 157, 17, 158, 159, 160, 161, 162, 163, 164, 919, 920, 921, 922, 923, 924, 955, 956, 957, 958, 959] (by decide +kernel) (by decide +kernel)) (goodIn_sub (fun _ h => List.mem_append_left _ (List.mem_append_left _ (List.mem_append_left _ (List.mem_append_left _ (List.mem_append_left _ (List.mem_append_left _ (List.mem_append_right _ h))))))) (by decide +kernel))) (goodIn_sub (fun _ h => List.mem_append_left _ (List.mem_append_left _ (List.mem_append_left _ (List.mem_append_left _ (List.mem_append_right _ h))))) (by decide +kernel))
set_option maxRecDepth 20000 in
theorem gL_law_L_setDown : GoodIn wsL_law (va_wsS RL 157 yL_setDown wsL_setDown) := goodIn_app (goodIn_of _ (by decide +kernel)) ggL_law_L_setDown
set_option maxRecDepth 20000 in
theorem ggL_law_X5_setDown : GoodIn wsL_law wsX5_setDown := goodIn_ca (goodIn_r _ [168, 81, 169, 170, 5, 171, 127, 128, 129, 130, 131, 132, 133, 106, 925, 926, 927, 928, 929, 930, 931, 932, 933, 934, 935, 936, 937, 938, 939, 940, 941, 942, 943, 944, 945, 946, 947, 948, 949, 950, 951, 952, 953, 954] (by decide +kernel) (by decide +kernel)) (goodIn_sub (fun _ h => List.mem_append_left _ (List.mem_append_left _ (List.mem_append_left _ (List.mem_append_left _ (List.mem_append_left _ (List.mem_append_left _ (List.mem_append_right _ h))))))) (by decide +kernel))
set_option maxRecDepth 20000 in
theorem gL_law_X5_setDown : GoodIn wsL_law (wsV RL 160 RX5 yX5_setDown wsX5_setDown) := goodIn_app (goodIn_of _ (by decide +kernel)) ggL_law_X5_setDown
set_option maxRecDepth 20000 in
theorem ggL_law_L_setCut : GoodIn wsL_law wsL_setCut := goodIn_ca (goodIn_ca (goodIn_ca (goodIn_r _ [174, 153, 115, 175, 176, 177, 2, 178, 120, 121, 17, 159, 160, 161, 162, 163, 164, 179, 180, 181, 16, 182, 39, 919, 920, 921, 922, 923, 924, 955, 956, 957, 958, 959] (by decide +kernel) (by decide +kernel)) (goodIn_sub (fun _ h => List.mem_append_left _ (List.mem_append_left _ (List.mem_append_left _ (List.mem_append_left _ (List.mem_append_left _ (List.mem_append_left _ (List.mem_append_right _ h))))))) (by decide +kernel))) (goodIn_sub (fun _ h => List.mem_append_left _ (List.mem_append_left _ (List.mem_append_left _ (List.mem_append_left _ (List.mem_append_left _ (List.mem_append_right _ h)))))) (by decide +kernel))) (goodIn_sub (fun _ h => List.mem_append_left _ (List.mem_append_left _ (List.mem_append_left _ (List.mem_append_left _ (List.mem_append_right _ h))))) (by decide +kernel))
set_option maxRecDepth 20000 in
theorem gL_law_L_setCut : GoodIn wsL_law (va_wsS RL 161 yL_setCut wsL_setCut) := goodIn_app (goodIn_of _ (by decide +kernel)) ggL_law_L_setCut
set_option maxRecDepth 20000 in
theorem ggL_law_X5_setCut : GoodIn wsL_law wsX5_setCut := goodIn_ca (goodIn_r _ [186, 106, 82, 169, 170, 5, 171, 127, 128, 129, 925, 926, 927, 928, 929, 930, 931, 932, 933, 934, 935, 936, 937, 938, 939, 940, 941, 942, 943, 944, 945, 946, 947, 948, 949, 950, 951, 952, 953, 954] (by decide +kernel) (by decide +kernel)) (goodIn_sub (fun _ h => List.mem_append_left _ (List.mem_append_left _ (List.mem_append_left _ (List.mem_append_left _ (List.mem_append_left _ (List.mem_append_left _ (List.mem_append_right _ h))))))) (by decide +kernel))
set_option maxRecDepth 20000 in
theorem gL_law_X5_setCut : GoodIn wsL_law (wsV RL 164 RX5 yX5_setCut wsX5_setCut) := goodIn_app (goodIn_of _ (by decide +kernel)) ggL_law_X5_setCut
set_option maxRecDepth 20000 in
theorem ggL_law_L_reached : GoodIn wsL_law wsL_reached := goodIn_ca (goodIn_ca (goodIn_r _ [189, 153, 190, 191, 192, 2, 193, 17, 159, 160, 161, 162, 163, 164, 194, 195, 196, 16, 197, 198, 199, 200, 201, 35, 39, 919, 920, 921, 922, 923, 924, 955, 956, 957, 958, 959] (by decide +kernel) (by decide +kernel)) (goodIn_sub (fun _ h => List.mem_append_left _ (List.mem_append_left _ (List.mem_append_left _ (List.mem_append_left _ (List.mem_append_left _ (List.mem_append_left _ (List.mem_append_right _ h))))))) (by decide +kernel))) (goodIn_sub (fun _ h => List.mem_append_left _ (List.mem_append_left _ (List.mem_append_left _ (List.mem_append_left _ (List.mem_append_right _ h))))) (by decide +kernel))
set_option maxRecDepth 20000 in
theorem gL_law_L_reached : GoodIn wsL_law (va_wsS RL 165 yL_reached wsL_reached) := goodIn_app (goodIn_of _ (by decide +kernel)) ggL_law_L_reached
set_option maxRecDepth 20000 in
theorem ggL_law_X5_reached : GoodIn wsL_law wsX5_reached := goodIn_ca (goodIn_r _ [205, 169, 170, 5, 171, 127, 128, 129, 130, 131, 132, 133, 106, 206, 207, 208, 209, 210, 211, 212, 213, 81, 82, 925, 926, 927, 928, 929, 930, 931, 932, 933, 934, 935, 936, 937, 938, 939, 940, 941, 942, 943, 944, 945, 946, 947, 948, 949, 950, 951, 952, 953, 954] (by decide +kernel) (by decide +kernel)) (goodIn_sub (fun _ h => List.mem_append_left _ (List.mem_append_left _ (List.mem_append_left _ (List.mem_append_left _ (List.mem_append_left _ (List.mem_append_left _ (List.mem_append_right _ h))))))) (by decide +kernel))
set_option maxRecDepth 20000 in
theorem gL_law_X5_reached : GoodIn wsL_law (wsV RL 167 RX5 yX5_reached wsX5_reached) := goodIn_app (goodIn_of _ (by decide +kernel)) ggL_law_X5_reached
set_option maxRecDepth 20000 in
theorem ggL_law_L_stand : GoodIn wsL_law wsL_stand := goodIn_ca (goodIn_ca (goodIn_ca (goodIn_r _ [216, 153, 217, 218, 219, 220, 2, 221, 222, 223, 17, 158, 159, 160, 161, 162, 163, 164, 224, 225, 226, 16, 227, 37, 38, 40, 198, 199, 200, 201, 35, 39, 919, 920, 921, 922, 923, 924, 955, 956, 957, 958, 959] (by decide +kernel) (by decide +kernel)) (goodIn_sub (fun _ h => List.mem_append_left _ (List.mem_append_left _ (List.mem_append_left _ (List.mem_append_left _ (List.mem_append_left _ (List.mem_append_left _ (List.mem_append_right _ h))))))) (by decide +kernel))) (goodIn_sub (fun _ h => List.mem_append_left _ (List.mem_append_left _ (List.mem_append_left _ (List.mem_append_right _ h)))) (by decide +kernel))) (goodIn_sub (fun _ h => List.mem_append_left _ (List.mem_append_left _ (List.mem_append_left _ (List.mem_append_left _ (List.mem_append_right _ h))))) (by decide +kernel))
set_option maxRecDepth 20000 in
theorem gL_law_L_stand : GoodIn wsL_law (va_wsS RL 168 yL_stand wsL_stand) := goodIn_app (goodIn_of _ (by decide +kernel)) ggL_law_L_stand
set_option maxRecDepth 20000 in
theorem ggL_law_X5_stand : GoodIn wsL_law wsX5_stand := goodIn_ca (goodIn_r _ [231, 81, 106, 86, 88, 87, 89, 169, 170, 5, 171, 127, 128, 129, 210, 211, 212, 213, 82, 925, 926, 927, 928, 929, 930, 931, 932, 933, 934, 935, 936, 937, 938, 939, 940, 941, 942, 943, 944, 945, 946, 947, 948, 949, 950, 951, 952, 953, 954] (by decide +kernel) (by decide +kernel)) (goodIn_sub (fun _ h => List.mem_append_left _ (List.mem_append_left _ (List.mem_append_left _ (List.mem_append_left _ (List.mem_append_left _ (List.mem_append_left _ (List.mem_append_right _ h))))))) (by decide +kernel))
set_option maxRecDepth 20000 in
theorem gL_law_X5_stand : GoodIn wsL_law (wsV RL 170 RX5 yX5_stand wsX5_stand) := goodIn_app (goodIn_of _ (by decide +kernel)) ggL_law_X5_stand
set_option maxRecDepth 20000 in
theorem ggL_law_L_termOf : GoodIn wsL_law wsL_termOf := goodIn_ca (goodIn_ca (goodIn_r _ [234, 153, 235, 236, 237, 2, 238, 17, 239, 159, 160, 161, 162, 163, 164, 919, 920, 921, 922, 923, 924, 955, 956, 957, 958, 959] (by decide +kernel) (by decide +kernel)) (goodIn_sub (fun _ h => List.mem_append_left _ (List.mem_append_left _ (List.mem_append_left _ (List.mem_append_left _ (List.mem_append_left _ (List.mem_append_left _ (List.mem_append_right _ h))))))) (by decide +kernel))) (goodIn_sub (fun _ h => List.mem_append_left _ (List.mem_append_left _ (List.mem_append_left _ (List.mem_append_left _ (List.mem_append_right _ h))))) (by decide +kernel))
set_option maxRecDepth 20000 in
theorem gL_law_L_termOf : GoodIn wsL_law (va_wsS RL 171 yL_termOf wsL_termOf) := goodIn_app (goodIn_of _ (by decide +kernel)) ggL_law_L_termOf
set_option maxRecDepth 20000 in
theorem ggL_law_X5_termOf : GoodIn wsL_law wsX5_termOf := goodIn_ca (goodIn_r _ [243, 86, 169, 170, 5, 171, 127, 128, 129, 130, 131, 132, 133, 106, 925, 926, 927, 928, 929, 930, 931, 932, 933, 934, 935, 936, 937, 938, 939, 940, 941, 942, 943, 944, 945, 946, 947, 948, 949, 950, 951, 952, 953, 954] (by decide +kernel) (by decide +kernel)) (goodIn_sub (fun _ h => List.mem_append_left _ (List.mem_append_left _ (List.mem_append_left _ (List.mem_append_left _ (List.mem_append_left _ (List.mem_append_left _ (List.mem_append_right _ h))))))) (by decide +kernel))
set_option maxRecDepth 20000 in
theorem gL_law_X5_termOf : GoodIn wsL_law (wsV RL 173 RX5 yX5_termOf wsX5_termOf) := goodIn_app (goodIn_of _ (by decide +kernel)) ggL_law_X5_termOf
set_option maxRecDepth 20000 in
theorem ggL_law_L_isLeader : GoodIn wsL_law wsL_isLeader := goodIn_ca (goodIn_ca (goodIn_r _ [246, 153, 247, 248, 249, 2, 250, 17, 159, 160, 161, 162, 163, 164, 251, 252, 253, 16, 254, 37, 255, 256, 257, 258, 40, 919, 920, 921, 922, 923, 924, 955, 956, 957, 958, 959] (by decide +kernel) (by decide +kernel)) (goodIn_sub (fun _ h => List.mem_append_left _ (List.mem_append_left _ (List.mem_append_left _ (List.mem_append_left _ (List.mem_append_left _ (List.mem_append_left _ (List.mem_append_right _ h))))))) (by decide +kernel))) (goodIn_sub (fun _ h => List.mem_append_left _ (List.mem_append_left _ (List.mem_append_left _ (List.mem_append_left _ (List.mem_append_right _ h))))) (by decide +kernel))
set_option maxRecDepth 20000 in
theorem gL_law_L_isLeader : GoodIn wsL_law (va_wsS RL 174 yL_isLeader wsL_isLeader) := goodIn_app (goodIn_of _ (by decide +kernel)) ggL_law_L_isLeader
set_option maxRecDepth 20000 in
theorem ggL_law_X5_isLeader : GoodIn wsL_law wsX5_isLeader := goodIn_ca (goodIn_r _ [262, 169, 170, 5, 171, 127, 128, 129, 130, 131, 132, 133, 106, 263, 264, 265, 266, 87, 86, 925, 926, 927, 928, 929, 930, 931, 932, 933, 934, 935, 936, 937, 938, 939, 940, 941, 942, 943, 944, 945, 946, 947, 948, 949, 950, 951, 952, 953, 954] (by decide +kernel) (by decide +kernel)) (goodIn_sub (fun _ h => List.mem_append_left _ (List.mem_append_left _ (List.mem_append_left _ (List.mem_append_left _ (List.mem_append_left _ (List.mem_append_left _ (List.mem_append_right _ h))))))) (by decide +kernel))
set_option maxRecDepth 20000 in
theorem gL_law_X5_isLeader : GoodIn wsL_law (wsV RL 176 RX5 yX5_isLeader wsX5_isLeader) := goodIn_app (goodIn_of _ (by decide +kernel)) ggL_law_X5_isLeader
set_option maxRecDepth 20000 in
theorem ggL_law_L_leaderOf : GoodIn wsL_law wsL_leaderOf := goodIn_ca (goodIn_ca (goodIn_r _ [269, 270, 271, 272, 273, 2, 274, 275, 276, 17, 277, 256, 257, 16, 258, 40, 919, 920, 921, 922, 923, 924, 955, 956, 957, 958, 959] (by decide +kernel) (by decide +kernel)) (goodIn_sub (fun _ h => List.mem_append_left _ (List.mem_append_left _ (List.mem_append_left _ (List.mem_append_left _ (List.mem_append_left _ (List.mem_append_left _ (List.mem_append_right _ h))))))) (by decide +kernel))) (goodIn_sub (fun _ h => List.mem_append_left _ (List.mem_append_left _ (List.mem_append_right _ h))) (by decide +kernel))
set_option maxRecDepth 20000 in
theorem gL_law_L_leaderOf : GoodIn wsL_law (va_wsS RL 177 yL_leaderOf wsL_leaderOf) := goodIn_app (goodIn_of _ (by decide +kernel)) ggL_law_L_leaderOf
set_option maxRecDepth 20000 in
theorem ggL_law_X5_leaderOf : GoodIn wsL_law wsX5_leaderOf := goodIn_ca (goodIn_r _ [281, 89, 127, 128, 5, 129, 130, 131, 132, 133, 106, 925, 926, 927, 928, 929, 930, 931, 932, 933, 934, 935, 936, 937, 938, 939, 940, 941, 942, 943, 944, 945, 946, 947, 948, 949, 950, 951, 952, 953, 954] (by decide +kernel) (by decide +kernel)) (goodIn_sub (fun _ h => List.mem_append_left _ (List.mem_append_left _ (List.mem_append_left _ (List.mem_append_left _ (List.mem_append_left _ (List.mem_append_left _ (List.mem_append_right _ h))))))) (by decide +kernel))
set_option maxRecDepth 20000 in
theorem gL_law_X5_leaderOf : GoodIn wsL_law (wsV RL 179 RX5 yX5_leaderOf wsX5_leaderOf) := goodIn_app (goodIn_of _ (by decide +kernel)) ggL_law_X5_leaderOf
set_option maxRecDepth 20000 in
theorem ggL_law_L_known : GoodIn wsL_law wsL_known := goodIn_ca (goodIn_ca (goodIn_r _ [284, 153, 285, 286, 287, 2, 288, 17, 289, 159, 160, 161, 162, 163, 164, 919, 920, 921, 922, 923, 924, 955, 956, 957, 958, 959] (by decide +kernel) (by decide +kernel)) (goodIn_sub (fun _ h => List.mem_append_left _ (List.mem_append_left _ (List.mem_append_left _ (List.mem_append_left _ (List.mem_append_left _ (List.mem_append_left _ (List.mem_append_right _ h))))))) (by decide +kernel))) (goodIn_sub (fun _ h => List.mem_append_left _ (List.mem_append_left _ (List.mem_append_left _ (List.mem_append_left _ (List.mem_append_right _ h))))) (by decide +kernel))
set_option maxRecDepth 20000 in
theorem gL_law_L_known : GoodIn wsL_law (va_wsS RL 180 yL_known wsL_known) := goodIn_app (goodIn_of _ (by decide +kernel)) ggL_law_L_known
set_option maxRecDepth 20000 in
theorem ggL_law_X5_known : GoodIn wsL_law wsX5_known := goodIn_ca (goodIn_r _ [293, 88, 169, 170, 5, 171, 127, 128, 129, 130, 131, 132, 133, 106, 925, 926, 927, 928, 929, 930, 931, 932, 933, 934, 935, 936, 937, 938, 939, 940, 941, 942, 943, 944, 945, 946, 947, 948, 949, 950, 951, 952, 953, 954] (by decide +kernel) (by decide +kernel)) (goodIn_sub (fun _ h => List.mem_append_left _ (List.mem_append_left _ (List.mem_append_left _ (List.mem_append_left _ (List.mem_append_left _ (List.mem_append_left _ (List.mem_append_right _ h))))))) (by decide +kernel))
set_option maxRecDepth 20000 in
theorem gL_law_X5_known : GoodIn wsL_law (wsV RL 182 RX5 yX5_known wsX5_known) := goodIn_app (goodIn_of _ (by decide +kernel)) ggL_law_X5_known
set_option maxRecDepth 20000 in
theorem ggL_law_L_ownerKnown : GoodIn wsL_law wsL_ownerKnown := goodIn_ca (goodIn_ca (goodIn_ca (goodIn_r _ [296, 153, 270, 297, 298, 299, 2, 300, 275, 276, 21, 17, 289, 159, 160, 161, 162, 163, 164, 301, 302, 303, 304, 305, 306, 307, 20, 308, 309, 52, 49, 51, 919, 920, 921, 922, 923, 924, 955, 956, 957, 958, 959, 960, 961, 962, 963, 964, 965] (by decide +kernel) (by decide +kernel)) (goodIn_sub (fun _ h => List.mem_append_left _ (List.mem_append_left _ (List.mem_append_left _ (List.mem_append_left _ (List.mem_append_left _ (List.mem_append_left _ (List.mem_append_right _ h))))))) (by decide +kernel))) (goodIn_sub (fun _ h => List.mem_append_left _ (List.mem_append_left _ (List.mem_append_right _ h))) (by decide +kernel))) (goodIn_sub (fun _ h => List.mem_append_left _ (List.mem_append_left _ (List.mem_append_left _ (List.mem_append_left _ (List.mem_append_right _ h))))) (by decide +kernel))
set_option maxRecDepth 20000 in
theorem gL_law_L_ownerKnown : GoodIn wsL_law (va_wsS RL 183 yL_ownerKnown wsL_ownerKnown) := goodIn_app (goodIn_of _ (by decide +kernel)) ggL_law_L_ownerKnown
set_option maxRecDepth 20000 in
theorem ggL_law_X5_ownerKnown : GoodIn wsL_law wsX5_ownerKnown := goodIn_ca (goodIn_r _ [313, 88, 106, 169, 170, 5, 171, 127, 128, 129, 314, 315, 316, 317, 318, 319, 320, 104, 102, 105, 925, 926, 927, 928, 929, 930, 931, 932, 933, 934, 935, 936, 937, 938, 939, 940, 941, 942, 943, 944, 945, 946, 947, 948, 949, 950, 951, 952, 953, 954] (by decide +kernel) (by decide +kernel)) (goodIn_sub (fun _ h => List.mem_append_left _ (List.mem_append_left _ (List.mem_append_left _ (List.mem_append_left _ (List.mem_append_left _ (List.mem_append_left _ (List.mem_append_right _ h))))))) (by decide +kernel))
set_option maxRecDepth 20000 in
theorem gL_law_X5_ownerKnown : GoodIn wsL_law (wsV RL 186 RX5 yX5_ownerKnown wsX5_ownerKnown) := goodIn_app (goodIn_of _ (by decide +kernel)) ggL_law_X5_ownerKnown
set_option maxRecDepth 20000 in
theorem ggL_law_L_addClient : GoodIn wsL_law wsL_addClient := goodIn_ca (goodIn_ca (goodIn_r _ [323, 217, 324, 325, 326, 2, 327, 222, 223, 29, 328, 919, 920, 921, 922, 923, 924, 972, 973, 974, 975, 976, 977, 978, 979, 980] (by decide +kernel) (by decide +kernel)) (goodIn_sub (fun _ h => List.mem_append_left _ (List.mem_append_left _ (List.mem_append_left _ (List.mem_append_left _ (List.mem_append_left _ (List.mem_append_left _ (List.mem_append_right _ h))))))) (by decide +kernel))) (goodIn_sub (fun _ h => List.mem_append_left _ (List.mem_append_left _ (List.mem_append_left _ (List.mem_append_right _ h)))) (by decide +kernel))
set_option maxRecDepth 20000 in
theorem gL_law_L_addClient : GoodIn wsL_law (va_wsS RL 187 yL_addClient wsL_addClient) := goodIn_app (goodIn_of _ (by decide +kernel)) ggL_law_L_addClient
set_option maxRecDepth 20000 in
theorem ggL_law_X5_addClient : GoodIn wsL_law wsX5_addClient := goodIn_r _ [332, 108, 130, 131, 132, 5, 133, 106, 925, 926, 927, 928, 929, 930, 931, 932, 933, 934, 935, 936, 937, 938, 939, 940, 941, 942, 943, 944, 945, 946, 947, 948, 949, 950, 951, 952, 953, 954] (by decide +kernel) (by decide +kernel)
set_option maxRecDepth 20000 in
theorem gL_law_X5_addClient : GoodIn wsL_law (wsV RL 190 RX5 yX5_addClient wsX5_addClient) := goodIn_app (goodIn_of _ (by decide +kernel)) ggL_law_X5_addClient
set_option maxRecDepth 20000 in
theorem ggL_law_L_setOffset : GoodIn wsL_law wsL_setOffset := goodIn_ca (goodIn_ca (goodIn_ca (goodIn_r _ [335, 270, 115, 336, 337, 338, 2, 339, 120, 121, 29, 340, 341, 342, 343, 344, 275, 276, 328, 919, 920, 921, 922, 923, 924, 972, 973, 974, 975, 976, 977, 978, 979, 980] (by decide +kernel) (by decide +kernel)) (goodIn_sub (fun _ h => List.mem_append_left _ (List.mem_append_left _ (List.mem_append_left _ (List.mem_append_left _ (List.mem_append_left _ (List.mem_append_left _ (List.mem_append_right _ h))))))) (by decide +kernel))) (goodIn_sub (fun _ h => List.mem_append_left _ (List.mem_append_left _ (List.mem_append_left _ (List.mem_append_left _ (List.mem_append_left _ (List.mem_append_right _ h)))))) (by decide +kernel))) (goodIn_sub (fun _ h => List.mem_append_left _ (List.mem_append_left _ (List.mem_append_right _ h))) (by decide +kernel))
set_option maxRecDepth 20000 in
theorem gL_law_L_setOffset : GoodIn wsL_law (va_wsS RL 191 yL_setOffset wsL_setOffset) := goodIn_app (goodIn_of _ (by decide +kernel)) ggL_law_L_setOffset
set_option maxRecDepth 20000 in
theorem ggL_law_X5_setOffset : GoodIn wsL_law wsX5_setOffset := goodIn_ca (goodIn_r _ [348, 106, 90, 349, 350, 351, 5, 352, 108, 127, 128, 129, 925, 926, 927, 928, 929, 930, 931, 932, 933, 934, 935, 936, 937, 938, 939, 940, 941, 942, 943, 944, 945, 946, 947, 948, 949, 950, 951, 952, 953, 954] (by decide +kernel) (by decide +kernel)) (goodIn_sub (fun _ h => List.mem_append_left _ (List.mem_append_left _ (List.mem_append_left _ (List.mem_append_left _ (List.mem_append_left _ (List.mem_append_left _ (List.mem_append_right _ h))))))) (by decide +kernel))
set_option maxRecDepth 20000 in
theorem gL_law_X5_setOffset : GoodIn wsL_law (wsV RL 193 RX5 yX5_setOffset wsX5_setOffset) := goodIn_app (goodIn_of _ (by decide +kernel)) ggL_law_X5_setOffset
set_option maxRecDepth 20000 in
theorem ggL_law_L_setPaused : GoodIn wsL_law wsL_setPaused := goodIn_ca (goodIn_ca (goodIn_r _ [355, 270, 356, 357, 358, 2, 359, 29, 360, 341, 342, 343, 344, 275, 276, 328, 919, 920, 921, 922, 923, 924, 972, 973, 974, 975, 976, 977, 978, 979, 980] (by decide +kernel) (by decide +kernel)) (goodIn_sub (fun _ h => List.mem_append_left _ (List.mem_append_left _ (List.mem_append_left _ (List.mem_append_left _ (List.mem_append_left _ (List.mem_append_left _ (List.mem_append_right _ h))))))) (by decide +kernel))) (goodIn_sub (fun _ h => List.mem_append_left _ (List.mem_append_left _ (List.mem_append_right _ h))) (by decide +kernel))
set_option maxRecDepth 20000 in
theorem gL_law_L_setPaused : GoodIn wsL_law (va_wsS RL 194 yL_setPaused wsL_setPaused) := goodIn_app (goodIn_of _ (by decide +kernel)) ggL_law_L_setPaused
set_option maxRecDepth 20000 in
theorem ggL_law_X5_setPaused : GoodIn wsL_law wsX5_setPaused := goodIn_ca (goodIn_r _ [364, 83, 349, 350, 351, 5, 352, 108, 127, 128, 129, 130, 131, 132, 133, 106, 925, 926, 927, 928, 929, 930, 931, 932, 933, 934, 935, 936, 937, 938, 939, 940, 941, 942, 943, 944, 945, 946, 947, 948, 949, 950, 951, 952, 953, 954] (by decide +kernel) (by decide +kernel)) (goodIn_sub (fun _ h => List.mem_append_left _ (List.mem_append_left _ (List.mem_append_left _ (List.mem_append_left _ (List.mem_append_left _ (List.mem_append_left _ (List.mem_append_right _ h))))))) (by decide +kernel))
set_option maxRecDepth 20000 in
theorem gL_law_X5_setPaused : GoodIn wsL_law (wsV RL 196 RX5 yX5_setPaused wsX5_setPaused) := goodIn_app (goodIn_of _ (by decide +kernel)) ggL_law_X5_setPaused
set_option maxRecDepth 20000 in
theorem ggL_law_L_clockOf : GoodIn wsL_law wsL_clockOf := goodIn_ca (goodIn_ca (goodIn_r _ [367, 270, 368, 369, 370, 2, 371, 29, 122, 341, 342, 343, 344, 275, 276, 328, 372, 373, 374, 28, 375, 70, 919, 920, 921, 922, 923, 924, 972, 973, 974, 975, 976, 977, 978, 979, 980] (by decide +kernel) (by decide +kernel)) (goodIn_sub (fun _ h => List.mem_append_left _ (List.mem_append_left _ (List.mem_append_left _ (List.mem_append_left _ (List.mem_append_left _ (List.mem_append_left _ (List.mem_append_right _ h))))))) (by decide +kernel))) (goodIn_sub (fun _ h => List.mem_append_left _ (List.mem_append_left _ (List.mem_append_right _ h))) (by decide +kernel))
set_option maxRecDepth 20000 in
theorem gL_law_L_clockOf : GoodIn wsL_law (va_wsS RL 197 yL_clockOf wsL_clockOf) := goodIn_app (goodIn_of _ (by decide +kernel)) ggL_law_L_clockOf
set_option maxRecDepth 20000 in
theorem ggL_law_X5_clockOf : GoodIn wsL_law wsX5_clockOf := goodIn_ca (goodIn_r _ [379, 349, 350, 351, 5, 352, 108, 127, 128, 129, 130, 131, 132, 133, 106, 380, 381, 382, 383, 107, 90, 925, 926, 927, 928, 929, 930, 931, 932, 933, 934, 935, 936, 937, 938, 939, 940, 941, 942, 943, 944, 945, 946, 947, 948, 949, 950, 951, 952, 953, 954] (by decide +kernel) (by decide +kernel)) (goodIn_sub (fun _ h => List.mem_append_left _ (List.mem_append_left _ (List.mem_append_left _ (List.mem_append_left _ (List.mem_append_left _ (List.mem_append_left _ (List.mem_append_right _ h))))))) (by decide +kernel))
set_option maxRecDepth 20000 in
theorem gL_law_X5_clockOf : GoodIn wsL_law (wsV RL 199 RX5 yX5_clockOf wsX5_clockOf) := goodIn_app (goodIn_of _ (by decide +kernel)) ggL_law_X5_clockOf
set_option maxRecDepth 20000 in
theorem ggL_law_L_request : GoodIn wsL_law wsL_request := goodIn_ca (goodIn_ca (goodIn_ca (goodIn_ca (goodIn_r _ [386, 270, 153, 217, 387, 388, 389, 2, 390, 391, 392, 393, 394, 17, 25, 122, 395, 396, 397, 398, 399, 341, 342, 343, 344, 275, 276, 29, 328, 301, 302, 303, 304, 163, 164, 159, 160, 161, 162, 400, 401, 402, 403, 222, 223, 360, 158, 21, 404, 251, 252, 253, 16, 254, 37, 255, 256, 257, 258, 40, 405, 406, 407, 408, 409, 410, 411, 412, 198, 199, 200, 201, 35, 39, 413, 195, 196, 197, 414, 415, 416, 24, 417, 58, 418, 419, 420, 421, 59, 422, 423, 424, 425, 426, 62, 64, 427, 428, 429, 430, 431, 432, 433, 434, 435, 436, 437, 438, 439, 440, 441, 442, 443, 444, 445, 28, 446, 72, 73, 447, 448, 449, 450, 373, 374, 375, 70, 451, 452, 453, 454, 239, 455, 456, 457, 20, 458, 309, 49, 50, 51, 52, 53, 459, 460, 461, 462, 38, 463, 464, 465, 466, 467, 468, 469, 470, 471, 919, 920, 921, 922, 923, 924, 966, 967, 968, 969, 970, 971, 972, 973, 974, 975, 976, 977, 978, 979, 980, 955, 956, 957, 958, 959, 960, 961, 962, 963, 964, 965] (by decide +kernel) (by decide +kernel)) (goodIn_sub (fun _ h => List.mem_append_left _ (List.mem_append_left _ (List.mem_append_left _ (List.mem_append_left _ (List.mem_append_left _ (List.mem_append_left _ (List.mem_append_right _ h))))))) (by decide +kernel))) (goodIn_sub (fun _ h => List.mem_append_left _ (List.mem_append_left _ (List.mem_append_right _ h))) (by decide +kernel))) (goodIn_sub (fun _ h => List.mem_append_left _ (List.mem_append_left _ (List.mem_append_left _ (List.mem_append_left _ (List.mem_append_right _ h))))) (by decide +kernel))) (goodIn_sub (fun _ h => List.mem_append_left _ (List.mem_append_left _ (List.mem_append_left _ (List.mem_append_right _ h)))) (by decide +kernel))
set_option maxRecDepth 20000 in
theorem gL_law_L_request : GoodIn wsL_law (va_wsS RL 200 yL_request wsL_request) := goodIn_app (goodIn_of _ (by decide +kernel)) ggL_law_L_request
set_option maxRecDepth 20000 in
theorem ggL_law_X5_request : GoodIn wsL_law wsX5_request := goodIn_ca (goodIn_r _ [475, 476, 477, 478, 5, 479, 106, 480, 481, 482, 483, 349, 350, 351, 352, 108, 127, 128, 129, 314, 315, 316, 169, 170, 171, 484, 485, 486, 487, 83, 81, 109, 263, 264, 265, 266, 87, 86, 488, 489, 490, 491, 210, 211, 212, 213, 82, 206, 207, 208, 209, 492, 493, 494, 495, 95, 101, 100, 98, 496, 497, 498, 499, 96, 107, 500, 501, 502, 503, 504, 505, 506, 507, 110, 97, 508, 509, 510, 511, 512, 513, 514, 515, 84, 91, 516, 517, 518, 380, 381, 382, 383, 90, 519, 520, 521, 522, 102, 103, 104, 105, 88, 925, 926, 927, 928, 929, 930, 931, 932, 933, 934, 935, 936, 937, 938, 939, 940, 941, 942, 943, 944, 945, 946, 947, 948, 949, 950, 951, 952, 953, 954] (by decide +kernel) (by decide +kernel)) (goodIn_sub (fun _ h => List.mem_append_left _ (List.mem_append_left _ (List.mem_append_left _ (List.mem_append_left _ (List.mem_append_left _ (List.mem_append_left _ (List.mem_append_right _ h))))))) (by decide +kernel))
set_option maxRecDepth 20000 in
theorem gL_law_X5_request : GoodIn wsL_law (wsV RL 203 RX5 yX5_request wsX5_request) := goodIn_app (goodIn_of _ (by decide +kernel)) ggL_law_X5_request
set_option maxRecDepth 20000 in
theorem ggL_law_L_steal : GoodIn wsL_law wsL_steal := goodIn_ca (goodIn_ca (goodIn_ca (goodIn_ca (goodIn_r _ [525, 270, 153, 217, 526, 527, 528, 2, 529, 391, 392, 393, 394, 17, 25, 122, 395, 396, 397, 398, 399, 341, 342, 343, 344, 275, 276, 29, 328, 301, 302, 303, 304, 163, 164, 159, 160, 161, 162, 400, 401, 402, 403, 222, 223, 360, 158, 21, 404, 251, 252, 253, 16, 254, 37, 255, 256, 257, 258, 40, 405, 406, 407, 408, 409, 410, 411, 412, 198, 199, 200, 201, 35, 39, 413, 195, 196, 197, 414, 415, 416, 24, 417, 58, 418, 419, 420, 421, 59, 422, 423, 424, 425, 426, 62, 64, 427, 428, 429, 430, 431, 432, 433, 434, 435, 436, 437, 438, 439, 440, 441, 442, 443, 444, 445, 28, 446, 72, 73, 447, 448, 449, 450, 373, 374, 375, 70, 451, 452, 453, 454, 239, 455, 456, 457, 20, 458, 309, 49, 50, 51, 52, 53, 459, 460, 461, 462, 38, 463, 464, 465, 466, 467, 468, 469, 470, 471, 919, 920, 921, 922, 923, 924, 966, 967, 968, 969, 970, 971, 972, 973, 974, 975, 976, 977, 978, 979, 980, 955, 956, 957, 958, 959, 960, 961, 962, 963, 964, 965] (by decide +kernel) (by decide +kernel)) (goodIn_sub (fun _ h => List.mem_append_left _ (List.mem_append_left _ (List.mem_append_left _ (List.mem_append_left _ (List.mem_append_left _ (List.mem_append_left _ (List.mem_append_right _ h))))))) (by decide +kernel))) (goodIn_sub (fun _ h => List.mem_append_left _ (List.mem_append_left _ (List.mem_append_right _ h))) (by decide +kernel))) (goodIn_sub (fun _ h => List.mem_append_left _ (List.mem_append_left _ (List.mem_append_left _ (List.mem_append_left _ (List.mem_append_right _ h))))) (by decide +kernel))) (goodIn_sub (fun _ h => List.mem_append_left _ (List.mem_append_left _ (List.mem_append_left _ (List.mem_append_right _ h)))) (by decide +kernel))
set_option maxRecDepth 20000 in
theorem gL_law_L_steal : GoodIn wsL_law (va_wsS RL 204 yL_steal wsL_steal) := goodIn_app (goodIn_of _ (by decide +kernel)) ggL_law_L_steal
set_option maxRecDepth 20000 in
theorem ggL_law_X5_steal : GoodIn wsL_law wsX5_steal := goodIn_ca (goodIn_r _ [533, 476, 477, 478, 5, 479, 106, 480, 481, 482, 483, 349, 350, 351, 352, 108, 127, 128, 129, 314, 315, 316, 169, 170, 171, 484, 485, 486, 487, 83, 81, 109, 263, 264, 265, 266, 87, 86, 488, 489, 490, 491, 210, 211, 212, 213, 82, 206, 207, 208, 209, 492, 493, 494, 495, 95, 101, 100, 98, 496, 497, 498, 499, 96, 107, 500, 501, 502, 503, 504, 505, 506, 507, 110, 97, 508, 509, 510, 511, 512, 513, 514, 515, 84, 91, 516, 517, 518, 380, 381, 382, 383, 90, 519, 520, 521, 522, 102, 103, 104, 105, 88, 925, 926, 927, 928, 929, 930, 931, 932, 933, 934, 935, 936, 937, 938, 939, 940, 941, 942, 943, 944, 945, 946, 947, 948, 949, 950, 951, 952, 953, 954] (by decide +kernel) (by decide +kernel)) (goodIn_sub (fun _ h => List.mem_append_left _ (List.mem_append_left _ (List.mem_append_left _ (List.mem_append_left _ (List.mem_append_left _ (List.mem_append_left _ (List.mem_append_right _ h))))))) (by decide +kernel))
set_option maxRecDepth 20000 in
theorem gL_law_X5_steal : GoodIn wsL_law (wsV RL 206 RX5 yX5_steal wsX5_steal) := goodIn_app (goodIn_of _ (by decide +kernel)) ggL_law_X5_steal
set_option maxRecDepth 20000 in
theorem ggL_law_L_renew : GoodIn wsL_law wsL_renew := goodIn_ca (goodIn_ca (goodIn_ca (goodIn_ca (goodIn_r _ [536, 270, 153, 217, 537, 538, 539, 2, 540, 25, 395, 541, 542, 543, 544, 17, 122, 396, 397, 398, 399, 341, 342, 343, 344, 275, 276, 29, 328, 301, 302, 303, 304, 163, 164, 159, 160, 161, 162, 400, 401, 402, 403, 222, 223, 360, 158, 21, 404, 251, 252, 253, 16, 254, 37, 255, 256, 257, 258, 40, 405, 406, 407, 408, 409, 410, 411, 412, 198, 199, 200, 201, 35, 39, 413, 195, 196, 197, 414, 415, 416, 24, 417, 58, 418, 419, 420, 421, 59, 545, 546, 547, 548, 433, 432, 443, 444, 445, 28, 446, 72, 73, 447, 448, 449, 450, 373, 374, 375, 70, 451, 452, 453, 454, 239, 455, 456, 457, 20, 458, 309, 49, 50, 51, 52, 53, 459, 460, 461, 462, 38, 919, 920, 921, 922, 923, 924, 966, 967, 968, 969, 970, 971, 972, 973, 974, 975, 976, 977, 978, 979, 980, 955, 956, 957, 958, 959, 960, 961, 962, 963, 964, 965] (by decide +kernel) (by decide +kernel)) (goodIn_sub (fun _ h => List.mem_append_left _ (List.mem_append_left _ (List.mem_append_left _ (List.mem_append_left _ (List.mem_append_left _ (List.mem_append_left _ (List.mem_append_right _ h))))))) (by decide +kernel))) (goodIn_sub (fun _ h => List.mem_append_left _ (List.mem_append_left _ (List.mem_append_right _ h))) (by decide +kernel))) (goodIn_sub (fun _ h => List.mem_append_left _ (List.mem_append_left _ (List.mem_append_left _ (List.mem_append_left _ (List.mem_append_right _ h))))) (by decide +kernel))) (goodIn_sub (fun _ h => List.mem_append_left _ (List.mem_append_left _ (List.mem_append_left _ (List.mem_append_right _ h)))) (by decide +kernel))
set_option maxRecDepth 20000 in
theorem gL_law_L_renew : GoodIn wsL_law (va_wsS RL 207 yL_renew wsL_renew) := goodIn_app (goodIn_of _ (by decide +kernel)) ggL_law_L_renew
set_option maxRecDepth 20000 in
theorem ggL_law_X5_renew : GoodIn wsL_law wsX5_renew := goodIn_ca (goodIn_r _ [552, 106, 98, 96, 107, 480, 481, 482, 5, 483, 349, 350, 351, 352, 108, 127, 128, 129, 314, 315, 316, 169, 170, 171, 484, 485, 486, 487, 83, 81, 109, 263, 264, 265, 266, 87, 86, 488, 489, 490, 491, 210, 211, 212, 213, 82, 206, 207, 208, 209, 553, 554, 555, 556, 95, 496, 497, 498, 499, 512, 513, 514, 515, 84, 91, 516, 517, 518, 380, 381, 382, 383, 90, 519, 520, 521, 522, 102, 103, 104, 105, 88, 925, 926, 927, 928, 929, 930, 931, 932, 933, 934, 935, 936, 937, 938, 939, 940, 941, 942, 943, 944, 945, 946, 947, 948, 949, 950, 951, 952, 953, 954] (by decide +kernel) (by decide +kernel)) (goodIn_sub (fun _ h => List.mem_append_left _ (List.mem_append_left _ (List.mem_append_left _ (List.mem_append_left _ (List.mem_append_left _ (List.mem_append_left _ (List.mem_append_right _ h))))))) (by decide +kernel))
set_option maxRecDepth 20000 in
theorem gL_law_X5_renew : GoodIn wsL_law (wsV RL 209 RX5 yX5_renew wsX5_renew) := goodIn_app (goodIn_of _ (by decide +kernel)) ggL_law_X5_renew
set_option maxRecDepth 20000 in
theorem ggL_law_L_release : GoodIn wsL_law wsL_release := goodIn_ca (goodIn_ca (goodIn_ca (goodIn_ca (goodIn_r _ [559, 270, 153, 217, 560, 561, 562, 2, 563, 541, 542, 543, 544, 17, 25, 122, 396, 397, 398, 399, 341, 342, 343, 344, 275, 276, 29, 328, 301, 302, 303, 304, 163, 164, 159, 160, 161, 162, 400, 401, 402, 403, 222, 223, 360, 158, 21, 404, 251, 252, 253, 16, 254, 37, 255, 256, 257, 258, 40, 405, 406, 407, 408, 409, 410, 411, 412, 198, 199, 200, 201, 35, 39, 413, 195, 196, 197, 414, 415, 416, 24, 417, 58, 418, 419, 420, 421, 59, 564, 565, 566, 567, 433, 432, 431, 568, 569, 570, 28, 571, 72, 447, 448, 449, 451, 452, 453, 454, 239, 455, 456, 457, 20, 458, 309, 49, 50, 51, 52, 53, 459, 460, 461, 462, 38, 919, 920, 921, 922, 923, 924, 972, 973, 974, 975, 976, 977, 978, 979, 980, 955, 956, 957, 958, 959, 960, 961, 962, 963, 964, 965, 966, 967, 968, 969, 970, 971] (by decide +kernel) (by decide +kernel)) (goodIn_sub (fun _ h => List.mem_append_left _ (List.mem_append_left _ (List.mem_append_left _ (List.mem_append_left _ (List.mem_append_left _ (List.mem_append_left _ (List.mem_append_right _ h))))))) (by decide +kernel))) (goodIn_sub (fun _ h => List.mem_append_left _ (List.mem_append_left _ (List.mem_append_right _ h))) (by decide +kernel))) (goodIn_sub (fun _ h => List.mem_append_left _ (List.mem_append_left _ (List.mem_append_left _ (List.mem_append_left _ (List.mem_append_right _ h))))) (by decide +kernel))) (goodIn_sub (fun _ h => List.mem_append_left _ (List.mem_append_left _ (List.mem_append_left _ (List.mem_append_right _ h)))) (by decide +kernel))
set_option maxRecDepth 20000 in
theorem gL_law_L_release : GoodIn wsL_law (va_wsS RL 210 yL_release wsL_release) := goodIn_app (goodIn_of _ (by decide +kernel)) ggL_law_L_release
set_option maxRecDepth 20000 in
theorem ggL_law_X5_release : GoodIn wsL_law wsX5_release := goodIn_ca (goodIn_r _ [575, 106, 110, 107, 97, 95, 84, 480, 481, 482, 5, 483, 349, 350, 351, 352, 108, 127, 128, 129, 314, 315, 316, 169, 170, 171, 484, 485, 486, 487, 83, 81, 109, 263, 264, 265, 266, 87, 86, 488, 489, 490, 491, 210, 211, 212, 213, 82, 206, 207, 208, 209, 553, 554, 555, 556, 496, 497, 498, 499, 96, 516, 517, 518, 519, 520, 521, 522, 102, 103, 104, 105, 88, 925, 926, 927, 928, 929, 930, 931, 932, 933, 934, 935, 936, 937, 938, 939, 940, 941, 942, 943, 944, 945, 946, 947, 948, 949, 950, 951, 952, 953, 954] (by decide +kernel) (by decide +kernel)) (goodIn_sub (fun _ h => List.mem_append_left _ (List.mem_append_left _ (List.mem_append_left _ (List.mem_append_left _ (List.mem_append_left _ (List.mem_append_left _ (List.mem_append_right _ h))))))) (by decide +kernel))
set_option maxRecDepth 20000 in
theorem gL_law_X5_release : GoodIn wsL_law (wsV RL 212 RX5 yX5_release wsX5_release) := goodIn_app (goodIn_of _ (by decide +kernel)) ggL_law_X5_release
set_option maxRecDepth 20000 in
theorem ggL_law_L_quit : GoodIn wsL_law wsL_quit := goodIn_ca (goodIn_ca (goodIn_ca (goodIn_ca (goodIn_r _ [578, 270, 153, 579, 580, 581, 582, 2, 583, 584, 585, 25, 395, 586, 341, 342, 343, 344, 275, 276, 29, 328, 301, 302, 303, 304, 163, 164, 587, 440, 441, 24, 442, 62, 64, 435, 436, 437, 438, 439, 919, 920, 921, 922, 923, 924, 966, 967, 968, 969, 970, 971, 972, 973, 974, 975, 976, 977, 978, 979, 980] (by decide +kernel) (by decide +kernel)) (goodIn_sub (fun _ h => List.mem_append_left _ (List.mem_append_left _ (List.mem_append_left _ (List.mem_append_left _ (List.mem_append_left _ (List.mem_append_left _ (List.mem_append_right _ h))))))) (by decide +kernel))) (goodIn_sub (fun _ h => List.mem_append_left _ (List.mem_append_right _ h)) (by decide +kernel))) (goodIn_sub (fun _ h => List.mem_append_left _ (List.mem_append_left _ (List.mem_append_right _ h))) (by decide +kernel))) (goodIn_sub (fun _ h => List.mem_append_left _ (List.mem_append_left _ (List.mem_append_left _ (List.mem_append_left _ (List.mem_append_right _ h))))) (by decide +kernel))
set_option maxRecDepth 20000 in
theorem gL_law_L_quit : GoodIn wsL_law (va_wsS RL 213 yL_quit wsL_quit) := goodIn_app (goodIn_of _ (by decide +kernel)) ggL_law_L_quit
set_option maxRecDepth 20000 in
theorem ggL_law_X5_quit : GoodIn wsL_law wsX5_quit := goodIn_ca (goodIn_r _ [591, 106, 98, 101, 349, 350, 351, 5, 352, 108, 127, 128, 129, 314, 315, 316, 500, 501, 502, 503, 100, 508, 509, 510, 511, 925, 926, 927, 928, 929, 930, 931, 932, 933, 934, 935, 936, 937, 938, 939, 940, 941, 942, 943, 944, 945, 946, 947, 948, 949, 950, 951, 952, 953, 954] (by decide +kernel) (by decide +kernel)) (goodIn_sub (fun _ h => List.mem_append_left _ (List.mem_append_left _ (List.mem_append_left _ (List.mem_append_left _ (List.mem_append_left _ (List.mem_append_left _ (List.mem_append_right _ h))))))) (by decide +kernel))
set_option maxRecDepth 20000 in
theorem gL_law_X5_quit : GoodIn wsL_law (wsV RL 215 RX5 yX5_quit wsX5_quit) := goodIn_app (goodIn_of _ (by decide +kernel)) ggL_law_X5_quit
set_option maxRecDepth 20000 in
theorem ggL_law_L_read : GoodIn wsL_law wsL_read := goodIn_ca (goodIn_ca (goodIn_ca (goodIn_ca (goodIn_r _ [594, 270, 153, 217, 595, 596, 597, 2, 598, 17, 29, 25, 599, 122, 396, 397, 398, 399, 341, 342, 343, 344, 275, 276, 328, 301, 302, 303, 304, 163, 164, 159, 160, 161, 162, 400, 401, 402, 403, 222, 223, 360, 158, 21, 404, 251, 252, 253, 16, 254, 37, 255, 256, 257, 258, 40, 405, 406, 407, 408, 409, 410, 411, 412, 198, 199, 200, 201, 35, 39, 413, 195, 196, 197, 600, 601, 602, 28, 603, 74, 71, 75, 76, 447, 448, 449, 450, 373, 374, 375, 70, 919, 920, 921, 922, 923, 924, 966, 967, 968, 969, 970, 971, 972, 973, 974, 975, 976, 977, 978, 979, 980, 955, 956, 957, 958, 959, 960, 961, 962, 963, 964, 965] (by decide +kernel) (by decide +kernel)) (goodIn_sub (fun _ h => List.mem_append_left _ (List.mem_append_left _ (List.mem_append_left _ (List.mem_append_left _ (List.mem_append_left _ (List.mem_append_left _ (List.mem_append_right _ h))))))) (by decide +kernel))) (goodIn_sub (fun _ h => List.mem_append_left _ (List.mem_append_left _ (List.mem_append_right _ h))) (by decide +kernel))) (goodIn_sub (fun _ h => List.mem_append_left _ (List.mem_append_left _ (List.mem_append_left _ (List.mem_append_left _ (List.mem_append_right _ h))))) (by decide +kernel))) (goodIn_sub (fun _ h => List.mem_append_left _ (List.mem_append_left _ (List.mem_append_left _ (List.mem_append_right _ h)))) (by decide +kernel))
set_option maxRecDepth 20000 in
theorem gL_law_L_read : GoodIn wsL_law (va_wsS RL 216 yL_read wsL_read) := goodIn_app (goodIn_of _ (by decide +kernel)) ggL_law_L_read
set_option maxRecDepth 20000 in
theorem ggL_law_X5_read : GoodIn wsL_law wsX5_read := goodIn_ca (goodIn_r _ [607, 106, 85, 92, 93, 99, 94, 107, 480, 481, 482, 5, 483, 349, 350, 351, 352, 108, 127, 128, 129, 314, 315, 316, 169, 170, 171, 484, 485, 486, 487, 83, 81, 109, 263, 264, 265, 266, 87, 86, 488, 489, 490, 491, 210, 211, 212, 213, 82, 206, 207, 208, 209, 516, 517, 518, 380, 381, 382, 383, 90, 925, 926, 927, 928, 929, 930, 931, 932, 933, 934, 935, 936, 937, 938, 939, 940, 941, 942, 943, 944, 945, 946, 947, 948, 949, 950, 951, 952, 953, 954] (by decide +kernel) (by decide +kernel)) (goodIn_sub (fun _ h => List.mem_append_left _ (List.mem_append_left _ (List.mem_append_left _ (List.mem_append_left _ (List.mem_append_left _ (List.mem_append_left _ (List.mem_append_right _ h))))))) (by decide +kernel))
set_option maxRecDepth 20000 in
theorem gL_law_X5_read : GoodIn wsL_law (wsV RL 218 RX5 yX5_read wsX5_read) := goodIn_app (goodIn_of _ (by decide +kernel)) ggL_law_X5_read
set_option maxRecDepth 20000 in
theorem ggL_law_L_write : GoodIn wsL_law wsL_write := goodIn_ca (goodIn_ca (goodIn_ca (goodIn_ca (goodIn_ca (goodIn_r _ [610, 270, 153, 115, 217, 611, 612, 613, 2, 614, 120, 121, 17, 29, 122, 25, 396, 397, 398, 399, 341, 342, 343, 344, 275, 276, 328, 301, 302, 303, 304, 163, 164, 159, 160, 161, 162, 400, 401, 402, 403, 222, 223, 360, 158, 21, 404, 251, 252, 253, 16, 254, 37, 255, 256, 257, 258, 40, 405, 406, 407, 408, 409, 410, 411, 412, 198, 199, 200, 201, 35, 39, 413, 195, 196, 197, 615, 616, 617, 28, 618, 69, 72, 73, 447, 448, 449, 450, 373, 374, 375, 70, 414, 415, 416, 24, 417, 58, 418, 419, 420, 421, 59, 619, 620, 621, 622, 623, 76, 624, 625, 626, 627, 599, 628, 629, 630, 631, 74, 451, 452, 453, 454, 239, 455, 456, 457, 20, 458, 309, 49, 50, 51, 52, 53, 459, 460, 461, 462, 38, 919, 920, 921, 922, 923, 924, 972, 973, 974, 975, 976, 977, 978, 979, 980, 955, 956, 957, 958, 959, 960, 961, 962, 963, 964, 965, 966, 967, 968, 969, 970, 971] (by decide +kernel) (by decide +kernel)) (goodIn_sub (fun _ h => List.mem_append_left _ (List.mem_append_left _ (List.mem_append_left _ (List.mem_append_left _ (List.mem_append_left _ (List.mem_append_left _ (List.mem_append_right _ h))))))) (by decide +kernel))) (goodIn_sub (fun _ h => List.mem_append_left _ (List.mem_append_left _ (List.mem_append_left _ (List.mem_append_left _ (List.mem_append_left _ (List.mem_append_right _ h)))))) (by decide +kernel))) (goodIn_sub (fun _ h => List.mem_append_left _ (List.mem_append_left _ (List.mem_append_right _ h))) (by decide +kernel))) (goodIn_sub (fun _ h => List.mem_append_left _ (List.mem_append_left _ (List.mem_append_left _ (List.mem_append_left _ (List.mem_append_right _ h))))) (by decide +kernel))) (goodIn_sub (fun _ h => List.mem_append_left _ (List.mem_append_left _ (List.mem_append_left _ (List.mem_append_right _ h)))) (by decide +kernel))
set_option maxRecDepth 20000 in
theorem gL_law_L_write : GoodIn wsL_law (va_wsS RL 219 yL_write wsL_write) := goodIn_app (goodIn_of _ (by decide +kernel)) ggL_law_L_write
set_option maxRecDepth 20000 in
theorem ggL_law_X5_write : GoodIn wsL_law wsX5_write := goodIn_ca (goodIn_r _ [635, 106, 108, 85, 94, 99, 480, 481, 482, 5, 483, 349, 350, 351, 352, 127, 128, 129, 314, 315, 316, 169, 170, 171, 484, 485, 486, 487, 83, 81, 109, 263, 264, 265, 266, 87, 86, 488, 489, 490, 491, 210, 211, 212, 213, 82, 206, 207, 208, 209, 553, 554, 555, 556, 95, 496, 497, 498, 499, 96, 107, 636, 637, 638, 639, 84, 91, 516, 517, 518, 380, 381, 382, 383, 90, 640, 641, 642, 643, 519, 520, 521, 522, 102, 103, 104, 105, 88, 925, 926, 927, 928, 929, 930, 931, 932, 933, 934, 935, 936, 937, 938, 939, 940, 941, 942, 943, 944, 945, 946, 947, 948, 949, 950, 951, 952, 953, 954] (by decide +kernel) (by decide +kernel)) (goodIn_sub (fun _ h => List.mem_append_left _ (List.mem_append_left _ (List.mem_append_left _ (List.mem_append_left _ (List.mem_append_left _ (List.mem_append_left _ (List.mem_append_right _ h))))))) (by decide +kernel))
set_option maxRecDepth 20000 in
theorem gL_law_X5_write : GoodIn wsL_law (wsV RL 222 RX5 yX5_write wsX5_write) := goodIn_app (goodIn_of _ (by decide +kernel)) ggL_law_X5_write
set_option maxRecDepth 20000 in
theorem ggL_law_L_owner : GoodIn wsL_law wsL_owner := goodIn_ca (goodIn_ca (goodIn_ca (goodIn_r _ [646, 153, 270, 647, 648, 649, 2, 650, 25, 431, 301, 302, 303, 304, 163, 164, 651, 652, 653, 654, 275, 276, 122, 422, 419, 420, 24, 421, 58, 59, 919, 920, 921, 922, 923, 924, 966, 967, 968, 969, 970, 971] (by decide +kernel) (by decide +kernel)) (goodIn_sub (fun _ h => List.mem_append_left _ (List.mem_append_left _ (List.mem_append_left _ (List.mem_append_left _ (List.mem_append_left _ (List.mem_append_left _ (List.mem_append_right _ h))))))) (by decide +kernel))) (goodIn_sub (fun _ h => List.mem_append_left _ (List.mem_append_left _ (List.mem_append_left _ (List.mem_append_left _ (List.mem_append_right _ h))))) (by decide +kernel))) (goodIn_sub (fun _ h => List.mem_append_left _ (List.mem_append_left _ (List.mem_append_right _ h))) (by decide +kernel))
set_option maxRecDepth 20000 in
theorem gL_law_L_owner : GoodIn wsL_law (va_wsS RL 223 yL_owner wsL_owner) := goodIn_app (goodIn_of _ (by decide +kernel)) ggL_law_L_owner
set_option maxRecDepth 20000 in
theorem ggL_law_X5_owner : GoodIn wsL_law wsX5_owner := goodIn_ca (goodIn_r _ [658, 106, 95, 314, 315, 5, 316, 127, 128, 129, 496, 497, 498, 499, 96, 107, 659, 660, 661, 662, 925, 926, 927, 928, 929, 930, 931, 932, 933, 934, 935, 936, 937, 938, 939, 940, 941, 942, 943, 944, 945, 946, 947, 948, 949, 950, 951, 952, 953, 954] (by decide +kernel) (by decide +kernel)) (goodIn_sub (fun _ h => List.mem_append_left _ (List.mem_append_left _ (List.mem_append_left _ (List.mem_append_left _ (List.mem_append_left _ (List.mem_append_left _ (List.mem_append_right _ h))))))) (by decide +kernel))
set_option maxRecDepth 20000 in
theorem gL_law_X5_owner : GoodIn wsL_law (wsV RL 225 RX5 yX5_owner wsX5_owner) := goodIn_app (goodIn_of _ (by decide +kernel)) ggL_law_X5_owner
set_option maxRecDepth 20000 in
theorem ggL_law_L_ownerByLog : GoodIn wsL_law wsL_ownerByLog := goodIn_ca (goodIn_ca (goodIn_ca (goodIn_r _ [665, 153, 270, 666, 667, 668, 2, 669, 275, 276, 21, 122, 301, 302, 303, 304, 163, 164, 670, 671, 672, 20, 673, 309, 674, 675, 676, 677, 52, 49, 53, 678, 306, 307, 308, 51, 919, 920, 921, 922, 923, 924, 960, 961, 962, 963, 964, 965] (by decide +kernel) (by decide +kernel)) (goodIn_sub (fun _ h => List.mem_append_left _ (List.mem_append_left _ (List.mem_append_left _ (List.mem_append_left _ (List.mem_append_left _ (List.mem_append_left _ (List.mem_append_right _ h))))))) (by decide +kernel))) (goodIn_sub (fun _ h => List.mem_append_left _ (List.mem_append_left _ (List.mem_append_right _ h))) (by decide +kernel))) (goodIn_sub (fun _ h => List.mem_append_left _ (List.mem_append_left _ (List.mem_append_left _ (List.mem_append_left _ (List.mem_append_right _ h))))) (by decide +kernel))
set_option maxRecDepth 20000 in
theorem gL_law_L_ownerByLog : GoodIn wsL_law (va_wsS RL 226 yL_ownerByLog wsL_ownerByLog) := goodIn_app (goodIn_of _ (by decide +kernel)) ggL_law_L_ownerByLog
set_option maxRecDepth 20000 in
theorem ggL_law_X5_ownerByLog : GoodIn wsL_law wsX5_ownerByLog := goodIn_ca (goodIn_r _ [682, 683, 656, 657, 5, 658, 106, 95, 314, 315, 316, 127, 128, 129, 496, 497, 498, 499, 96, 107, 659, 660, 661, 662, 925, 926, 927, 928, 929, 930, 931, 932, 933, 934, 935, 936, 937, 938, 939, 940, 941, 942, 943, 944, 945, 946, 947, 948, 949, 950, 951, 952, 953, 954] (by decide +kernel) (by decide +kernel)) (goodIn_sub (fun _ h => List.mem_append_left _ (List.mem_append_left _ (List.mem_append_left _ (List.mem_append_left _ (List.mem_append_left _ (List.mem_append_left _ (List.mem_append_right _ h))))))) (by decide +kernel))
set_option maxRecDepth 20000 in
theorem gL_law_X5_ownerByLog : GoodIn wsL_law (wsV RL 228 RX5 yX5_ownerByLog wsX5_ownerByLog) := goodIn_app (goodIn_of _ (by decide +kernel)) ggL_law_X5_ownerByLog
set_option maxRecDepth 20000 in
theorem ggL_law_L_endOf : GoodIn wsL_law wsL_endOf := goodIn_ca (goodIn_ca (goodIn_ca (goodIn_r _ [686, 153, 270, 687, 688, 689, 2, 690, 25, 432, 301, 302, 303, 304, 163, 164, 651, 652, 653, 654, 275, 276, 122, 422, 419, 420, 24, 421, 58, 59, 919, 920, 921, 922, 923, 924, 966, 967, 968, 969, 970, 971] (by decide +kernel) (by decide +kernel)) (goodIn_sub (fun _ h => List.mem_append_left _ (List.mem_append_left _ (List.mem_append_left _ (List.mem_append_left _ (List.mem_append_left _ (List.mem_append_left _ (List.mem_append_right _ h))))))) (by decide +kernel))) (goodIn_sub (fun _ h => List.mem_append_left _ (List.mem_append_left _ (List.mem_append_left _ (List.mem_append_left _ (List.mem_append_right _ h))))) (by decide +kernel))) (goodIn_sub (fun _ h => List.mem_append_left _ (List.mem_append_left _ (List.mem_append_right _ h))) (by decide +kernel))
set_option maxRecDepth 20000 in
theorem gL_law_L_endOf : GoodIn wsL_law (va_wsS RL 229 yL_endOf wsL_endOf) := goodIn_app (goodIn_of _ (by decide +kernel)) ggL_law_L_endOf
set_option maxRecDepth 20000 in
theorem ggL_law_X5_endOf : GoodIn wsL_law wsX5_endOf := goodIn_ca (goodIn_r _ [694, 106, 96, 314, 315, 5, 316, 127, 128, 129, 496, 497, 498, 499, 95, 107, 659, 660, 661, 662, 925, 926, 927, 928, 929, 930, 931, 932, 933, 934, 935, 936, 937, 938, 939, 940, 941, 942, 943, 944, 945, 946, 947, 948, 949, 950, 951, 952, 953, 954] (by decide +kernel) (by decide +kernel)) (goodIn_sub (fun _ h => List.mem_append_left _ (List.mem_append_left _ (List.mem_append_left _ (List.mem_append_left _ (List.mem_append_left _ (List.mem_append_left _ (List.mem_append_right _ h))))))) (by decide +kernel))
set_option maxRecDepth 20000 in
theorem gL_law_X5_endOf : GoodIn wsL_law (wsV RL 231 RX5 yX5_endOf wsX5_endOf) := goodIn_app (goodIn_of _ (by decide +kernel)) ggL_law_X5_endOf
set_option maxRecDepth 20000 in
theorem ggL_law_L_thief : GoodIn wsL_law wsL_thief := goodIn_ca (goodIn_ca (goodIn_ca (goodIn_r _ [697, 153, 270, 698, 699, 700, 2, 701, 275, 276, 25, 395, 301, 302, 303, 304, 163, 164, 919, 920, 921, 922, 923, 924, 966, 967, 968, 969, 970, 971] (by decide +kernel) (by decide +kernel)) (goodIn_sub (fun _ h => List.mem_append_left _ (List.mem_append_left _ (List.mem_append_left _ (List.mem_append_left _ (List.mem_append_left _ (List.mem_append_left _ (List.mem_append_right _ h))))))) (by decide +kernel))) (goodIn_sub (fun _ h => List.mem_append_left _ (List.mem_append_left _ (List.mem_append_right _ h))) (by decide +kernel))) (goodIn_sub (fun _ h => List.mem_append_left _ (List.mem_append_left _ (List.mem_append_left _ (List.mem_append_left _ (List.mem_append_right _ h))))) (by decide +kernel))
set_option maxRecDepth 20000 in
theorem gL_law_L_thief : GoodIn wsL_law (va_wsS RL 232 yL_thief wsL_thief) := goodIn_app (goodIn_of _ (by decide +kernel)) ggL_law_L_thief
set_option maxRecDepth 20000 in
theorem ggL_law_X5_thief : GoodIn wsL_law wsX5_thief := goodIn_ca (goodIn_r _ [705, 98, 106, 314, 315, 5, 316, 127, 128, 129, 659, 660, 661, 662, 925, 926, 927, 928, 929, 930, 931, 932, 933, 934, 935, 936, 937, 938, 939, 940, 941, 942, 943, 944, 945, 946, 947, 948, 949, 950, 951, 952, 953, 954] (by decide +kernel) (by decide +kernel)) (goodIn_sub (fun _ h => List.mem_append_left _ (List.mem_append_left _ (List.mem_append_left _ (List.mem_append_left _ (List.mem_append_left _ (List.mem_append_left _ (List.mem_append_right _ h))))))) (by decide +kernel))
set_option maxRecDepth 20000 in
theorem gL_law_X5_thief : GoodIn wsL_law (wsV RL 234 RX5 yX5_thief wsX5_thief) := goodIn_app (goodIn_of _ (by decide +kernel)) ggL_law_X5_thief
set_option maxRecDepth 20000 in
theorem ggL_law_L_waiting : GoodIn wsL_law wsL_waiting := goodIn_ca (goodIn_ca (goodIn_r _ [708, 153, 709, 710, 711, 2, 712, 25, 586, 301, 302, 303, 304, 163, 164, 919, 920, 921, 922, 923, 924, 966, 967, 968, 969, 970, 971] (by decide +kernel) (by decide +kernel)) (goodIn_sub (fun _ h => List.mem_append_left _ (List.mem_append_left _ (List.mem_append_left _ (List.mem_append_left _ (List.mem_append_left _ (List.mem_append_left _ (List.mem_append_right _ h))))))) (by decide +kernel))) (goodIn_sub (fun _ h => List.mem_append_left _ (List.mem_append_left _ (List.mem_append_left _ (List.mem_append_left _ (List.mem_append_right _ h))))) (by decide +kernel))
set_option maxRecDepth 20000 in
theorem gL_law_L_waiting : GoodIn wsL_law (va_wsS RL 235 yL_waiting wsL_waiting) := goodIn_app (goodIn_of _ (by decide +kernel)) ggL_law_L_waiting
set_option maxRecDepth 20000 in
theorem ggL_law_X5_waiting : GoodIn wsL_law wsX5_waiting := goodIn_ca (goodIn_r _ [716, 101, 314, 315, 5, 316, 127, 128, 129, 130, 131, 132, 133, 106, 925, 926, 927, 928, 929, 930, 931, 932, 933, 934, 935, 936, 937, 938, 939, 940, 941, 942, 943, 944, 945, 946, 947, 948, 949, 950, 951, 952, 953, 954] (by decide +kernel) (by decide +kernel)) (goodIn_sub (fun _ h => List.mem_append_left _ (List.mem_append_left _ (List.mem_append_left _ (List.mem_append_left _ (List.mem_append_left _ (List.mem_append_left _ (List.mem_append_right _ h))))))) (by decide +kernel))
set_option maxRecDepth 20000 in
theorem gL_law_X5_waiting : GoodIn wsL_law (wsV RL 237 RX5 yX5_waiting wsX5_waiting) := goodIn_app (goodIn_of _ (by decide +kernel)) ggL_law_X5_waiting
set_option maxRecDepth 20000 in
theorem ggL_law_L_waitingAt : GoodIn wsL_law wsL_waitingAt := goodIn_ca (goodIn_ca (goodIn_ca (goodIn_r _ [719, 153, 270, 720, 721, 722, 2, 723, 275, 276, 25, 586, 724, 301, 302, 303, 304, 163, 164, 919, 920, 921, 922, 923, 924, 966, 967, 968, 969, 970, 971] (by decide +kernel) (by decide +kernel)) (goodIn_sub (fun _ h => List.mem_append_left _ (List.mem_append_left _ (List.mem_append_left _ (List.mem_append_left _ (List.mem_append_left _ (List.mem_append_left _ (List.mem_append_right _ h))))))) (by decide +kernel))) (goodIn_sub (fun _ h => List.mem_append_left _ (List.mem_append_left _ (List.mem_append_right _ h))) (by decide +kernel))) (goodIn_sub (fun _ h => List.mem_append_left _ (List.mem_append_left _ (List.mem_append_left _ (List.mem_append_left _ (List.mem_append_right _ h))))) (by decide +kernel))
set_option maxRecDepth 20000 in
theorem gL_law_L_waitingAt : GoodIn wsL_law (va_wsS RL 238 yL_waitingAt wsL_waitingAt) := goodIn_app (goodIn_of _ (by decide +kernel)) ggL_law_L_waitingAt
set_option maxRecDepth 20000 in
theorem ggL_law_X5_waitingAt : GoodIn wsL_law wsX5_waitingAt := goodIn_ca (goodIn_r _ [728, 101, 106, 100, 314, 315, 5, 316, 127, 128, 129, 659, 660, 661, 662, 925, 926, 927, 928, 929, 930, 931, 932, 933, 934, 935, 936, 937, 938, 939, 940, 941, 942, 943, 944, 945, 946, 947, 948, 949, 950, 951, 952, 953, 954] (by decide +kernel) (by decide +kernel)) (goodIn_sub (fun _ h => List.mem_append_left _ (List.mem_append_left _ (List.mem_append_left _ (List.mem_append_left _ (List.mem_append_left _ (List.mem_append_left _ (List.mem_append_right _ h))))))) (by decide +kernel))
set_option maxRecDepth 20000 in
theorem gL_law_X5_waitingAt : GoodIn wsL_law (wsV RL 240 RX5 yX5_waitingAt wsX5_waitingAt) := goodIn_app (goodIn_of _ (by decide +kernel)) ggL_law_X5_waitingAt
set_option maxRecDepth 20000 in
theorem ggL_law_L_claims : GoodIn wsL_law wsL_claims := goodIn_ca (goodIn_ca (goodIn_ca (goodIn_r _ [731, 270, 153, 732, 733, 734, 2, 735, 29, 122, 341, 342, 343, 344, 275, 276, 328, 301, 302, 303, 304, 163, 164, 615, 616, 617, 28, 618, 69, 72, 73, 447, 448, 449, 450, 373, 374, 375, 70, 919, 920, 921, 922, 923, 924, 972, 973, 974, 975, 976, 977, 978, 979, 980] (by decide +kernel) (by decide +kernel)) (goodIn_sub (fun _ h => List.mem_append_left _ (List.mem_append_left _ (List.mem_append_left _ (List.mem_append_left _ (List.mem_append_left _ (List.mem_append_left _ (List.mem_append_right _ h))))))) (by decide +kernel))) (goodIn_sub (fun _ h => List.mem_append_left _ (List.mem_append_left _ (List.mem_append_right _ h))) (by decide +kernel))) (goodIn_sub (fun _ h => List.mem_append_left _ (List.mem_append_left _ (List.mem_append_left _ (List.mem_append_left _ (List.mem_append_right _ h))))) (by decide +kernel))
set_option maxRecDepth 20000 in
theorem gL_law_L_claims : GoodIn wsL_law (va_wsS RL 241 yL_claims wsL_claims) := goodIn_app (goodIn_of _ (by decide +kernel)) ggL_law_L_claims
set_option maxRecDepth 20000 in
theorem ggL_law_X5_claims : GoodIn wsL_law wsX5_claims := goodIn_ca (goodIn_r _ [739, 106, 349, 350, 351, 5, 352, 108, 127, 128, 129, 314, 315, 316, 636, 637, 638, 639, 83, 84, 91, 516, 517, 518, 380, 381, 382, 383, 107, 90, 925, 926, 927, 928, 929, 930, 931, 932, 933, 934, 935, 936, 937, 938, 939, 940, 941, 942, 943, 944, 945, 946, 947, 948, 949, 950, 951, 952, 953, 954] (by decide +kernel) (by decide +kernel)) (goodIn_sub (fun _ h => List.mem_append_left _ (List.mem_append_left _ (List.mem_append_left _ (List.mem_append_left _ (List.mem_append_left _ (List.mem_append_left _ (List.mem_append_right _ h))))))) (by decide +kernel))
set_option maxRecDepth 20000 in
theorem gL_law_X5_claims : GoodIn wsL_law (wsV RL 243 RX5 yX5_claims wsX5_claims) := goodIn_app (goodIn_of _ (by decide +kernel)) ggL_law_X5_claims
set_option maxRecDepth 20000 in
theorem ggL_law_L_claimants : GoodIn wsL_law wsL_claimants := goodIn_ca (goodIn_ca (goodIn_r _ [742, 153, 743, 744, 745, 2, 746, 29, 122, 301, 302, 303, 304, 163, 164, 747, 748, 749, 28, 750, 623, 751, 616, 617, 618, 69, 72, 73, 447, 448, 449, 450, 373, 374, 375, 70, 919, 920, 921, 922, 923, 924, 972, 973, 974, 975, 976, 977, 978, 979, 980] (by decide +kernel) (by decide +kernel)) (goodIn_sub (fun _ h => List.mem_append_left _ (List.mem_append_left _ (List.mem_append_left _ (List.mem_append_left _ (List.mem_append_left _ (List.mem_append_left _ (List.mem_append_right _ h))))))) (by decide +kernel))) (goodIn_sub (fun _ h => List.mem_append_left _ (List.mem_append_left _ (List.mem_append_left _ (List.mem_append_left _ (List.mem_append_right _ h))))) (by decide +kernel))
set_option maxRecDepth 20000 in
theorem gL_law_L_claimants : GoodIn wsL_law (va_wsS RL 244 yL_claimants wsL_claimants) := goodIn_app (goodIn_of _ (by decide +kernel)) ggL_law_L_claimants
set_option maxRecDepth 20000 in
theorem ggL_law_X5_claimants : GoodIn wsL_law wsX5_claimants := goodIn_ca (goodIn_r _ [755, 108, 314, 315, 5, 316, 127, 128, 129, 130, 131, 132, 133, 106, 636, 637, 638, 639, 83, 84, 91, 516, 517, 518, 380, 381, 382, 383, 107, 90, 925, 926, 927, 928, 929, 930, 931, 932, 933, 934, 935, 936, 937, 938, 939, 940, 941, 942, 943, 944, 945, 946, 947, 948, 949, 950, 951, 952, 953, 954] (by decide +kernel) (by decide +kernel)) (goodIn_sub (fun _ h => List.mem_append_left _ (List.mem_append_left _ (List.mem_append_left _ (List.mem_append_left _ (List.mem_append_left _ (List.mem_append_left _ (List.mem_append_right _ h))))))) (by decide +kernel))
set_option maxRecDepth 20000 in
theorem gL_law_X5_claimants : GoodIn wsL_law (wsV RL 246 RX5 yX5_claimants wsX5_claimants) := goodIn_app (goodIn_of _ (by decide +kernel)) ggL_law_X5_claimants
set_option maxRecDepth 20000 in
theorem ggL_law_L_value : GoodIn wsL_law wsL_value := goodIn_ca (goodIn_ca (goodIn_r _ [758, 153, 759, 760, 761, 2, 762, 25, 599, 301, 302, 303, 304, 163, 164, 919, 920, 921, 922, 923, 924, 966, 967, 968, 969, 970, 971] (by decide +kernel) (by decide +kernel)) (goodIn_sub (fun _ h => List.mem_append_left _ (List.mem_append_left _ (List.mem_append_left _ (List.mem_append_left _ (List.mem_append_left _ (List.mem_append_left _ (List.mem_append_right _ h))))))) (by decide +kernel))) (goodIn_sub (fun _ h => List.mem_append_left _ (List.mem_append_left _ (List.mem_append_left _ (List.mem_append_left _ (List.mem_append_right _ h))))) (by decide +kernel))
set_option maxRecDepth 20000 in
theorem gL_law_L_value : GoodIn wsL_law (va_wsS RL 247 yL_value wsL_value) := goodIn_app (goodIn_of _ (by decide +kernel)) ggL_law_L_value
set_option maxRecDepth 20000 in
theorem ggL_law_X5_value : GoodIn wsL_law wsX5_value := goodIn_ca (goodIn_r _ [766, 99, 314, 315, 5, 316, 127, 128, 129, 130, 131, 132, 133, 106, 925, 926, 927, 928, 929, 930, 931, 932, 933, 934, 935, 936, 937, 938, 939, 940, 941, 942, 943, 944, 945, 946, 947, 948, 949, 950, 951, 952, 953, 954] (by decide +kernel) (by decide +kernel)) (goodIn_sub (fun _ h => List.mem_append_left _ (List.mem_append_left _ (List.mem_append_left _ (List.mem_append_left _ (List.mem_append_left _ (List.mem_append_left _ (List.mem_append_right _ h))))))) (by decide +kernel))
set_option maxRecDepth 20000 in
theorem gL_law_X5_value : GoodIn wsL_law (wsV RL 249 RX5 yX5_value wsX5_value) := goodIn_app (goodIn_of _ (by decide +kernel)) ggL_law_X5_value
set_option maxRecDepth 20000 in
theorem ggL_law_L_valueByLog : GoodIn wsL_law wsL_valueByLog := goodIn_ca (goodIn_ca (goodIn_r _ [769, 153, 770, 771, 772, 2, 773, 21, 301, 302, 303, 304, 163, 164, 774, 775, 776, 20, 777, 309, 52, 49, 53, 919, 920, 921, 922, 923, 924, 960, 961, 962, 963, 964, 965] (by decide +kernel) (by decide +kernel)) (goodIn_sub (fun _ h => List.mem_append_left _ (List.mem_append_left _ (List.mem_append_left _ (List.mem_append_left _ (List.mem_append_left _ (List.mem_append_left _ (List.mem_append_right _ h))))))) (by decide +kernel))) (goodIn_sub (fun _ h => List.mem_append_left _ (List.mem_append_left _ (List.mem_append_left _ (List.mem_append_left _ (List.mem_append_right _ h))))) (by decide +kernel))
set_option maxRecDepth 20000 in
theorem gL_law_L_valueByLog : GoodIn wsL_law (va_wsS RL 250 yL_valueByLog wsL_valueByLog) := goodIn_app (goodIn_of _ (by decide +kernel)) ggL_law_L_valueByLog
set_option maxRecDepth 20000 in
theorem ggL_law_X5_valueByLog : GoodIn wsL_law wsX5_valueByLog := goodIn_ca (goodIn_r _ [781, 782, 764, 765, 5, 766, 99, 314, 315, 316, 127, 128, 129, 130, 131, 132, 133, 106, 925, 926, 927, 928, 929, 930, 931, 932, 933, 934, 935, 936, 937, 938, 939, 940, 941, 942, 943, 944, 945, 946, 947, 948, 949, 950, 951, 952, 953, 954] (by decide +kernel) (by decide +kernel)) (goodIn_sub (fun _ h => List.mem_append_left _ (List.mem_append_left _ (List.mem_append_left _ (List.mem_append_left _ (List.mem_append_left _ (List.mem_append_left _ (List.mem_append_right _ h))))))) (by decide +kernel))
set_option maxRecDepth 20000 in
theorem gL_law_X5_valueByLog : GoodIn wsL_law (wsV RL 252 RX5 yX5_valueByLog wsX5_valueByLog) := goodIn_app (goodIn_of _ (by decide +kernel)) ggL_law_X5_valueByLog
set_option maxRecDepth 20000 in
theorem ggL_law_L_kept : GoodIn wsL_law wsL_kept := goodIn_ca (goodIn_ca (goodIn_ca (goodIn_ca (goodIn_r _ [785, 270, 153, 217, 786, 787, 788, 2, 789, 222, 223, 29, 122, 790, 341, 342, 343, 344, 275, 276, 328, 301, 302, 303, 304, 163, 164, 791, 792, 793, 28, 794, 69, 74, 75, 447, 448, 449, 450, 373, 374, 375, 70, 795, 919, 920, 921, 922, 923, 924, 972, 973, 974, 975, 976, 977, 978, 979, 980] (by decide +kernel) (by decide +kernel)) (goodIn_sub (fun _ h => List.mem_append_left _ (List.mem_append_left _ (List.mem_append_left _ (List.mem_append_left _ (List.mem_append_left _ (List.mem_append_left _ (List.mem_append_right _ h))))))) (by decide +kernel))) (goodIn_sub (fun _ h => List.mem_append_left _ (List.mem_append_left _ (List.mem_append_left _ (List.mem_append_right _ h)))) (by decide +kernel))) (goodIn_sub (fun _ h => List.mem_append_left _ (List.mem_append_left _ (List.mem_append_right _ h))) (by decide +kernel))) (goodIn_sub (fun _ h => List.mem_append_left _ (List.mem_append_left _ (List.mem_append_left _ (List.mem_append_left _ (List.mem_append_right _ h))))) (by decide +kernel))
set_option maxRecDepth 20000 in
theorem gL_law_L_kept : GoodIn wsL_law (va_wsS RL 253 yL_kept wsL_kept) := goodIn_app (goodIn_of _ (by decide +kernel)) ggL_law_L_kept
set_option maxRecDepth 20000 in
theorem ggL_law_X5_kept : GoodIn wsL_law wsX5_kept := goodIn_ca (goodIn_r _ [799, 106, 85, 83, 92, 93, 349, 350, 351, 5, 352, 108, 127, 128, 129, 314, 315, 316, 516, 517, 518, 380, 381, 382, 383, 107, 90, 925, 926, 927, 928, 929, 930, 931, 932, 933, 934, 935, 936, 937, 938, 939, 940, 941, 942, 943, 944, 945, 946, 947, 948, 949, 950, 951, 952, 953, 954] (by decide +kernel) (by decide +kernel)) (goodIn_sub (fun _ h => List.mem_append_left _ (List.mem_append_left _ (List.mem_append_left _ (List.mem_append_left _ (List.mem_append_left _ (List.mem_append_left _ (List.mem_append_right _ h))))))) (by decide +kernel))
set_option maxRecDepth 20000 in
theorem gL_law_X5_kept : GoodIn wsL_law (wsV RL 255 RX5 yX5_kept wsX5_kept) := goodIn_app (goodIn_of _ (by decide +kernel)) ggL_law_X5_kept
set_option maxRecDepth 20000 in
theorem ggL_law_X4_entries : GoodIn wsL_law wsX4_entries := goodIn_r _ [803, 21, 404, 919, 920, 921, 922, 923, 924, 960, 961, 962, 963, 964, 965] (by decide +kernel) (by decide +kernel)
set_option maxRecDepth 20000 in
theorem gL_law_X4_entries : GoodIn wsL_law (wsV RL 256 RX4 yX4_entries wsX4_entries) := goodIn_app (goodIn_of _ (by decide +kernel)) ggL_law_X4_entries
set_option maxRecDepth 20000 in
theorem ggL_law_X5_entries : GoodIn wsL_law wsX5_entries := goodIn_r _ [807, 109, 146, 147, 148, 5, 149, 106, 925, 926, 927, 928, 929, 930, 931, 932, 933, 934, 935, 936, 937, 938, 939, 940, 941, 942, 943, 944, 945, 946, 947, 948, 949, 950, 951, 952, 953, 954] (by decide +kernel) (by decide +kernel)
set_option maxRecDepth 20000 in
theorem gL_law_X5_entries : GoodIn wsL_law (wsV RL 259 RX5 yX5_entries wsX5_entries) := goodIn_app (goodIn_of _ (by decide +kernel)) ggL_law_X5_entries
set_option maxRecDepth 20000 in
theorem ggL_law_L_kindOf : GoodIn wsL_law wsL_kindOf := goodIn_ca (goodIn_ca (goodIn_r _ [810, 270, 811, 812, 813, 2, 814, 21, 815, 816, 817, 818, 819, 275, 276, 404, 919, 920, 921, 922, 923, 924, 960, 961, 962, 963, 964, 965] (by decide +kernel) (by decide +kernel)) (goodIn_sub (fun _ h => List.mem_append_left _ (List.mem_append_left _ (List.mem_append_left _ (List.mem_append_left _ (List.mem_append_left _ (List.mem_append_left _ (List.mem_append_right _ h))))))) (by decide +kernel))) (goodIn_sub (fun _ h => List.mem_append_left _ (List.mem_append_left _ (List.mem_append_right _ h))) (by decide +kernel))
set_option maxRecDepth 20000 in
theorem gL_law_L_kindOf : GoodIn wsL_law (va_wsS RL 260 yL_kindOf wsL_kindOf) := goodIn_app (goodIn_of _ (by decide +kernel)) ggL_law_L_kindOf
set_option maxRecDepth 20000 in
theorem ggL_law_X5_kindOf : GoodIn wsL_law wsX5_kindOf := goodIn_ca (goodIn_r _ [823, 102, 824, 825, 826, 5, 827, 109, 127, 128, 129, 130, 131, 132, 133, 106, 925, 926, 927, 928, 929, 930, 931, 932, 933, 934, 935, 936, 937, 938, 939, 940, 941, 942, 943, 944, 945, 946, 947, 948, 949, 950, 951, 952, 953, 954] (by decide +kernel) (by decide +kernel)) (goodIn_sub (fun _ h => List.mem_append_left _ (List.mem_append_left _ (List.mem_append_left _ (List.mem_append_left _ (List.mem_append_left _ (List.mem_append_left _ (List.mem_append_right _ h))))))) (by decide +kernel))
set_option maxRecDepth 20000 in
theorem gL_law_X5_kindOf : GoodIn wsL_law (wsV RL 262 RX5 yX5_kindOf wsX5_kindOf) := goodIn_app (goodIn_of _ (by decide +kernel)) ggL_law_X5_kindOf
set_option maxRecDepth 20000 in
theorem ggL_law_L_termOfEntry : GoodIn wsL_law wsL_termOfEntry := goodIn_ca (goodIn_ca (goodIn_r _ [830, 270, 831, 832, 833, 2, 834, 21, 835, 816, 817, 818, 819, 275, 276, 404, 919, 920, 921, 922, 923, 924, 960, 961, 962, 963, 964, 965] (by decide +kernel) (by decide +kernel)) (goodIn_sub (fun _ h => List.mem_append_left _ (List.mem_append_left _ (List.mem_append_left _ (List.mem_append_left _ (List.mem_append_left _ (List.mem_append_left _ (List.mem_append_right _ h))))))) (by decide +kernel))) (goodIn_sub (fun _ h => List.mem_append_left _ (List.mem_append_left _ (List.mem_append_right _ h))) (by decide +kernel))
set_option maxRecDepth 20000 in
theorem gL_law_L_termOfEntry : GoodIn wsL_law (va_wsS RL 263 yL_termOfEntry wsL_termOfEntry) := goodIn_app (goodIn_of _ (by decide +kernel)) ggL_law_L_termOfEntry
set_option maxRecDepth 20000 in
theorem ggL_law_X5_termOfEntry : GoodIn wsL_law wsX5_termOfEntry := goodIn_ca (goodIn_r _ [839, 103, 824, 825, 826, 5, 827, 109, 127, 128, 129, 130, 131, 132, 133, 106, 925, 926, 927, 928, 929, 930, 931, 932, 933, 934, 935, 936, 937, 938, 939, 940, 941, 942, 943, 944, 945, 946, 947, 948, 949, 950, 951, 952, 953, 954] (by decide +kernel) (by decide +kernel)) (goodIn_sub (fun _ h => List.mem_append_left _ (List.mem_append_left _ (List.mem_append_left _ (List.mem_append_left _ (List.mem_append_left _ (List.mem_append_left _ (List.mem_append_right _ h))))))) (by decide +kernel))
set_option maxRecDepth 20000 in
theorem gL_law_X5_termOfEntry : GoodIn wsL_law (wsV RL 265 RX5 yX5_termOfEntry wsX5_termOfEntry) := goodIn_app (goodIn_of _ (by decide +kernel)) ggL_law_X5_termOfEntry
set_option maxRecDepth 20000 in
theorem ggL_law_L_knownBy : GoodIn wsL_law wsL_knownBy := goodIn_ca (goodIn_ca (goodIn_r _ [842, 270, 843, 844, 845, 2, 846, 17, 816, 817, 818, 819, 275, 276, 21, 404, 847, 848, 849, 16, 850, 38, 919, 920, 921, 922, 923, 924, 960, 961, 962, 963, 964, 965, 955, 956, 957, 958, 959] (by decide +kernel) (by decide +kernel)) (goodIn_sub (fun _ h => List.mem_append_left _ (List.mem_append_left _ (List.mem_append_left _ (List.mem_append_left _ (List.mem_append_left _ (List.mem_append_left _ (List.mem_append_right _ h))))))) (by decide +kernel))) (goodIn_sub (fun _ h => List.mem_append_left _ (List.mem_append_left _ (List.mem_append_right _ h))) (by decide +kernel))
set_option maxRecDepth 20000 in
theorem gL_law_L_knownBy : GoodIn wsL_law (va_wsS RL 266 yL_knownBy wsL_knownBy) := goodIn_app (goodIn_of _ (by decide +kernel)) ggL_law_L_knownBy
set_option maxRecDepth 20000 in
theorem ggL_law_X5_knownBy : GoodIn wsL_law wsX5_knownBy := goodIn_ca (goodIn_r _ [854, 88, 824, 825, 826, 5, 827, 109, 127, 128, 129, 130, 131, 132, 133, 106, 925, 926, 927, 928, 929, 930, 931, 932, 933, 934, 935, 936, 937, 938, 939, 940, 941, 942, 943, 944, 945, 946, 947, 948, 949, 950, 951, 952, 953, 954] (by decide +kernel) (by decide +kernel)) (goodIn_sub (fun _ h => List.mem_append_left _ (List.mem_append_left _ (List.mem_append_left _ (List.mem_append_left _ (List.mem_append_left _ (List.mem_append_left _ (List.mem_append_right _ h))))))) (by decide +kernel))
set_option maxRecDepth 20000 in
theorem gL_law_X5_knownBy : GoodIn wsL_law (wsV RL 268 RX5 yX5_knownBy wsX5_knownBy) := goodIn_app (goodIn_of _ (by decide +kernel)) ggL_law_X5_knownBy
set_option maxRecDepth 20000 in
theorem ggL_law_X4_leased : GoodIn wsL_law wsX4_leased := goodIn_r _ [858, 433, 919, 920, 921, 922, 923, 924] (by decide +kernel) (by decide +kernel)
set_option maxRecDepth 20000 in
theorem gL_law_X4_leased : GoodIn wsL_law (wsV RL 269 RX4 yX4_leased wsX4_leased) := goodIn_app (goodIn_of _ (by decide +kernel)) ggL_law_X4_leased
set_option maxRecDepth 20000 in
theorem ggL_law_X5_leased : GoodIn wsL_law wsX5_leased := goodIn_ca (goodIn_r _ [862, 106, 110, 95, 96, 97, 925, 926, 927, 928, 929, 930, 931, 932, 933, 934, 935, 936, 937, 938, 939, 940, 941, 942, 943, 944, 945, 946, 947, 948, 949, 950, 951, 952, 953, 954] (by decide +kernel) (by decide +kernel)) (goodIn_sub (fun _ h => List.mem_append_left _ (List.mem_append_left _ (List.mem_append_left _ (List.mem_append_left _ (List.mem_append_left _ (List.mem_append_left _ (List.mem_append_right _ h))))))) (by decide +kernel))
set_option maxRecDepth 20000 in
theorem gL_law_X5_leased : GoodIn wsL_law (wsV RL 273 RX5 yX5_leased wsX5_leased) := goodIn_app (goodIn_of _ (by decide +kernel)) ggL_law_X5_leased
set_option maxRecDepth 20000 in
theorem ggL_law_X4_upShare : GoodIn wsL_law wsX4_upShare := goodIn_ca (goodIn_r _ [866, 17, 867, 868, 869, 870, 16, 871, 35, 919, 920, 921, 922, 923, 924, 955, 956, 957, 958, 959] (by decide +kernel) (by decide +kernel)) (goodIn_sub (fun _ h => List.mem_append_left _ (List.mem_append_left _ (List.mem_append_left _ (List.mem_append_left _ (List.mem_append_left _ (List.mem_append_left _ (List.mem_append_right _ h))))))) (by decide +kernel))
set_option maxRecDepth 20000 in
theorem gL_law_X4_upShare : GoodIn wsL_law (wsV RL 274 RX4 yX4_upShare wsX4_upShare) := goodIn_app (goodIn_of _ (by decide +kernel)) ggL_law_X4_upShare
set_option maxRecDepth 20000 in
theorem ggL_law_X5_upShare : GoodIn wsL_law wsX5_upShare := goodIn_ca (goodIn_r _ [875, 106, 81, 876, 925, 926, 927, 928, 929, 930, 931, 932, 933, 934, 935, 936, 937, 938, 939, 940, 941, 942, 943, 944, 945, 946, 947, 948, 949, 950, 951, 952, 953, 954] (by decide +kernel) (by decide +kernel)) (goodIn_sub (fun _ h => List.mem_append_left _ (List.mem_append_left _ (List.mem_append_left _ (List.mem_append_left _ (List.mem_append_left _ (List.mem_append_left _ (List.mem_append_right _ h))))))) (by decide +kernel))
set_option maxRecDepth 20000 in
theorem gL_law_X5_upShare : GoodIn wsL_law (wsV RL 278 RX5 yX5_upShare wsX5_upShare) := goodIn_app (goodIn_of _ (by decide +kernel)) ggL_law_X5_upShare
set_option maxRecDepth 20000 in
theorem ggL_law_L_meanKnown : GoodIn wsL_law wsL_meanKnown := goodIn_ca (goodIn_ca (goodIn_r _ [879, 880, 881, 882, 883, 2, 884, 885, 886, 21, 404, 17, 887, 888, 889, 16, 890, 38, 919, 920, 921, 922, 923, 924, 960, 961, 962, 963, 964, 965, 955, 956, 957, 958, 959] (by decide +kernel) (by decide +kernel)) (goodIn_sub (fun _ h => List.mem_append_left _ (List.mem_append_left _ (List.mem_append_left _ (List.mem_append_left _ (List.mem_append_left _ (List.mem_append_left _ (List.mem_append_right _ h))))))) (by decide +kernel))) (goodIn_sub (fun _ h => List.mem_append_right _ h) (by decide +kernel))
set_option maxRecDepth 20000 in
theorem gL_law_L_meanKnown : GoodIn wsL_law (va_wsS RL 279 yL_meanKnown wsL_meanKnown) := goodIn_app (goodIn_of _ (by decide +kernel)) ggL_law_L_meanKnown
set_option maxRecDepth 20000 in
theorem ggL_law_X5_meanKnown : GoodIn wsL_law wsX5_meanKnown := goodIn_ca (goodIn_r _ [894, 109, 88, 130, 131, 132, 5, 133, 106, 925, 926, 927, 928, 929, 930, 931, 932, 933, 934, 935, 936, 937, 938, 939, 940, 941, 942, 943, 944, 945, 946, 947, 948, 949, 950, 951, 952, 953, 954] (by decide +kernel) (by decide +kernel)) (goodIn_sub (fun _ h => List.mem_append_left _ (List.mem_append_left _ (List.mem_append_left _ (List.mem_append_left _ (List.mem_append_left _ (List.mem_append_left _ (List.mem_append_right _ h))))))) (by decide +kernel))
set_option maxRecDepth 20000 in
theorem gL_law_X5_meanKnown : GoodIn wsL_law (wsV RL 282 RX5 yX5_meanKnown wsX5_meanKnown) := goodIn_app (goodIn_of _ (by decide +kernel)) ggL_law_X5_meanKnown
set_option maxRecDepth 20000 in
theorem ggL_law_X4_isOneOrder : GoodIn wsL_law wsX4_isOneOrder := goodIn_ca (goodIn_r _ [898, 21, 899, 900, 901, 20, 902, 309, 50, 903, 904, 905, 2, 906, 404, 17, 847, 848, 849, 16, 850, 38, 907, 908, 909, 910, 25, 122, 431, 599, 422, 419, 420, 24, 421, 58, 59, 670, 671, 672, 673, 674, 675, 676, 677, 52, 49, 53, 678, 306, 307, 308, 51, 774, 775, 776, 777, 911, 912, 913, 914, 29, 747, 748, 749, 28, 750, 623, 751, 616, 617, 618, 69, 72, 73, 447, 448, 449, 450, 373, 374, 375, 70, 919, 920, 921, 922, 923, 924, 960, 961, 962, 963, 964, 965, 955, 956, 957, 958, 959, 966, 967, 968, 969, 970, 971, 972, 973, 974, 975, 976, 977, 978, 979, 980] (by decide +kernel) (by decide +kernel)) (goodIn_sub (fun _ h => List.mem_append_left _ (List.mem_append_left _ (List.mem_append_left _ (List.mem_append_left _ (List.mem_append_left _ (List.mem_append_left _ (List.mem_append_right _ h))))))) (by decide +kernel))
set_option maxRecDepth 20000 in
theorem gL_law_X4_isOneOrder : GoodIn wsL_law (wsV RL 283 RX4 yX4_isOneOrder wsX4_isOneOrder) := goodIn_app (goodIn_of _ (by decide +kernel)) ggL_law_X4_isOneOrder
set_option maxRecDepth 20000 in
theorem ggL_law_X5_isOneOrder : GoodIn wsL_law wsX5_isOneOrder := goodIn_r _ [918, 106, 925, 926, 927, 928, 929, 930, 931, 932, 933, 934, 935, 936, 937, 938, 939, 940, 941, 942, 943, 944, 945, 946, 947, 948, 949, 950, 951, 952, 953, 954] (by decide +kernel) (by decide +kernel)
set_option maxRecDepth 20000 in
theorem gL_law_X5_isOneOrder : GoodIn wsL_law (wsV RL 287 RX5 yX5_isOneOrder wsX5_isOneOrder) := goodIn_app (goodIn_of _ (by decide +kernel)) ggL_law_X5_isOneOrder
