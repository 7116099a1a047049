theorem dX0_init_0 : decode cX0_init 0 = .ok (.aload_n 0, 1) := by decide +kernel
theorem dX0_init_1 : decode cX0_init 1 = .ok (.invokespecial 1, 3) := by decide +kernel
theorem dX0_init_4 : decode cX0_init 4 = .ok (.aload_n 0, 1) := by decide +kernel
theorem dX0_init_5 : decode cX0_init 5 = .ok (.bipush 6, 2) := by decide +kernel
theorem dX0_init_7 : decode cX0_init 7 = .ok (.newarray .boolean, 2) := by decide +kernel
theorem dX0_init_9 : decode cX0_init 9 = .ok (.putfield 9, 3) := by decide +kernel
theorem dX0_init_12 : decode cX0_init 12 = .ok (.aload_n 0, 1) := by decide +kernel
theorem dX0_init_13 : decode cX0_init 13 = .ok (.bipush 6, 2) := by decide +kernel
theorem dX0_init_15 : decode cX0_init 15 = .ok (.newarray .int, 2) := by decide +kernel
theorem dX0_init_17 : decode cX0_init 17 = .ok (.putfield 13, 3) := by decide +kernel
theorem dX0_init_20 : decode cX0_init 20 = .ok (.aload_n 0, 1) := by decide +kernel
theorem dX0_init_21 : decode cX0_init 21 = .ok (.bipush 24, 2) := by decide +kernel
theorem dX0_init_23 : decode cX0_init 23 = .ok (.newarray .int, 2) := by decide +kernel
theorem dX0_init_25 : decode cX0_init 25 = .ok (.putfield 19, 3) := by decide +kernel
theorem dX0_init_28 : decode cX0_init 28 = .ok (.aload_n 0, 1) := by decide +kernel
theorem dX0_init_29 : decode cX0_init 29 = .ok (.bipush 24, 2) := by decide +kernel
theorem dX0_init_31 : decode cX0_init 31 = .ok (.newarray .boolean, 2) := by decide +kernel
theorem dX0_init_33 : decode cX0_init 33 = .ok (.putfield 22, 3) := by decide +kernel
theorem dX0_init_36 : decode cX0_init 36 = .ok (.aload_n 0, 1) := by decide +kernel
theorem dX0_init_37 : decode cX0_init 37 = .ok (.bipush 24, 2) := by decide +kernel
theorem dX0_init_39 : decode cX0_init 39 = .ok (.newarray .int, 2) := by decide +kernel
theorem dX0_init_41 : decode cX0_init 41 = .ok (.putfield 25, 3) := by decide +kernel
theorem dX0_init_44 : decode cX0_init 44 = .ok (.aload_n 0, 1) := by decide +kernel
theorem dX0_init_45 : decode cX0_init 45 = .ok (.bipush 24, 2) := by decide +kernel
theorem dX0_init_47 : decode cX0_init 47 = .ok (.newarray .boolean, 2) := by decide +kernel
theorem dX0_init_49 : decode cX0_init 49 = .ok (.putfield 28, 3) := by decide +kernel
theorem dX0_init_52 : decode cX0_init 52 = .ok (.aload_n 0, 1) := by decide +kernel
theorem dX0_init_53 : decode cX0_init 53 = .ok (.bipush 24, 2) := by decide +kernel
theorem dX0_init_55 : decode cX0_init 55 = .ok (.newarray .int, 2) := by decide +kernel
theorem dX0_init_57 : decode cX0_init 57 = .ok (.putfield 31, 3) := by decide +kernel
theorem dX0_init_60 : decode cX0_init 60 = .ok (.aload_n 0, 1) := by decide +kernel
theorem dX0_init_61 : decode cX0_init 61 = .ok (.bipush 24, 2) := by decide +kernel
theorem dX0_init_63 : decode cX0_init 63 = .ok (.newarray .int, 2) := by decide +kernel
theorem dX0_init_65 : decode cX0_init 65 = .ok (.putfield 34, 3) := by decide +kernel
theorem dX0_init_68 : decode cX0_init 68 = .ok (.return_, 1) := by decide +kernel
theorem dX0_slot_0 : decode cX0_slot 0 = .ok (.iload_n 0, 1) := by decide +kernel
theorem dX0_slot_1 : decode cX0_slot 1 = .ok (.iconst 4, 1) := by decide +kernel
theorem dX0_slot_2 : decode cX0_slot 2 = .ok (.imul, 1) := by decide +kernel
theorem dX0_slot_3 : decode cX0_slot 3 = .ok (.iload_n 1, 1) := by decide +kernel
theorem dX0_slot_4 : decode cX0_slot 4 = .ok (.iadd, 1) := by decide +kernel
theorem dX0_slot_5 : decode cX0_slot 5 = .ok (.ireturn, 1) := by decide +kernel
theorem dX0_clockAt_0 : decode cX0_clockAt 0 = .ok (.iload_n 2, 1) := by decide +kernel
theorem dX0_clockAt_1 : decode cX0_clockAt 1 = .ok (.aload_n 0, 1) := by decide +kernel
theorem dX0_clockAt_2 : decode cX0_clockAt 2 = .ok (.getfield 13, 3) := by decide +kernel
theorem dX0_clockAt_5 : decode cX0_clockAt 5 = .ok (.iload_n 1, 1) := by decide +kernel
theorem dX0_clockAt_6 : decode cX0_clockAt 6 = .ok (.iaload, 1) := by decide +kernel
theorem dX0_clockAt_7 : decode cX0_clockAt 7 = .ok (.iadd, 1) := by decide +kernel
theorem dX0_clockAt_8 : decode cX0_clockAt 8 = .ok (.ireturn, 1) := by decide +kernel
set_option maxRecDepth 20000 in
theorem ggX0_noteLease_X0_slot : GoodIn wsX0_noteLease wsX0_slot := goodIn_r _ [6] (by decide +kernel) (by decide +kernel)
set_option maxRecDepth 20000 in
theorem gX0_noteLease_X0_slot : GoodIn wsX0_noteLease (va_wsS RX0 37 yX0_slot wsX0_slot) := goodIn_app (goodIn_of _ (by decide +kernel)) ggX0_noteLease_X0_slot
set_option maxRecDepth 20000 in
theorem ggX0_noteLease_X0_clockAt : GoodIn wsX0_noteLease wsX0_clockAt := goodIn_ca (goodIn_r _ [10, 11, 12, 13, 14, 15, 16, 17, 18, 19, 20] (by decide +kernel) (by decide +kernel)) (goodIn_sub (fun _ h => List.mem_cons_of_mem _ (List.mem_append_right _ h)) (by decide +kernel))
set_option maxRecDepth 20000 in
theorem gX0_noteLease_X0_clockAt : GoodIn wsX0_noteLease (wsV RX0 41 RX0 yX0_clockAt wsX0_clockAt) := goodIn_app (goodIn_of _ (by decide +kernel)) ggX0_noteLease_X0_clockAt
theorem dX0_noteLease_0 : decode cX0_noteLease 0 = .ok (.aload_n 0, 1) := by decide +kernel
theorem dX0_noteLease_1 : decode cX0_noteLease 1 = .ok (.getfield 22, 3) := by decide +kernel
theorem dX0_noteLease_4 : decode cX0_noteLease 4 = .ok (.iload_n 1, 1) := by decide +kernel
theorem dX0_noteLease_5 : decode cX0_noteLease 5 = .ok (.iload_n 2, 1) := by decide +kernel
theorem dX0_noteLease_6 : decode cX0_noteLease 6 = .ok (.invokestatic 37, 3) := by decide +kernel
theorem dX0_noteLease_9 : decode cX0_noteLease 9 = .ok (.iconst 1, 1) := by decide +kernel
theorem dX0_noteLease_10 : decode cX0_noteLease 10 = .ok (.bastore, 1) := by decide +kernel
theorem dX0_noteLease_11 : decode cX0_noteLease 11 = .ok (.aload_n 0, 1) := by decide +kernel
theorem dX0_noteLease_12 : decode cX0_noteLease 12 = .ok (.getfield 25, 3) := by decide +kernel
theorem dX0_noteLease_15 : decode cX0_noteLease 15 = .ok (.iload_n 1, 1) := by decide +kernel
theorem dX0_noteLease_16 : decode cX0_noteLease 16 = .ok (.iload_n 2, 1) := by decide +kernel
theorem dX0_noteLease_17 : decode cX0_noteLease 17 = .ok (.invokestatic 37, 3) := by decide +kernel
theorem dX0_noteLease_20 : decode cX0_noteLease 20 = .ok (.aload_n 0, 1) := by decide +kernel
theorem dX0_noteLease_21 : decode cX0_noteLease 21 = .ok (.iload_n 1, 1) := by decide +kernel
theorem dX0_noteLease_22 : decode cX0_noteLease 22 = .ok (.iload_n 3, 1) := by decide +kernel
theorem dX0_noteLease_23 : decode cX0_noteLease 23 = .ok (.invokevirtual 41, 3) := by decide +kernel
theorem dX0_noteLease_26 : decode cX0_noteLease 26 = .ok (.iastore, 1) := by decide +kernel
theorem dX0_noteLease_27 : decode cX0_noteLease 27 = .ok (.return_, 1) := by decide +kernel
set_option maxRecDepth 20000 in
theorem ggX0_dropLease_X0_slot : GoodIn wsX0_dropLease wsX0_slot := goodIn_r _ [5] (by decide +kernel) (by decide +kernel)
set_option maxRecDepth 20000 in
theorem gX0_dropLease_X0_slot : GoodIn wsX0_dropLease (va_wsS RX0 37 yX0_slot wsX0_slot) := goodIn_app (goodIn_of _ (by decide +kernel)) ggX0_dropLease_X0_slot
theorem dX0_dropLease_0 : decode cX0_dropLease 0 = .ok (.aload_n 0, 1) := by decide +kernel
theorem dX0_dropLease_1 : decode cX0_dropLease 1 = .ok (.getfield 22, 3) := by decide +kernel
theorem dX0_dropLease_4 : decode cX0_dropLease 4 = .ok (.iload_n 1, 1) := by decide +kernel
theorem dX0_dropLease_5 : decode cX0_dropLease 5 = .ok (.iload_n 2, 1) := by decide +kernel
theorem dX0_dropLease_6 : decode cX0_dropLease 6 = .ok (.invokestatic 37, 3) := by decide +kernel
theorem dX0_dropLease_9 : decode cX0_dropLease 9 = .ok (.iconst 0, 1) := by decide +kernel
theorem dX0_dropLease_10 : decode cX0_dropLease 10 = .ok (.bastore, 1) := by decide +kernel
theorem dX0_dropLease_11 : decode cX0_dropLease 11 = .ok (.return_, 1) := by decide +kernel
set_option maxRecDepth 20000 in
theorem ggX0_hasClaim_X0_slot : GoodIn wsX0_hasClaim wsX0_slot := goodIn_r _ [7] (by decide +kernel) (by decide +kernel)
set_option maxRecDepth 20000 in
theorem gX0_hasClaim_X0_slot : GoodIn wsX0_hasClaim (va_wsS RX0 37 yX0_slot wsX0_slot) := goodIn_app (goodIn_of _ (by decide +kernel)) ggX0_hasClaim_X0_slot
set_option maxRecDepth 20000 in
theorem ggX0_hasClaim_X0_clockAt : GoodIn wsX0_hasClaim wsX0_clockAt := goodIn_ca (goodIn_r _ [11, 12, 13, 14, 15, 16, 17, 18, 19, 20, 21] (by decide +kernel) (by decide +kernel)) (goodIn_sub (fun _ h => List.mem_cons_of_mem _ (List.mem_append_right _ h)) (by decide +kernel))
set_option maxRecDepth 20000 in
theorem gX0_hasClaim_X0_clockAt : GoodIn wsX0_hasClaim (wsV RX0 41 RX0 yX0_clockAt wsX0_clockAt) := goodIn_app (goodIn_of _ (by decide +kernel)) ggX0_hasClaim_X0_clockAt
theorem dX0_hasClaim_0 : decode cX0_hasClaim 0 = .ok (.iload_n 1, 1) := by decide +kernel
theorem dX0_hasClaim_1 : decode cX0_hasClaim 1 = .ok (.iload_n 2, 1) := by decide +kernel
theorem dX0_hasClaim_2 : decode cX0_hasClaim 2 = .ok (.invokestatic 37, 3) := by decide +kernel
theorem dX0_hasClaim_5 : decode cX0_hasClaim 5 = .ok (.istore 4, 2) := by decide +kernel
theorem dX0_hasClaim_7 : decode cX0_hasClaim 7 = .ok (.aload_n 0, 1) := by decide +kernel
theorem dX0_hasClaim_8 : decode cX0_hasClaim 8 = .ok (.getfield 9, 3) := by decide +kernel
theorem dX0_hasClaim_11 : decode cX0_hasClaim 11 = .ok (.iload_n 1, 1) := by decide +kernel
theorem dX0_hasClaim_12 : decode cX0_hasClaim 12 = .ok (.baload, 1) := by decide +kernel
theorem dX0_hasClaim_13 : decode cX0_hasClaim 13 = .ok (.ifCond .ne 36, 3) := by decide +kernel
theorem dX0_hasClaim_16 : decode cX0_hasClaim 16 = .ok (.aload_n 0, 1) := by decide +kernel
theorem dX0_hasClaim_17 : decode cX0_hasClaim 17 = .ok (.getfield 22, 3) := by decide +kernel
theorem dX0_hasClaim_20 : decode cX0_hasClaim 20 = .ok (.iload 4, 2) := by decide +kernel
theorem dX0_hasClaim_22 : decode cX0_hasClaim 22 = .ok (.baload, 1) := by decide +kernel
theorem dX0_hasClaim_23 : decode cX0_hasClaim 23 = .ok (.ifCond .eq 26, 3) := by decide +kernel
theorem dX0_hasClaim_26 : decode cX0_hasClaim 26 = .ok (.aload_n 0, 1) := by decide +kernel
theorem dX0_hasClaim_27 : decode cX0_hasClaim 27 = .ok (.iload_n 1, 1) := by decide +kernel
theorem dX0_hasClaim_28 : decode cX0_hasClaim 28 = .ok (.iload_n 3, 1) := by decide +kernel
theorem dX0_hasClaim_29 : decode cX0_hasClaim 29 = .ok (.invokevirtual 41, 3) := by decide +kernel
theorem dX0_hasClaim_32 : decode cX0_hasClaim 32 = .ok (.aload_n 0, 1) := by decide +kernel
theorem dX0_hasClaim_33 : decode cX0_hasClaim 33 = .ok (.getfield 25, 3) := by decide +kernel
theorem dX0_hasClaim_36 : decode cX0_hasClaim 36 = .ok (.iload 4, 2) := by decide +kernel
theorem dX0_hasClaim_38 : decode cX0_hasClaim 38 = .ok (.iaload, 1) := by decide +kernel
theorem dX0_hasClaim_39 : decode cX0_hasClaim 39 = .ok (.isub, 1) := by decide +kernel
theorem dX0_hasClaim_40 : decode cX0_hasClaim 40 = .ok (.bipush 8, 2) := by decide +kernel
theorem dX0_hasClaim_42 : decode cX0_hasClaim 42 = .ok (.if_icmp .ge 7, 3) := by decide +kernel
theorem dX0_hasClaim_45 : decode cX0_hasClaim 45 = .ok (.iconst 1, 1) := by decide +kernel
theorem dX0_hasClaim_46 : decode cX0_hasClaim 46 = .ok (.goto 4, 3) := by decide +kernel
theorem dX0_hasClaim_49 : decode cX0_hasClaim 49 = .ok (.iconst 0, 1) := by decide +kernel
theorem dX0_hasClaim_50 : decode cX0_hasClaim 50 = .ok (.ireturn, 1) := by decide +kernel
set_option maxRecDepth 20000 in
theorem ggX0_countClaims_X0_hasClaim : GoodIn wsX0_countClaims wsX0_hasClaim := goodIn_ca (goodIn_r _ [6, 7, 8, 9, 10, 11, 5, 12, 13, 14, 15, 16, 17, 18, 19, 20, 21, 22, 23, 24, 25, 26] (by decide +kernel) (by decide +kernel)) (goodIn_sub (fun _ h => List.mem_cons_of_mem _ (List.mem_append_right _ h)) (by decide +kernel))
set_option maxRecDepth 20000 in
theorem gX0_countClaims_X0_hasClaim : GoodIn wsX0_countClaims (wsV RX0 48 RX0 yX0_hasClaim wsX0_hasClaim) := goodIn_app (goodIn_of _ (by decide +kernel)) ggX0_countClaims_X0_hasClaim
theorem dX0_countClaims_0 : decode cX0_countClaims 0 = .ok (.iconst 0, 1) := by decide +kernel
theorem dX0_countClaims_1 : decode cX0_countClaims 1 = .ok (.istore_n 3, 1) := by decide +kernel
theorem dX0_countClaims_2 : decode cX0_countClaims 2 = .ok (.iconst 0, 1) := by decide +kernel
theorem dX0_countClaims_3 : decode cX0_countClaims 3 = .ok (.istore 4, 2) := by decide +kernel
theorem dX0_countClaims_5 : decode cX0_countClaims 5 = .ok (.iload 4, 2) := by decide +kernel
theorem dX0_countClaims_7 : decode cX0_countClaims 7 = .ok (.aload_n 0, 1) := by decide +kernel
theorem dX0_countClaims_8 : decode cX0_countClaims 8 = .ok (.getfield 44, 3) := by decide +kernel
theorem dX0_countClaims_11 : decode cX0_countClaims 11 = .ok (.if_icmp .ge 23, 3) := by decide +kernel
theorem dX0_countClaims_14 : decode cX0_countClaims 14 = .ok (.aload_n 0, 1) := by decide +kernel
theorem dX0_countClaims_15 : decode cX0_countClaims 15 = .ok (.iload 4, 2) := by decide +kernel
theorem dX0_countClaims_17 : decode cX0_countClaims 17 = .ok (.iload_n 1, 1) := by decide +kernel
theorem dX0_countClaims_18 : decode cX0_countClaims 18 = .ok (.iload_n 2, 1) := by decide +kernel
theorem dX0_countClaims_19 : decode cX0_countClaims 19 = .ok (.invokevirtual 48, 3) := by decide +kernel
theorem dX0_countClaims_22 : decode cX0_countClaims 22 = .ok (.ifCond .eq 6, 3) := by decide +kernel
theorem dX0_countClaims_25 : decode cX0_countClaims 25 = .ok (.iinc 3 1, 3) := by decide +kernel
theorem dX0_countClaims_28 : decode cX0_countClaims 28 = .ok (.iinc 4 1, 3) := by decide +kernel
theorem dX0_countClaims_31 : decode cX0_countClaims 31 = .ok (.goto (-26), 3) := by decide +kernel
theorem dX0_countClaims_34 : decode cX0_countClaims 34 = .ok (.iload_n 3, 1) := by decide +kernel
theorem dX0_countClaims_35 : decode cX0_countClaims 35 = .ok (.ireturn, 1) := by decide +kernel
set_option maxRecDepth 20000 in
theorem ggX0_keepValue_X0_slot : GoodIn wsX0_keepValue wsX0_slot := goodIn_r _ [8] (by decide +kernel) (by decide +kernel)
set_option maxRecDepth 20000 in
theorem gX0_keepValue_X0_slot : GoodIn wsX0_keepValue (va_wsS RX0 37 yX0_slot wsX0_slot) := goodIn_app (goodIn_of _ (by decide +kernel)) ggX0_keepValue_X0_slot
set_option maxRecDepth 20000 in
theorem ggX0_keepValue_X0_clockAt : GoodIn wsX0_keepValue wsX0_clockAt := goodIn_ca (goodIn_r _ [12, 13, 14, 15, 16, 17, 18, 19, 20, 21, 22] (by decide +kernel) (by decide +kernel)) (goodIn_sub (fun _ h => List.mem_cons_of_mem _ (List.mem_append_right _ h)) (by decide +kernel))
set_option maxRecDepth 20000 in
theorem gX0_keepValue_X0_clockAt : GoodIn wsX0_keepValue (wsV RX0 41 RX0 yX0_clockAt wsX0_clockAt) := goodIn_app (goodIn_of _ (by decide +kernel)) ggX0_keepValue_X0_clockAt
theorem dX0_keepValue_0 : decode cX0_keepValue 0 = .ok (.iload_n 1, 1) := by decide +kernel
theorem dX0_keepValue_1 : decode cX0_keepValue 1 = .ok (.iload_n 2, 1) := by decide +kernel
theorem dX0_keepValue_2 : decode cX0_keepValue 2 = .ok (.invokestatic 37, 3) := by decide +kernel
theorem dX0_keepValue_5 : decode cX0_keepValue 5 = .ok (.istore 5, 2) := by decide +kernel
theorem dX0_keepValue_7 : decode cX0_keepValue 7 = .ok (.aload_n 0, 1) := by decide +kernel
theorem dX0_keepValue_8 : decode cX0_keepValue 8 = .ok (.getfield 28, 3) := by decide +kernel
theorem dX0_keepValue_11 : decode cX0_keepValue 11 = .ok (.iload 5, 2) := by decide +kernel
theorem dX0_keepValue_13 : decode cX0_keepValue 13 = .ok (.iconst 1, 1) := by decide +kernel
theorem dX0_keepValue_14 : decode cX0_keepValue 14 = .ok (.bastore, 1) := by decide +kernel
theorem dX0_keepValue_15 : decode cX0_keepValue 15 = .ok (.aload_n 0, 1) := by decide +kernel
theorem dX0_keepValue_16 : decode cX0_keepValue 16 = .ok (.getfield 19, 3) := by decide +kernel
theorem dX0_keepValue_19 : decode cX0_keepValue 19 = .ok (.iload 5, 2) := by decide +kernel
theorem dX0_keepValue_21 : decode cX0_keepValue 21 = .ok (.iload_n 3, 1) := by decide +kernel
theorem dX0_keepValue_22 : decode cX0_keepValue 22 = .ok (.iastore, 1) := by decide +kernel
theorem dX0_keepValue_23 : decode cX0_keepValue 23 = .ok (.aload_n 0, 1) := by decide +kernel
theorem dX0_keepValue_24 : decode cX0_keepValue 24 = .ok (.getfield 31, 3) := by decide +kernel
theorem dX0_keepValue_27 : decode cX0_keepValue 27 = .ok (.iload 5, 2) := by decide +kernel
theorem dX0_keepValue_29 : decode cX0_keepValue 29 = .ok (.aload_n 0, 1) := by decide +kernel
theorem dX0_keepValue_30 : decode cX0_keepValue 30 = .ok (.iload_n 1, 1) := by decide +kernel
theorem dX0_keepValue_31 : decode cX0_keepValue 31 = .ok (.iload 4, 2) := by decide +kernel
theorem dX0_keepValue_33 : decode cX0_keepValue 33 = .ok (.invokevirtual 41, 3) := by decide +kernel
theorem dX0_keepValue_36 : decode cX0_keepValue 36 = .ok (.iastore, 1) := by decide +kernel
theorem dX0_keepValue_37 : decode cX0_keepValue 37 = .ok (.aload_n 0, 1) := by decide +kernel
theorem dX0_keepValue_38 : decode cX0_keepValue 38 = .ok (.getfield 34, 3) := by decide +kernel
theorem dX0_keepValue_41 : decode cX0_keepValue 41 = .ok (.iload 5, 2) := by decide +kernel
theorem dX0_keepValue_43 : decode cX0_keepValue 43 = .ok (.iload 4, 2) := by decide +kernel
theorem dX0_keepValue_45 : decode cX0_keepValue 45 = .ok (.bipush 10, 2) := by decide +kernel
theorem dX0_keepValue_47 : decode cX0_keepValue 47 = .ok (.iadd, 1) := by decide +kernel
theorem dX0_keepValue_48 : decode cX0_keepValue 48 = .ok (.iastore, 1) := by decide +kernel
theorem dX0_keepValue_49 : decode cX0_keepValue 49 = .ok (.return_, 1) := by decide +kernel
set_option maxRecDepth 20000 in
theorem ggX0_hasValue_X0_slot : GoodIn wsX0_hasValue wsX0_slot := goodIn_r _ [7] (by decide +kernel) (by decide +kernel)
set_option maxRecDepth 20000 in
theorem gX0_hasValue_X0_slot : GoodIn wsX0_hasValue (va_wsS RX0 37 yX0_slot wsX0_slot) := goodIn_app (goodIn_of _ (by decide +kernel)) ggX0_hasValue_X0_slot
set_option maxRecDepth 20000 in
theorem ggX0_hasValue_X0_clockAt : GoodIn wsX0_hasValue wsX0_clockAt := goodIn_ca (goodIn_r _ [11, 12, 13, 14, 15, 16, 17, 18, 19, 20, 21] (by decide +kernel) (by decide +kernel)) (goodIn_sub (fun _ h => List.mem_cons_of_mem _ (List.mem_append_right _ h)) (by decide +kernel))
set_option maxRecDepth 20000 in
theorem gX0_hasValue_X0_clockAt : GoodIn wsX0_hasValue (wsV RX0 41 RX0 yX0_clockAt wsX0_clockAt) := goodIn_app (goodIn_of _ (by decide +kernel)) ggX0_hasValue_X0_clockAt
theorem dX0_hasValue_0 : decode cX0_hasValue 0 = .ok (.iload_n 1, 1) := by decide +kernel
theorem dX0_hasValue_1 : decode cX0_hasValue 1 = .ok (.iload_n 2, 1) := by decide +kernel
theorem dX0_hasValue_2 : decode cX0_hasValue 2 = .ok (.invokestatic 37, 3) := by decide +kernel
theorem dX0_hasValue_5 : decode cX0_hasValue 5 = .ok (.istore 4, 2) := by decide +kernel
theorem dX0_hasValue_7 : decode cX0_hasValue 7 = .ok (.aload_n 0, 1) := by decide +kernel
theorem dX0_hasValue_8 : decode cX0_hasValue 8 = .ok (.getfield 9, 3) := by decide +kernel
theorem dX0_hasValue_11 : decode cX0_hasValue 11 = .ok (.iload_n 1, 1) := by decide +kernel
theorem dX0_hasValue_12 : decode cX0_hasValue 12 = .ok (.baload, 1) := by decide +kernel
theorem dX0_hasValue_13 : decode cX0_hasValue 13 = .ok (.ifCond .ne 36, 3) := by decide +kernel
theorem dX0_hasValue_16 : decode cX0_hasValue 16 = .ok (.aload_n 0, 1) := by decide +kernel
theorem dX0_hasValue_17 : decode cX0_hasValue 17 = .ok (.getfield 28, 3) := by decide +kernel
theorem dX0_hasValue_20 : decode cX0_hasValue 20 = .ok (.iload 4, 2) := by decide +kernel
theorem dX0_hasValue_22 : decode cX0_hasValue 22 = .ok (.baload, 1) := by decide +kernel
theorem dX0_hasValue_23 : decode cX0_hasValue 23 = .ok (.ifCond .eq 26, 3) := by decide +kernel
theorem dX0_hasValue_26 : decode cX0_hasValue 26 = .ok (.aload_n 0, 1) := by decide +kernel
theorem dX0_hasValue_27 : decode cX0_hasValue 27 = .ok (.iload_n 1, 1) := by decide +kernel
theorem dX0_hasValue_28 : decode cX0_hasValue 28 = .ok (.iload_n 3, 1) := by decide +kernel
theorem dX0_hasValue_29 : decode cX0_hasValue 29 = .ok (.invokevirtual 41, 3) := by decide +kernel
theorem dX0_hasValue_32 : decode cX0_hasValue 32 = .ok (.aload_n 0, 1) := by decide +kernel
theorem dX0_hasValue_33 : decode cX0_hasValue 33 = .ok (.getfield 31, 3) := by decide +kernel
theorem dX0_hasValue_36 : decode cX0_hasValue 36 = .ok (.iload 4, 2) := by decide +kernel
theorem dX0_hasValue_38 : decode cX0_hasValue 38 = .ok (.iaload, 1) := by decide +kernel
theorem dX0_hasValue_39 : decode cX0_hasValue 39 = .ok (.isub, 1) := by decide +kernel
theorem dX0_hasValue_40 : decode cX0_hasValue 40 = .ok (.bipush 6, 2) := by decide +kernel
theorem dX0_hasValue_42 : decode cX0_hasValue 42 = .ok (.if_icmp .ge 7, 3) := by decide +kernel
theorem dX0_hasValue_45 : decode cX0_hasValue 45 = .ok (.iconst 1, 1) := by decide +kernel
theorem dX0_hasValue_46 : decode cX0_hasValue 46 = .ok (.goto 4, 3) := by decide +kernel
theorem dX0_hasValue_49 : decode cX0_hasValue 49 = .ok (.iconst 0, 1) := by decide +kernel
theorem dX0_hasValue_50 : decode cX0_hasValue 50 = .ok (.ireturn, 1) := by decide +kernel
set_option maxRecDepth 20000 in
theorem ggX0_isKeptByPaused_X0_slot : GoodIn wsX0_isKeptByPaused wsX0_slot := goodIn_r _ [7] (by decide +kernel) (by decide +kernel)
set_option maxRecDepth 20000 in
theorem gX0_isKeptByPaused_X0_slot : GoodIn wsX0_isKeptByPaused (va_wsS RX0 37 yX0_slot wsX0_slot) := goodIn_app (goodIn_of _ (by decide +kernel)) ggX0_isKeptByPaused_X0_slot
theorem dX0_isKeptByPaused_0 : decode cX0_isKeptByPaused 0 = .ok (.iconst 0, 1) := by decide +kernel
theorem dX0_isKeptByPaused_1 : decode cX0_isKeptByPaused 1 = .ok (.istore_n 3, 1) := by decide +kernel
theorem dX0_isKeptByPaused_2 : decode cX0_isKeptByPaused 2 = .ok (.iload_n 3, 1) := by decide +kernel
theorem dX0_isKeptByPaused_3 : decode cX0_isKeptByPaused 3 = .ok (.aload_n 0, 1) := by decide +kernel
theorem dX0_isKeptByPaused_4 : decode cX0_isKeptByPaused 4 = .ok (.getfield 44, 3) := by decide +kernel
theorem dX0_isKeptByPaused_7 : decode cX0_isKeptByPaused 7 = .ok (.if_icmp .ge 34, 3) := by decide +kernel
theorem dX0_isKeptByPaused_10 : decode cX0_isKeptByPaused 10 = .ok (.aload_n 0, 1) := by decide +kernel
theorem dX0_isKeptByPaused_11 : decode cX0_isKeptByPaused 11 = .ok (.getfield 9, 3) := by decide +kernel
theorem dX0_isKeptByPaused_14 : decode cX0_isKeptByPaused 14 = .ok (.iload_n 3, 1) := by decide +kernel
theorem dX0_isKeptByPaused_15 : decode cX0_isKeptByPaused 15 = .ok (.baload, 1) := by decide +kernel
theorem dX0_isKeptByPaused_16 : decode cX0_isKeptByPaused 16 = .ok (.ifCond .eq 19, 3) := by decide +kernel
theorem dX0_isKeptByPaused_19 : decode cX0_isKeptByPaused 19 = .ok (.aload_n 0, 1) := by decide +kernel
theorem dX0_isKeptByPaused_20 : decode cX0_isKeptByPaused 20 = .ok (.getfield 34, 3) := by decide +kernel
theorem dX0_isKeptByPaused_23 : decode cX0_isKeptByPaused 23 = .ok (.iload_n 3, 1) := by decide +kernel
theorem dX0_isKeptByPaused_24 : decode cX0_isKeptByPaused 24 = .ok (.iload_n 1, 1) := by decide +kernel
theorem dX0_isKeptByPaused_25 : decode cX0_isKeptByPaused 25 = .ok (.invokestatic 37, 3) := by decide +kernel
theorem dX0_isKeptByPaused_28 : decode cX0_isKeptByPaused 28 = .ok (.iaload, 1) := by decide +kernel
theorem dX0_isKeptByPaused_29 : decode cX0_isKeptByPaused 29 = .ok (.iload_n 2, 1) := by decide +kernel
theorem dX0_isKeptByPaused_30 : decode cX0_isKeptByPaused 30 = .ok (.if_icmp .le 5, 3) := by decide +kernel
theorem dX0_isKeptByPaused_33 : decode cX0_isKeptByPaused 33 = .ok (.iconst 1, 1) := by decide +kernel
theorem dX0_isKeptByPaused_34 : decode cX0_isKeptByPaused 34 = .ok (.ireturn, 1) := by decide +kernel
theorem dX0_isKeptByPaused_35 : decode cX0_isKeptByPaused 35 = .ok (.iinc 3 1, 3) := by decide +kernel
theorem dX0_isKeptByPaused_38 : decode cX0_isKeptByPaused 38 = .ok (.goto (-36), 3) := by decide +kernel
theorem dX0_isKeptByPaused_41 : decode cX0_isKeptByPaused 41 = .ok (.iconst 0, 1) := by decide +kernel
theorem dX0_isKeptByPaused_42 : decode cX0_isKeptByPaused 42 = .ok (.ireturn, 1) := by decide +kernel
set_option maxRecDepth 20000 in
theorem ggX0_dropValues_X0_slot : GoodIn wsX0_dropValues wsX0_slot := goodIn_r _ [7] (by decide +kernel) (by decide +kernel)
set_option maxRecDepth 20000 in
theorem gX0_dropValues_X0_slot : GoodIn wsX0_dropValues (va_wsS RX0 37 yX0_slot wsX0_slot) := goodIn_app (goodIn_of _ (by decide +kernel)) ggX0_dropValues_X0_slot
theorem dX0_dropValues_0 : decode cX0_dropValues 0 = .ok (.iconst 0, 1) := by decide +kernel
theorem dX0_dropValues_1 : decode cX0_dropValues 1 = .ok (.istore_n 2, 1) := by decide +kernel
theorem dX0_dropValues_2 : decode cX0_dropValues 2 = .ok (.iload_n 2, 1) := by decide +kernel
theorem dX0_dropValues_3 : decode cX0_dropValues 3 = .ok (.aload_n 0, 1) := by decide +kernel
theorem dX0_dropValues_4 : decode cX0_dropValues 4 = .ok (.getfield 44, 3) := by decide +kernel
theorem dX0_dropValues_7 : decode cX0_dropValues 7 = .ok (.if_icmp .ge 31, 3) := by decide +kernel
theorem dX0_dropValues_10 : decode cX0_dropValues 10 = .ok (.aload_n 0, 1) := by decide +kernel
theorem dX0_dropValues_11 : decode cX0_dropValues 11 = .ok (.getfield 28, 3) := by decide +kernel
theorem dX0_dropValues_14 : decode cX0_dropValues 14 = .ok (.iload_n 2, 1) := by decide +kernel
theorem dX0_dropValues_15 : decode cX0_dropValues 15 = .ok (.iload_n 1, 1) := by decide +kernel
theorem dX0_dropValues_16 : decode cX0_dropValues 16 = .ok (.invokestatic 37, 3) := by decide +kernel
theorem dX0_dropValues_19 : decode cX0_dropValues 19 = .ok (.iconst 0, 1) := by decide +kernel
theorem dX0_dropValues_20 : decode cX0_dropValues 20 = .ok (.bastore, 1) := by decide +kernel
theorem dX0_dropValues_21 : decode cX0_dropValues 21 = .ok (.aload_n 0, 1) := by decide +kernel
theorem dX0_dropValues_22 : decode cX0_dropValues 22 = .ok (.getfield 34, 3) := by decide +kernel
theorem dX0_dropValues_25 : decode cX0_dropValues 25 = .ok (.iload_n 2, 1) := by decide +kernel
theorem dX0_dropValues_26 : decode cX0_dropValues 26 = .ok (.iload_n 1, 1) := by decide +kernel
theorem dX0_dropValues_27 : decode cX0_dropValues 27 = .ok (.invokestatic 37, 3) := by decide +kernel
theorem dX0_dropValues_30 : decode cX0_dropValues 30 = .ok (.iconst 0, 1) := by decide +kernel
theorem dX0_dropValues_31 : decode cX0_dropValues 31 = .ok (.iastore, 1) := by decide +kernel
theorem dX0_dropValues_32 : decode cX0_dropValues 32 = .ok (.iinc 2 1, 3) := by decide +kernel
theorem dX0_dropValues_35 : decode cX0_dropValues 35 = .ok (.goto (-33), 3) := by decide +kernel
theorem dX0_dropValues_38 : decode cX0_dropValues 38 = .ok (.return_, 1) := by decide +kernel
set_option maxRecDepth 20000 in
theorem ggX1_init_J7_fill_53178 : GoodIn wsX1_init wsJ7_fill_53178 := goodIn_r _ [15] (by decide +kernel) (by decide +kernel)
set_option maxRecDepth 20000 in
theorem gX1_init_J7_fill_53178 : GoodIn wsX1_init (va_wsS RX1 34 yJ7_fill_53178 wsJ7_fill_53178) := goodIn_app (goodIn_of _ (by decide +kernel)) ggX1_init_J7_fill_53178
theorem dX1_init_0 : decode cX1_init 0 = .ok (.aload_n 0, 1) := by decide +kernel
theorem dX1_init_1 : decode cX1_init 1 = .ok (.invokespecial 3, 3) := by decide +kernel
theorem dX1_init_4 : decode cX1_init 4 = .ok (.aload_n 0, 1) := by decide +kernel
theorem dX1_init_5 : decode cX1_init 5 = .ok (.iconst 4, 1) := by decide +kernel
theorem dX1_init_6 : decode cX1_init 6 = .ok (.newarray .int, 2) := by decide +kernel
theorem dX1_init_8 : decode cX1_init 8 = .ok (.putfield 11, 3) := by decide +kernel
theorem dX1_init_11 : decode cX1_init 11 = .ok (.aload_n 0, 1) := by decide +kernel
theorem dX1_init_12 : decode cX1_init 12 = .ok (.iconst 4, 1) := by decide +kernel
theorem dX1_init_13 : decode cX1_init 13 = .ok (.newarray .int, 2) := by decide +kernel
theorem dX1_init_15 : decode cX1_init 15 = .ok (.putfield 15, 3) := by decide +kernel
theorem dX1_init_18 : decode cX1_init 18 = .ok (.aload_n 0, 1) := by decide +kernel
theorem dX1_init_19 : decode cX1_init 19 = .ok (.iconst 4, 1) := by decide +kernel
theorem dX1_init_20 : decode cX1_init 20 = .ok (.newarray .int, 2) := by decide +kernel
theorem dX1_init_22 : decode cX1_init 22 = .ok (.putfield 18, 3) := by decide +kernel
theorem dX1_init_25 : decode cX1_init 25 = .ok (.aload_n 0, 1) := by decide +kernel
theorem dX1_init_26 : decode cX1_init 26 = .ok (.iconst 4, 1) := by decide +kernel
theorem dX1_init_27 : decode cX1_init 27 = .ok (.newarray .int, 2) := by decide +kernel
theorem dX1_init_29 : decode cX1_init 29 = .ok (.putfield 21, 3) := by decide +kernel
theorem dX1_init_32 : decode cX1_init 32 = .ok (.aload_n 0, 1) := by decide +kernel
theorem dX1_init_33 : decode cX1_init 33 = .ok (.iconst 4, 1) := by decide +kernel
theorem dX1_init_34 : decode cX1_init 34 = .ok (.newarray .int, 2) := by decide +kernel
theorem dX1_init_36 : decode cX1_init 36 = .ok (.putfield 24, 3) := by decide +kernel
theorem dX1_init_39 : decode cX1_init 39 = .ok (.aload_n 0, 1) := by decide +kernel
theorem dX1_init_40 : decode cX1_init 40 = .ok (.iconst 4, 1) := by decide +kernel
theorem dX1_init_41 : decode cX1_init 41 = .ok (.bipush 6, 2) := by decide +kernel
theorem dX1_init_43 : decode cX1_init 43 = .ok (.multianewarray 29 2, 4) := by decide +kernel
theorem dX1_init_47 : decode cX1_init 47 = .ok (.putfield 31, 3) := by decide +kernel
theorem dX1_init_50 : decode cX1_init 50 = .ok (.aload_n 0, 1) := by decide +kernel
theorem dX1_init_51 : decode cX1_init 51 = .ok (.getfield 11, 3) := by decide +kernel
theorem dX1_init_54 : decode cX1_init 54 = .ok (.iconst (-1), 1) := by decide +kernel
theorem dX1_init_55 : decode cX1_init 55 = .ok (.invokestatic 34, 3) := by decide +kernel
theorem dX1_init_58 : decode cX1_init 58 = .ok (.aload_n 0, 1) := by decide +kernel
theorem dX1_init_59 : decode cX1_init 59 = .ok (.getfield 18, 3) := by decide +kernel
theorem dX1_init_62 : decode cX1_init 62 = .ok (.iconst (-1), 1) := by decide +kernel
theorem dX1_init_63 : decode cX1_init 63 = .ok (.invokestatic 34, 3) := by decide +kernel
theorem dX1_init_66 : decode cX1_init 66 = .ok (.return_, 1) := by decide +kernel
theorem dX1_isFree_0 : decode cX1_isFree 0 = .ok (.aload_n 0, 1) := by decide +kernel
theorem dX1_isFree_1 : decode cX1_isFree 1 = .ok (.getfield 11, 3) := by decide +kernel
theorem dX1_isFree_4 : decode cX1_isFree 4 = .ok (.iload_n 1, 1) := by decide +kernel
theorem dX1_isFree_5 : decode cX1_isFree 5 = .ok (.iaload, 1) := by decide +kernel
theorem dX1_isFree_6 : decode cX1_isFree 6 = .ok (.iconst (-1), 1) := by decide +kernel
theorem dX1_isFree_7 : decode cX1_isFree 7 = .ok (.if_icmp .eq 13, 3) := by decide +kernel
theorem dX1_isFree_10 : decode cX1_isFree 10 = .ok (.aload_n 0, 1) := by decide +kernel
theorem dX1_isFree_11 : decode cX1_isFree 11 = .ok (.getfield 15, 3) := by decide +kernel
theorem dX1_isFree_14 : decode cX1_isFree 14 = .ok (.iload_n 1, 1) := by decide +kernel
theorem dX1_isFree_15 : decode cX1_isFree 15 = .ok (.iaload, 1) := by decide +kernel
theorem dX1_isFree_16 : decode cX1_isFree 16 = .ok (.iload_n 2, 1) := by decide +kernel
theorem dX1_isFree_17 : decode cX1_isFree 17 = .ok (.if_icmp .gt 7, 3) := by decide +kernel
theorem dX1_isFree_20 : decode cX1_isFree 20 = .ok (.iconst 1, 1) := by decide +kernel
theorem dX1_isFree_21 : decode cX1_isFree 21 = .ok (.goto 4, 3) := by decide +kernel
theorem dX1_isFree_24 : decode cX1_isFree 24 = .ok (.iconst 0, 1) := by decide +kernel
theorem dX1_isFree_25 : decode cX1_isFree 25 = .ok (.ireturn, 1) := by decide +kernel
set_option maxRecDepth 20000 in
theorem ggX1_isHeldBy_X1_isFree : GoodIn wsX1_isHeldBy wsX1_isFree := goodIn_ca (goodIn_r _ [6, 1, 7, 8, 9, 10, 11, 12, 13] (by decide +kernel) (by decide +kernel)) (goodIn_sub (fun _ h => List.mem_cons_of_mem _ (List.mem_append_right _ h)) (by decide +kernel))
set_option maxRecDepth 20000 in
theorem gX1_isHeldBy_X1_isFree : GoodIn wsX1_isHeldBy (wsV RX1 40 RX1 yX1_isFree wsX1_isFree) := goodIn_app (goodIn_of _ (by decide +kernel)) ggX1_isHeldBy_X1_isFree
theorem dX1_isHeldBy_0 : decode cX1_isHeldBy 0 = .ok (.aload_n 0, 1) := by decide +kernel
theorem dX1_isHeldBy_1 : decode cX1_isHeldBy 1 = .ok (.iload_n 1, 1) := by decide +kernel
theorem dX1_isHeldBy_2 : decode cX1_isHeldBy 2 = .ok (.iload_n 3, 1) := by decide +kernel
theorem dX1_isHeldBy_3 : decode cX1_isHeldBy 3 = .ok (.invokevirtual 40, 3) := by decide +kernel
theorem dX1_isHeldBy_6 : decode cX1_isHeldBy 6 = .ok (.ifCond .ne 17, 3) := by decide +kernel
theorem dX1_isHeldBy_9 : decode cX1_isHeldBy 9 = .ok (.aload_n 0, 1) := by decide +kernel
theorem dX1_isHeldBy_10 : decode cX1_isHeldBy 10 = .ok (.getfield 11, 3) := by decide +kernel
theorem dX1_isHeldBy_13 : decode cX1_isHeldBy 13 = .ok (.iload_n 1, 1) := by decide +kernel
theorem dX1_isHeldBy_14 : decode cX1_isHeldBy 14 = .ok (.iaload, 1) := by decide +kernel
theorem dX1_isHeldBy_15 : decode cX1_isHeldBy 15 = .ok (.iload_n 2, 1) := by decide +kernel
theorem dX1_isHeldBy_16 : decode cX1_isHeldBy 16 = .ok (.if_icmp .ne 7, 3) := by decide +kernel
theorem dX1_isHeldBy_19 : decode cX1_isHeldBy 19 = .ok (.iconst 1, 1) := by decide +kernel
theorem dX1_isHeldBy_20 : decode cX1_isHeldBy 20 = .ok (.goto 4, 3) := by decide +kernel
theorem dX1_isHeldBy_23 : decode cX1_isHeldBy 23 = .ok (.iconst 0, 1) := by decide +kernel
theorem dX1_isHeldBy_24 : decode cX1_isHeldBy 24 = .ok (.ireturn, 1) := by decide +kernel
theorem dX1_isNext_0 : decode cX1_isNext 0 = .ok (.aload_n 0, 1) := by decide +kernel
theorem dX1_isNext_1 : decode cX1_isNext 1 = .ok (.getfield 24, 3) := by decide +kernel
theorem dX1_isNext_4 : decode cX1_isNext 4 = .ok (.iload_n 1, 1) := by decide +kernel
theorem dX1_isNext_5 : decode cX1_isNext 5 = .ok (.iaload, 1) := by decide +kernel
theorem dX1_isNext_6 : decode cX1_isNext 6 = .ok (.ifCond .eq 15, 3) := by decide +kernel
theorem dX1_isNext_9 : decode cX1_isNext 9 = .ok (.aload_n 0, 1) := by decide +kernel
theorem dX1_isNext_10 : decode cX1_isNext 10 = .ok (.getfield 31, 3) := by decide +kernel
theorem dX1_isNext_13 : decode cX1_isNext 13 = .ok (.iload_n 1, 1) := by decide +kernel
theorem dX1_isNext_14 : decode cX1_isNext 14 = .ok (.aaload, 1) := by decide +kernel
theorem dX1_isNext_15 : decode cX1_isNext 15 = .ok (.iconst 0, 1) := by decide +kernel
theorem dX1_isNext_16 : decode cX1_isNext 16 = .ok (.iaload, 1) := by decide +kernel
theorem dX1_isNext_17 : decode cX1_isNext 17 = .ok (.iload_n 2, 1) := by decide +kernel
theorem dX1_isNext_18 : decode cX1_isNext 18 = .ok (.if_icmp .ne 7, 3) := by decide +kernel
theorem dX1_isNext_21 : decode cX1_isNext 21 = .ok (.iconst 1, 1) := by decide +kernel
theorem dX1_isNext_22 : decode cX1_isNext 22 = .ok (.goto 4, 3) := by decide +kernel
theorem dX1_isNext_25 : decode cX1_isNext 25 = .ok (.iconst 0, 1) := by decide +kernel
theorem dX1_isNext_26 : decode cX1_isNext 26 = .ok (.ireturn, 1) := by decide +kernel
theorem dX1_placeOf_0 : decode cX1_placeOf 0 = .ok (.iconst 0, 1) := by decide +kernel
theorem dX1_placeOf_1 : decode cX1_placeOf 1 = .ok (.istore_n 3, 1) := by decide +kernel
theorem dX1_placeOf_2 : decode cX1_placeOf 2 = .ok (.iload_n 3, 1) := by decide +kernel
theorem dX1_placeOf_3 : decode cX1_placeOf 3 = .ok (.aload_n 0, 1) := by decide +kernel
theorem dX1_placeOf_4 : decode cX1_placeOf 4 = .ok (.getfield 24, 3) := by decide +kernel
theorem dX1_placeOf_7 : decode cX1_placeOf 7 = .ok (.iload_n 1, 1) := by decide +kernel
theorem dX1_placeOf_8 : decode cX1_placeOf 8 = .ok (.iaload, 1) := by decide +kernel
theorem dX1_placeOf_9 : decode cX1_placeOf 9 = .ok (.if_icmp .ge 23, 3) := by decide +kernel
theorem dX1_placeOf_12 : decode cX1_placeOf 12 = .ok (.aload_n 0, 1) := by decide +kernel
theorem dX1_placeOf_13 : decode cX1_placeOf 13 = .ok (.getfield 31, 3) := by decide +kernel
theorem dX1_placeOf_16 : decode cX1_placeOf 16 = .ok (.iload_n 1, 1) := by decide +kernel
theorem dX1_placeOf_17 : decode cX1_placeOf 17 = .ok (.aaload, 1) := by decide +kernel
theorem dX1_placeOf_18 : decode cX1_placeOf 18 = .ok (.iload_n 3, 1) := by decide +kernel
theorem dX1_placeOf_19 : decode cX1_placeOf 19 = .ok (.iaload, 1) := by decide +kernel
theorem dX1_placeOf_20 : decode cX1_placeOf 20 = .ok (.iload_n 2, 1) := by decide +kernel
theorem dX1_placeOf_21 : decode cX1_placeOf 21 = .ok (.if_icmp .ne 5, 3) := by decide +kernel
theorem dX1_placeOf_24 : decode cX1_placeOf 24 = .ok (.iload_n 3, 1) := by decide +kernel
theorem dX1_placeOf_25 : decode cX1_placeOf 25 = .ok (.ireturn, 1) := by decide +kernel
theorem dX1_placeOf_26 : decode cX1_placeOf 26 = .ok (.iinc 3 1, 3) := by decide +kernel
theorem dX1_placeOf_29 : decode cX1_placeOf 29 = .ok (.goto (-27), 3) := by decide +kernel
theorem dX1_placeOf_32 : decode cX1_placeOf 32 = .ok (.iconst (-1), 1) := by decide +kernel
theorem dX1_placeOf_33 : decode cX1_placeOf 33 = .ok (.ireturn, 1) := by decide +kernel
set_option maxRecDepth 20000 in
theorem ggX1_takeOut_X1_placeOf : GoodIn wsX1_takeOut wsX1_placeOf := goodIn_ca (goodIn_r _ [7, 2, 1, 8, 9, 10, 11, 12, 13] (by decide +kernel) (by decide +kernel)) (goodIn_sub (fun _ h => List.mem_cons_of_mem _ (List.mem_append_right _ h)) (by decide +kernel))
set_option maxRecDepth 20000 in
theorem gX1_takeOut_X1_placeOf : GoodIn wsX1_takeOut (wsV RX1 44 RX1 yX1_placeOf wsX1_placeOf) := goodIn_app (goodIn_of _ (by decide +kernel)) ggX1_takeOut_X1_placeOf
theorem dX1_takeOut_0 : decode cX1_takeOut 0 = .ok (.aload_n 0, 1) := by decide +kernel
theorem dX1_takeOut_1 : decode cX1_takeOut 1 = .ok (.iload_n 1, 1) := by decide +kernel
theorem dX1_takeOut_2 : decode cX1_takeOut 2 = .ok (.iload_n 2, 1) := by decide +kernel
theorem dX1_takeOut_3 : decode cX1_takeOut 3 = .ok (.invokevirtual 44, 3) := by decide +kernel
theorem dX1_takeOut_6 : decode cX1_takeOut 6 = .ok (.istore_n 3, 1) := by decide +kernel
theorem dX1_takeOut_7 : decode cX1_takeOut 7 = .ok (.iload_n 3, 1) := by decide +kernel
theorem dX1_takeOut_8 : decode cX1_takeOut 8 = .ok (.iconst (-1), 1) := by decide +kernel
theorem dX1_takeOut_9 : decode cX1_takeOut 9 = .ok (.if_icmp .ne 4, 3) := by decide +kernel
theorem dX1_takeOut_12 : decode cX1_takeOut 12 = .ok (.return_, 1) := by decide +kernel
theorem dX1_takeOut_13 : decode cX1_takeOut 13 = .ok (.aload_n 0, 1) := by decide +kernel
theorem dX1_takeOut_14 : decode cX1_takeOut 14 = .ok (.getfield 31, 3) := by decide +kernel
theorem dX1_takeOut_17 : decode cX1_takeOut 17 = .ok (.iload_n 1, 1) := by decide +kernel
theorem dX1_takeOut_18 : decode cX1_takeOut 18 = .ok (.aaload, 1) := by decide +kernel
theorem dX1_takeOut_19 : decode cX1_takeOut 19 = .ok (.astore 4, 2) := by decide +kernel
theorem dX1_takeOut_21 : decode cX1_takeOut 21 = .ok (.aload_n 0, 1) := by decide +kernel
theorem dX1_takeOut_22 : decode cX1_takeOut 22 = .ok (.getfield 24, 3) := by decide +kernel
theorem dX1_takeOut_25 : decode cX1_takeOut 25 = .ok (.iload_n 1, 1) := by decide +kernel
theorem dX1_takeOut_26 : decode cX1_takeOut 26 = .ok (.dup2, 1) := by decide +kernel
theorem dX1_takeOut_27 : decode cX1_takeOut 27 = .ok (.iaload, 1) := by decide +kernel
theorem dX1_takeOut_28 : decode cX1_takeOut 28 = .ok (.iconst 1, 1) := by decide +kernel
theorem dX1_takeOut_29 : decode cX1_takeOut 29 = .ok (.isub, 1) := by decide +kernel
theorem dX1_takeOut_30 : decode cX1_takeOut 30 = .ok (.iastore, 1) := by decide +kernel
theorem dX1_takeOut_31 : decode cX1_takeOut 31 = .ok (.iload_n 3, 1) := by decide +kernel
theorem dX1_takeOut_32 : decode cX1_takeOut 32 = .ok (.istore 5, 2) := by decide +kernel
theorem dX1_takeOut_34 : decode cX1_takeOut 34 = .ok (.iload 5, 2) := by decide +kernel
theorem dX1_takeOut_36 : decode cX1_takeOut 36 = .ok (.aload_n 0, 1) := by decide +kernel
theorem dX1_takeOut_37 : decode cX1_takeOut 37 = .ok (.getfield 24, 3) := by decide +kernel
theorem dX1_takeOut_40 : decode cX1_takeOut 40 = .ok (.iload_n 1, 1) := by decide +kernel
theorem dX1_takeOut_41 : decode cX1_takeOut 41 = .ok (.iaload, 1) := by decide +kernel
theorem dX1_takeOut_42 : decode cX1_takeOut 42 = .ok (.if_icmp .ge 31, 3) := by decide +kernel
theorem dX1_takeOut_45 : decode cX1_takeOut 45 = .ok (.iload 5, 2) := by decide +kernel
theorem dX1_takeOut_47 : decode cX1_takeOut 47 = .ok (.iconst 1, 1) := by decide +kernel
theorem dX1_takeOut_48 : decode cX1_takeOut 48 = .ok (.iadd, 1) := by decide +kernel
theorem dX1_takeOut_49 : decode cX1_takeOut 49 = .ok (.aload 4, 2) := by decide +kernel
theorem dX1_takeOut_51 : decode cX1_takeOut 51 = .ok (.arraylength, 1) := by decide +kernel
theorem dX1_takeOut_52 : decode cX1_takeOut 52 = .ok (.if_icmp .ge 21, 3) := by decide +kernel
theorem dX1_takeOut_55 : decode cX1_takeOut 55 = .ok (.aload 4, 2) := by decide +kernel
theorem dX1_takeOut_57 : decode cX1_takeOut 57 = .ok (.iload 5, 2) := by decide +kernel
theorem dX1_takeOut_59 : decode cX1_takeOut 59 = .ok (.aload 4, 2) := by decide +kernel
theorem dX1_takeOut_61 : decode cX1_takeOut 61 = .ok (.iload 5, 2) := by decide +kernel
theorem dX1_takeOut_63 : decode cX1_takeOut 63 = .ok (.iconst 1, 1) := by decide +kernel
theorem dX1_takeOut_64 : decode cX1_takeOut 64 = .ok (.iadd, 1) := by decide +kernel
theorem dX1_takeOut_65 : decode cX1_takeOut 65 = .ok (.iaload, 1) := by decide +kernel
theorem dX1_takeOut_66 : decode cX1_takeOut 66 = .ok (.iastore, 1) := by decide +kernel
theorem dX1_takeOut_67 : decode cX1_takeOut 67 = .ok (.iinc 5 1, 3) := by decide +kernel
theorem dX1_takeOut_70 : decode cX1_takeOut 70 = .ok (.goto (-36), 3) := by decide +kernel
theorem dX1_takeOut_73 : decode cX1_takeOut 73 = .ok (.return_, 1) := by decide +kernel
set_option maxRecDepth 20000 in
theorem ggX1_putLast_X1_placeOf : GoodIn wsX1_putLast wsX1_placeOf := goodIn_ca (goodIn_r _ [7, 1, 2, 8, 9, 10, 11, 12, 13] (by decide +kernel) (by decide +kernel)) (goodIn_sub (fun _ h => List.mem_cons_of_mem _ (List.mem_append_right _ h)) (by decide +kernel))
set_option maxRecDepth 20000 in
theorem gX1_putLast_X1_placeOf : GoodIn wsX1_putLast (wsV RX1 44 RX1 yX1_placeOf wsX1_placeOf) := goodIn_app (goodIn_of _ (by decide +kernel)) ggX1_putLast_X1_placeOf
theorem dX1_putLast_0 : decode cX1_putLast 0 = .ok (.aload_n 0, 1) := by decide +kernel
theorem dX1_putLast_1 : decode cX1_putLast 1 = .ok (.iload_n 1, 1) := by decide +kernel
theorem dX1_putLast_2 : decode cX1_putLast 2 = .ok (.iload_n 2, 1) := by decide +kernel
theorem dX1_putLast_3 : decode cX1_putLast 3 = .ok (.invokevirtual 44, 3) := by decide +kernel
theorem dX1_putLast_6 : decode cX1_putLast 6 = .ok (.iconst (-1), 1) := by decide +kernel
theorem dX1_putLast_7 : decode cX1_putLast 7 = .ok (.if_icmp .ne 38, 3) := by decide +kernel
theorem dX1_putLast_10 : decode cX1_putLast 10 = .ok (.aload_n 0, 1) := by decide +kernel
theorem dX1_putLast_11 : decode cX1_putLast 11 = .ok (.getfield 24, 3) := by decide +kernel
theorem dX1_putLast_14 : decode cX1_putLast 14 = .ok (.iload_n 1, 1) := by decide +kernel
theorem dX1_putLast_15 : decode cX1_putLast 15 = .ok (.iaload, 1) := by decide +kernel
theorem dX1_putLast_16 : decode cX1_putLast 16 = .ok (.bipush 6, 2) := by decide +kernel
theorem dX1_putLast_18 : decode cX1_putLast 18 = .ok (.if_icmp .ge 27, 3) := by decide +kernel
theorem dX1_putLast_21 : decode cX1_putLast 21 = .ok (.aload_n 0, 1) := by decide +kernel
theorem dX1_putLast_22 : decode cX1_putLast 22 = .ok (.getfield 31, 3) := by decide +kernel
theorem dX1_putLast_25 : decode cX1_putLast 25 = .ok (.iload_n 1, 1) := by decide +kernel
theorem dX1_putLast_26 : decode cX1_putLast 26 = .ok (.aaload, 1) := by decide +kernel
theorem dX1_putLast_27 : decode cX1_putLast 27 = .ok (.aload_n 0, 1) := by decide +kernel
theorem dX1_putLast_28 : decode cX1_putLast 28 = .ok (.getfield 24, 3) := by decide +kernel
theorem dX1_putLast_31 : decode cX1_putLast 31 = .ok (.iload_n 1, 1) := by decide +kernel
theorem dX1_putLast_32 : decode cX1_putLast 32 = .ok (.iaload, 1) := by decide +kernel
theorem dX1_putLast_33 : decode cX1_putLast 33 = .ok (.iload_n 2, 1) := by decide +kernel
theorem dX1_putLast_34 : decode cX1_putLast 34 = .ok (.iastore, 1) := by decide +kernel
theorem dX1_putLast_35 : decode cX1_putLast 35 = .ok (.aload_n 0, 1) := by decide +kernel
theorem dX1_putLast_36 : decode cX1_putLast 36 = .ok (.getfield 24, 3) := by decide +kernel
theorem dX1_putLast_39 : decode cX1_putLast 39 = .ok (.iload_n 1, 1) := by decide +kernel
theorem dX1_putLast_40 : decode cX1_putLast 40 = .ok (.dup2, 1) := by decide +kernel
theorem dX1_putLast_41 : decode cX1_putLast 41 = .ok (.iaload, 1) := by decide +kernel
theorem dX1_putLast_42 : decode cX1_putLast 42 = .ok (.iconst 1, 1) := by decide +kernel
theorem dX1_putLast_43 : decode cX1_putLast 43 = .ok (.iadd, 1) := by decide +kernel
theorem dX1_putLast_44 : decode cX1_putLast 44 = .ok (.iastore, 1) := by decide +kernel
theorem dX1_putLast_45 : decode cX1_putLast 45 = .ok (.return_, 1) := by decide +kernel
set_option maxRecDepth 20000 in
theorem ggX1_putFirst_X1_takeOut : GoodIn wsX1_putFirst wsX1_takeOut := goodIn_ca (goodIn_r _ [7, 1, 2, 8, 9, 10, 6, 11, 12, 13, 14, 15, 16, 17] (by decide +kernel) (by decide +kernel)) (goodIn_sub (fun _ h => List.mem_cons_of_mem _ (List.mem_append_right _ h)) (by decide +kernel))
set_option maxRecDepth 20000 in
theorem gX1_putFirst_X1_takeOut : GoodIn wsX1_putFirst (wsV RX1 48 RX1 yX1_takeOut wsX1_takeOut) := goodIn_app (goodIn_of _ (by decide +kernel)) ggX1_putFirst_X1_takeOut
theorem dX1_putFirst_0 : decode cX1_putFirst 0 = .ok (.aload_n 0, 1) := by decide +kernel
theorem dX1_putFirst_1 : decode cX1_putFirst 1 = .ok (.iload_n 1, 1) := by decide +kernel
theorem dX1_putFirst_2 : decode cX1_putFirst 2 = .ok (.iload_n 2, 1) := by decide +kernel
theorem dX1_putFirst_3 : decode cX1_putFirst 3 = .ok (.invokevirtual 48, 3) := by decide +kernel
theorem dX1_putFirst_6 : decode cX1_putFirst 6 = .ok (.aload_n 0, 1) := by decide +kernel
theorem dX1_putFirst_7 : decode cX1_putFirst 7 = .ok (.getfield 31, 3) := by decide +kernel
theorem dX1_putFirst_10 : decode cX1_putFirst 10 = .ok (.iload_n 1, 1) := by decide +kernel
theorem dX1_putFirst_11 : decode cX1_putFirst 11 = .ok (.aaload, 1) := by decide +kernel
theorem dX1_putFirst_12 : decode cX1_putFirst 12 = .ok (.astore_n 3, 1) := by decide +kernel
theorem dX1_putFirst_13 : decode cX1_putFirst 13 = .ok (.aload_n 0, 1) := by decide +kernel
theorem dX1_putFirst_14 : decode cX1_putFirst 14 = .ok (.getfield 24, 3) := by decide +kernel
theorem dX1_putFirst_17 : decode cX1_putFirst 17 = .ok (.iload_n 1, 1) := by decide +kernel
theorem dX1_putFirst_18 : decode cX1_putFirst 18 = .ok (.iaload, 1) := by decide +kernel
theorem dX1_putFirst_19 : decode cX1_putFirst 19 = .ok (.aload_n 3, 1) := by decide +kernel
theorem dX1_putFirst_20 : decode cX1_putFirst 20 = .ok (.arraylength, 1) := by decide +kernel
theorem dX1_putFirst_21 : decode cX1_putFirst 21 = .ok (.if_icmp .lt 4, 3) := by decide +kernel
theorem dX1_putFirst_24 : decode cX1_putFirst 24 = .ok (.return_, 1) := by decide +kernel
theorem dX1_putFirst_25 : decode cX1_putFirst 25 = .ok (.aload_n 0, 1) := by decide +kernel
theorem dX1_putFirst_26 : decode cX1_putFirst 26 = .ok (.getfield 24, 3) := by decide +kernel
theorem dX1_putFirst_29 : decode cX1_putFirst 29 = .ok (.iload_n 1, 1) := by decide +kernel
theorem dX1_putFirst_30 : decode cX1_putFirst 30 = .ok (.iaload, 1) := by decide +kernel
theorem dX1_putFirst_31 : decode cX1_putFirst 31 = .ok (.istore 4, 2) := by decide +kernel
theorem dX1_putFirst_33 : decode cX1_putFirst 33 = .ok (.iload 4, 2) := by decide +kernel
theorem dX1_putFirst_35 : decode cX1_putFirst 35 = .ok (.ifCond .le 19, 3) := by decide +kernel
theorem dX1_putFirst_38 : decode cX1_putFirst 38 = .ok (.aload_n 3, 1) := by decide +kernel
theorem dX1_putFirst_39 : decode cX1_putFirst 39 = .ok (.iload 4, 2) := by decide +kernel
theorem dX1_putFirst_41 : decode cX1_putFirst 41 = .ok (.aload_n 3, 1) := by decide +kernel
theorem dX1_putFirst_42 : decode cX1_putFirst 42 = .ok (.iload 4, 2) := by decide +kernel
theorem dX1_putFirst_44 : decode cX1_putFirst 44 = .ok (.iconst 1, 1) := by decide +kernel
theorem dX1_putFirst_45 : decode cX1_putFirst 45 = .ok (.isub, 1) := by decide +kernel
theorem dX1_putFirst_46 : decode cX1_putFirst 46 = .ok (.iaload, 1) := by decide +kernel
theorem dX1_putFirst_47 : decode cX1_putFirst 47 = .ok (.iastore, 1) := by decide +kernel
theorem dX1_putFirst_48 : decode cX1_putFirst 48 = .ok (.iinc 4 (-1), 3) := by decide +kernel
theorem dX1_putFirst_51 : decode cX1_putFirst 51 = .ok (.goto (-18), 3) := by decide +kernel
theorem dX1_putFirst_54 : decode cX1_putFirst 54 = .ok (.aload_n 3, 1) := by decide +kernel
theorem dX1_putFirst_55 : decode cX1_putFirst 55 = .ok (.iconst 0, 1) := by decide +kernel
theorem dX1_putFirst_56 : decode cX1_putFirst 56 = .ok (.iload_n 2, 1) := by decide +kernel
theorem dX1_putFirst_57 : decode cX1_putFirst 57 = .ok (.iastore, 1) := by decide +kernel
theorem dX1_putFirst_58 : decode cX1_putFirst 58 = .ok (.aload_n 0, 1) := by decide +kernel
theorem dX1_putFirst_59 : decode cX1_putFirst 59 = .ok (.getfield 24, 3) := by decide +kernel
theorem dX1_putFirst_62 : decode cX1_putFirst 62 = .ok (.iload_n 1, 1) := by decide +kernel
theorem dX1_putFirst_63 : decode cX1_putFirst 63 = .ok (.dup2, 1) := by decide +kernel
theorem dX1_putFirst_64 : decode cX1_putFirst 64 = .ok (.iaload, 1) := by decide +kernel
theorem dX1_putFirst_65 : decode cX1_putFirst 65 = .ok (.iconst 1, 1) := by decide +kernel
theorem dX1_putFirst_66 : decode cX1_putFirst 66 = .ok (.iadd, 1) := by decide +kernel
theorem dX1_putFirst_67 : decode cX1_putFirst 67 = .ok (.iastore, 1) := by decide +kernel
theorem dX1_putFirst_68 : decode cX1_putFirst 68 = .ok (.return_, 1) := by decide +kernel
theorem dX2_init_0 : decode cX2_init 0 = .ok (.aload_n 0, 1) := by decide +kernel
theorem dX2_init_1 : decode cX2_init 1 = .ok (.invokespecial 3, 3) := by decide +kernel
theorem dX2_init_4 : decode cX2_init 4 = .ok (.aload_n 0, 1) := by decide +kernel
theorem dX2_init_5 : decode cX2_init 5 = .ok (.sipush 250, 3) := by decide +kernel
theorem dX2_init_8 : decode cX2_init 8 = .ok (.newarray .char, 2) := by decide +kernel
theorem dX2_init_10 : decode cX2_init 10 = .ok (.putfield 11, 3) := by decide +kernel
theorem dX2_init_13 : decode cX2_init 13 = .ok (.aload_n 0, 1) := by decide +kernel
theorem dX2_init_14 : decode cX2_init 14 = .ok (.sipush 250, 3) := by decide +kernel
theorem dX2_init_17 : decode cX2_init 17 = .ok (.newarray .int, 2) := by decide +kernel
theorem dX2_init_19 : decode cX2_init 19 = .ok (.putfield 15, 3) := by decide +kernel
theorem dX2_init_22 : decode cX2_init 22 = .ok (.aload_n 0, 1) := by decide +kernel
theorem dX2_init_23 : decode cX2_init 23 = .ok (.sipush 250, 3) := by decide +kernel
theorem dX2_init_26 : decode cX2_init 26 = .ok (.newarray .int, 2) := by decide +kernel
theorem dX2_init_28 : decode cX2_init 28 = .ok (.putfield 19, 3) := by decide +kernel
theorem dX2_init_31 : decode cX2_init 31 = .ok (.aload_n 0, 1) := by decide +kernel
theorem dX2_init_32 : decode cX2_init 32 = .ok (.sipush 250, 3) := by decide +kernel
theorem dX2_init_35 : decode cX2_init 35 = .ok (.newarray .int, 2) := by decide +kernel
theorem dX2_init_37 : decode cX2_init 37 = .ok (.putfield 22, 3) := by decide +kernel
theorem dX2_init_40 : decode cX2_init 40 = .ok (.aload_n 0, 1) := by decide +kernel
theorem dX2_init_41 : decode cX2_init 41 = .ok (.sipush 250, 3) := by decide +kernel
theorem dX2_init_44 : decode cX2_init 44 = .ok (.newarray .int, 2) := by decide +kernel
theorem dX2_init_46 : decode cX2_init 46 = .ok (.putfield 25, 3) := by decide +kernel
theorem dX2_init_49 : decode cX2_init 49 = .ok (.return_, 1) := by decide +kernel
theorem dX2_add_0 : decode cX2_add 0 = .ok (.aload_n 0, 1) := by decide +kernel
theorem dX2_add_1 : decode cX2_add 1 = .ok (.getfield 28, 3) := by decide +kernel
theorem dX2_add_4 : decode cX2_add 4 = .ok (.sipush 250, 3) := by decide +kernel
theorem dX2_add_7 : decode cX2_add 7 = .ok (.if_icmp .lt 4, 3) := by decide +kernel
theorem dX2_add_10 : decode cX2_add 10 = .ok (.return_, 1) := by decide +kernel
theorem dX2_add_11 : decode cX2_add 11 = .ok (.aload_n 0, 1) := by decide +kernel
theorem dX2_add_12 : decode cX2_add 12 = .ok (.getfield 11, 3) := by decide +kernel
theorem dX2_add_15 : decode cX2_add 15 = .ok (.aload_n 0, 1) := by decide +kernel
theorem dX2_add_16 : decode cX2_add 16 = .ok (.getfield 28, 3) := by decide +kernel
theorem dX2_add_19 : decode cX2_add 19 = .ok (.iload_n 1, 1) := by decide +kernel
theorem dX2_add_20 : decode cX2_add 20 = .ok (.castore, 1) := by decide +kernel
theorem dX2_add_21 : decode cX2_add 21 = .ok (.aload_n 0, 1) := by decide +kernel
theorem dX2_add_22 : decode cX2_add 22 = .ok (.getfield 15, 3) := by decide +kernel
theorem dX2_add_25 : decode cX2_add 25 = .ok (.aload_n 0, 1) := by decide +kernel
theorem dX2_add_26 : decode cX2_add 26 = .ok (.getfield 28, 3) := by decide +kernel
theorem dX2_add_29 : decode cX2_add 29 = .ok (.iload_n 2, 1) := by decide +kernel
theorem dX2_add_30 : decode cX2_add 30 = .ok (.iastore, 1) := by decide +kernel
theorem dX2_add_31 : decode cX2_add 31 = .ok (.aload_n 0, 1) := by decide +kernel
theorem dX2_add_32 : decode cX2_add 32 = .ok (.getfield 19, 3) := by decide +kernel
theorem dX2_add_35 : decode cX2_add 35 = .ok (.aload_n 0, 1) := by decide +kernel
theorem dX2_add_36 : decode cX2_add 36 = .ok (.getfield 28, 3) := by decide +kernel
theorem dX2_add_39 : decode cX2_add 39 = .ok (.iload_n 3, 1) := by decide +kernel
theorem dX2_add_40 : decode cX2_add 40 = .ok (.iastore, 1) := by decide +kernel
theorem dX2_add_41 : decode cX2_add 41 = .ok (.aload_n 0, 1) := by decide +kernel
theorem dX2_add_42 : decode cX2_add 42 = .ok (.getfield 22, 3) := by decide +kernel
theorem dX2_add_45 : decode cX2_add 45 = .ok (.aload_n 0, 1) := by decide +kernel
theorem dX2_add_46 : decode cX2_add 46 = .ok (.getfield 28, 3) := by decide +kernel
theorem dX2_add_49 : decode cX2_add 49 = .ok (.iload 4, 2) := by decide +kernel
theorem dX2_add_51 : decode cX2_add 51 = .ok (.iastore, 1) := by decide +kernel
theorem dX2_add_52 : decode cX2_add 52 = .ok (.aload_n 0, 1) := by decide +kernel
theorem dX2_add_53 : decode cX2_add 53 = .ok (.getfield 25, 3) := by decide +kernel
theorem dX2_add_56 : decode cX2_add 56 = .ok (.aload_n 0, 1) := by decide +kernel
theorem dX2_add_57 : decode cX2_add 57 = .ok (.getfield 28, 3) := by decide +kernel
theorem dX2_add_60 : decode cX2_add 60 = .ok (.iload 5, 2) := by decide +kernel
theorem dX2_add_62 : decode cX2_add 62 = .ok (.iastore, 1) := by decide +kernel
theorem dX2_add_63 : decode cX2_add 63 = .ok (.aload_n 0, 1) := by decide +kernel
theorem dX2_add_64 : decode cX2_add 64 = .ok (.dup, 1) := by decide +kernel
theorem dX2_add_65 : decode cX2_add 65 = .ok (.getfield 28, 3) := by decide +kernel
theorem dX2_add_68 : decode cX2_add 68 = .ok (.iconst 1, 1) := by decide +kernel
theorem dX2_add_69 : decode cX2_add 69 = .ok (.iadd, 1) := by decide +kernel
theorem dX2_add_70 : decode cX2_add 70 = .ok (.putfield 28, 3) := by decide +kernel
theorem dX2_add_73 : decode cX2_add 73 = .ok (.return_, 1) := by decide +kernel
theorem dX2_ownerBy_0 : decode cX2_ownerBy 0 = .ok (.iconst (-1), 1) := by decide +kernel
theorem dX2_ownerBy_1 : decode cX2_ownerBy 1 = .ok (.istore_n 3, 1) := by decide +kernel
theorem dX2_ownerBy_2 : decode cX2_ownerBy 2 = .ok (.iconst 0, 1) := by decide +kernel
theorem dX2_ownerBy_3 : decode cX2_ownerBy 3 = .ok (.istore 4, 2) := by decide +kernel
theorem dX2_ownerBy_5 : decode cX2_ownerBy 5 = .ok (.iload 4, 2) := by decide +kernel
theorem dX2_ownerBy_7 : decode cX2_ownerBy 7 = .ok (.iload_n 1, 1) := by decide +kernel
theorem dX2_ownerBy_8 : decode cX2_ownerBy 8 = .ok (.if_icmp .ge 66, 3) := by decide +kernel
theorem dX2_ownerBy_11 : decode cX2_ownerBy 11 = .ok (.iload 4, 2) := by decide +kernel
theorem dX2_ownerBy_13 : decode cX2_ownerBy 13 = .ok (.aload_n 0, 1) := by decide +kernel
theorem dX2_ownerBy_14 : decode cX2_ownerBy 14 = .ok (.getfield 28, 3) := by decide +kernel
theorem dX2_ownerBy_17 : decode cX2_ownerBy 17 = .ok (.if_icmp .ge 57, 3) := by decide +kernel
theorem dX2_ownerBy_20 : decode cX2_ownerBy 20 = .ok (.aload_n 0, 1) := by decide +kernel
theorem dX2_ownerBy_21 : decode cX2_ownerBy 21 = .ok (.getfield 22, 3) := by decide +kernel
theorem dX2_ownerBy_24 : decode cX2_ownerBy 24 = .ok (.iload 4, 2) := by decide +kernel
theorem dX2_ownerBy_26 : decode cX2_ownerBy 26 = .ok (.iaload, 1) := by decide +kernel
theorem dX2_ownerBy_27 : decode cX2_ownerBy 27 = .ok (.iload_n 2, 1) := by decide +kernel
theorem dX2_ownerBy_28 : decode cX2_ownerBy 28 = .ok (.if_icmp .ne 40, 3) := by decide +kernel
theorem dX2_ownerBy_31 : decode cX2_ownerBy 31 = .ok (.aload_n 0, 1) := by decide +kernel
theorem dX2_ownerBy_32 : decode cX2_ownerBy 32 = .ok (.getfield 11, 3) := by decide +kernel
theorem dX2_ownerBy_35 : decode cX2_ownerBy 35 = .ok (.iload 4, 2) := by decide +kernel
theorem dX2_ownerBy_37 : decode cX2_ownerBy 37 = .ok (.caload, 1) := by decide +kernel
theorem dX2_ownerBy_38 : decode cX2_ownerBy 38 = .ok (.bipush 108, 2) := by decide +kernel
theorem dX2_ownerBy_40 : decode cX2_ownerBy 40 = .ok (.if_icmp .ne 14, 3) := by decide +kernel
theorem dX2_ownerBy_43 : decode cX2_ownerBy 43 = .ok (.aload_n 0, 1) := by decide +kernel
theorem dX2_ownerBy_44 : decode cX2_ownerBy 44 = .ok (.getfield 19, 3) := by decide +kernel
theorem dX2_ownerBy_47 : decode cX2_ownerBy 47 = .ok (.iload 4, 2) := by decide +kernel
theorem dX2_ownerBy_49 : decode cX2_ownerBy 49 = .ok (.iaload, 1) := by decide +kernel
theorem dX2_ownerBy_50 : decode cX2_ownerBy 50 = .ok (.istore_n 3, 1) := by decide +kernel
theorem dX2_ownerBy_51 : decode cX2_ownerBy 51 = .ok (.goto 17, 3) := by decide +kernel
theorem dX2_ownerBy_54 : decode cX2_ownerBy 54 = .ok (.aload_n 0, 1) := by decide +kernel
theorem dX2_ownerBy_55 : decode cX2_ownerBy 55 = .ok (.getfield 11, 3) := by decide +kernel
theorem dX2_ownerBy_58 : decode cX2_ownerBy 58 = .ok (.iload 4, 2) := by decide +kernel
theorem dX2_ownerBy_60 : decode cX2_ownerBy 60 = .ok (.caload, 1) := by decide +kernel
theorem dX2_ownerBy_61 : decode cX2_ownerBy 61 = .ok (.bipush 117, 2) := by decide +kernel
theorem dX2_ownerBy_63 : decode cX2_ownerBy 63 = .ok (.if_icmp .ne 5, 3) := by decide +kernel
theorem dX2_ownerBy_66 : decode cX2_ownerBy 66 = .ok (.iconst (-1), 1) := by decide +kernel
theorem dX2_ownerBy_67 : decode cX2_ownerBy 67 = .ok (.istore_n 3, 1) := by decide +kernel
theorem dX2_ownerBy_68 : decode cX2_ownerBy 68 = .ok (.iinc 4 1, 3) := by decide +kernel
theorem dX2_ownerBy_71 : decode cX2_ownerBy 71 = .ok (.goto (-66), 3) := by decide +kernel
theorem dX2_ownerBy_74 : decode cX2_ownerBy 74 = .ok (.iload_n 3, 1) := by decide +kernel
theorem dX2_ownerBy_75 : decode cX2_ownerBy 75 = .ok (.ireturn, 1) := by decide +kernel
theorem dX2_lastEnd_0 : decode cX2_lastEnd 0 = .ok (.iconst 0, 1) := by decide +kernel
theorem dX2_lastEnd_1 : decode cX2_lastEnd 1 = .ok (.istore_n 2, 1) := by decide +kernel
theorem dX2_lastEnd_2 : decode cX2_lastEnd 2 = .ok (.iconst 0, 1) := by decide +kernel
theorem dX2_lastEnd_3 : decode cX2_lastEnd 3 = .ok (.istore_n 3, 1) := by decide +kernel
theorem dX2_lastEnd_4 : decode cX2_lastEnd 4 = .ok (.iload_n 3, 1) := by decide +kernel
theorem dX2_lastEnd_5 : decode cX2_lastEnd 5 = .ok (.aload_n 0, 1) := by decide +kernel
theorem dX2_lastEnd_6 : decode cX2_lastEnd 6 = .ok (.getfield 28, 3) := by decide +kernel
theorem dX2_lastEnd_9 : decode cX2_lastEnd 9 = .ok (.if_icmp .ge 48, 3) := by decide +kernel
theorem dX2_lastEnd_12 : decode cX2_lastEnd 12 = .ok (.aload_n 0, 1) := by decide +kernel
theorem dX2_lastEnd_13 : decode cX2_lastEnd 13 = .ok (.getfield 22, 3) := by decide +kernel
theorem dX2_lastEnd_16 : decode cX2_lastEnd 16 = .ok (.iload_n 3, 1) := by decide +kernel
theorem dX2_lastEnd_17 : decode cX2_lastEnd 17 = .ok (.iaload, 1) := by decide +kernel
theorem dX2_lastEnd_18 : decode cX2_lastEnd 18 = .ok (.iload_n 1, 1) := by decide +kernel
theorem dX2_lastEnd_19 : decode cX2_lastEnd 19 = .ok (.if_icmp .ne 32, 3) := by decide +kernel
theorem dX2_lastEnd_22 : decode cX2_lastEnd 22 = .ok (.aload_n 0, 1) := by decide +kernel
theorem dX2_lastEnd_23 : decode cX2_lastEnd 23 = .ok (.getfield 11, 3) := by decide +kernel
theorem dX2_lastEnd_26 : decode cX2_lastEnd 26 = .ok (.iload_n 3, 1) := by decide +kernel
theorem dX2_lastEnd_27 : decode cX2_lastEnd 27 = .ok (.caload, 1) := by decide +kernel
theorem dX2_lastEnd_28 : decode cX2_lastEnd 28 = .ok (.bipush 108, 2) := by decide +kernel
theorem dX2_lastEnd_30 : decode cX2_lastEnd 30 = .ok (.if_icmp .eq 14, 3) := by decide +kernel
theorem dX2_lastEnd_33 : decode cX2_lastEnd 33 = .ok (.aload_n 0, 1) := by decide +kernel
theorem dX2_lastEnd_34 : decode cX2_lastEnd 34 = .ok (.getfield 11, 3) := by decide +kernel
theorem dX2_lastEnd_37 : decode cX2_lastEnd 37 = .ok (.iload_n 3, 1) := by decide +kernel
theorem dX2_lastEnd_38 : decode cX2_lastEnd 38 = .ok (.caload, 1) := by decide +kernel
theorem dX2_lastEnd_39 : decode cX2_lastEnd 39 = .ok (.bipush 114, 2) := by decide +kernel
theorem dX2_lastEnd_41 : decode cX2_lastEnd 41 = .ok (.if_icmp .ne 10, 3) := by decide +kernel
theorem dX2_lastEnd_44 : decode cX2_lastEnd 44 = .ok (.aload_n 0, 1) := by decide +kernel
theorem dX2_lastEnd_45 : decode cX2_lastEnd 45 = .ok (.getfield 25, 3) := by decide +kernel
theorem dX2_lastEnd_48 : decode cX2_lastEnd 48 = .ok (.iload_n 3, 1) := by decide +kernel
theorem dX2_lastEnd_49 : decode cX2_lastEnd 49 = .ok (.iaload, 1) := by decide +kernel
theorem dX2_lastEnd_50 : decode cX2_lastEnd 50 = .ok (.istore_n 2, 1) := by decide +kernel
theorem dX2_lastEnd_51 : decode cX2_lastEnd 51 = .ok (.iinc 3 1, 3) := by decide +kernel
theorem dX2_lastEnd_54 : decode cX2_lastEnd 54 = .ok (.goto (-50), 3) := by decide +kernel
theorem dX2_lastEnd_57 : decode cX2_lastEnd 57 = .ok (.iload_n 2, 1) := by decide +kernel
theorem dX2_lastEnd_58 : decode cX2_lastEnd 58 = .ok (.ireturn, 1) := by decide +kernel
set_option maxRecDepth 20000 in
theorem ggX2_holderAt_X2_lastEnd : GoodIn wsX2_holderAt wsX2_lastEnd := goodIn_ca (goodIn_r _ [6, 1, 7, 8, 9, 15, 16, 17, 18, 19, 20] (by decide +kernel) (by decide +kernel)) (goodIn_sub (fun _ h => List.mem_cons_of_mem _ (List.mem_append_right _ h)) (by decide +kernel))
set_option maxRecDepth 20000 in
theorem gX2_holderAt_X2_lastEnd : GoodIn wsX2_holderAt (wsV RX2 32 RX2 yX2_lastEnd wsX2_lastEnd) := goodIn_app (goodIn_of _ (by decide +kernel)) ggX2_holderAt_X2_lastEnd
set_option maxRecDepth 20000 in
theorem ggX2_holderAt_X2_ownerBy : GoodIn wsX2_holderAt wsX2_ownerBy := goodIn_ca (goodIn_r _ [13, 1, 7, 8, 14, 15, 16, 17, 18, 19, 20] (by decide +kernel) (by decide +kernel)) (goodIn_sub (fun _ h => List.mem_cons_of_mem _ (List.mem_append_right _ h)) (by decide +kernel))
set_option maxRecDepth 20000 in
theorem gX2_holderAt_X2_ownerBy : GoodIn wsX2_holderAt (wsV RX2 36 RX2 yX2_ownerBy wsX2_ownerBy) := goodIn_app (goodIn_of _ (by decide +kernel)) ggX2_holderAt_X2_ownerBy
theorem dX2_holderAt_0 : decode cX2_holderAt 0 = .ok (.aload_n 0, 1) := by decide +kernel
theorem dX2_holderAt_1 : decode cX2_holderAt 1 = .ok (.iload_n 1, 1) := by decide +kernel
theorem dX2_holderAt_2 : decode cX2_holderAt 2 = .ok (.invokevirtual 32, 3) := by decide +kernel
theorem dX2_holderAt_5 : decode cX2_holderAt 5 = .ok (.iload_n 2, 1) := by decide +kernel
theorem dX2_holderAt_6 : decode cX2_holderAt 6 = .ok (.if_icmp .le 15, 3) := by decide +kernel
theorem dX2_holderAt_9 : decode cX2_holderAt 9 = .ok (.aload_n 0, 1) := by decide +kernel
theorem dX2_holderAt_10 : decode cX2_holderAt 10 = .ok (.aload_n 0, 1) := by decide +kernel
theorem dX2_holderAt_11 : decode cX2_holderAt 11 = .ok (.getfield 28, 3) := by decide +kernel
theorem dX2_holderAt_14 : decode cX2_holderAt 14 = .ok (.iload_n 1, 1) := by decide +kernel
theorem dX2_holderAt_15 : decode cX2_holderAt 15 = .ok (.invokevirtual 36, 3) := by decide +kernel
theorem dX2_holderAt_18 : decode cX2_holderAt 18 = .ok (.goto 4, 3) := by decide +kernel
theorem dX2_holderAt_21 : decode cX2_holderAt 21 = .ok (.iconst (-1), 1) := by decide +kernel
theorem dX2_holderAt_22 : decode cX2_holderAt 22 = .ok (.ireturn, 1) := by decide +kernel
theorem dX2_lastValue_0 : decode cX2_lastValue 0 = .ok (.iconst 0, 1) := by decide +kernel
theorem dX2_lastValue_1 : decode cX2_lastValue 1 = .ok (.istore_n 2, 1) := by decide +kernel
theorem dX2_lastValue_2 : decode cX2_lastValue 2 = .ok (.iconst 0, 1) := by decide +kernel
theorem dX2_lastValue_3 : decode cX2_lastValue 3 = .ok (.istore_n 3, 1) := by decide +kernel
theorem dX2_lastValue_4 : decode cX2_lastValue 4 = .ok (.iload_n 3, 1) := by decide +kernel
theorem dX2_lastValue_5 : decode cX2_lastValue 5 = .ok (.aload_n 0, 1) := by decide +kernel
theorem dX2_lastValue_6 : decode cX2_lastValue 6 = .ok (.getfield 28, 3) := by decide +kernel
theorem dX2_lastValue_9 : decode cX2_lastValue 9 = .ok (.if_icmp .ge 37, 3) := by decide +kernel
theorem dX2_lastValue_12 : decode cX2_lastValue 12 = .ok (.aload_n 0, 1) := by decide +kernel
theorem dX2_lastValue_13 : decode cX2_lastValue 13 = .ok (.getfield 22, 3) := by decide +kernel
theorem dX2_lastValue_16 : decode cX2_lastValue 16 = .ok (.iload_n 3, 1) := by decide +kernel
theorem dX2_lastValue_17 : decode cX2_lastValue 17 = .ok (.iaload, 1) := by decide +kernel
theorem dX2_lastValue_18 : decode cX2_lastValue 18 = .ok (.iload_n 1, 1) := by decide +kernel
theorem dX2_lastValue_19 : decode cX2_lastValue 19 = .ok (.if_icmp .ne 21, 3) := by decide +kernel
theorem dX2_lastValue_22 : decode cX2_lastValue 22 = .ok (.aload_n 0, 1) := by decide +kernel
theorem dX2_lastValue_23 : decode cX2_lastValue 23 = .ok (.getfield 11, 3) := by decide +kernel
theorem dX2_lastValue_26 : decode cX2_lastValue 26 = .ok (.iload_n 3, 1) := by decide +kernel
theorem dX2_lastValue_27 : decode cX2_lastValue 27 = .ok (.caload, 1) := by decide +kernel
theorem dX2_lastValue_28 : decode cX2_lastValue 28 = .ok (.bipush 118, 2) := by decide +kernel
theorem dX2_lastValue_30 : decode cX2_lastValue 30 = .ok (.if_icmp .ne 10, 3) := by decide +kernel
theorem dX2_lastValue_33 : decode cX2_lastValue 33 = .ok (.aload_n 0, 1) := by decide +kernel
theorem dX2_lastValue_34 : decode cX2_lastValue 34 = .ok (.getfield 25, 3) := by decide +kernel
theorem dX2_lastValue_37 : decode cX2_lastValue 37 = .ok (.iload_n 3, 1) := by decide +kernel
theorem dX2_lastValue_38 : decode cX2_lastValue 38 = .ok (.iaload, 1) := by decide +kernel
theorem dX2_lastValue_39 : decode cX2_lastValue 39 = .ok (.istore_n 2, 1) := by decide +kernel
theorem dX2_lastValue_40 : decode cX2_lastValue 40 = .ok (.iinc 3 1, 3) := by decide +kernel
theorem dX2_lastValue_43 : decode cX2_lastValue 43 = .ok (.goto (-39), 3) := by decide +kernel
theorem dX2_lastValue_46 : decode cX2_lastValue 46 = .ok (.iload_n 2, 1) := by decide +kernel
theorem dX2_lastValue_47 : decode cX2_lastValue 47 = .ok (.ireturn, 1) := by decide +kernel
theorem dX2_isInTermOrder_0 : decode cX2_isInTermOrder 0 = .ok (.iconst 1, 1) := by decide +kernel
theorem dX2_isInTermOrder_1 : decode cX2_isInTermOrder 1 = .ok (.istore_n 1, 1) := by decide +kernel
theorem dX2_isInTermOrder_2 : decode cX2_isInTermOrder 2 = .ok (.iload_n 1, 1) := by decide +kernel
theorem dX2_isInTermOrder_3 : decode cX2_isInTermOrder 3 = .ok (.aload_n 0, 1) := by decide +kernel
theorem dX2_isInTermOrder_4 : decode cX2_isInTermOrder 4 = .ok (.getfield 28, 3) := by decide +kernel
theorem dX2_isInTermOrder_7 : decode cX2_isInTermOrder 7 = .ok (.if_icmp .ge 28, 3) := by decide +kernel
theorem dX2_isInTermOrder_10 : decode cX2_isInTermOrder 10 = .ok (.aload_n 0, 1) := by decide +kernel
theorem dX2_isInTermOrder_11 : decode cX2_isInTermOrder 11 = .ok (.getfield 15, 3) := by decide +kernel
theorem dX2_isInTermOrder_14 : decode cX2_isInTermOrder 14 = .ok (.iload_n 1, 1) := by decide +kernel
theorem dX2_isInTermOrder_15 : decode cX2_isInTermOrder 15 = .ok (.iaload, 1) := by decide +kernel
theorem dX2_isInTermOrder_16 : decode cX2_isInTermOrder 16 = .ok (.aload_n 0, 1) := by decide +kernel
theorem dX2_isInTermOrder_17 : decode cX2_isInTermOrder 17 = .ok (.getfield 15, 3) := by decide +kernel
theorem dX2_isInTermOrder_20 : decode cX2_isInTermOrder 20 = .ok (.iload_n 1, 1) := by decide +kernel
theorem dX2_isInTermOrder_21 : decode cX2_isInTermOrder 21 = .ok (.iconst 1, 1) := by decide +kernel
theorem dX2_isInTermOrder_22 : decode cX2_isInTermOrder 22 = .ok (.isub, 1) := by decide +kernel
theorem dX2_isInTermOrder_23 : decode cX2_isInTermOrder 23 = .ok (.iaload, 1) := by decide +kernel
theorem dX2_isInTermOrder_24 : decode cX2_isInTermOrder 24 = .ok (.if_icmp .ge 5, 3) := by decide +kernel
theorem dX2_isInTermOrder_27 : decode cX2_isInTermOrder 27 = .ok (.iconst 0, 1) := by decide +kernel
theorem dX2_isInTermOrder_28 : decode cX2_isInTermOrder 28 = .ok (.ireturn, 1) := by decide +kernel
theorem dX2_isInTermOrder_29 : decode cX2_isInTermOrder 29 = .ok (.iinc 1 1, 3) := by decide +kernel
theorem dX2_isInTermOrder_32 : decode cX2_isInTermOrder 32 = .ok (.goto (-30), 3) := by decide +kernel
theorem dX2_isInTermOrder_35 : decode cX2_isInTermOrder 35 = .ok (.iconst 1, 1) := by decide +kernel
theorem dX2_isInTermOrder_36 : decode cX2_isInTermOrder 36 = .ok (.ireturn, 1) := by decide +kernel
set_option maxRecDepth 20000 in
theorem ggX3_init_J7_fill_53178 : GoodIn wsX3_init wsJ7_fill_53178 := goodIn_r _ [14] (by decide +kernel) (by decide +kernel)
set_option maxRecDepth 20000 in
theorem gX3_init_J7_fill_53178 : GoodIn wsX3_init (va_wsS RX3 28 yJ7_fill_53178 wsJ7_fill_53178) := goodIn_app (goodIn_of _ (by decide +kernel)) ggX3_init_J7_fill_53178
theorem dX3_init_0 : decode cX3_init 0 = .ok (.aload_n 0, 1) := by decide +kernel
theorem dX3_init_1 : decode cX3_init 1 = .ok (.invokespecial 3, 3) := by decide +kernel
theorem dX3_init_4 : decode cX3_init 4 = .ok (.aload_n 0, 1) := by decide +kernel
theorem dX3_init_5 : decode cX3_init 5 = .ok (.iconst 5, 1) := by decide +kernel
theorem dX3_init_6 : decode cX3_init 6 = .ok (.newarray .boolean, 2) := by decide +kernel
theorem dX3_init_8 : decode cX3_init 8 = .ok (.putfield 11, 3) := by decide +kernel
theorem dX3_init_11 : decode cX3_init 11 = .ok (.aload_n 0, 1) := by decide +kernel
theorem dX3_init_12 : decode cX3_init 12 = .ok (.iconst 5, 1) := by decide +kernel
theorem dX3_init_13 : decode cX3_init 13 = .ok (.newarray .int, 2) := by decide +kernel
theorem dX3_init_15 : decode cX3_init 15 = .ok (.putfield 15, 3) := by decide +kernel
theorem dX3_init_18 : decode cX3_init 18 = .ok (.aload_n 0, 1) := by decide +kernel
theorem dX3_init_19 : decode cX3_init 19 = .ok (.iconst 5, 1) := by decide +kernel
theorem dX3_init_20 : decode cX3_init 20 = .ok (.newarray .int, 2) := by decide +kernel
theorem dX3_init_22 : decode cX3_init 22 = .ok (.putfield 19, 3) := by decide +kernel
theorem dX3_init_25 : decode cX3_init 25 = .ok (.aload_n 0, 1) := by decide +kernel
theorem dX3_init_26 : decode cX3_init 26 = .ok (.bipush 25, 2) := by decide +kernel
theorem dX3_init_28 : decode cX3_init 28 = .ok (.newarray .boolean, 2) := by decide +kernel
theorem dX3_init_30 : decode cX3_init 30 = .ok (.putfield 22, 3) := by decide +kernel
theorem dX3_init_33 : decode cX3_init 33 = .ok (.aload_n 0, 1) := by decide +kernel
theorem dX3_init_34 : decode cX3_init 34 = .ok (.sipush 513, 3) := by decide +kernel
theorem dX3_init_37 : decode cX3_init 37 = .ok (.newarray .int, 2) := by decide +kernel
theorem dX3_init_39 : decode cX3_init 39 = .ok (.putfield 25, 3) := by decide +kernel
theorem dX3_init_42 : decode cX3_init 42 = .ok (.aload_n 0, 1) := by decide +kernel
theorem dX3_init_43 : decode cX3_init 43 = .ok (.getfield 25, 3) := by decide +kernel
theorem dX3_init_46 : decode cX3_init 46 = .ok (.iconst (-1), 1) := by decide +kernel
theorem dX3_init_47 : decode cX3_init 47 = .ok (.invokestatic 28, 3) := by decide +kernel
theorem dX3_init_50 : decode cX3_init 50 = .ok (.return_, 1) := by decide +kernel
theorem dX3_cutLink_0 : decode cX3_cutLink 0 = .ok (.aload_n 0, 1) := by decide +kernel
theorem dX3_cutLink_1 : decode cX3_cutLink 1 = .ok (.getfield 22, 3) := by decide +kernel
theorem dX3_cutLink_4 : decode cX3_cutLink 4 = .ok (.iload_n 1, 1) := by decide +kernel
theorem dX3_cutLink_5 : decode cX3_cutLink 5 = .ok (.iconst 5, 1) := by decide +kernel
theorem dX3_cutLink_6 : decode cX3_cutLink 6 = .ok (.imul, 1) := by decide +kernel
theorem dX3_cutLink_7 : decode cX3_cutLink 7 = .ok (.iload_n 2, 1) := by decide +kernel
theorem dX3_cutLink_8 : decode cX3_cutLink 8 = .ok (.iadd, 1) := by decide +kernel
theorem dX3_cutLink_9 : decode cX3_cutLink 9 = .ok (.baload, 1) := by decide +kernel
theorem dX3_cutLink_10 : decode cX3_cutLink 10 = .ok (.istore 4, 2) := by decide +kernel
theorem dX3_cutLink_12 : decode cX3_cutLink 12 = .ok (.aload_n 0, 1) := by decide +kernel
theorem dX3_cutLink_13 : decode cX3_cutLink 13 = .ok (.getfield 22, 3) := by decide +kernel
theorem dX3_cutLink_16 : decode cX3_cutLink 16 = .ok (.iload_n 1, 1) := by decide +kernel
theorem dX3_cutLink_17 : decode cX3_cutLink 17 = .ok (.iconst 5, 1) := by decide +kernel
theorem dX3_cutLink_18 : decode cX3_cutLink 18 = .ok (.imul, 1) := by decide +kernel
theorem dX3_cutLink_19 : decode cX3_cutLink 19 = .ok (.iload_n 2, 1) := by decide +kernel
theorem dX3_cutLink_20 : decode cX3_cutLink 20 = .ok (.iadd, 1) := by decide +kernel
theorem dX3_cutLink_21 : decode cX3_cutLink 21 = .ok (.iload_n 3, 1) := by decide +kernel
theorem dX3_cutLink_22 : decode cX3_cutLink 22 = .ok (.bastore, 1) := by decide +kernel
theorem dX3_cutLink_23 : decode cX3_cutLink 23 = .ok (.aload_n 0, 1) := by decide +kernel
theorem dX3_cutLink_24 : decode cX3_cutLink 24 = .ok (.getfield 22, 3) := by decide +kernel
theorem dX3_cutLink_27 : decode cX3_cutLink 27 = .ok (.iload_n 2, 1) := by decide +kernel
theorem dX3_cutLink_28 : decode cX3_cutLink 28 = .ok (.iconst 5, 1) := by decide +kernel
theorem dX3_cutLink_29 : decode cX3_cutLink 29 = .ok (.imul, 1) := by decide +kernel
theorem dX3_cutLink_30 : decode cX3_cutLink 30 = .ok (.iload_n 1, 1) := by decide +kernel
theorem dX3_cutLink_31 : decode cX3_cutLink 31 = .ok (.iadd, 1) := by decide +kernel
theorem dX3_cutLink_32 : decode cX3_cutLink 32 = .ok (.iload_n 3, 1) := by decide +kernel
theorem dX3_cutLink_33 : decode cX3_cutLink 33 = .ok (.bastore, 1) := by decide +kernel
theorem dX3_cutLink_34 : decode cX3_cutLink 34 = .ok (.iload 4, 2) := by decide +kernel
theorem dX3_cutLink_36 : decode cX3_cutLink 36 = .ok (.ireturn, 1) := by decide +kernel
theorem dX3_reaches_0 : decode cX3_reaches 0 = .ok (.aload_n 0, 1) := by decide +kernel
theorem dX3_reaches_1 : decode cX3_reaches 1 = .ok (.getfield 11, 3) := by decide +kernel
theorem dX3_reaches_4 : decode cX3_reaches 4 = .ok (.iload_n 1, 1) := by decide +kernel
theorem dX3_reaches_5 : decode cX3_reaches 5 = .ok (.baload, 1) := by decide +kernel
theorem dX3_reaches_6 : decode cX3_reaches 6 = .ok (.ifCond .ne 29, 3) := by decide +kernel
theorem dX3_reaches_9 : decode cX3_reaches 9 = .ok (.aload_n 0, 1) := by decide +kernel
theorem dX3_reaches_10 : decode cX3_reaches 10 = .ok (.getfield 11, 3) := by decide +kernel
theorem dX3_reaches_13 : decode cX3_reaches 13 = .ok (.iload_n 2, 1) := by decide +kernel
theorem dX3_reaches_14 : decode cX3_reaches 14 = .ok (.baload, 1) := by decide +kernel
theorem dX3_reaches_15 : decode cX3_reaches 15 = .ok (.ifCond .ne 20, 3) := by decide +kernel
theorem dX3_reaches_18 : decode cX3_reaches 18 = .ok (.aload_n 0, 1) := by decide +kernel
theorem dX3_reaches_19 : decode cX3_reaches 19 = .ok (.getfield 22, 3) := by decide +kernel
theorem dX3_reaches_22 : decode cX3_reaches 22 = .ok (.iload_n 1, 1) := by decide +kernel
theorem dX3_reaches_23 : decode cX3_reaches 23 = .ok (.iconst 5, 1) := by decide +kernel
theorem dX3_reaches_24 : decode cX3_reaches 24 = .ok (.imul, 1) := by decide +kernel
theorem dX3_reaches_25 : decode cX3_reaches 25 = .ok (.iload_n 2, 1) := by decide +kernel
theorem dX3_reaches_26 : decode cX3_reaches 26 = .ok (.iadd, 1) := by decide +kernel
theorem dX3_reaches_27 : decode cX3_reaches 27 = .ok (.baload, 1) := by decide +kernel
theorem dX3_reaches_28 : decode cX3_reaches 28 = .ok (.ifCond .ne 7, 3) := by decide +kernel
theorem dX3_reaches_31 : decode cX3_reaches 31 = .ok (.iconst 1, 1) := by decide +kernel
theorem dX3_reaches_32 : decode cX3_reaches 32 = .ok (.goto 4, 3) := by decide +kernel
theorem dX3_reaches_35 : decode cX3_reaches 35 = .ok (.iconst 0, 1) := by decide +kernel
theorem dX3_reaches_36 : decode cX3_reaches 36 = .ok (.ireturn, 1) := by decide +kernel
set_option maxRecDepth 20000 in
theorem ggX3_countReached_X3_reaches : GoodIn wsX3_countReached wsX3_reaches := goodIn_ca (goodIn_r _ [5, 6, 7, 8, 9, 10, 11, 12] (by decide +kernel) (by decide +kernel)) (goodIn_sub (fun _ h => List.mem_cons_of_mem _ (List.mem_append_right _ h)) (by decide +kernel))
set_option maxRecDepth 20000 in
theorem gX3_countReached_X3_reaches : GoodIn wsX3_countReached (wsV RX3 34 RX3 yX3_reaches wsX3_reaches) := goodIn_app (goodIn_of _ (by decide +kernel)) ggX3_countReached_X3_reaches
theorem dX3_countReached_0 : decode cX3_countReached 0 = .ok (.iconst 0, 1) := by decide +kernel
theorem dX3_countReached_1 : decode cX3_countReached 1 = .ok (.istore_n 2, 1) := by decide +kernel
theorem dX3_countReached_2 : decode cX3_countReached 2 = .ok (.iconst 0, 1) := by decide +kernel
theorem dX3_countReached_3 : decode cX3_countReached 3 = .ok (.istore_n 3, 1) := by decide +kernel
theorem dX3_countReached_4 : decode cX3_countReached 4 = .ok (.iload_n 3, 1) := by decide +kernel
theorem dX3_countReached_5 : decode cX3_countReached 5 = .ok (.iconst 5, 1) := by decide +kernel
theorem dX3_countReached_6 : decode cX3_countReached 6 = .ok (.if_icmp .ge 21, 3) := by decide +kernel
theorem dX3_countReached_9 : decode cX3_countReached 9 = .ok (.aload_n 0, 1) := by decide +kernel
theorem dX3_countReached_10 : decode cX3_countReached 10 = .ok (.iload_n 1, 1) := by decide +kernel
theorem dX3_countReached_11 : decode cX3_countReached 11 = .ok (.iload_n 3, 1) := by decide +kernel
theorem dX3_countReached_12 : decode cX3_countReached 12 = .ok (.invokevirtual 34, 3) := by decide +kernel
theorem dX3_countReached_15 : decode cX3_countReached 15 = .ok (.ifCond .eq 6, 3) := by decide +kernel
theorem dX3_countReached_18 : decode cX3_countReached 18 = .ok (.iinc 2 1, 3) := by decide +kernel
theorem dX3_countReached_21 : decode cX3_countReached 21 = .ok (.iinc 3 1, 3) := by decide +kernel
theorem dX3_countReached_24 : decode cX3_countReached 24 = .ok (.goto (-20), 3) := by decide +kernel
theorem dX3_countReached_27 : decode cX3_countReached 27 = .ok (.iload_n 2, 1) := by decide +kernel
theorem dX3_countReached_28 : decode cX3_countReached 28 = .ok (.ireturn, 1) := by decide +kernel
set_option maxRecDepth 20000 in
theorem ggX3_holdVote_X3_reaches : GoodIn wsX3_holdVote wsX3_reaches := goodIn_ca (goodIn_r _ [8, 9, 10, 11, 12, 13, 14, 15] (by decide +kernel) (by decide +kernel)) (goodIn_sub (fun _ h => List.mem_cons_of_mem _ (List.mem_append_right _ h)) (by decide +kernel))
set_option maxRecDepth 20000 in
theorem gX3_holdVote_X3_reaches : GoodIn wsX3_holdVote (wsV RX3 34 RX3 yX3_reaches wsX3_reaches) := goodIn_app (goodIn_of _ (by decide +kernel)) ggX3_holdVote_X3_reaches
theorem dX3_holdVote_0 : decode cX3_holdVote 0 = .ok (.aload_n 0, 1) := by decide +kernel
theorem dX3_holdVote_1 : decode cX3_holdVote 1 = .ok (.getfield 15, 3) := by decide +kernel
theorem dX3_holdVote_4 : decode cX3_holdVote 4 = .ok (.iload_n 1, 1) := by decide +kernel
theorem dX3_holdVote_5 : decode cX3_holdVote 5 = .ok (.iaload, 1) := by decide +kernel
theorem dX3_holdVote_6 : decode cX3_holdVote 6 = .ok (.iconst 1, 1) := by decide +kernel
theorem dX3_holdVote_7 : decode cX3_holdVote 7 = .ok (.iadd, 1) := by decide +kernel
theorem dX3_holdVote_8 : decode cX3_holdVote 8 = .ok (.istore_n 2, 1) := by decide +kernel
theorem dX3_holdVote_9 : decode cX3_holdVote 9 = .ok (.aload_n 0, 1) := by decide +kernel
theorem dX3_holdVote_10 : decode cX3_holdVote 10 = .ok (.getfield 15, 3) := by decide +kernel
theorem dX3_holdVote_13 : decode cX3_holdVote 13 = .ok (.iload_n 1, 1) := by decide +kernel
theorem dX3_holdVote_14 : decode cX3_holdVote 14 = .ok (.iload_n 2, 1) := by decide +kernel
theorem dX3_holdVote_15 : decode cX3_holdVote 15 = .ok (.iastore, 1) := by decide +kernel
theorem dX3_holdVote_16 : decode cX3_holdVote 16 = .ok (.iconst 1, 1) := by decide +kernel
theorem dX3_holdVote_17 : decode cX3_holdVote 17 = .ok (.istore_n 3, 1) := by decide +kernel
theorem dX3_holdVote_18 : decode cX3_holdVote 18 = .ok (.iconst 0, 1) := by decide +kernel
theorem dX3_holdVote_19 : decode cX3_holdVote 19 = .ok (.istore 4, 2) := by decide +kernel
theorem dX3_holdVote_21 : decode cX3_holdVote 21 = .ok (.iload 4, 2) := by decide +kernel
theorem dX3_holdVote_23 : decode cX3_holdVote 23 = .ok (.iconst 5, 1) := by decide +kernel
theorem dX3_holdVote_24 : decode cX3_holdVote 24 = .ok (.if_icmp .ge 57, 3) := by decide +kernel
theorem dX3_holdVote_27 : decode cX3_holdVote 27 = .ok (.aload_n 0, 1) := by decide +kernel
theorem dX3_holdVote_28 : decode cX3_holdVote 28 = .ok (.iload_n 1, 1) := by decide +kernel
theorem dX3_holdVote_29 : decode cX3_holdVote 29 = .ok (.iload 4, 2) := by decide +kernel
theorem dX3_holdVote_31 : decode cX3_holdVote 31 = .ok (.invokevirtual 34, 3) := by decide +kernel
theorem dX3_holdVote_34 : decode cX3_holdVote 34 = .ok (.ifCond .eq 41, 3) := by decide +kernel
theorem dX3_holdVote_37 : decode cX3_holdVote 37 = .ok (.aload_n 0, 1) := by decide +kernel
theorem dX3_holdVote_38 : decode cX3_holdVote 38 = .ok (.getfield 15, 3) := by decide +kernel
theorem dX3_holdVote_41 : decode cX3_holdVote 41 = .ok (.iload 4, 2) := by decide +kernel
theorem dX3_holdVote_43 : decode cX3_holdVote 43 = .ok (.iaload, 1) := by decide +kernel
theorem dX3_holdVote_44 : decode cX3_holdVote 44 = .ok (.iload_n 2, 1) := by decide +kernel
theorem dX3_holdVote_45 : decode cX3_holdVote 45 = .ok (.if_icmp .ge 30, 3) := by decide +kernel
theorem dX3_holdVote_48 : decode cX3_holdVote 48 = .ok (.aload_n 0, 1) := by decide +kernel
theorem dX3_holdVote_49 : decode cX3_holdVote 49 = .ok (.getfield 15, 3) := by decide +kernel
theorem dX3_holdVote_52 : decode cX3_holdVote 52 = .ok (.iload 4, 2) := by decide +kernel
theorem dX3_holdVote_54 : decode cX3_holdVote 54 = .ok (.iload_n 2, 1) := by decide +kernel
theorem dX3_holdVote_55 : decode cX3_holdVote 55 = .ok (.iastore, 1) := by decide +kernel
theorem dX3_holdVote_56 : decode cX3_holdVote 56 = .ok (.aload_n 0, 1) := by decide +kernel
theorem dX3_holdVote_57 : decode cX3_holdVote 57 = .ok (.getfield 19, 3) := by decide +kernel
theorem dX3_holdVote_60 : decode cX3_holdVote 60 = .ok (.iload 4, 2) := by decide +kernel
theorem dX3_holdVote_62 : decode cX3_holdVote 62 = .ok (.iaload, 1) := by decide +kernel
theorem dX3_holdVote_63 : decode cX3_holdVote 63 = .ok (.aload_n 0, 1) := by decide +kernel
theorem dX3_holdVote_64 : decode cX3_holdVote 64 = .ok (.getfield 19, 3) := by decide +kernel
theorem dX3_holdVote_67 : decode cX3_holdVote 67 = .ok (.iload_n 1, 1) := by decide +kernel
theorem dX3_holdVote_68 : decode cX3_holdVote 68 = .ok (.iaload, 1) := by decide +kernel
theorem dX3_holdVote_69 : decode cX3_holdVote 69 = .ok (.if_icmp .gt 6, 3) := by decide +kernel
theorem dX3_holdVote_72 : decode cX3_holdVote 72 = .ok (.iinc 3 1, 3) := by decide +kernel
theorem dX3_holdVote_75 : decode cX3_holdVote 75 = .ok (.iinc 4 1, 3) := by decide +kernel
theorem dX3_holdVote_78 : decode cX3_holdVote 78 = .ok (.goto (-57), 3) := by decide +kernel
theorem dX3_holdVote_81 : decode cX3_holdVote 81 = .ok (.iload_n 3, 1) := by decide +kernel
theorem dX3_holdVote_82 : decode cX3_holdVote 82 = .ok (.iconst 3, 1) := by decide +kernel
theorem dX3_holdVote_83 : decode cX3_holdVote 83 = .ok (.if_icmp .lt 23, 3) := by decide +kernel
theorem dX3_holdVote_86 : decode cX3_holdVote 86 = .ok (.iload_n 2, 1) := by decide +kernel
theorem dX3_holdVote_87 : decode cX3_holdVote 87 = .ok (.ifCond .lt 19, 3) := by decide +kernel
theorem dX3_holdVote_90 : decode cX3_holdVote 90 = .ok (.iload_n 2, 1) := by decide +kernel
theorem dX3_holdVote_91 : decode cX3_holdVote 91 = .ok (.aload_n 0, 1) := by decide +kernel
theorem dX3_holdVote_92 : decode cX3_holdVote 92 = .ok (.getfield 25, 3) := by decide +kernel
theorem dX3_holdVote_95 : decode cX3_holdVote 95 = .ok (.arraylength, 1) := by decide +kernel
theorem dX3_holdVote_96 : decode cX3_holdVote 96 = .ok (.if_icmp .ge 10, 3) := by decide +kernel
theorem dX3_holdVote_99 : decode cX3_holdVote 99 = .ok (.aload_n 0, 1) := by decide +kernel
theorem dX3_holdVote_100 : decode cX3_holdVote 100 = .ok (.getfield 25, 3) := by decide +kernel
theorem dX3_holdVote_103 : decode cX3_holdVote 103 = .ok (.iload_n 2, 1) := by decide +kernel
theorem dX3_holdVote_104 : decode cX3_holdVote 104 = .ok (.iload_n 1, 1) := by decide +kernel
theorem dX3_holdVote_105 : decode cX3_holdVote 105 = .ok (.iastore, 1) := by decide +kernel
theorem dX3_holdVote_106 : decode cX3_holdVote 106 = .ok (.iload_n 3, 1) := by decide +kernel
theorem dX3_holdVote_107 : decode cX3_holdVote 107 = .ok (.ireturn, 1) := by decide +kernel
theorem dX3_winnerOf_0 : decode cX3_winnerOf 0 = .ok (.iload_n 1, 1) := by decide +kernel
theorem dX3_winnerOf_1 : decode cX3_winnerOf 1 = .ok (.ifCond .lt 21, 3) := by decide +kernel
theorem dX3_winnerOf_4 : decode cX3_winnerOf 4 = .ok (.iload_n 1, 1) := by decide +kernel
theorem dX3_winnerOf_5 : decode cX3_winnerOf 5 = .ok (.aload_n 0, 1) := by decide +kernel
theorem dX3_winnerOf_6 : decode cX3_winnerOf 6 = .ok (.getfield 25, 3) := by decide +kernel
theorem dX3_winnerOf_9 : decode cX3_winnerOf 9 = .ok (.arraylength, 1) := by decide +kernel
theorem dX3_winnerOf_10 : decode cX3_winnerOf 10 = .ok (.if_icmp .ge 12, 3) := by decide +kernel
theorem dX3_winnerOf_13 : decode cX3_winnerOf 13 = .ok (.aload_n 0, 1) := by decide +kernel
theorem dX3_winnerOf_14 : decode cX3_winnerOf 14 = .ok (.getfield 25, 3) := by decide +kernel
theorem dX3_winnerOf_17 : decode cX3_winnerOf 17 = .ok (.iload_n 1, 1) := by decide +kernel
theorem dX3_winnerOf_18 : decode cX3_winnerOf 18 = .ok (.iaload, 1) := by decide +kernel
theorem dX3_winnerOf_19 : decode cX3_winnerOf 19 = .ok (.goto 4, 3) := by decide +kernel
theorem dX3_winnerOf_22 : decode cX3_winnerOf 22 = .ok (.iconst (-1), 1) := by decide +kernel
theorem dX3_winnerOf_23 : decode cX3_winnerOf 23 = .ok (.ireturn, 1) := by decide +kernel
set_option maxRecDepth 20000 in
theorem ggX3_leads_X3_winnerOf : GoodIn wsX3_leads wsX3_winnerOf := goodIn_ca (goodIn_r _ [6, 7, 8, 9, 10, 11, 12] (by decide +kernel) (by decide +kernel)) (goodIn_sub (fun _ h => List.mem_cons_of_mem _ (List.mem_append_right _ h)) (by decide +kernel))
set_option maxRecDepth 20000 in
theorem gX3_leads_X3_winnerOf : GoodIn wsX3_leads (wsV RX3 38 RX3 yX3_winnerOf wsX3_winnerOf) := goodIn_app (goodIn_of _ (by decide +kernel)) ggX3_leads_X3_winnerOf
theorem dX3_leads_0 : decode cX3_leads 0 = .ok (.aload_n 0, 1) := by decide +kernel
theorem dX3_leads_1 : decode cX3_leads 1 = .ok (.aload_n 0, 1) := by decide +kernel
theorem dX3_leads_2 : decode cX3_leads 2 = .ok (.getfield 15, 3) := by decide +kernel
theorem dX3_leads_5 : decode cX3_leads 5 = .ok (.iload_n 1, 1) := by decide +kernel
theorem dX3_leads_6 : decode cX3_leads 6 = .ok (.iaload, 1) := by decide +kernel
theorem dX3_leads_7 : decode cX3_leads 7 = .ok (.invokevirtual 38, 3) := by decide +kernel
theorem dX3_leads_10 : decode cX3_leads 10 = .ok (.iload_n 1, 1) := by decide +kernel
theorem dX3_leads_11 : decode cX3_leads 11 = .ok (.if_icmp .ne 7, 3) := by decide +kernel
theorem dX3_leads_14 : decode cX3_leads 14 = .ok (.iconst 1, 1) := by decide +kernel
theorem dX3_leads_15 : decode cX3_leads 15 = .ok (.goto 4, 3) := by decide +kernel
theorem dX3_leads_18 : decode cX3_leads 18 = .ok (.iconst 0, 1) := by decide +kernel
theorem dX3_leads_19 : decode cX3_leads 19 = .ok (.ireturn, 1) := by decide +kernel
set_option maxRecDepth 20000 in
theorem ggX3_consult_X3_greatestTermReached : GoodIn wsX3_consult wsX3_greatestTermReached := goodIn_ca (goodIn_r _ [6, 1, 7, 8, 9, 5, 10, 11, 12, 17, 18, 19, 20, 21] (by decide +kernel) (by decide +kernel)) (goodIn_sub (fun _ h => List.mem_cons_of_mem _ (List.mem_append_right _ h)) (by decide +kernel))
set_option maxRecDepth 20000 in
theorem gX3_consult_X3_greatestTermReached : GoodIn wsX3_consult (wsV RX3 42 RX3 yX3_greatestTermReached wsX3_greatestTermReached) := goodIn_app (goodIn_of _ (by decide +kernel)) ggX3_consult_X3_greatestTermReached
set_option maxRecDepth 20000 in
theorem ggX3_consult_X3_countReached : GoodIn wsX3_consult wsX3_countReached := goodIn_ca (goodIn_r _ [16, 7, 8, 9, 5, 10, 11, 12, 17, 18, 19, 20, 21] (by decide +kernel) (by decide +kernel)) (goodIn_sub (fun _ h => List.mem_cons_of_mem _ (List.mem_append_right _ h)) (by decide +kernel))
set_option maxRecDepth 20000 in
theorem gX3_consult_X3_countReached : GoodIn wsX3_consult (wsV RX3 45 RX3 yX3_countReached wsX3_countReached) := goodIn_app (goodIn_of _ (by decide +kernel)) ggX3_consult_X3_countReached
set_option maxRecDepth 20000 in
theorem ggX3_consult_X3_reaches : GoodIn wsX3_consult wsX3_reaches := goodIn_ca (goodIn_r _ [10, 11, 12, 17, 18, 19, 20, 21] (by decide +kernel) (by decide +kernel)) (goodIn_sub (fun _ h => List.mem_cons_of_mem _ (List.mem_append_right _ h)) (by decide +kernel))
set_option maxRecDepth 20000 in
theorem gX3_consult_X3_reaches : GoodIn wsX3_consult (wsV RX3 34 RX3 yX3_reaches wsX3_reaches) := goodIn_app (goodIn_of _ (by decide +kernel)) ggX3_consult_X3_reaches
theorem dX3_consult_0 : decode cX3_consult 0 = .ok (.aload_n 0, 1) := by decide +kernel
theorem dX3_consult_1 : decode cX3_consult 1 = .ok (.iload_n 1, 1) := by decide +kernel
theorem dX3_consult_2 : decode cX3_consult 2 = .ok (.invokevirtual 42, 3) := by decide +kernel
theorem dX3_consult_5 : decode cX3_consult 5 = .ok (.istore_n 2, 1) := by decide +kernel
theorem dX3_consult_6 : decode cX3_consult 6 = .ok (.iload_n 2, 1) := by decide +kernel
theorem dX3_consult_7 : decode cX3_consult 7 = .ok (.aload_n 0, 1) := by decide +kernel
theorem dX3_consult_8 : decode cX3_consult 8 = .ok (.getfield 15, 3) := by decide +kernel
theorem dX3_consult_11 : decode cX3_consult 11 = .ok (.iload_n 1, 1) := by decide +kernel
theorem dX3_consult_12 : decode cX3_consult 12 = .ok (.iaload, 1) := by decide +kernel
theorem dX3_consult_13 : decode cX3_consult 13 = .ok (.if_icmp .le 13, 3) := by decide +kernel
theorem dX3_consult_16 : decode cX3_consult 16 = .ok (.aload_n 0, 1) := by decide +kernel
theorem dX3_consult_17 : decode cX3_consult 17 = .ok (.getfield 15, 3) := by decide +kernel
theorem dX3_consult_20 : decode cX3_consult 20 = .ok (.iload_n 1, 1) := by decide +kernel
theorem dX3_consult_21 : decode cX3_consult 21 = .ok (.iload_n 2, 1) := by decide +kernel
theorem dX3_consult_22 : decode cX3_consult 22 = .ok (.iastore, 1) := by decide +kernel
theorem dX3_consult_23 : decode cX3_consult 23 = .ok (.bipush 116, 2) := by decide +kernel
theorem dX3_consult_25 : decode cX3_consult 25 = .ok (.ireturn, 1) := by decide +kernel
theorem dX3_consult_26 : decode cX3_consult 26 = .ok (.aload_n 0, 1) := by decide +kernel
theorem dX3_consult_27 : decode cX3_consult 27 = .ok (.iload_n 1, 1) := by decide +kernel
theorem dX3_consult_28 : decode cX3_consult 28 = .ok (.invokevirtual 45, 3) := by decide +kernel
theorem dX3_consult_31 : decode cX3_consult 31 = .ok (.iconst 3, 1) := by decide +kernel
theorem dX3_consult_32 : decode cX3_consult 32 = .ok (.if_icmp .ge 6, 3) := by decide +kernel
theorem dX3_consult_35 : decode cX3_consult 35 = .ok (.bipush 110, 2) := by decide +kernel
theorem dX3_consult_37 : decode cX3_consult 37 = .ok (.ireturn, 1) := by decide +kernel
theorem dX3_consult_38 : decode cX3_consult 38 = .ok (.iconst 0, 1) := by decide +kernel
theorem dX3_consult_39 : decode cX3_consult 39 = .ok (.istore_n 3, 1) := by decide +kernel
theorem dX3_consult_40 : decode cX3_consult 40 = .ok (.iload_n 3, 1) := by decide +kernel
theorem dX3_consult_41 : decode cX3_consult 41 = .ok (.iconst 5, 1) := by decide +kernel
theorem dX3_consult_42 : decode cX3_consult 42 = .ok (.if_icmp .ge 30, 3) := by decide +kernel
theorem dX3_consult_45 : decode cX3_consult 45 = .ok (.aload_n 0, 1) := by decide +kernel
theorem dX3_consult_46 : decode cX3_consult 46 = .ok (.iload_n 1, 1) := by decide +kernel
theorem dX3_consult_47 : decode cX3_consult 47 = .ok (.iload_n 3, 1) := by decide +kernel
theorem dX3_consult_48 : decode cX3_consult 48 = .ok (.invokevirtual 34, 3) := by decide +kernel
theorem dX3_consult_51 : decode cX3_consult 51 = .ok (.ifCond .eq 15, 3) := by decide +kernel
theorem dX3_consult_54 : decode cX3_consult 54 = .ok (.aload_n 0, 1) := by decide +kernel
theorem dX3_consult_55 : decode cX3_consult 55 = .ok (.getfield 15, 3) := by decide +kernel
theorem dX3_consult_58 : decode cX3_consult 58 = .ok (.iload_n 3, 1) := by decide +kernel
theorem dX3_consult_59 : decode cX3_consult 59 = .ok (.aload_n 0, 1) := by decide +kernel
theorem dX3_consult_60 : decode cX3_consult 60 = .ok (.getfield 15, 3) := by decide +kernel
theorem dX3_consult_63 : decode cX3_consult 63 = .ok (.iload_n 1, 1) := by decide +kernel
theorem dX3_consult_64 : decode cX3_consult 64 = .ok (.iaload, 1) := by decide +kernel
theorem dX3_consult_65 : decode cX3_consult 65 = .ok (.iastore, 1) := by decide +kernel
theorem dX3_consult_66 : decode cX3_consult 66 = .ok (.iinc 3 1, 3) := by decide +kernel
theorem dX3_consult_69 : decode cX3_consult 69 = .ok (.goto (-29), 3) := by decide +kernel
theorem dX3_consult_72 : decode cX3_consult 72 = .ok (.bipush 103, 2) := by decide +kernel
theorem dX3_consult_74 : decode cX3_consult 74 = .ok (.ireturn, 1) := by decide +kernel
set_option maxRecDepth 20000 in
theorem ggX3_greatestTermReached_X3_reaches : GoodIn wsX3_greatestTermReached wsX3_reaches := goodIn_ca (goodIn_r _ [6, 7, 8, 9, 10, 11, 12, 13] (by decide +kernel) (by decide +kernel)) (goodIn_sub (fun _ h => List.mem_cons_of_mem _ (List.mem_append_right _ h)) (by decide +kernel))
set_option maxRecDepth 20000 in
theorem gX3_greatestTermReached_X3_reaches : GoodIn wsX3_greatestTermReached (wsV RX3 34 RX3 yX3_reaches wsX3_reaches) := goodIn_app (goodIn_of _ (by decide +kernel)) ggX3_greatestTermReached_X3_reaches
theorem dX3_greatestTermReached_0 : decode cX3_greatestTermReached 0 = .ok (.aload_n 0, 1) := by decide +kernel
theorem dX3_greatestTermReached_1 : decode cX3_greatestTermReached 1 = .ok (.getfield 15, 3) := by decide +kernel
theorem dX3_greatestTermReached_4 : decode cX3_greatestTermReached 4 = .ok (.iload_n 1, 1) := by decide +kernel
theorem dX3_greatestTermReached_5 : decode cX3_greatestTermReached 5 = .ok (.iaload, 1) := by decide +kernel
theorem dX3_greatestTermReached_6 : decode cX3_greatestTermReached 6 = .ok (.istore_n 2, 1) := by decide +kernel
theorem dX3_greatestTermReached_7 : decode cX3_greatestTermReached 7 = .ok (.iconst 0, 1) := by decide +kernel
theorem dX3_greatestTermReached_8 : decode cX3_greatestTermReached 8 = .ok (.istore_n 3, 1) := by decide +kernel
theorem dX3_greatestTermReached_9 : decode cX3_greatestTermReached 9 = .ok (.iload_n 3, 1) := by decide +kernel
theorem dX3_greatestTermReached_10 : decode cX3_greatestTermReached 10 = .ok (.iconst 5, 1) := by decide +kernel
theorem dX3_greatestTermReached_11 : decode cX3_greatestTermReached 11 = .ok (.if_icmp .ge 35, 3) := by decide +kernel
theorem dX3_greatestTermReached_14 : decode cX3_greatestTermReached 14 = .ok (.aload_n 0, 1) := by decide +kernel
theorem dX3_greatestTermReached_15 : decode cX3_greatestTermReached 15 = .ok (.iload_n 1, 1) := by decide +kernel
theorem dX3_greatestTermReached_16 : decode cX3_greatestTermReached 16 = .ok (.iload_n 3, 1) := by decide +kernel
theorem dX3_greatestTermReached_17 : decode cX3_greatestTermReached 17 = .ok (.invokevirtual 34, 3) := by decide +kernel
theorem dX3_greatestTermReached_20 : decode cX3_greatestTermReached 20 = .ok (.ifCond .eq 20, 3) := by decide +kernel
theorem dX3_greatestTermReached_23 : decode cX3_greatestTermReached 23 = .ok (.aload_n 0, 1) := by decide +kernel
theorem dX3_greatestTermReached_24 : decode cX3_greatestTermReached 24 = .ok (.getfield 15, 3) := by decide +kernel
theorem dX3_greatestTermReached_27 : decode cX3_greatestTermReached 27 = .ok (.iload_n 3, 1) := by decide +kernel
theorem dX3_greatestTermReached_28 : decode cX3_greatestTermReached 28 = .ok (.iaload, 1) := by decide +kernel
theorem dX3_greatestTermReached_29 : decode cX3_greatestTermReached 29 = .ok (.iload_n 2, 1) := by decide +kernel
theorem dX3_greatestTermReached_30 : decode cX3_greatestTermReached 30 = .ok (.if_icmp .le 10, 3) := by decide +kernel
theorem dX3_greatestTermReached_33 : decode cX3_greatestTermReached 33 = .ok (.aload_n 0, 1) := by decide +kernel
theorem dX3_greatestTermReached_34 : decode cX3_greatestTermReached 34 = .ok (.getfield 15, 3) := by decide +kernel
theorem dX3_greatestTermReached_37 : decode cX3_greatestTermReached 37 = .ok (.iload_n 3, 1) := by decide +kernel
theorem dX3_greatestTermReached_38 : decode cX3_greatestTermReached 38 = .ok (.iaload, 1) := by decide +kernel
theorem dX3_greatestTermReached_39 : decode cX3_greatestTermReached 39 = .ok (.istore_n 2, 1) := by decide +kernel
theorem dX3_greatestTermReached_40 : decode cX3_greatestTermReached 40 = .ok (.iinc 3 1, 3) := by decide +kernel
theorem dX3_greatestTermReached_43 : decode cX3_greatestTermReached 43 = .ok (.goto (-34), 3) := by decide +kernel
theorem dX3_greatestTermReached_46 : decode cX3_greatestTermReached 46 = .ok (.iload_n 2, 1) := by decide +kernel
theorem dX3_greatestTermReached_47 : decode cX3_greatestTermReached 47 = .ok (.ireturn, 1) := by decide +kernel
set_option maxRecDepth 20000 in
theorem ggX3_teach_X3_reaches : GoodIn wsX3_teach wsX3_reaches := goodIn_ca (goodIn_r _ [6, 7, 8, 9, 10, 11, 12, 13] (by decide +kernel) (by decide +kernel)) (goodIn_sub (fun _ h => List.mem_cons_of_mem _ (List.mem_append_right _ h)) (by decide +kernel))
set_option maxRecDepth 20000 in
theorem gX3_teach_X3_reaches : GoodIn wsX3_teach (wsV RX3 34 RX3 yX3_reaches wsX3_reaches) := goodIn_app (goodIn_of _ (by decide +kernel)) ggX3_teach_X3_reaches
theorem dX3_teach_0 : decode cX3_teach 0 = .ok (.iconst 0, 1) := by decide +kernel
theorem dX3_teach_1 : decode cX3_teach 1 = .ok (.istore_n 3, 1) := by decide +kernel
theorem dX3_teach_2 : decode cX3_teach 2 = .ok (.iload_n 3, 1) := by decide +kernel
theorem dX3_teach_3 : decode cX3_teach 3 = .ok (.iconst 5, 1) := by decide +kernel
theorem dX3_teach_4 : decode cX3_teach 4 = .ok (.if_icmp .ge 25, 3) := by decide +kernel
theorem dX3_teach_7 : decode cX3_teach 7 = .ok (.aload_n 0, 1) := by decide +kernel
theorem dX3_teach_8 : decode cX3_teach 8 = .ok (.iload_n 1, 1) := by decide +kernel
theorem dX3_teach_9 : decode cX3_teach 9 = .ok (.iload_n 3, 1) := by decide +kernel
theorem dX3_teach_10 : decode cX3_teach 10 = .ok (.invokevirtual 34, 3) := by decide +kernel
theorem dX3_teach_13 : decode cX3_teach 13 = .ok (.ifCond .eq 10, 3) := by decide +kernel
theorem dX3_teach_16 : decode cX3_teach 16 = .ok (.aload_n 0, 1) := by decide +kernel
theorem dX3_teach_17 : decode cX3_teach 17 = .ok (.getfield 19, 3) := by decide +kernel
theorem dX3_teach_20 : decode cX3_teach 20 = .ok (.iload_n 3, 1) := by decide +kernel
theorem dX3_teach_21 : decode cX3_teach 21 = .ok (.iload_n 2, 1) := by decide +kernel
theorem dX3_teach_22 : decode cX3_teach 22 = .ok (.iastore, 1) := by decide +kernel
theorem dX3_teach_23 : decode cX3_teach 23 = .ok (.iinc 3 1, 3) := by decide +kernel
theorem dX3_teach_26 : decode cX3_teach 26 = .ok (.goto (-24), 3) := by decide +kernel
theorem dX3_teach_29 : decode cX3_teach 29 = .ok (.return_, 1) := by decide +kernel
theorem dX3_countKnowing_0 : decode cX3_countKnowing 0 = .ok (.iconst 0, 1) := by decide +kernel
theorem dX3_countKnowing_1 : decode cX3_countKnowing 1 = .ok (.istore_n 2, 1) := by decide +kernel
theorem dX3_countKnowing_2 : decode cX3_countKnowing 2 = .ok (.iconst 0, 1) := by decide +kernel
theorem dX3_countKnowing_3 : decode cX3_countKnowing 3 = .ok (.istore_n 3, 1) := by decide +kernel
theorem dX3_countKnowing_4 : decode cX3_countKnowing 4 = .ok (.iload_n 3, 1) := by decide +kernel
theorem dX3_countKnowing_5 : decode cX3_countKnowing 5 = .ok (.iconst 5, 1) := by decide +kernel
theorem dX3_countKnowing_6 : decode cX3_countKnowing 6 = .ok (.if_icmp .ge 22, 3) := by decide +kernel
theorem dX3_countKnowing_9 : decode cX3_countKnowing 9 = .ok (.aload_n 0, 1) := by decide +kernel
theorem dX3_countKnowing_10 : decode cX3_countKnowing 10 = .ok (.getfield 19, 3) := by decide +kernel
theorem dX3_countKnowing_13 : decode cX3_countKnowing 13 = .ok (.iload_n 3, 1) := by decide +kernel
theorem dX3_countKnowing_14 : decode cX3_countKnowing 14 = .ok (.iaload, 1) := by decide +kernel
theorem dX3_countKnowing_15 : decode cX3_countKnowing 15 = .ok (.iload_n 1, 1) := by decide +kernel
theorem dX3_countKnowing_16 : decode cX3_countKnowing 16 = .ok (.if_icmp .le 6, 3) := by decide +kernel
theorem dX3_countKnowing_19 : decode cX3_countKnowing 19 = .ok (.iinc 2 1, 3) := by decide +kernel
theorem dX3_countKnowing_22 : decode cX3_countKnowing 22 = .ok (.iinc 3 1, 3) := by decide +kernel
theorem dX3_countKnowing_25 : decode cX3_countKnowing 25 = .ok (.goto (-21), 3) := by decide +kernel
theorem dX3_countKnowing_28 : decode cX3_countKnowing 28 = .ok (.iload_n 2, 1) := by decide +kernel
theorem dX3_countKnowing_29 : decode cX3_countKnowing 29 = .ok (.ireturn, 1) := by decide +kernel
theorem dX3_sumKnown_0 : decode cX3_sumKnown 0 = .ok (.iconst 0, 1) := by decide +kernel
theorem dX3_sumKnown_1 : decode cX3_sumKnown 1 = .ok (.istore_n 1, 1) := by decide +kernel
theorem dX3_sumKnown_2 : decode cX3_sumKnown 2 = .ok (.iconst 0, 1) := by decide +kernel
theorem dX3_sumKnown_3 : decode cX3_sumKnown 3 = .ok (.istore_n 2, 1) := by decide +kernel
theorem dX3_sumKnown_4 : decode cX3_sumKnown 4 = .ok (.iload_n 2, 1) := by decide +kernel
theorem dX3_sumKnown_5 : decode cX3_sumKnown 5 = .ok (.iconst 5, 1) := by decide +kernel
theorem dX3_sumKnown_6 : decode cX3_sumKnown 6 = .ok (.if_icmp .ge 18, 3) := by decide +kernel
theorem dX3_sumKnown_9 : decode cX3_sumKnown 9 = .ok (.iload_n 1, 1) := by decide +kernel
theorem dX3_sumKnown_10 : decode cX3_sumKnown 10 = .ok (.aload_n 0, 1) := by decide +kernel
theorem dX3_sumKnown_11 : decode cX3_sumKnown 11 = .ok (.getfield 19, 3) := by decide +kernel
theorem dX3_sumKnown_14 : decode cX3_sumKnown 14 = .ok (.iload_n 2, 1) := by decide +kernel
theorem dX3_sumKnown_15 : decode cX3_sumKnown 15 = .ok (.iaload, 1) := by decide +kernel
theorem dX3_sumKnown_16 : decode cX3_sumKnown 16 = .ok (.iadd, 1) := by decide +kernel
theorem dX3_sumKnown_17 : decode cX3_sumKnown 17 = .ok (.istore_n 1, 1) := by decide +kernel
theorem dX3_sumKnown_18 : decode cX3_sumKnown 18 = .ok (.iinc 2 1, 3) := by decide +kernel
theorem dX3_sumKnown_21 : decode cX3_sumKnown 21 = .ok (.goto (-17), 3) := by decide +kernel
theorem dX3_sumKnown_24 : decode cX3_sumKnown 24 = .ok (.iload_n 1, 1) := by decide +kernel
theorem dX3_sumKnown_25 : decode cX3_sumKnown 25 = .ok (.ireturn, 1) := by decide +kernel
theorem dX3_countUp_0 : decode cX3_countUp 0 = .ok (.iconst 0, 1) := by decide +kernel
theorem dX3_countUp_1 : decode cX3_countUp 1 = .ok (.istore_n 1, 1) := by decide +kernel
theorem dX3_countUp_2 : decode cX3_countUp 2 = .ok (.iconst 0, 1) := by decide +kernel
theorem dX3_countUp_3 : decode cX3_countUp 3 = .ok (.istore_n 2, 1) := by decide +kernel
theorem dX3_countUp_4 : decode cX3_countUp 4 = .ok (.iload_n 2, 1) := by decide +kernel
theorem dX3_countUp_5 : decode cX3_countUp 5 = .ok (.iconst 5, 1) := by decide +kernel
theorem dX3_countUp_6 : decode cX3_countUp 6 = .ok (.if_icmp .ge 21, 3) := by decide +kernel
theorem dX3_countUp_9 : decode cX3_countUp 9 = .ok (.aload_n 0, 1) := by decide +kernel
theorem dX3_countUp_10 : decode cX3_countUp 10 = .ok (.getfield 11, 3) := by decide +kernel
theorem dX3_countUp_13 : decode cX3_countUp 13 = .ok (.iload_n 2, 1) := by decide +kernel
theorem dX3_countUp_14 : decode cX3_countUp 14 = .ok (.baload, 1) := by decide +kernel
theorem dX3_countUp_15 : decode cX3_countUp 15 = .ok (.ifCond .ne 6, 3) := by decide +kernel
theorem dX3_countUp_18 : decode cX3_countUp 18 = .ok (.iinc 1 1, 3) := by decide +kernel
theorem dX3_countUp_21 : decode cX3_countUp 21 = .ok (.iinc 2 1, 3) := by decide +kernel
theorem dX3_countUp_24 : decode cX3_countUp 24 = .ok (.goto (-20), 3) := by decide +kernel
theorem dX3_countUp_27 : decode cX3_countUp 27 = .ok (.iload_n 1, 1) := by decide +kernel
theorem dX3_countUp_28 : decode cX3_countUp 28 = .ok (.ireturn, 1) := by decide +kernel
