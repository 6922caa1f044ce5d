theorem dX8_add_5 : decode cX8_add 5 = .ok (.iconst 4, 1) := by decide +kernel
theorem dX8_add_6 : decode cX8_add 6 = .ok (.if_icmp .gt 27, 3) := by decide +kernel
theorem dX8_add_9 : decode cX8_add 9 = .ok (.iload_n 3, 1) := by decide +kernel
theorem dX8_add_10 : decode cX8_add 10 = .ok (.ifCond .lt 23, 3) := by decide +kernel
theorem dX8_add_13 : decode cX8_add 13 = .ok (.iload_n 3, 1) := by decide +kernel
theorem dX8_add_14 : decode cX8_add 14 = .ok (.iconst 2, 1) := by decide +kernel
theorem dX8_add_15 : decode cX8_add 15 = .ok (.if_icmp .gt 18, 3) := by decide +kernel
theorem dX8_add_18 : decode cX8_add 18 = .ok (.iload 4, 2) := by decide +kernel
theorem dX8_add_20 : decode cX8_add 20 = .ok (.ifCond .lt 13, 3) := by decide +kernel
theorem dX8_add_23 : decode cX8_add 23 = .ok (.iload 4, 2) := by decide +kernel
theorem dX8_add_25 : decode cX8_add 25 = .ok (.iconst 3, 1) := by decide +kernel
theorem dX8_add_26 : decode cX8_add 26 = .ok (.if_icmp .gt 7, 3) := by decide +kernel
theorem dX8_add_29 : decode cX8_add 29 = .ok (.iconst 1, 1) := by decide +kernel
theorem dX8_add_30 : decode cX8_add 30 = .ok (.goto 4, 3) := by decide +kernel
theorem dX8_add_33 : decode cX8_add 33 = .ok (.iconst 0, 1) := by decide +kernel
theorem dX8_add_34 : decode cX8_add 34 = .ok (.istore 5, 2) := by decide +kernel
theorem dX8_add_36 : decode cX8_add 36 = .ok (.aload_n 0, 1) := by decide +kernel
theorem dX8_add_37 : decode cX8_add 37 = .ok (.aload_n 0, 1) := by decide +kernel
theorem dX8_add_38 : decode cX8_add 38 = .ok (.iload_n 1, 1) := by decide +kernel
theorem dX8_add_39 : decode cX8_add 39 = .ok (.invokevirtual 81, 3) := by decide +kernel
theorem dX8_add_42 : decode cX8_add 42 = .ok (.iload 5, 2) := by decide +kernel
theorem dX8_add_44 : decode cX8_add 44 = .ok (.aload_n 0, 1) := by decide +kernel
theorem dX8_add_45 : decode cX8_add 45 = .ok (.getfield 70, 3) := by decide +kernel
theorem dX8_add_48 : decode cX8_add 48 = .ok (.bipush 60, 2) := by decide +kernel
theorem dX8_add_50 : decode cX8_add 50 = .ok (.if_icmp .ge 7, 3) := by decide +kernel
theorem dX8_add_53 : decode cX8_add 53 = .ok (.iconst 1, 1) := by decide +kernel
theorem dX8_add_54 : decode cX8_add 54 = .ok (.goto 4, 3) := by decide +kernel
theorem dX8_add_57 : decode cX8_add 57 = .ok (.iconst 0, 1) := by decide +kernel
theorem dX8_add_58 : decode cX8_add 58 = .ok (.invokevirtual 93, 3) := by decide +kernel
theorem dX8_add_61 : decode cX8_add 61 = .ok (.ifCond .ne 5, 3) := by decide +kernel
theorem dX8_add_64 : decode cX8_add 64 = .ok (.iconst 0, 1) := by decide +kernel
theorem dX8_add_65 : decode cX8_add 65 = .ok (.ireturn, 1) := by decide +kernel
theorem dX8_add_66 : decode cX8_add 66 = .ok (.aload_n 0, 1) := by decide +kernel
theorem dX8_add_67 : decode cX8_add 67 = .ok (.iload_n 1, 1) := by decide +kernel
theorem dX8_add_68 : decode cX8_add 68 = .ok (.iload_n 2, 1) := by decide +kernel
theorem dX8_add_69 : decode cX8_add 69 = .ok (.iload_n 3, 1) := by decide +kernel
theorem dX8_add_70 : decode cX8_add 70 = .ok (.iload 4, 2) := by decide +kernel
theorem dX8_add_72 : decode cX8_add 72 = .ok (.invokevirtual 97, 3) := by decide +kernel
theorem dX8_add_75 : decode cX8_add 75 = .ok (.aload_n 0, 1) := by decide +kernel
theorem dX8_add_76 : decode cX8_add 76 = .ok (.getfield 70, 3) := by decide +kernel
theorem dX8_add_79 : decode cX8_add 79 = .ok (.iconst 1, 1) := by decide +kernel
theorem dX8_add_80 : decode cX8_add 80 = .ok (.isub, 1) := by decide +kernel
theorem dX8_add_81 : decode cX8_add 81 = .ok (.ireturn, 1) := by decide +kernel
theorem dX8_pair_0 : decode cX8_pair 0 = .ok (.iload_n 0, 1) := by decide +kernel
theorem dX8_pair_1 : decode cX8_pair 1 = .ok (.iconst 3, 1) := by decide +kernel
theorem dX8_pair_2 : decode cX8_pair 2 = .ok (.if_icmp .ge 7, 3) := by decide +kernel
theorem dX8_pair_5 : decode cX8_pair 5 = .ok (.iload_n 1, 1) := by decide +kernel
theorem dX8_pair_6 : decode cX8_pair 6 = .ok (.goto 13, 3) := by decide +kernel
theorem dX8_pair_9 : decode cX8_pair 9 = .ok (.iload_n 0, 1) := by decide +kernel
theorem dX8_pair_10 : decode cX8_pair 10 = .ok (.iconst 5, 1) := by decide +kernel
theorem dX8_pair_11 : decode cX8_pair 11 = .ok (.if_icmp .ge 7, 3) := by decide +kernel
theorem dX8_pair_14 : decode cX8_pair 14 = .ok (.iload_n 2, 1) := by decide +kernel
theorem dX8_pair_15 : decode cX8_pair 15 = .ok (.goto 4, 3) := by decide +kernel
theorem dX8_pair_18 : decode cX8_pair 18 = .ok (.iload_n 3, 1) := by decide +kernel
theorem dX8_pair_19 : decode cX8_pair 19 = .ok (.istore 5, 2) := by decide +kernel
theorem dX8_pair_21 : decode cX8_pair 21 = .ok (.iload_n 0, 1) := by decide +kernel
theorem dX8_pair_22 : decode cX8_pair 22 = .ok (.ifCond .ne 7, 3) := by decide +kernel
theorem dX8_pair_25 : decode cX8_pair 25 = .ok (.iload_n 2, 1) := by decide +kernel
theorem dX8_pair_26 : decode cX8_pair 26 = .ok (.goto 19, 3) := by decide +kernel
theorem dX8_pair_29 : decode cX8_pair 29 = .ok (.iload_n 0, 1) := by decide +kernel
theorem dX8_pair_30 : decode cX8_pair 30 = .ok (.iconst 1, 1) := by decide +kernel
theorem dX8_pair_31 : decode cX8_pair 31 = .ok (.if_icmp .eq 8, 3) := by decide +kernel
theorem dX8_pair_34 : decode cX8_pair 34 = .ok (.iload_n 0, 1) := by decide +kernel
theorem dX8_pair_35 : decode cX8_pair 35 = .ok (.iconst 3, 1) := by decide +kernel
theorem dX8_pair_36 : decode cX8_pair 36 = .ok (.if_icmp .ne 7, 3) := by decide +kernel
theorem dX8_pair_39 : decode cX8_pair 39 = .ok (.iload_n 3, 1) := by decide +kernel
theorem dX8_pair_40 : decode cX8_pair 40 = .ok (.goto 5, 3) := by decide +kernel
theorem dX8_pair_43 : decode cX8_pair 43 = .ok (.iload 4, 2) := by decide +kernel
theorem dX8_pair_45 : decode cX8_pair 45 = .ok (.istore 6, 2) := by decide +kernel
theorem dX8_pair_47 : decode cX8_pair 47 = .ok (.bipush 64, 2) := by decide +kernel
theorem dX8_pair_49 : decode cX8_pair 49 = .ok (.iload_n 0, 1) := by decide +kernel
theorem dX8_pair_50 : decode cX8_pair 50 = .ok (.imul, 1) := by decide +kernel
theorem dX8_pair_51 : decode cX8_pair 51 = .ok (.bipush 8, 2) := by decide +kernel
theorem dX8_pair_53 : decode cX8_pair 53 = .ok (.iload 5, 2) := by decide +kernel
theorem dX8_pair_55 : decode cX8_pair 55 = .ok (.imul, 1) := by decide +kernel
theorem dX8_pair_56 : decode cX8_pair 56 = .ok (.iadd, 1) := by decide +kernel
theorem dX8_pair_57 : decode cX8_pair 57 = .ok (.iload 6, 2) := by decide +kernel
theorem dX8_pair_59 : decode cX8_pair 59 = .ok (.iadd, 1) := by decide +kernel
theorem dX8_pair_60 : decode cX8_pair 60 = .ok (.ireturn, 1) := by decide +kernel
set_option maxRecDepth 20000 in
theorem ggX8_meet_X8_pair : GoodIn wsX8_meet wsX8_pair := goodIn_r _ [10] (by decide +kernel) (by decide +kernel)
set_option maxRecDepth 20000 in
theorem gX8_meet_X8_pair : GoodIn wsX8_meet (va_wsS RX8 101 yX8_pair wsX8_pair) := goodIn_app (goodIn_of _ (by decide +kernel)) ggX8_meet_X8_pair
theorem dX8_meet_0 : decode cX8_meet 0 = .ok (.iconst 0, 1) := by decide +kernel
theorem dX8_meet_1 : decode cX8_meet 1 = .ok (.istore_n 1, 1) := by decide +kernel
theorem dX8_meet_2 : decode cX8_meet 2 = .ok (.iload_n 1, 1) := by decide +kernel
theorem dX8_meet_3 : decode cX8_meet 3 = .ok (.sipush 384, 3) := by decide +kernel
theorem dX8_meet_6 : decode cX8_meet 6 = .ok (.if_icmp .ge 16, 3) := by decide +kernel
theorem dX8_meet_9 : decode cX8_meet 9 = .ok (.aload_n 0, 1) := by decide +kernel
theorem dX8_meet_10 : decode cX8_meet 10 = .ok (.getfield 56, 3) := by decide +kernel
theorem dX8_meet_13 : decode cX8_meet 13 = .ok (.iload_n 1, 1) := by decide +kernel
theorem dX8_meet_14 : decode cX8_meet 14 = .ok (.iconst 0, 1) := by decide +kernel
theorem dX8_meet_15 : decode cX8_meet 15 = .ok (.bastore, 1) := by decide +kernel
theorem dX8_meet_16 : decode cX8_meet 16 = .ok (.iinc 1 1, 3) := by decide +kernel
theorem dX8_meet_19 : decode cX8_meet 19 = .ok (.goto (-17), 3) := by decide +kernel
theorem dX8_meet_22 : decode cX8_meet 22 = .ok (.iconst 0, 1) := by decide +kernel
theorem dX8_meet_23 : decode cX8_meet 23 = .ok (.istore_n 1, 1) := by decide +kernel
theorem dX8_meet_24 : decode cX8_meet 24 = .ok (.iload_n 1, 1) := by decide +kernel
theorem dX8_meet_25 : decode cX8_meet 25 = .ok (.aload_n 0, 1) := by decide +kernel
theorem dX8_meet_26 : decode cX8_meet 26 = .ok (.getfield 70, 3) := by decide +kernel
theorem dX8_meet_29 : decode cX8_meet 29 = .ok (.if_icmp .ge 57, 3) := by decide +kernel
theorem dX8_meet_32 : decode cX8_meet 32 = .ok (.iconst 0, 1) := by decide +kernel
theorem dX8_meet_33 : decode cX8_meet 33 = .ok (.istore_n 2, 1) := by decide +kernel
theorem dX8_meet_34 : decode cX8_meet 34 = .ok (.iload_n 2, 1) := by decide +kernel
theorem dX8_meet_35 : decode cX8_meet 35 = .ok (.bipush 6, 2) := by decide +kernel
theorem dX8_meet_37 : decode cX8_meet 37 = .ok (.if_icmp .ge 43, 3) := by decide +kernel
theorem dX8_meet_40 : decode cX8_meet 40 = .ok (.aload_n 0, 1) := by decide +kernel
theorem dX8_meet_41 : decode cX8_meet 41 = .ok (.getfield 56, 3) := by decide +kernel
theorem dX8_meet_44 : decode cX8_meet 44 = .ok (.iload_n 2, 1) := by decide +kernel
theorem dX8_meet_45 : decode cX8_meet 45 = .ok (.aload_n 0, 1) := by decide +kernel
theorem dX8_meet_46 : decode cX8_meet 46 = .ok (.getfield 23, 3) := by decide +kernel
theorem dX8_meet_49 : decode cX8_meet 49 = .ok (.iload_n 1, 1) := by decide +kernel
theorem dX8_meet_50 : decode cX8_meet 50 = .ok (.iaload, 1) := by decide +kernel
theorem dX8_meet_51 : decode cX8_meet 51 = .ok (.aload_n 0, 1) := by decide +kernel
theorem dX8_meet_52 : decode cX8_meet 52 = .ok (.getfield 26, 3) := by decide +kernel
theorem dX8_meet_55 : decode cX8_meet 55 = .ok (.iload_n 1, 1) := by decide +kernel
theorem dX8_meet_56 : decode cX8_meet 56 = .ok (.iaload, 1) := by decide +kernel
theorem dX8_meet_57 : decode cX8_meet 57 = .ok (.aload_n 0, 1) := by decide +kernel
theorem dX8_meet_58 : decode cX8_meet 58 = .ok (.getfield 29, 3) := by decide +kernel
theorem dX8_meet_61 : decode cX8_meet 61 = .ok (.iload_n 1, 1) := by decide +kernel
theorem dX8_meet_62 : decode cX8_meet 62 = .ok (.iaload, 1) := by decide +kernel
theorem dX8_meet_63 : decode cX8_meet 63 = .ok (.aload_n 0, 1) := by decide +kernel
theorem dX8_meet_64 : decode cX8_meet 64 = .ok (.getfield 32, 3) := by decide +kernel
theorem dX8_meet_67 : decode cX8_meet 67 = .ok (.iload_n 1, 1) := by decide +kernel
theorem dX8_meet_68 : decode cX8_meet 68 = .ok (.iaload, 1) := by decide +kernel
theorem dX8_meet_69 : decode cX8_meet 69 = .ok (.invokestatic 101, 3) := by decide +kernel
theorem dX8_meet_72 : decode cX8_meet 72 = .ok (.iconst 1, 1) := by decide +kernel
theorem dX8_meet_73 : decode cX8_meet 73 = .ok (.bastore, 1) := by decide +kernel
theorem dX8_meet_74 : decode cX8_meet 74 = .ok (.iinc 2 1, 3) := by decide +kernel
theorem dX8_meet_77 : decode cX8_meet 77 = .ok (.goto (-43), 3) := by decide +kernel
theorem dX8_meet_80 : decode cX8_meet 80 = .ok (.iinc 1 1, 3) := by decide +kernel
theorem dX8_meet_83 : decode cX8_meet 83 = .ok (.goto (-59), 3) := by decide +kernel
theorem dX8_meet_86 : decode cX8_meet 86 = .ok (.return_, 1) := by decide +kernel
set_option maxRecDepth 20000 in
theorem ggX8_newPairs_X8_pair : GoodIn wsX8_newPairs wsX8_pair := goodIn_r _ [5] (by decide +kernel) (by decide +kernel)
set_option maxRecDepth 20000 in
theorem gX8_newPairs_X8_pair : GoodIn wsX8_newPairs (va_wsS RX8 101 yX8_pair wsX8_pair) := goodIn_app (goodIn_of _ (by decide +kernel)) ggX8_newPairs_X8_pair
theorem dX8_newPairs_0 : decode cX8_newPairs 0 = .ok (.iconst 0, 1) := by decide +kernel
theorem dX8_newPairs_1 : decode cX8_newPairs 1 = .ok (.istore 5, 2) := by decide +kernel
theorem dX8_newPairs_3 : decode cX8_newPairs 3 = .ok (.iconst 0, 1) := by decide +kernel
theorem dX8_newPairs_4 : decode cX8_newPairs 4 = .ok (.istore 6, 2) := by decide +kernel
theorem dX8_newPairs_6 : decode cX8_newPairs 6 = .ok (.iload 6, 2) := by decide +kernel
theorem dX8_newPairs_8 : decode cX8_newPairs 8 = .ok (.bipush 6, 2) := by decide +kernel
theorem dX8_newPairs_10 : decode cX8_newPairs 10 = .ok (.if_icmp .ge 37, 3) := by decide +kernel
theorem dX8_newPairs_13 : decode cX8_newPairs 13 = .ok (.iload 5, 2) := by decide +kernel
theorem dX8_newPairs_15 : decode cX8_newPairs 15 = .ok (.aload_n 0, 1) := by decide +kernel
theorem dX8_newPairs_16 : decode cX8_newPairs 16 = .ok (.getfield 56, 3) := by decide +kernel
theorem dX8_newPairs_19 : decode cX8_newPairs 19 = .ok (.iload 6, 2) := by decide +kernel
theorem dX8_newPairs_21 : decode cX8_newPairs 21 = .ok (.iload_n 1, 1) := by decide +kernel
theorem dX8_newPairs_22 : decode cX8_newPairs 22 = .ok (.iload_n 2, 1) := by decide +kernel
theorem dX8_newPairs_23 : decode cX8_newPairs 23 = .ok (.iload_n 3, 1) := by decide +kernel
theorem dX8_newPairs_24 : decode cX8_newPairs 24 = .ok (.iload 4, 2) := by decide +kernel
theorem dX8_newPairs_26 : decode cX8_newPairs 26 = .ok (.invokestatic 101, 3) := by decide +kernel
theorem dX8_newPairs_29 : decode cX8_newPairs 29 = .ok (.baload, 1) := by decide +kernel
theorem dX8_newPairs_30 : decode cX8_newPairs 30 = .ok (.ifCond .eq 7, 3) := by decide +kernel
theorem dX8_newPairs_33 : decode cX8_newPairs 33 = .ok (.iconst 0, 1) := by decide +kernel
theorem dX8_newPairs_34 : decode cX8_newPairs 34 = .ok (.goto 4, 3) := by decide +kernel
theorem dX8_newPairs_37 : decode cX8_newPairs 37 = .ok (.iconst 1, 1) := by decide +kernel
theorem dX8_newPairs_38 : decode cX8_newPairs 38 = .ok (.iadd, 1) := by decide +kernel
theorem dX8_newPairs_39 : decode cX8_newPairs 39 = .ok (.istore 5, 2) := by decide +kernel
theorem dX8_newPairs_41 : decode cX8_newPairs 41 = .ok (.iinc 6 1, 3) := by decide +kernel
theorem dX8_newPairs_44 : decode cX8_newPairs 44 = .ok (.goto (-38), 3) := by decide +kernel
theorem dX8_newPairs_47 : decode cX8_newPairs 47 = .ok (.iload 5, 2) := by decide +kernel
theorem dX8_newPairs_49 : decode cX8_newPairs 49 = .ok (.ireturn, 1) := by decide +kernel
set_option maxRecDepth 20000 in
theorem ggX8_addBest_X8_meet : GoodIn wsX8_addBest wsX8_meet := goodIn_r _ [7, 8, 2, 9, 10, 11, 12, 13, 14, 6, 15, 24, 25, 26, 27, 28, 29, 30, 31, 32, 33, 34, 35, 36, 37, 38, 39, 40, 41, 42, 43, 44, 45] (by decide +kernel) (by decide +kernel)
set_option maxRecDepth 20000 in
theorem gX8_addBest_X8_meet : GoodIn wsX8_addBest (wsV RX8 105 RX8 yX8_meet wsX8_meet) := goodIn_app (goodIn_of _ (by decide +kernel)) ggX8_addBest_X8_meet
set_option maxRecDepth 20000 in
theorem ggX8_addBest_X8_newPairs : GoodIn wsX8_addBest wsX8_newPairs := goodIn_r _ [19, 8, 13, 14, 6, 15, 24, 25, 26, 27, 28, 29, 30, 31, 32, 33, 34, 35, 36, 37, 38, 39, 40, 41, 42, 43, 44, 45] (by decide +kernel) (by decide +kernel)
set_option maxRecDepth 20000 in
theorem gX8_addBest_X8_newPairs : GoodIn wsX8_addBest (wsV RX8 108 RX8 yX8_newPairs wsX8_newPairs) := goodIn_app (goodIn_of _ (by decide +kernel)) ggX8_addBest_X8_newPairs
set_option maxRecDepth 20000 in
theorem ggX8_addBest_X8_put : GoodIn wsX8_addBest wsX8_put := goodIn_r _ [23, 9, 2, 10, 11, 12, 24, 25, 26, 27, 28, 29, 30, 31, 32, 33, 34, 35, 36, 37, 38, 39, 40, 41, 42, 43, 44, 45] (by decide +kernel) (by decide +kernel)
set_option maxRecDepth 20000 in
theorem gX8_addBest_X8_put : GoodIn wsX8_addBest (wsV RX8 97 RX8 yX8_put wsX8_put) := goodIn_app (goodIn_of _ (by decide +kernel)) ggX8_addBest_X8_put
theorem dX8_addBest_0 : decode cX8_addBest 0 = .ok (.iconst 0, 1) := by decide +kernel
theorem dX8_addBest_1 : decode cX8_addBest 1 = .ok (.istore_n 1, 1) := by decide +kernel
theorem dX8_addBest_2 : decode cX8_addBest 2 = .ok (.iconst 0, 1) := by decide +kernel
theorem dX8_addBest_3 : decode cX8_addBest 3 = .ok (.istore_n 2, 1) := by decide +kernel
theorem dX8_addBest_4 : decode cX8_addBest 4 = .ok (.aload_n 0, 1) := by decide +kernel
theorem dX8_addBest_5 : decode cX8_addBest 5 = .ok (.invokevirtual 105, 3) := by decide +kernel
theorem dX8_addBest_8 : decode cX8_addBest 8 = .ok (.iconst 0, 1) := by decide +kernel
theorem dX8_addBest_9 : decode cX8_addBest 9 = .ok (.istore_n 3, 1) := by decide +kernel
theorem dX8_addBest_10 : decode cX8_addBest 10 = .ok (.iload_n 3, 1) := by decide +kernel
theorem dX8_addBest_11 : decode cX8_addBest 11 = .ok (.bipush 60, 2) := by decide +kernel
theorem dX8_addBest_13 : decode cX8_addBest 13 = .ok (.aload_n 0, 1) := by decide +kernel
theorem dX8_addBest_14 : decode cX8_addBest 14 = .ok (.getfield 67, 3) := by decide +kernel
theorem dX8_addBest_17 : decode cX8_addBest 17 = .ok (.imul, 1) := by decide +kernel
theorem dX8_addBest_18 : decode cX8_addBest 18 = .ok (.if_icmp .ge 46, 3) := by decide +kernel
theorem dX8_addBest_21 : decode cX8_addBest 21 = .ok (.aload_n 0, 1) := by decide +kernel
theorem dX8_addBest_22 : decode cX8_addBest 22 = .ok (.iload_n 3, 1) := by decide +kernel
theorem dX8_addBest_23 : decode cX8_addBest 23 = .ok (.bipush 60, 2) := by decide +kernel
theorem dX8_addBest_25 : decode cX8_addBest 25 = .ok (.idiv, 1) := by decide +kernel
theorem dX8_addBest_26 : decode cX8_addBest 26 = .ok (.iload_n 3, 1) := by decide +kernel
theorem dX8_addBest_27 : decode cX8_addBest 27 = .ok (.bipush 60, 2) := by decide +kernel
theorem dX8_addBest_29 : decode cX8_addBest 29 = .ok (.irem, 1) := by decide +kernel
theorem dX8_addBest_30 : decode cX8_addBest 30 = .ok (.bipush 12, 2) := by decide +kernel
theorem dX8_addBest_32 : decode cX8_addBest 32 = .ok (.idiv, 1) := by decide +kernel
theorem dX8_addBest_33 : decode cX8_addBest 33 = .ok (.iload_n 3, 1) := by decide +kernel
theorem dX8_addBest_34 : decode cX8_addBest 34 = .ok (.bipush 12, 2) := by decide +kernel
theorem dX8_addBest_36 : decode cX8_addBest 36 = .ok (.irem, 1) := by decide +kernel
theorem dX8_addBest_37 : decode cX8_addBest 37 = .ok (.iconst 4, 1) := by decide +kernel
theorem dX8_addBest_38 : decode cX8_addBest 38 = .ok (.idiv, 1) := by decide +kernel
theorem dX8_addBest_39 : decode cX8_addBest 39 = .ok (.iload_n 3, 1) := by decide +kernel
theorem dX8_addBest_40 : decode cX8_addBest 40 = .ok (.iconst 4, 1) := by decide +kernel
theorem dX8_addBest_41 : decode cX8_addBest 41 = .ok (.irem, 1) := by decide +kernel
theorem dX8_addBest_42 : decode cX8_addBest 42 = .ok (.invokevirtual 108, 3) := by decide +kernel
theorem dX8_addBest_45 : decode cX8_addBest 45 = .ok (.istore 4, 2) := by decide +kernel
theorem dX8_addBest_47 : decode cX8_addBest 47 = .ok (.iload 4, 2) := by decide +kernel
theorem dX8_addBest_49 : decode cX8_addBest 49 = .ok (.iload_n 1, 1) := by decide +kernel
theorem dX8_addBest_50 : decode cX8_addBest 50 = .ok (.if_icmp .le 8, 3) := by decide +kernel
theorem dX8_addBest_53 : decode cX8_addBest 53 = .ok (.iload 4, 2) := by decide +kernel
theorem dX8_addBest_55 : decode cX8_addBest 55 = .ok (.istore_n 1, 1) := by decide +kernel
theorem dX8_addBest_56 : decode cX8_addBest 56 = .ok (.iload_n 3, 1) := by decide +kernel
theorem dX8_addBest_57 : decode cX8_addBest 57 = .ok (.istore_n 2, 1) := by decide +kernel
theorem dX8_addBest_58 : decode cX8_addBest 58 = .ok (.iinc 3 1, 3) := by decide +kernel
theorem dX8_addBest_61 : decode cX8_addBest 61 = .ok (.goto (-51), 3) := by decide +kernel
theorem dX8_addBest_64 : decode cX8_addBest 64 = .ok (.iload_n 1, 1) := by decide +kernel
theorem dX8_addBest_65 : decode cX8_addBest 65 = .ok (.ifCond .le 38, 3) := by decide +kernel
theorem dX8_addBest_68 : decode cX8_addBest 68 = .ok (.aload_n 0, 1) := by decide +kernel
theorem dX8_addBest_69 : decode cX8_addBest 69 = .ok (.getfield 70, 3) := by decide +kernel
theorem dX8_addBest_72 : decode cX8_addBest 72 = .ok (.bipush 60, 2) := by decide +kernel
theorem dX8_addBest_74 : decode cX8_addBest 74 = .ok (.if_icmp .ge 29, 3) := by decide +kernel
theorem dX8_addBest_77 : decode cX8_addBest 77 = .ok (.aload_n 0, 1) := by decide +kernel
theorem dX8_addBest_78 : decode cX8_addBest 78 = .ok (.iload_n 2, 1) := by decide +kernel
theorem dX8_addBest_79 : decode cX8_addBest 79 = .ok (.bipush 60, 2) := by decide +kernel
theorem dX8_addBest_81 : decode cX8_addBest 81 = .ok (.idiv, 1) := by decide +kernel
theorem dX8_addBest_82 : decode cX8_addBest 82 = .ok (.iload_n 2, 1) := by decide +kernel
theorem dX8_addBest_83 : decode cX8_addBest 83 = .ok (.bipush 60, 2) := by decide +kernel
theorem dX8_addBest_85 : decode cX8_addBest 85 = .ok (.irem, 1) := by decide +kernel
theorem dX8_addBest_86 : decode cX8_addBest 86 = .ok (.bipush 12, 2) := by decide +kernel
theorem dX8_addBest_88 : decode cX8_addBest 88 = .ok (.idiv, 1) := by decide +kernel
theorem dX8_addBest_89 : decode cX8_addBest 89 = .ok (.iload_n 2, 1) := by decide +kernel
theorem dX8_addBest_90 : decode cX8_addBest 90 = .ok (.bipush 12, 2) := by decide +kernel
theorem dX8_addBest_92 : decode cX8_addBest 92 = .ok (.irem, 1) := by decide +kernel
theorem dX8_addBest_93 : decode cX8_addBest 93 = .ok (.iconst 4, 1) := by decide +kernel
theorem dX8_addBest_94 : decode cX8_addBest 94 = .ok (.idiv, 1) := by decide +kernel
theorem dX8_addBest_95 : decode cX8_addBest 95 = .ok (.iload_n 2, 1) := by decide +kernel
theorem dX8_addBest_96 : decode cX8_addBest 96 = .ok (.iconst 4, 1) := by decide +kernel
theorem dX8_addBest_97 : decode cX8_addBest 97 = .ok (.irem, 1) := by decide +kernel
theorem dX8_addBest_98 : decode cX8_addBest 98 = .ok (.invokevirtual 97, 3) := by decide +kernel
theorem dX8_addBest_101 : decode cX8_addBest 101 = .ok (.iconst 1, 1) := by decide +kernel
theorem dX8_addBest_102 : decode cX8_addBest 102 = .ok (.ireturn, 1) := by decide +kernel
theorem dX8_addBest_103 : decode cX8_addBest 103 = .ok (.iconst 0, 1) := by decide +kernel
theorem dX8_addBest_104 : decode cX8_addBest 104 = .ok (.ireturn, 1) := by decide +kernel
set_option maxRecDepth 20000 in
theorem ggX8_cover_X8_addBest : GoodIn wsX8_cover wsX8_addBest := goodIn_r _ [7, 8, 1, 9, 10, 11, 6, 12, 13, 14, 15, 16, 17, 18, 19, 20, 21, 22, 23, 24, 25, 26, 27, 28, 41, 42, 43, 44, 45, 46, 47, 48, 49, 50, 51, 52, 53, 54, 55, 56, 57, 58, 59, 60, 61, 62] (by decide +kernel) (by decide +kernel)
set_option maxRecDepth 20000 in
theorem gX8_cover_X8_addBest : GoodIn wsX8_cover (wsV RX8 112 RX8 yX8_addBest wsX8_addBest) := goodIn_app (goodIn_of _ (by decide +kernel)) ggX8_cover_X8_addBest
set_option maxRecDepth 20000 in
theorem ggX8_cover_X8_meet : GoodIn wsX8_cover wsX8_meet := goodIn_r _ [12, 13, 1, 14, 15, 16, 17, 18, 19, 6, 20, 41, 42, 43, 44, 45, 46, 47, 48, 49, 50, 51, 52, 53, 54, 55, 56, 57, 58, 59, 60, 61, 62] (by decide +kernel) (by decide +kernel)
set_option maxRecDepth 20000 in
theorem gX8_cover_X8_meet : GoodIn wsX8_cover (wsV RX8 105 RX8 yX8_meet wsX8_meet) := goodIn_app (goodIn_of _ (by decide +kernel)) ggX8_cover_X8_meet
set_option maxRecDepth 20000 in
theorem ggX8_cover_X8_metPairs : GoodIn wsX8_cover wsX8_metPairs := goodIn_r _ [32, 13, 41, 42, 43, 44, 45, 46, 47, 48, 49, 50, 51, 52, 53, 54, 55, 56, 57, 58, 59, 60, 61, 62] (by decide +kernel) (by decide +kernel)
set_option maxRecDepth 20000 in
theorem gX8_cover_X8_metPairs : GoodIn wsX8_cover (wsV RX8 116 RX8 yX8_metPairs wsX8_metPairs) := goodIn_app (goodIn_of _ (by decide +kernel)) ggX8_cover_X8_metPairs
set_option maxRecDepth 20000 in
theorem ggX8_cover_X8_allPairs : GoodIn wsX8_cover wsX8_allPairs := goodIn_r _ [36, 8, 41, 42, 43, 44, 45, 46, 47, 48, 49, 50, 51, 52, 53, 54, 55, 56, 57, 58, 59, 60, 61, 62] (by decide +kernel) (by decide +kernel)
set_option maxRecDepth 20000 in
theorem gX8_cover_X8_allPairs : GoodIn wsX8_cover (wsV RX8 120 RX8 yX8_allPairs wsX8_allPairs) := goodIn_app (goodIn_of _ (by decide +kernel)) ggX8_cover_X8_allPairs
set_option maxRecDepth 20000 in
theorem ggX8_cover_X8_may : GoodIn wsX8_cover wsX8_may := goodIn_r _ [40, 2, 41, 42, 43, 44, 45, 46, 47, 48, 49, 50, 51, 52, 53, 54, 55, 56, 57, 58, 59, 60, 61, 62] (by decide +kernel) (by decide +kernel)
set_option maxRecDepth 20000 in
theorem gX8_cover_X8_may : GoodIn wsX8_cover (wsV RX8 77 RX8 yX8_may wsX8_may) := goodIn_app (goodIn_of _ (by decide +kernel)) ggX8_cover_X8_may
theorem dX8_cover_0 : decode cX8_cover 0 = .ok (.aload_n 0, 1) := by decide +kernel
theorem dX8_cover_1 : decode cX8_cover 1 = .ok (.getfield 70, 3) := by decide +kernel
theorem dX8_cover_4 : decode cX8_cover 4 = .ok (.istore_n 1, 1) := by decide +kernel
theorem dX8_cover_5 : decode cX8_cover 5 = .ok (.aload_n 0, 1) := by decide +kernel
theorem dX8_cover_6 : decode cX8_cover 6 = .ok (.invokevirtual 112, 3) := by decide +kernel
theorem dX8_cover_9 : decode cX8_cover 9 = .ok (.ifCond .eq 11, 3) := by decide +kernel
theorem dX8_cover_12 : decode cX8_cover 12 = .ok (.aload_n 0, 1) := by decide +kernel
theorem dX8_cover_13 : decode cX8_cover 13 = .ok (.iconst 0, 1) := by decide +kernel
theorem dX8_cover_14 : decode cX8_cover 14 = .ok (.putfield 63, 3) := by decide +kernel
theorem dX8_cover_17 : decode cX8_cover 17 = .ok (.goto (-12), 3) := by decide +kernel
theorem dX8_cover_20 : decode cX8_cover 20 = .ok (.aload_n 0, 1) := by decide +kernel
theorem dX8_cover_21 : decode cX8_cover 21 = .ok (.invokevirtual 105, 3) := by decide +kernel
theorem dX8_cover_24 : decode cX8_cover 24 = .ok (.aload_n 0, 1) := by decide +kernel
theorem dX8_cover_25 : decode cX8_cover 25 = .ok (.aload_n 0, 1) := by decide +kernel
theorem dX8_cover_26 : decode cX8_cover 26 = .ok (.invokevirtual 116, 3) := by decide +kernel
theorem dX8_cover_29 : decode cX8_cover 29 = .ok (.aload_n 0, 1) := by decide +kernel
theorem dX8_cover_30 : decode cX8_cover 30 = .ok (.invokevirtual 120, 3) := by decide +kernel
theorem dX8_cover_33 : decode cX8_cover 33 = .ok (.if_icmp .ne 7, 3) := by decide +kernel
theorem dX8_cover_36 : decode cX8_cover 36 = .ok (.iconst 1, 1) := by decide +kernel
theorem dX8_cover_37 : decode cX8_cover 37 = .ok (.goto 4, 3) := by decide +kernel
theorem dX8_cover_40 : decode cX8_cover 40 = .ok (.iconst 0, 1) := by decide +kernel
theorem dX8_cover_41 : decode cX8_cover 41 = .ok (.invokevirtual 77, 3) := by decide +kernel
theorem dX8_cover_44 : decode cX8_cover 44 = .ok (.ifCond .ne 10, 3) := by decide +kernel
theorem dX8_cover_47 : decode cX8_cover 47 = .ok (.aload_n 0, 1) := by decide +kernel
theorem dX8_cover_48 : decode cX8_cover 48 = .ok (.iload_n 1, 1) := by decide +kernel
theorem dX8_cover_49 : decode cX8_cover 49 = .ok (.putfield 70, 3) := by decide +kernel
theorem dX8_cover_52 : decode cX8_cover 52 = .ok (.iconst 0, 1) := by decide +kernel
theorem dX8_cover_53 : decode cX8_cover 53 = .ok (.ireturn, 1) := by decide +kernel
theorem dX8_cover_54 : decode cX8_cover 54 = .ok (.aload_n 0, 1) := by decide +kernel
theorem dX8_cover_55 : decode cX8_cover 55 = .ok (.getfield 70, 3) := by decide +kernel
theorem dX8_cover_58 : decode cX8_cover 58 = .ok (.iload_n 1, 1) := by decide +kernel
theorem dX8_cover_59 : decode cX8_cover 59 = .ok (.isub, 1) := by decide +kernel
theorem dX8_cover_60 : decode cX8_cover 60 = .ok (.ireturn, 1) := by decide +kernel
theorem dX8_clear_0 : decode cX8_clear 0 = .ok (.aload_n 0, 1) := by decide +kernel
theorem dX8_clear_1 : decode cX8_clear 1 = .ok (.iconst 0, 1) := by decide +kernel
theorem dX8_clear_2 : decode cX8_clear 2 = .ok (.putfield 63, 3) := by decide +kernel
theorem dX8_clear_5 : decode cX8_clear 5 = .ok (.aload_n 0, 1) := by decide +kernel
theorem dX8_clear_6 : decode cX8_clear 6 = .ok (.iconst 0, 1) := by decide +kernel
theorem dX8_clear_7 : decode cX8_clear 7 = .ok (.putfield 70, 3) := by decide +kernel
theorem dX8_clear_10 : decode cX8_clear 10 = .ok (.return_, 1) := by decide +kernel
theorem dX8_frames_0 : decode cX8_frames 0 = .ok (.aload_n 0, 1) := by decide +kernel
theorem dX8_frames_1 : decode cX8_frames 1 = .ok (.iconst 0, 1) := by decide +kernel
theorem dX8_frames_2 : decode cX8_frames 2 = .ok (.putfield 63, 3) := by decide +kernel
theorem dX8_frames_5 : decode cX8_frames 5 = .ok (.aload_n 0, 1) := by decide +kernel
theorem dX8_frames_6 : decode cX8_frames 6 = .ok (.getfield 70, 3) := by decide +kernel
theorem dX8_frames_9 : decode cX8_frames 9 = .ok (.ireturn, 1) := by decide +kernel
set_option maxRecDepth 20000 in
theorem ggX8_frameAt_X8_isFrame : GoodIn wsX8_frameAt wsX8_isFrame := goodIn_r _ [9, 10, 16, 17, 18, 19, 20, 21, 22, 23, 24, 25, 26, 27, 28, 29, 30, 31, 32, 33, 34, 35, 36, 37] (by decide +kernel) (by decide +kernel)
set_option maxRecDepth 20000 in
theorem gX8_frameAt_X8_isFrame : GoodIn wsX8_frameAt (wsV RX8 123 RX8 yX8_isFrame wsX8_isFrame) := goodIn_app (goodIn_of _ (by decide +kernel)) ggX8_frameAt_X8_isFrame
set_option maxRecDepth 20000 in
theorem ggX8_frameAt_X8_may : GoodIn wsX8_frameAt wsX8_may := goodIn_r _ [14, 15, 16, 17, 18, 19, 20, 21, 22, 23, 24, 25, 26, 27, 28, 29, 30, 31, 32, 33, 34, 35, 36, 37] (by decide +kernel) (by decide +kernel)
set_option maxRecDepth 20000 in
theorem gX8_frameAt_X8_may : GoodIn wsX8_frameAt (wsV RX8 77 RX8 yX8_may wsX8_may) := goodIn_app (goodIn_of _ (by decide +kernel)) ggX8_frameAt_X8_may
theorem dX8_frameAt_0 : decode cX8_frameAt 0 = .ok (.aload_n 0, 1) := by decide +kernel
theorem dX8_frameAt_1 : decode cX8_frameAt 1 = .ok (.aload_n 0, 1) := by decide +kernel
theorem dX8_frameAt_2 : decode cX8_frameAt 2 = .ok (.iload_n 1, 1) := by decide +kernel
theorem dX8_frameAt_3 : decode cX8_frameAt 3 = .ok (.invokevirtual 123, 3) := by decide +kernel
theorem dX8_frameAt_6 : decode cX8_frameAt 6 = .ok (.invokevirtual 77, 3) := by decide +kernel
theorem dX8_frameAt_9 : decode cX8_frameAt 9 = .ok (.ifCond .eq 43, 3) := by decide +kernel
theorem dX8_frameAt_12 : decode cX8_frameAt 12 = .ok (.sipush 1000, 3) := by decide +kernel
theorem dX8_frameAt_15 : decode cX8_frameAt 15 = .ok (.aload_n 0, 1) := by decide +kernel
theorem dX8_frameAt_16 : decode cX8_frameAt 16 = .ok (.getfield 23, 3) := by decide +kernel
theorem dX8_frameAt_19 : decode cX8_frameAt 19 = .ok (.iload_n 1, 1) := by decide +kernel
theorem dX8_frameAt_20 : decode cX8_frameAt 20 = .ok (.iaload, 1) := by decide +kernel
theorem dX8_frameAt_21 : decode cX8_frameAt 21 = .ok (.imul, 1) := by decide +kernel
theorem dX8_frameAt_22 : decode cX8_frameAt 22 = .ok (.bipush 100, 2) := by decide +kernel
theorem dX8_frameAt_24 : decode cX8_frameAt 24 = .ok (.aload_n 0, 1) := by decide +kernel
theorem dX8_frameAt_25 : decode cX8_frameAt 25 = .ok (.getfield 26, 3) := by decide +kernel
theorem dX8_frameAt_28 : decode cX8_frameAt 28 = .ok (.iload_n 1, 1) := by decide +kernel
theorem dX8_frameAt_29 : decode cX8_frameAt 29 = .ok (.iaload, 1) := by decide +kernel
theorem dX8_frameAt_30 : decode cX8_frameAt 30 = .ok (.imul, 1) := by decide +kernel
theorem dX8_frameAt_31 : decode cX8_frameAt 31 = .ok (.iadd, 1) := by decide +kernel
theorem dX8_frameAt_32 : decode cX8_frameAt 32 = .ok (.bipush 10, 2) := by decide +kernel
theorem dX8_frameAt_34 : decode cX8_frameAt 34 = .ok (.aload_n 0, 1) := by decide +kernel
theorem dX8_frameAt_35 : decode cX8_frameAt 35 = .ok (.getfield 29, 3) := by decide +kernel
theorem dX8_frameAt_38 : decode cX8_frameAt 38 = .ok (.iload_n 1, 1) := by decide +kernel
theorem dX8_frameAt_39 : decode cX8_frameAt 39 = .ok (.iaload, 1) := by decide +kernel
theorem dX8_frameAt_40 : decode cX8_frameAt 40 = .ok (.imul, 1) := by decide +kernel
theorem dX8_frameAt_41 : decode cX8_frameAt 41 = .ok (.iadd, 1) := by decide +kernel
theorem dX8_frameAt_42 : decode cX8_frameAt 42 = .ok (.aload_n 0, 1) := by decide +kernel
theorem dX8_frameAt_43 : decode cX8_frameAt 43 = .ok (.getfield 32, 3) := by decide +kernel
theorem dX8_frameAt_46 : decode cX8_frameAt 46 = .ok (.iload_n 1, 1) := by decide +kernel
theorem dX8_frameAt_47 : decode cX8_frameAt 47 = .ok (.iaload, 1) := by decide +kernel
theorem dX8_frameAt_48 : decode cX8_frameAt 48 = .ok (.iadd, 1) := by decide +kernel
theorem dX8_frameAt_49 : decode cX8_frameAt 49 = .ok (.goto 4, 3) := by decide +kernel
theorem dX8_frameAt_52 : decode cX8_frameAt 52 = .ok (.iconst 0, 1) := by decide +kernel
theorem dX8_frameAt_53 : decode cX8_frameAt 53 = .ok (.ireturn, 1) := by decide +kernel
theorem dX8_allPairs_0 : decode cX8_allPairs 0 = .ok (.aload_n 0, 1) := by decide +kernel
theorem dX8_allPairs_1 : decode cX8_allPairs 1 = .ok (.getfield 67, 3) := by decide +kernel
theorem dX8_allPairs_4 : decode cX8_allPairs 4 = .ok (.bipush 12, 2) := by decide +kernel
theorem dX8_allPairs_6 : decode cX8_allPairs 6 = .ok (.imul, 1) := by decide +kernel
theorem dX8_allPairs_7 : decode cX8_allPairs 7 = .ok (.bipush 35, 2) := by decide +kernel
theorem dX8_allPairs_9 : decode cX8_allPairs 9 = .ok (.iadd, 1) := by decide +kernel
theorem dX8_allPairs_10 : decode cX8_allPairs 10 = .ok (.bipush 12, 2) := by decide +kernel
theorem dX8_allPairs_12 : decode cX8_allPairs 12 = .ok (.iadd, 1) := by decide +kernel
theorem dX8_allPairs_13 : decode cX8_allPairs 13 = .ok (.ireturn, 1) := by decide +kernel
theorem dX8_metPairs_0 : decode cX8_metPairs 0 = .ok (.iconst 0, 1) := by decide +kernel
theorem dX8_metPairs_1 : decode cX8_metPairs 1 = .ok (.istore_n 1, 1) := by decide +kernel
theorem dX8_metPairs_2 : decode cX8_metPairs 2 = .ok (.iconst 0, 1) := by decide +kernel
theorem dX8_metPairs_3 : decode cX8_metPairs 3 = .ok (.istore_n 2, 1) := by decide +kernel
theorem dX8_metPairs_4 : decode cX8_metPairs 4 = .ok (.iload_n 2, 1) := by decide +kernel
theorem dX8_metPairs_5 : decode cX8_metPairs 5 = .ok (.sipush 384, 3) := by decide +kernel
theorem dX8_metPairs_8 : decode cX8_metPairs 8 = .ok (.if_icmp .ge 26, 3) := by decide +kernel
theorem dX8_metPairs_11 : decode cX8_metPairs 11 = .ok (.iload_n 1, 1) := by decide +kernel
theorem dX8_metPairs_12 : decode cX8_metPairs 12 = .ok (.aload_n 0, 1) := by decide +kernel
theorem dX8_metPairs_13 : decode cX8_metPairs 13 = .ok (.getfield 56, 3) := by decide +kernel
theorem dX8_metPairs_16 : decode cX8_metPairs 16 = .ok (.iload_n 2, 1) := by decide +kernel
theorem dX8_metPairs_17 : decode cX8_metPairs 17 = .ok (.baload, 1) := by decide +kernel
theorem dX8_metPairs_18 : decode cX8_metPairs 18 = .ok (.ifCond .eq 7, 3) := by decide +kernel
theorem dX8_metPairs_21 : decode cX8_metPairs 21 = .ok (.iconst 1, 1) := by decide +kernel
theorem dX8_metPairs_22 : decode cX8_metPairs 22 = .ok (.goto 4, 3) := by decide +kernel
theorem dX8_metPairs_25 : decode cX8_metPairs 25 = .ok (.iconst 0, 1) := by decide +kernel
theorem dX8_metPairs_26 : decode cX8_metPairs 26 = .ok (.iadd, 1) := by decide +kernel
theorem dX8_metPairs_27 : decode cX8_metPairs 27 = .ok (.istore_n 1, 1) := by decide +kernel
theorem dX8_metPairs_28 : decode cX8_metPairs 28 = .ok (.iinc 2 1, 3) := by decide +kernel
theorem dX8_metPairs_31 : decode cX8_metPairs 31 = .ok (.goto (-27), 3) := by decide +kernel
theorem dX8_metPairs_34 : decode cX8_metPairs 34 = .ok (.iload_n 1, 1) := by decide +kernel
theorem dX8_metPairs_35 : decode cX8_metPairs 35 = .ok (.ireturn, 1) := by decide +kernel
set_option maxRecDepth 20000 in
theorem ggX8_pairs_X8_allPairs : GoodIn wsX8_pairs wsX8_allPairs := goodIn_r _ [6, 7, 8, 9, 10, 11, 12, 13, 14, 15, 16, 17, 18, 19, 20, 21, 22, 23, 24, 25, 26, 27, 28, 29] (by decide +kernel) (by decide +kernel)
set_option maxRecDepth 20000 in
theorem gX8_pairs_X8_allPairs : GoodIn wsX8_pairs (wsV RX8 120 RX8 yX8_allPairs wsX8_allPairs) := goodIn_app (goodIn_of _ (by decide +kernel)) ggX8_pairs_X8_allPairs
theorem dX8_pairs_0 : decode cX8_pairs 0 = .ok (.aload_n 0, 1) := by decide +kernel
theorem dX8_pairs_1 : decode cX8_pairs 1 = .ok (.iconst 0, 1) := by decide +kernel
theorem dX8_pairs_2 : decode cX8_pairs 2 = .ok (.putfield 63, 3) := by decide +kernel
theorem dX8_pairs_5 : decode cX8_pairs 5 = .ok (.aload_n 0, 1) := by decide +kernel
theorem dX8_pairs_6 : decode cX8_pairs 6 = .ok (.invokevirtual 120, 3) := by decide +kernel
theorem dX8_pairs_9 : decode cX8_pairs 9 = .ok (.ireturn, 1) := by decide +kernel
set_option maxRecDepth 20000 in
theorem ggX8_pairsMet_X8_meet : GoodIn wsX8_pairsMet wsX8_meet := goodIn_r _ [6, 7, 8, 9, 10, 11, 12, 13, 14, 5, 15, 20, 21, 22, 23, 24, 25, 26, 27, 28, 29, 30, 31, 32, 33, 34, 35, 36, 37, 38, 39, 40, 41] (by decide +kernel) (by decide +kernel)
set_option maxRecDepth 20000 in
theorem gX8_pairsMet_X8_meet : GoodIn wsX8_pairsMet (wsV RX8 105 RX8 yX8_meet wsX8_meet) := goodIn_app (goodIn_of _ (by decide +kernel)) ggX8_pairsMet_X8_meet
set_option maxRecDepth 20000 in
theorem ggX8_pairsMet_X8_metPairs : GoodIn wsX8_pairsMet wsX8_metPairs := goodIn_r _ [19, 7, 20, 21, 22, 23, 24, 25, 26, 27, 28, 29, 30, 31, 32, 33, 34, 35, 36, 37, 38, 39, 40, 41] (by decide +kernel) (by decide +kernel)
set_option maxRecDepth 20000 in
theorem gX8_pairsMet_X8_metPairs : GoodIn wsX8_pairsMet (wsV RX8 116 RX8 yX8_metPairs wsX8_metPairs) := goodIn_app (goodIn_of _ (by decide +kernel)) ggX8_pairsMet_X8_metPairs
theorem dX8_pairsMet_0 : decode cX8_pairsMet 0 = .ok (.aload_n 0, 1) := by decide +kernel
theorem dX8_pairsMet_1 : decode cX8_pairsMet 1 = .ok (.iconst 0, 1) := by decide +kernel
theorem dX8_pairsMet_2 : decode cX8_pairsMet 2 = .ok (.putfield 63, 3) := by decide +kernel
theorem dX8_pairsMet_5 : decode cX8_pairsMet 5 = .ok (.aload_n 0, 1) := by decide +kernel
theorem dX8_pairsMet_6 : decode cX8_pairsMet 6 = .ok (.invokevirtual 105, 3) := by decide +kernel
theorem dX8_pairsMet_9 : decode cX8_pairsMet 9 = .ok (.aload_n 0, 1) := by decide +kernel
theorem dX8_pairsMet_10 : decode cX8_pairsMet 10 = .ok (.invokevirtual 116, 3) := by decide +kernel
theorem dX8_pairsMet_13 : decode cX8_pairsMet 13 = .ok (.ireturn, 1) := by decide +kernel
set_option maxRecDepth 20000 in
theorem ggX8_networkOf_X8_has : GoodIn wsX8_networkOf wsX8_has := goodIn_r _ [10] (by decide +kernel) (by decide +kernel)
set_option maxRecDepth 20000 in
theorem gX8_networkOf_X8_has : GoodIn wsX8_networkOf (va_wsS RX8 89 yX8_has wsX8_has) := goodIn_app (goodIn_of _ (by decide +kernel)) ggX8_networkOf_X8_has
theorem dX8_networkOf_0 : decode cX8_networkOf 0 = .ok (.aload_n 0, 1) := by decide +kernel
theorem dX8_networkOf_1 : decode cX8_networkOf 1 = .ok (.getfield 23, 3) := by decide +kernel
theorem dX8_networkOf_4 : decode cX8_networkOf 4 = .ok (.iload_n 1, 1) := by decide +kernel
theorem dX8_networkOf_5 : decode cX8_networkOf 5 = .ok (.iaload, 1) := by decide +kernel
theorem dX8_networkOf_6 : decode cX8_networkOf 6 = .ok (.istore_n 2, 1) := by decide +kernel
theorem dX8_networkOf_7 : decode cX8_networkOf 7 = .ok (.aload_n 0, 1) := by decide +kernel
theorem dX8_networkOf_8 : decode cX8_networkOf 8 = .ok (.getfield 26, 3) := by decide +kernel
theorem dX8_networkOf_11 : decode cX8_networkOf 11 = .ok (.iload_n 1, 1) := by decide +kernel
theorem dX8_networkOf_12 : decode cX8_networkOf 12 = .ok (.iaload, 1) := by decide +kernel
theorem dX8_networkOf_13 : decode cX8_networkOf 13 = .ok (.istore_n 3, 1) := by decide +kernel
theorem dX8_networkOf_14 : decode cX8_networkOf 14 = .ok (.aload_n 0, 1) := by decide +kernel
theorem dX8_networkOf_15 : decode cX8_networkOf 15 = .ok (.getfield 38, 3) := by decide +kernel
theorem dX8_networkOf_18 : decode cX8_networkOf 18 = .ok (.iload_n 2, 1) := by decide +kernel
theorem dX8_networkOf_19 : decode cX8_networkOf 19 = .ok (.iaload, 1) := by decide +kernel
theorem dX8_networkOf_20 : decode cX8_networkOf 20 = .ok (.iconst 0, 1) := by decide +kernel
theorem dX8_networkOf_21 : decode cX8_networkOf 21 = .ok (.invokestatic 89, 3) := by decide +kernel
theorem dX8_networkOf_24 : decode cX8_networkOf 24 = .ok (.ifCond .ne 20, 3) := by decide +kernel
theorem dX8_networkOf_27 : decode cX8_networkOf 27 = .ok (.iload_n 3, 1) := by decide +kernel
theorem dX8_networkOf_28 : decode cX8_networkOf 28 = .ok (.ifCond .ne 19, 3) := by decide +kernel
theorem dX8_networkOf_31 : decode cX8_networkOf 31 = .ok (.aload_n 0, 1) := by decide +kernel
theorem dX8_networkOf_32 : decode cX8_networkOf 32 = .ok (.getfield 38, 3) := by decide +kernel
theorem dX8_networkOf_35 : decode cX8_networkOf 35 = .ok (.iload_n 2, 1) := by decide +kernel
theorem dX8_networkOf_36 : decode cX8_networkOf 36 = .ok (.iaload, 1) := by decide +kernel
theorem dX8_networkOf_37 : decode cX8_networkOf 37 = .ok (.iconst 3, 1) := by decide +kernel
theorem dX8_networkOf_38 : decode cX8_networkOf 38 = .ok (.invokestatic 89, 3) := by decide +kernel
theorem dX8_networkOf_41 : decode cX8_networkOf 41 = .ok (.ifCond .eq 6, 3) := by decide +kernel
theorem dX8_networkOf_44 : decode cX8_networkOf 44 = .ok (.bipush (-6), 2) := by decide +kernel
theorem dX8_networkOf_46 : decode cX8_networkOf 46 = .ok (.ireturn, 1) := by decide +kernel
theorem dX8_networkOf_47 : decode cX8_networkOf 47 = .ok (.iload_n 3, 1) := by decide +kernel
theorem dX8_networkOf_48 : decode cX8_networkOf 48 = .ok (.ifCond .le 18, 3) := by decide +kernel
theorem dX8_networkOf_51 : decode cX8_networkOf 51 = .ok (.aload_n 0, 1) := by decide +kernel
theorem dX8_networkOf_52 : decode cX8_networkOf 52 = .ok (.getfield 38, 3) := by decide +kernel
theorem dX8_networkOf_55 : decode cX8_networkOf 55 = .ok (.iload_n 2, 1) := by decide +kernel
theorem dX8_networkOf_56 : decode cX8_networkOf 56 = .ok (.iaload, 1) := by decide +kernel
theorem dX8_networkOf_57 : decode cX8_networkOf 57 = .ok (.iconst 4, 1) := by decide +kernel
theorem dX8_networkOf_58 : decode cX8_networkOf 58 = .ok (.invokestatic 89, 3) := by decide +kernel
theorem dX8_networkOf_61 : decode cX8_networkOf 61 = .ok (.ifCond .eq 5, 3) := by decide +kernel
theorem dX8_networkOf_64 : decode cX8_networkOf 64 = .ok (.iload_n 3, 1) := by decide +kernel
theorem dX8_networkOf_65 : decode cX8_networkOf 65 = .ok (.ireturn, 1) := by decide +kernel
theorem dX8_networkOf_66 : decode cX8_networkOf 66 = .ok (.aload_n 0, 1) := by decide +kernel
theorem dX8_networkOf_67 : decode cX8_networkOf 67 = .ok (.getfield 13, 3) := by decide +kernel
theorem dX8_networkOf_70 : decode cX8_networkOf 70 = .ok (.iload_n 2, 1) := by decide +kernel
theorem dX8_networkOf_71 : decode cX8_networkOf 71 = .ok (.baload, 1) := by decide +kernel
theorem dX8_networkOf_72 : decode cX8_networkOf 72 = .ok (.ifCond .ne 18, 3) := by decide +kernel
theorem dX8_networkOf_75 : decode cX8_networkOf 75 = .ok (.iload_n 3, 1) := by decide +kernel
theorem dX8_networkOf_76 : decode cX8_networkOf 76 = .ok (.ifCond .ne 12, 3) := by decide +kernel
theorem dX8_networkOf_79 : decode cX8_networkOf 79 = .ok (.aload_n 0, 1) := by decide +kernel
theorem dX8_networkOf_80 : decode cX8_networkOf 80 = .ok (.getfield 17, 3) := by decide +kernel
theorem dX8_networkOf_83 : decode cX8_networkOf 83 = .ok (.iload_n 2, 1) := by decide +kernel
theorem dX8_networkOf_84 : decode cX8_networkOf 84 = .ok (.iaload, 1) := by decide +kernel
theorem dX8_networkOf_85 : decode cX8_networkOf 85 = .ok (.goto 4, 3) := by decide +kernel
theorem dX8_networkOf_88 : decode cX8_networkOf 88 = .ok (.iconst (-1), 1) := by decide +kernel
theorem dX8_networkOf_89 : decode cX8_networkOf 89 = .ok (.ireturn, 1) := by decide +kernel
theorem dX8_networkOf_90 : decode cX8_networkOf 90 = .ok (.iload_n 3, 1) := by decide +kernel
theorem dX8_networkOf_91 : decode cX8_networkOf 91 = .ok (.ifCond .ne 24, 3) := by decide +kernel
theorem dX8_networkOf_94 : decode cX8_networkOf 94 = .ok (.aload_n 0, 1) := by decide +kernel
theorem dX8_networkOf_95 : decode cX8_networkOf 95 = .ok (.getfield 17, 3) := by decide +kernel
theorem dX8_networkOf_98 : decode cX8_networkOf 98 = .ok (.iload_n 2, 1) := by decide +kernel
theorem dX8_networkOf_99 : decode cX8_networkOf 99 = .ok (.iaload, 1) := by decide +kernel
theorem dX8_networkOf_100 : decode cX8_networkOf 100 = .ok (.ifCond .le 12, 3) := by decide +kernel
theorem dX8_networkOf_103 : decode cX8_networkOf 103 = .ok (.aload_n 0, 1) := by decide +kernel
theorem dX8_networkOf_104 : decode cX8_networkOf 104 = .ok (.getfield 17, 3) := by decide +kernel
theorem dX8_networkOf_107 : decode cX8_networkOf 107 = .ok (.iload_n 2, 1) := by decide +kernel
theorem dX8_networkOf_108 : decode cX8_networkOf 108 = .ok (.iaload, 1) := by decide +kernel
theorem dX8_networkOf_109 : decode cX8_networkOf 109 = .ok (.goto 5, 3) := by decide +kernel
theorem dX8_networkOf_112 : decode cX8_networkOf 112 = .ok (.bipush (-2), 2) := by decide +kernel
theorem dX8_networkOf_114 : decode cX8_networkOf 114 = .ok (.ireturn, 1) := by decide +kernel
theorem dX8_networkOf_115 : decode cX8_networkOf 115 = .ok (.aload_n 0, 1) := by decide +kernel
theorem dX8_networkOf_116 : decode cX8_networkOf 116 = .ok (.getfield 7, 3) := by decide +kernel
theorem dX8_networkOf_119 : decode cX8_networkOf 119 = .ok (.iload_n 2, 1) := by decide +kernel
theorem dX8_networkOf_120 : decode cX8_networkOf 120 = .ok (.iaload, 1) := by decide +kernel
theorem dX8_networkOf_121 : decode cX8_networkOf 121 = .ok (.iload_n 3, 1) := by decide +kernel
theorem dX8_networkOf_122 : decode cX8_networkOf 122 = .ok (.iconst 1, 1) := by decide +kernel
theorem dX8_networkOf_123 : decode cX8_networkOf 123 = .ok (.isub, 1) := by decide +kernel
theorem dX8_networkOf_124 : decode cX8_networkOf 124 = .ok (.invokestatic 89, 3) := by decide +kernel
theorem dX8_networkOf_127 : decode cX8_networkOf 127 = .ok (.ifCond .eq 7, 3) := by decide +kernel
theorem dX8_networkOf_130 : decode cX8_networkOf 130 = .ok (.iload_n 3, 1) := by decide +kernel
theorem dX8_networkOf_131 : decode cX8_networkOf 131 = .ok (.goto 5, 3) := by decide +kernel
theorem dX8_networkOf_134 : decode cX8_networkOf 134 = .ok (.bipush (-3), 2) := by decide +kernel
theorem dX8_networkOf_136 : decode cX8_networkOf 136 = .ok (.ireturn, 1) := by decide +kernel
set_option maxRecDepth 20000 in
theorem ggX8_run_X8_networkOf : GoodIn wsX8_run wsX8_networkOf := goodIn_r _ [18, 3, 19, 7, 12, 13, 11, 20, 21, 17, 22, 23, 24, 25, 26, 27, 28, 29, 30, 31, 32, 33, 34, 35, 36, 37, 38, 39, 40, 41, 42, 43, 44] (by decide +kernel) (by decide +kernel)
set_option maxRecDepth 20000 in
theorem gX8_run_X8_networkOf : GoodIn wsX8_run (wsV RX8 126 RX8 yX8_networkOf wsX8_networkOf) := goodIn_app (goodIn_of _ (by decide +kernel)) ggX8_run_X8_networkOf
set_option maxRecDepth 20000 in
theorem ggX8_run_X8_has : GoodIn wsX8_run wsX8_has := goodIn_r _ [22] (by decide +kernel) (by decide +kernel)
set_option maxRecDepth 20000 in
theorem gX8_run_X8_has : GoodIn wsX8_run (va_wsS RX8 89 yX8_has wsX8_has) := goodIn_app (goodIn_of _ (by decide +kernel)) ggX8_run_X8_has
theorem dX8_run_0 : decode cX8_run 0 = .ok (.iconst 0, 1) := by decide +kernel
theorem dX8_run_1 : decode cX8_run 1 = .ok (.istore_n 1, 1) := by decide +kernel
theorem dX8_run_2 : decode cX8_run 2 = .ok (.iload_n 1, 1) := by decide +kernel
theorem dX8_run_3 : decode cX8_run 3 = .ok (.bipush 15, 2) := by decide +kernel
theorem dX8_run_5 : decode cX8_run 5 = .ok (.if_icmp .ge 16, 3) := by decide +kernel
theorem dX8_run_8 : decode cX8_run 8 = .ok (.aload_n 0, 1) := by decide +kernel
theorem dX8_run_9 : decode cX8_run 9 = .ok (.getfield 35, 3) := by decide +kernel
theorem dX8_run_12 : decode cX8_run 12 = .ok (.iload_n 1, 1) := by decide +kernel
theorem dX8_run_13 : decode cX8_run 13 = .ok (.iconst (-1), 1) := by decide +kernel
theorem dX8_run_14 : decode cX8_run 14 = .ok (.iastore, 1) := by decide +kernel
theorem dX8_run_15 : decode cX8_run 15 = .ok (.iinc 1 1, 3) := by decide +kernel
theorem dX8_run_18 : decode cX8_run 18 = .ok (.goto (-16), 3) := by decide +kernel
theorem dX8_run_21 : decode cX8_run 21 = .ok (.iconst 0, 1) := by decide +kernel
theorem dX8_run_22 : decode cX8_run 22 = .ok (.istore_n 1, 1) := by decide +kernel
theorem dX8_run_23 : decode cX8_run 23 = .ok (.iload_n 1, 1) := by decide +kernel
theorem dX8_run_24 : decode cX8_run 24 = .ok (.aload_n 0, 1) := by decide +kernel
theorem dX8_run_25 : decode cX8_run 25 = .ok (.getfield 70, 3) := by decide +kernel
theorem dX8_run_28 : decode cX8_run 28 = .ok (.if_icmp .ge 342, 3) := by decide +kernel
theorem dX8_run_31 : decode cX8_run 31 = .ok (.aload_n 0, 1) := by decide +kernel
theorem dX8_run_32 : decode cX8_run 32 = .ok (.getfield 23, 3) := by decide +kernel
theorem dX8_run_35 : decode cX8_run 35 = .ok (.iload_n 1, 1) := by decide +kernel
theorem dX8_run_36 : decode cX8_run 36 = .ok (.iaload, 1) := by decide +kernel
theorem dX8_run_37 : decode cX8_run 37 = .ok (.istore_n 2, 1) := by decide +kernel
theorem dX8_run_38 : decode cX8_run 38 = .ok (.aload_n 0, 1) := by decide +kernel
theorem dX8_run_39 : decode cX8_run 39 = .ok (.iload_n 1, 1) := by decide +kernel
theorem dX8_run_40 : decode cX8_run 40 = .ok (.invokevirtual 126, 3) := by decide +kernel
theorem dX8_run_43 : decode cX8_run 43 = .ok (.istore_n 3, 1) := by decide +kernel
theorem dX8_run_44 : decode cX8_run 44 = .ok (.aload_n 0, 1) := by decide +kernel
theorem dX8_run_45 : decode cX8_run 45 = .ok (.getfield 41, 3) := by decide +kernel
theorem dX8_run_48 : decode cX8_run 48 = .ok (.iload_n 1, 1) := by decide +kernel
theorem dX8_run_49 : decode cX8_run 49 = .ok (.iconst 0, 1) := by decide +kernel
theorem dX8_run_50 : decode cX8_run 50 = .ok (.iastore, 1) := by decide +kernel
theorem dX8_run_51 : decode cX8_run 51 = .ok (.aload_n 0, 1) := by decide +kernel
theorem dX8_run_52 : decode cX8_run 52 = .ok (.getfield 44, 3) := by decide +kernel
theorem dX8_run_55 : decode cX8_run 55 = .ok (.iload_n 1, 1) := by decide +kernel
theorem dX8_run_56 : decode cX8_run 56 = .ok (.iconst 0, 1) := by decide +kernel
theorem dX8_run_57 : decode cX8_run 57 = .ok (.iastore, 1) := by decide +kernel
theorem dX8_run_58 : decode cX8_run 58 = .ok (.aload_n 0, 1) := by decide +kernel
theorem dX8_run_59 : decode cX8_run 59 = .ok (.getfield 47, 3) := by decide +kernel
theorem dX8_run_62 : decode cX8_run 62 = .ok (.iload_n 1, 1) := by decide +kernel
theorem dX8_run_63 : decode cX8_run 63 = .ok (.iload_n 3, 1) := by decide +kernel
theorem dX8_run_64 : decode cX8_run 64 = .ok (.ifCond .ge 8, 3) := by decide +kernel
theorem dX8_run_67 : decode cX8_run 67 = .ok (.iload_n 3, 1) := by decide +kernel
theorem dX8_run_68 : decode cX8_run 68 = .ok (.ineg, 1) := by decide +kernel
theorem dX8_run_69 : decode cX8_run 69 = .ok (.goto 4, 3) := by decide +kernel
theorem dX8_run_72 : decode cX8_run 72 = .ok (.iconst 0, 1) := by decide +kernel
theorem dX8_run_73 : decode cX8_run 73 = .ok (.iastore, 1) := by decide +kernel
theorem dX8_run_74 : decode cX8_run 74 = .ok (.iload_n 3, 1) := by decide +kernel
theorem dX8_run_75 : decode cX8_run 75 = .ok (.ifCond .le 289, 3) := by decide +kernel
theorem dX8_run_78 : decode cX8_run 78 = .ok (.aload_n 0, 1) := by decide +kernel
theorem dX8_run_79 : decode cX8_run 79 = .ok (.getfield 38, 3) := by decide +kernel
theorem dX8_run_82 : decode cX8_run 82 = .ok (.iload_n 2, 1) := by decide +kernel
theorem dX8_run_83 : decode cX8_run 83 = .ok (.iaload, 1) := by decide +kernel
theorem dX8_run_84 : decode cX8_run 84 = .ok (.iconst 1, 1) := by decide +kernel
theorem dX8_run_85 : decode cX8_run 85 = .ok (.invokestatic 89, 3) := by decide +kernel
theorem dX8_run_88 : decode cX8_run 88 = .ok (.ifCond .ne 19, 3) := by decide +kernel
theorem dX8_run_91 : decode cX8_run 91 = .ok (.aload_n 0, 1) := by decide +kernel
theorem dX8_run_92 : decode cX8_run 92 = .ok (.getfield 35, 3) := by decide +kernel
theorem dX8_run_95 : decode cX8_run 95 = .ok (.iconst 3, 1) := by decide +kernel
theorem dX8_run_96 : decode cX8_run 96 = .ok (.iload_n 3, 1) := by decide +kernel
theorem dX8_run_97 : decode cX8_run 97 = .ok (.imul, 1) := by decide +kernel
theorem dX8_run_98 : decode cX8_run 98 = .ok (.aload_n 0, 1) := by decide +kernel
theorem dX8_run_99 : decode cX8_run 99 = .ok (.getfield 29, 3) := by decide +kernel
theorem dX8_run_102 : decode cX8_run 102 = .ok (.iload_n 1, 1) := by decide +kernel
theorem dX8_run_103 : decode cX8_run 103 = .ok (.iaload, 1) := by decide +kernel
theorem dX8_run_104 : decode cX8_run 104 = .ok (.iadd, 1) := by decide +kernel
theorem dX8_run_105 : decode cX8_run 105 = .ok (.iload_n 2, 1) := by decide +kernel
theorem dX8_run_106 : decode cX8_run 106 = .ok (.iastore, 1) := by decide +kernel
theorem dX8_run_107 : decode cX8_run 107 = .ok (.aload_n 0, 1) := by decide +kernel
theorem dX8_run_108 : decode cX8_run 108 = .ok (.getfield 32, 3) := by decide +kernel
theorem dX8_run_111 : decode cX8_run 111 = .ok (.iload_n 1, 1) := by decide +kernel
theorem dX8_run_112 : decode cX8_run 112 = .ok (.iaload, 1) := by decide +kernel
theorem dX8_run_113 : decode cX8_run 113 = .ok (.iconst 3, 1) := by decide +kernel
theorem dX8_run_114 : decode cX8_run 114 = .ok (.if_icmp .ge 21, 3) := by decide +kernel
theorem dX8_run_117 : decode cX8_run 117 = .ok (.aload_n 0, 1) := by decide +kernel
theorem dX8_run_118 : decode cX8_run 118 = .ok (.getfield 35, 3) := by decide +kernel
theorem dX8_run_121 : decode cX8_run 121 = .ok (.iconst 3, 1) := by decide +kernel
theorem dX8_run_122 : decode cX8_run 122 = .ok (.iload_n 3, 1) := by decide +kernel
theorem dX8_run_123 : decode cX8_run 123 = .ok (.imul, 1) := by decide +kernel
theorem dX8_run_124 : decode cX8_run 124 = .ok (.aload_n 0, 1) := by decide +kernel
theorem dX8_run_125 : decode cX8_run 125 = .ok (.getfield 32, 3) := by decide +kernel
theorem dX8_run_128 : decode cX8_run 128 = .ok (.iload_n 1, 1) := by decide +kernel
theorem dX8_run_129 : decode cX8_run 129 = .ok (.iaload, 1) := by decide +kernel
theorem dX8_run_130 : decode cX8_run 130 = .ok (.iadd, 1) := by decide +kernel
theorem dX8_run_131 : decode cX8_run 131 = .ok (.iaload, 1) := by decide +kernel
theorem dX8_run_132 : decode cX8_run 132 = .ok (.goto 4, 3) := by decide +kernel
theorem dX8_run_135 : decode cX8_run 135 = .ok (.iconst (-1), 1) := by decide +kernel
theorem dX8_run_136 : decode cX8_run 136 = .ok (.istore 4, 2) := by decide +kernel
theorem dX8_run_138 : decode cX8_run 138 = .ok (.iload 4, 2) := by decide +kernel
theorem dX8_run_140 : decode cX8_run 140 = .ok (.iconst (-1), 1) := by decide +kernel
theorem dX8_run_141 : decode cX8_run 141 = .ok (.if_icmp .eq 9, 3) := by decide +kernel
theorem dX8_run_144 : decode cX8_run 144 = .ok (.iload 4, 2) := by decide +kernel
theorem dX8_run_146 : decode cX8_run 146 = .ok (.iload_n 2, 1) := by decide +kernel
theorem dX8_run_147 : decode cX8_run 147 = .ok (.if_icmp .ne 7, 3) := by decide +kernel
theorem dX8_run_150 : decode cX8_run 150 = .ok (.iconst 0, 1) := by decide +kernel
theorem dX8_run_151 : decode cX8_run 151 = .ok (.goto 7, 3) := by decide +kernel
theorem dX8_run_154 : decode cX8_run 154 = .ok (.iconst 1, 1) := by decide +kernel
theorem dX8_run_155 : decode cX8_run 155 = .ok (.iload 4, 2) := by decide +kernel
theorem dX8_run_157 : decode cX8_run 157 = .ok (.ishl, 1) := by decide +kernel
theorem dX8_run_158 : decode cX8_run 158 = .ok (.istore 5, 2) := by decide +kernel
theorem dX8_run_160 : decode cX8_run 160 = .ok (.iconst 0, 1) := by decide +kernel
theorem dX8_run_161 : decode cX8_run 161 = .ok (.istore 6, 2) := by decide +kernel
theorem dX8_run_163 : decode cX8_run 163 = .ok (.iload 6, 2) := by decide +kernel
theorem dX8_run_165 : decode cX8_run 165 = .ok (.aload_n 0, 1) := by decide +kernel
theorem dX8_run_166 : decode cX8_run 166 = .ok (.getfield 67, 3) := by decide +kernel
theorem dX8_run_169 : decode cX8_run 169 = .ok (.if_icmp .ge 50, 3) := by decide +kernel
theorem dX8_run_172 : decode cX8_run 172 = .ok (.iload 4, 2) := by decide +kernel
theorem dX8_run_174 : decode cX8_run 174 = .ok (.iconst (-1), 1) := by decide +kernel
theorem dX8_run_175 : decode cX8_run 175 = .ok (.if_icmp .ne 44, 3) := by decide +kernel
theorem dX8_run_178 : decode cX8_run 178 = .ok (.iload 5, 2) := by decide +kernel
theorem dX8_run_180 : decode cX8_run 180 = .ok (.iload 6, 2) := by decide +kernel
theorem dX8_run_182 : decode cX8_run 182 = .ok (.iload_n 2, 1) := by decide +kernel
theorem dX8_run_183 : decode cX8_run 183 = .ok (.if_icmp .eq 26, 3) := by decide +kernel
theorem dX8_run_186 : decode cX8_run 186 = .ok (.aload_n 0, 1) := by decide +kernel
theorem dX8_run_187 : decode cX8_run 187 = .ok (.getfield 7, 3) := by decide +kernel
theorem dX8_run_190 : decode cX8_run 190 = .ok (.iload 6, 2) := by decide +kernel
theorem dX8_run_192 : decode cX8_run 192 = .ok (.iaload, 1) := by decide +kernel
theorem dX8_run_193 : decode cX8_run 193 = .ok (.iload_n 3, 1) := by decide +kernel
theorem dX8_run_194 : decode cX8_run 194 = .ok (.iconst 1, 1) := by decide +kernel
theorem dX8_run_195 : decode cX8_run 195 = .ok (.isub, 1) := by decide +kernel
theorem dX8_run_196 : decode cX8_run 196 = .ok (.invokestatic 89, 3) := by decide +kernel
theorem dX8_run_199 : decode cX8_run 199 = .ok (.ifCond .eq 10, 3) := by decide +kernel
theorem dX8_run_202 : decode cX8_run 202 = .ok (.iconst 1, 1) := by decide +kernel
theorem dX8_run_203 : decode cX8_run 203 = .ok (.iload 6, 2) := by decide +kernel
theorem dX8_run_205 : decode cX8_run 205 = .ok (.ishl, 1) := by decide +kernel
theorem dX8_run_206 : decode cX8_run 206 = .ok (.goto 4, 3) := by decide +kernel
theorem dX8_run_209 : decode cX8_run 209 = .ok (.iconst 0, 1) := by decide +kernel
theorem dX8_run_210 : decode cX8_run 210 = .ok (.ior, 1) := by decide +kernel
theorem dX8_run_211 : decode cX8_run 211 = .ok (.istore 5, 2) := by decide +kernel
theorem dX8_run_213 : decode cX8_run 213 = .ok (.iinc 6 1, 3) := by decide +kernel
theorem dX8_run_216 : decode cX8_run 216 = .ok (.goto (-53), 3) := by decide +kernel
theorem dX8_run_219 : decode cX8_run 219 = .ok (.aload_n 0, 1) := by decide +kernel
theorem dX8_run_220 : decode cX8_run 220 = .ok (.getfield 47, 3) := by decide +kernel
theorem dX8_run_223 : decode cX8_run 223 = .ok (.iload_n 1, 1) := by decide +kernel
theorem dX8_run_224 : decode cX8_run 224 = .ok (.iload 4, 2) := by decide +kernel
theorem dX8_run_226 : decode cX8_run 226 = .ok (.iload_n 2, 1) := by decide +kernel
theorem dX8_run_227 : decode cX8_run 227 = .ok (.if_icmp .ne 7, 3) := by decide +kernel
theorem dX8_run_230 : decode cX8_run 230 = .ok (.iconst 4, 1) := by decide +kernel
theorem dX8_run_231 : decode cX8_run 231 = .ok (.goto 13, 3) := by decide +kernel
theorem dX8_run_234 : decode cX8_run 234 = .ok (.iload 5, 2) := by decide +kernel
theorem dX8_run_236 : decode cX8_run 236 = .ok (.ifCond .ne 7, 3) := by decide +kernel
theorem dX8_run_239 : decode cX8_run 239 = .ok (.iconst 5, 1) := by decide +kernel
theorem dX8_run_240 : decode cX8_run 240 = .ok (.goto 4, 3) := by decide +kernel
theorem dX8_run_243 : decode cX8_run 243 = .ok (.iconst 0, 1) := by decide +kernel
theorem dX8_run_244 : decode cX8_run 244 = .ok (.iastore, 1) := by decide +kernel
theorem dX8_run_245 : decode cX8_run 245 = .ok (.iconst 0, 1) := by decide +kernel
theorem dX8_run_246 : decode cX8_run 246 = .ok (.istore 6, 2) := by decide +kernel
theorem dX8_run_248 : decode cX8_run 248 = .ok (.iload 6, 2) := by decide +kernel
theorem dX8_run_250 : decode cX8_run 250 = .ok (.aload_n 0, 1) := by decide +kernel
theorem dX8_run_251 : decode cX8_run 251 = .ok (.getfield 67, 3) := by decide +kernel
theorem dX8_run_254 : decode cX8_run 254 = .ok (.if_icmp .ge 110, 3) := by decide +kernel
theorem dX8_run_257 : decode cX8_run 257 = .ok (.iload 5, 2) := by decide +kernel
theorem dX8_run_259 : decode cX8_run 259 = .ok (.iload 6, 2) := by decide +kernel
theorem dX8_run_261 : decode cX8_run 261 = .ok (.invokestatic 89, 3) := by decide +kernel
theorem dX8_run_264 : decode cX8_run 264 = .ok (.ifCond .eq 94, 3) := by decide +kernel
theorem dX8_run_267 : decode cX8_run 267 = .ok (.aload_n 0, 1) := by decide +kernel
theorem dX8_run_268 : decode cX8_run 268 = .ok (.getfield 38, 3) := by decide +kernel
theorem dX8_run_271 : decode cX8_run 271 = .ok (.iload 6, 2) := by decide +kernel
theorem dX8_run_273 : decode cX8_run 273 = .ok (.iaload, 1) := by decide +kernel
theorem dX8_run_274 : decode cX8_run 274 = .ok (.iconst 0, 1) := by decide +kernel
theorem dX8_run_275 : decode cX8_run 275 = .ok (.invokestatic 89, 3) := by decide +kernel
theorem dX8_run_278 : decode cX8_run 278 = .ok (.ifCond .ne 80, 3) := by decide +kernel
theorem dX8_run_281 : decode cX8_run 281 = .ok (.aload_n 0, 1) := by decide +kernel
theorem dX8_run_282 : decode cX8_run 282 = .ok (.getfield 41, 3) := by decide +kernel
theorem dX8_run_285 : decode cX8_run 285 = .ok (.iload_n 1, 1) := by decide +kernel
theorem dX8_run_286 : decode cX8_run 286 = .ok (.dup2, 1) := by decide +kernel
theorem dX8_run_287 : decode cX8_run 287 = .ok (.iaload, 1) := by decide +kernel
theorem dX8_run_288 : decode cX8_run 288 = .ok (.iconst 1, 1) := by decide +kernel
theorem dX8_run_289 : decode cX8_run 289 = .ok (.iload 6, 2) := by decide +kernel
theorem dX8_run_291 : decode cX8_run 291 = .ok (.ishl, 1) := by decide +kernel
theorem dX8_run_292 : decode cX8_run 292 = .ok (.ior, 1) := by decide +kernel
theorem dX8_run_293 : decode cX8_run 293 = .ok (.iastore, 1) := by decide +kernel
theorem dX8_run_294 : decode cX8_run 294 = .ok (.aload_n 0, 1) := by decide +kernel
theorem dX8_run_295 : decode cX8_run 295 = .ok (.getfield 13, 3) := by decide +kernel
theorem dX8_run_298 : decode cX8_run 298 = .ok (.iload 6, 2) := by decide +kernel
theorem dX8_run_300 : decode cX8_run 300 = .ok (.baload, 1) := by decide +kernel
theorem dX8_run_301 : decode cX8_run 301 = .ok (.ifCond .eq 28, 3) := by decide +kernel
theorem dX8_run_304 : decode cX8_run 304 = .ok (.aload_n 0, 1) := by decide +kernel
theorem dX8_run_305 : decode cX8_run 305 = .ok (.getfield 17, 3) := by decide +kernel
theorem dX8_run_308 : decode cX8_run 308 = .ok (.iload 6, 2) := by decide +kernel
theorem dX8_run_310 : decode cX8_run 310 = .ok (.iaload, 1) := by decide +kernel
theorem dX8_run_311 : decode cX8_run 311 = .ok (.iload_n 3, 1) := by decide +kernel
theorem dX8_run_312 : decode cX8_run 312 = .ok (.if_icmp .eq 17, 3) := by decide +kernel
theorem dX8_run_315 : decode cX8_run 315 = .ok (.aload_n 0, 1) := by decide +kernel
theorem dX8_run_316 : decode cX8_run 316 = .ok (.getfield 38, 3) := by decide +kernel
theorem dX8_run_319 : decode cX8_run 319 = .ok (.iload 6, 2) := by decide +kernel
theorem dX8_run_321 : decode cX8_run 321 = .ok (.iaload, 1) := by decide +kernel
theorem dX8_run_322 : decode cX8_run 322 = .ok (.iconst 2, 1) := by decide +kernel
theorem dX8_run_323 : decode cX8_run 323 = .ok (.invokestatic 89, 3) := by decide +kernel
theorem dX8_run_326 : decode cX8_run 326 = .ok (.ifCond .eq 7, 3) := by decide +kernel
theorem dX8_run_329 : decode cX8_run 329 = .ok (.iconst 1, 1) := by decide +kernel
theorem dX8_run_330 : decode cX8_run 330 = .ok (.goto 4, 3) := by decide +kernel
theorem dX8_run_333 : decode cX8_run 333 = .ok (.iconst 0, 1) := by decide +kernel
theorem dX8_run_334 : decode cX8_run 334 = .ok (.istore 7, 2) := by decide +kernel
theorem dX8_run_336 : decode cX8_run 336 = .ok (.aload_n 0, 1) := by decide +kernel
theorem dX8_run_337 : decode cX8_run 337 = .ok (.getfield 44, 3) := by decide +kernel
theorem dX8_run_340 : decode cX8_run 340 = .ok (.iload_n 1, 1) := by decide +kernel
theorem dX8_run_341 : decode cX8_run 341 = .ok (.dup2, 1) := by decide +kernel
theorem dX8_run_342 : decode cX8_run 342 = .ok (.iaload, 1) := by decide +kernel
theorem dX8_run_343 : decode cX8_run 343 = .ok (.iload 7, 2) := by decide +kernel
theorem dX8_run_345 : decode cX8_run 345 = .ok (.ifCond .eq 7, 3) := by decide +kernel
theorem dX8_run_348 : decode cX8_run 348 = .ok (.iconst 0, 1) := by decide +kernel
theorem dX8_run_349 : decode cX8_run 349 = .ok (.goto 7, 3) := by decide +kernel
theorem dX8_run_352 : decode cX8_run 352 = .ok (.iconst 1, 1) := by decide +kernel
theorem dX8_run_353 : decode cX8_run 353 = .ok (.iload 6, 2) := by decide +kernel
theorem dX8_run_355 : decode cX8_run 355 = .ok (.ishl, 1) := by decide +kernel
theorem dX8_run_356 : decode cX8_run 356 = .ok (.ior, 1) := by decide +kernel
theorem dX8_run_357 : decode cX8_run 357 = .ok (.iastore, 1) := by decide +kernel
theorem dX8_run_358 : decode cX8_run 358 = .ok (.iinc 6 1, 3) := by decide +kernel
theorem dX8_run_361 : decode cX8_run 361 = .ok (.goto (-113), 3) := by decide +kernel
theorem dX8_run_364 : decode cX8_run 364 = .ok (.iinc 1 1, 3) := by decide +kernel
theorem dX8_run_367 : decode cX8_run 367 = .ok (.goto (-344), 3) := by decide +kernel
theorem dX8_run_370 : decode cX8_run 370 = .ok (.return_, 1) := by decide +kernel
set_option maxRecDepth 20000 in
theorem ggX8_runModel_X8_run : GoodIn wsX8_runModel wsX8_run := goodIn_r _ [6, 7, 8, 9, 10, 11, 12, 1, 13, 14, 15, 16, 17, 18, 19, 20, 21, 5, 22, 23, 24, 25, 26, 27, 28, 29, 30, 31, 32, 33, 34, 35, 36, 37, 38, 39, 40, 41, 42, 43, 44, 45, 46, 47, 48] (by decide +kernel) (by decide +kernel)
set_option maxRecDepth 20000 in
theorem gX8_runModel_X8_run : GoodIn wsX8_runModel (wsV RX8 130 RX8 yX8_run wsX8_run) := goodIn_app (goodIn_of _ (by decide +kernel)) ggX8_runModel_X8_run
theorem dX8_runModel_0 : decode cX8_runModel 0 = .ok (.iconst 0, 1) := by decide +kernel
theorem dX8_runModel_1 : decode cX8_runModel 1 = .ok (.istore_n 1, 1) := by decide +kernel
theorem dX8_runModel_2 : decode cX8_runModel 2 = .ok (.iload_n 1, 1) := by decide +kernel
theorem dX8_runModel_3 : decode cX8_runModel 3 = .ok (.bipush 6, 2) := by decide +kernel
theorem dX8_runModel_5 : decode cX8_runModel 5 = .ok (.if_icmp .ge 16, 3) := by decide +kernel
theorem dX8_runModel_8 : decode cX8_runModel 8 = .ok (.aload_n 0, 1) := by decide +kernel
theorem dX8_runModel_9 : decode cX8_runModel 9 = .ok (.getfield 38, 3) := by decide +kernel
theorem dX8_runModel_12 : decode cX8_runModel 12 = .ok (.iload_n 1, 1) := by decide +kernel
theorem dX8_runModel_13 : decode cX8_runModel 13 = .ok (.iconst 0, 1) := by decide +kernel
theorem dX8_runModel_14 : decode cX8_runModel 14 = .ok (.iastore, 1) := by decide +kernel
theorem dX8_runModel_15 : decode cX8_runModel 15 = .ok (.iinc 1 1, 3) := by decide +kernel
theorem dX8_runModel_18 : decode cX8_runModel 18 = .ok (.goto (-16), 3) := by decide +kernel
theorem dX8_runModel_21 : decode cX8_runModel 21 = .ok (.aload_n 0, 1) := by decide +kernel
theorem dX8_runModel_22 : decode cX8_runModel 22 = .ok (.invokevirtual 130, 3) := by decide +kernel
theorem dX8_runModel_25 : decode cX8_runModel 25 = .ok (.return_, 1) := by decide +kernel
set_option maxRecDepth 20000 in
theorem ggX8_runFaults_X8_run : GoodIn wsX8_runFaults wsX8_run := goodIn_r _ [7, 8, 9, 10, 11, 12, 13, 1, 14, 15, 16, 17, 18, 19, 20, 21, 22, 6, 23, 24, 25, 26, 27, 28, 29, 30, 31, 32, 33, 34, 35, 36, 37, 38, 39, 40, 41, 42, 43, 44, 45, 46, 47, 48, 49] (by decide +kernel) (by decide +kernel)
set_option maxRecDepth 20000 in
theorem gX8_runFaults_X8_run : GoodIn wsX8_runFaults (wsV RX8 130 RX8 yX8_run wsX8_run) := goodIn_app (goodIn_of _ (by decide +kernel)) ggX8_runFaults_X8_run
theorem dX8_runFaults_0 : decode cX8_runFaults 0 = .ok (.iconst 0, 1) := by decide +kernel
theorem dX8_runFaults_1 : decode cX8_runFaults 1 = .ok (.istore_n 1, 1) := by decide +kernel
theorem dX8_runFaults_2 : decode cX8_runFaults 2 = .ok (.iload_n 1, 1) := by decide +kernel
theorem dX8_runFaults_3 : decode cX8_runFaults 3 = .ok (.bipush 6, 2) := by decide +kernel
theorem dX8_runFaults_5 : decode cX8_runFaults 5 = .ok (.if_icmp .ge 21, 3) := by decide +kernel
theorem dX8_runFaults_8 : decode cX8_runFaults 8 = .ok (.aload_n 0, 1) := by decide +kernel
theorem dX8_runFaults_9 : decode cX8_runFaults 9 = .ok (.getfield 38, 3) := by decide +kernel
theorem dX8_runFaults_12 : decode cX8_runFaults 12 = .ok (.iload_n 1, 1) := by decide +kernel
theorem dX8_runFaults_13 : decode cX8_runFaults 13 = .ok (.aload_n 0, 1) := by decide +kernel
theorem dX8_runFaults_14 : decode cX8_runFaults 14 = .ok (.getfield 20, 3) := by decide +kernel
theorem dX8_runFaults_17 : decode cX8_runFaults 17 = .ok (.iload_n 1, 1) := by decide +kernel
theorem dX8_runFaults_18 : decode cX8_runFaults 18 = .ok (.iaload, 1) := by decide +kernel
theorem dX8_runFaults_19 : decode cX8_runFaults 19 = .ok (.iastore, 1) := by decide +kernel
theorem dX8_runFaults_20 : decode cX8_runFaults 20 = .ok (.iinc 1 1, 3) := by decide +kernel
theorem dX8_runFaults_23 : decode cX8_runFaults 23 = .ok (.goto (-21), 3) := by decide +kernel
theorem dX8_runFaults_26 : decode cX8_runFaults 26 = .ok (.aload_n 0, 1) := by decide +kernel
theorem dX8_runFaults_27 : decode cX8_runFaults 27 = .ok (.invokevirtual 130, 3) := by decide +kernel
theorem dX8_runFaults_30 : decode cX8_runFaults 30 = .ok (.return_, 1) := by decide +kernel
set_option maxRecDepth 20000 in
theorem ggX8_runBoth_X8_runFaults : GoodIn wsX8_runBoth wsX8_runFaults := goodIn_r _ [10, 11, 12, 13, 14, 15, 9, 16, 17, 1, 18, 3, 5, 19, 20, 21, 22, 23, 24, 25, 26, 27, 28, 29, 30, 31, 32, 33, 38, 39, 40, 41, 42, 43, 44, 45, 46, 47, 48, 49, 50, 51, 52, 53, 54, 55, 56, 57, 58, 59] (by decide +kernel) (by decide +kernel)
set_option maxRecDepth 20000 in
theorem gX8_runBoth_X8_runFaults : GoodIn wsX8_runBoth (wsV RX8 133 RX8 yX8_runFaults wsX8_runFaults) := goodIn_app (goodIn_of _ (by decide +kernel)) ggX8_runBoth_X8_runFaults
set_option maxRecDepth 20000 in
theorem ggX8_runBoth_X8_runModel : GoodIn wsX8_runBoth wsX8_runModel := goodIn_r _ [37, 11, 13, 14, 15, 9, 16, 17, 1, 18, 3, 5, 19, 20, 21, 22, 23, 24, 25, 26, 27, 28, 29, 30, 31, 32, 33, 38, 39, 40, 41, 42, 43, 44, 45, 46, 47, 48, 49, 50, 51, 52, 53, 54, 55, 56, 57, 58, 59] (by decide +kernel) (by decide +kernel)
set_option maxRecDepth 20000 in
theorem gX8_runBoth_X8_runModel : GoodIn wsX8_runBoth (wsV RX8 136 RX8 yX8_runModel wsX8_runModel) := goodIn_app (goodIn_of _ (by decide +kernel)) ggX8_runBoth_X8_runModel
theorem dX8_runBoth_0 : decode cX8_runBoth 0 = .ok (.aload_n 0, 1) := by decide +kernel
theorem dX8_runBoth_1 : decode cX8_runBoth 1 = .ok (.invokevirtual 133, 3) := by decide +kernel
theorem dX8_runBoth_4 : decode cX8_runBoth 4 = .ok (.iconst 0, 1) := by decide +kernel
theorem dX8_runBoth_5 : decode cX8_runBoth 5 = .ok (.istore_n 1, 1) := by decide +kernel
theorem dX8_runBoth_6 : decode cX8_runBoth 6 = .ok (.iload_n 1, 1) := by decide +kernel
theorem dX8_runBoth_7 : decode cX8_runBoth 7 = .ok (.aload_n 0, 1) := by decide +kernel
theorem dX8_runBoth_8 : decode cX8_runBoth 8 = .ok (.getfield 70, 3) := by decide +kernel
theorem dX8_runBoth_11 : decode cX8_runBoth 11 = .ok (.if_icmp .ge 33, 3) := by decide +kernel
theorem dX8_runBoth_14 : decode cX8_runBoth 14 = .ok (.aload_n 0, 1) := by decide +kernel
theorem dX8_runBoth_15 : decode cX8_runBoth 15 = .ok (.getfield 50, 3) := by decide +kernel
theorem dX8_runBoth_18 : decode cX8_runBoth 18 = .ok (.iload_n 1, 1) := by decide +kernel
theorem dX8_runBoth_19 : decode cX8_runBoth 19 = .ok (.aload_n 0, 1) := by decide +kernel
theorem dX8_runBoth_20 : decode cX8_runBoth 20 = .ok (.getfield 41, 3) := by decide +kernel
theorem dX8_runBoth_23 : decode cX8_runBoth 23 = .ok (.iload_n 1, 1) := by decide +kernel
theorem dX8_runBoth_24 : decode cX8_runBoth 24 = .ok (.iaload, 1) := by decide +kernel
theorem dX8_runBoth_25 : decode cX8_runBoth 25 = .ok (.iastore, 1) := by decide +kernel
theorem dX8_runBoth_26 : decode cX8_runBoth 26 = .ok (.aload_n 0, 1) := by decide +kernel
theorem dX8_runBoth_27 : decode cX8_runBoth 27 = .ok (.getfield 53, 3) := by decide +kernel
theorem dX8_runBoth_30 : decode cX8_runBoth 30 = .ok (.iload_n 1, 1) := by decide +kernel
theorem dX8_runBoth_31 : decode cX8_runBoth 31 = .ok (.aload_n 0, 1) := by decide +kernel
theorem dX8_runBoth_32 : decode cX8_runBoth 32 = .ok (.getfield 44, 3) := by decide +kernel
theorem dX8_runBoth_35 : decode cX8_runBoth 35 = .ok (.iload_n 1, 1) := by decide +kernel
theorem dX8_runBoth_36 : decode cX8_runBoth 36 = .ok (.iaload, 1) := by decide +kernel
theorem dX8_runBoth_37 : decode cX8_runBoth 37 = .ok (.iastore, 1) := by decide +kernel
theorem dX8_runBoth_38 : decode cX8_runBoth 38 = .ok (.iinc 1 1, 3) := by decide +kernel
theorem dX8_runBoth_41 : decode cX8_runBoth 41 = .ok (.goto (-35), 3) := by decide +kernel
theorem dX8_runBoth_44 : decode cX8_runBoth 44 = .ok (.aload_n 0, 1) := by decide +kernel
theorem dX8_runBoth_45 : decode cX8_runBoth 45 = .ok (.invokevirtual 136, 3) := by decide +kernel
theorem dX8_runBoth_48 : decode cX8_runBoth 48 = .ok (.return_, 1) := by decide +kernel
set_option maxRecDepth 20000 in
theorem ggX8_expected_X8_runModel : GoodIn wsX8_expected wsX8_runModel := goodIn_r _ [6, 7, 8, 9, 10, 5, 11, 12, 13, 14, 1, 15, 16, 17, 18, 19, 20, 21, 22, 23, 24, 25, 26, 27, 28, 29, 30, 40, 41, 42, 43, 44, 45, 46, 47, 48, 49, 50, 51, 52, 53, 54, 55, 56, 57, 58, 59, 60, 61] (by decide +kernel) (by decide +kernel)
set_option maxRecDepth 20000 in
theorem gX8_expected_X8_runModel : GoodIn wsX8_expected (wsV RX8 136 RX8 yX8_runModel wsX8_runModel) := goodIn_app (goodIn_of _ (by decide +kernel)) ggX8_expected_X8_runModel
set_option maxRecDepth 20000 in
theorem ggX8_expected_X8_isFrame : GoodIn wsX8_expected wsX8_isFrame := goodIn_r _ [34, 13, 40, 41, 42, 43, 44, 45, 46, 47, 48, 49, 50, 51, 52, 53, 54, 55, 56, 57, 58, 59, 60, 61] (by decide +kernel) (by decide +kernel)
set_option maxRecDepth 20000 in
theorem gX8_expected_X8_isFrame : GoodIn wsX8_expected (wsV RX8 123 RX8 yX8_isFrame wsX8_isFrame) := goodIn_app (goodIn_of _ (by decide +kernel)) ggX8_expected_X8_isFrame
set_option maxRecDepth 20000 in
theorem ggX8_expected_X8_may : GoodIn wsX8_expected wsX8_may := goodIn_r _ [38, 39, 40, 41, 42, 43, 44, 45, 46, 47, 48, 49, 50, 51, 52, 53, 54, 55, 56, 57, 58, 59, 60, 61] (by decide +kernel) (by decide +kernel)
set_option maxRecDepth 20000 in
theorem gX8_expected_X8_may : GoodIn wsX8_expected (wsV RX8 77 RX8 yX8_may wsX8_may) := goodIn_app (goodIn_of _ (by decide +kernel)) ggX8_expected_X8_may
theorem dX8_expected_0 : decode cX8_expected 0 = .ok (.aload_n 0, 1) := by decide +kernel
theorem dX8_expected_1 : decode cX8_expected 1 = .ok (.invokevirtual 136, 3) := by decide +kernel
theorem dX8_expected_4 : decode cX8_expected 4 = .ok (.aload_n 0, 1) := by decide +kernel
theorem dX8_expected_5 : decode cX8_expected 5 = .ok (.aload_n 0, 1) := by decide +kernel
theorem dX8_expected_6 : decode cX8_expected 6 = .ok (.iload_n 1, 1) := by decide +kernel
theorem dX8_expected_7 : decode cX8_expected 7 = .ok (.invokevirtual 123, 3) := by decide +kernel
theorem dX8_expected_10 : decode cX8_expected 10 = .ok (.invokevirtual 77, 3) := by decide +kernel
theorem dX8_expected_13 : decode cX8_expected 13 = .ok (.ifCond .eq 12, 3) := by decide +kernel
theorem dX8_expected_16 : decode cX8_expected 16 = .ok (.aload_n 0, 1) := by decide +kernel
theorem dX8_expected_17 : decode cX8_expected 17 = .ok (.getfield 41, 3) := by decide +kernel
theorem dX8_expected_20 : decode cX8_expected 20 = .ok (.iload_n 1, 1) := by decide +kernel
theorem dX8_expected_21 : decode cX8_expected 21 = .ok (.iaload, 1) := by decide +kernel
theorem dX8_expected_22 : decode cX8_expected 22 = .ok (.goto 4, 3) := by decide +kernel
theorem dX8_expected_25 : decode cX8_expected 25 = .ok (.iconst 0, 1) := by decide +kernel
theorem dX8_expected_26 : decode cX8_expected 26 = .ok (.ireturn, 1) := by decide +kernel
set_option maxRecDepth 20000 in
theorem ggX8_expectedTagged_X8_runModel : GoodIn wsX8_expectedTagged wsX8_runModel := goodIn_r _ [6, 7, 8, 9, 10, 5, 11, 12, 13, 14, 15, 1, 16, 17, 18, 19, 20, 21, 22, 23, 24, 25, 26, 27, 28, 29, 30, 40, 41, 42, 43, 44, 45, 46, 47, 48, 49, 50, 51, 52, 53, 54, 55, 56, 57, 58, 59, 60, 61] (by decide +kernel) (by decide +kernel)
set_option maxRecDepth 20000 in
theorem gX8_expectedTagged_X8_runModel : GoodIn wsX8_expectedTagged (wsV RX8 136 RX8 yX8_runModel wsX8_runModel) := goodIn_app (goodIn_of _ (by decide +kernel)) ggX8_expectedTagged_X8_runModel
set_option maxRecDepth 20000 in
theorem ggX8_expectedTagged_X8_isFrame : GoodIn wsX8_expectedTagged wsX8_isFrame := goodIn_r _ [34, 13, 40, 41, 42, 43, 44, 45, 46, 47, 48, 49, 50, 51, 52, 53, 54, 55, 56, 57, 58, 59, 60, 61] (by decide +kernel) (by decide +kernel)
set_option maxRecDepth 20000 in
theorem gX8_expectedTagged_X8_isFrame : GoodIn wsX8_expectedTagged (wsV RX8 123 RX8 yX8_isFrame wsX8_isFrame) := goodIn_app (goodIn_of _ (by decide +kernel)) ggX8_expectedTagged_X8_isFrame
set_option maxRecDepth 20000 in
theorem ggX8_expectedTagged_X8_may : GoodIn wsX8_expectedTagged wsX8_may := goodIn_r _ [38, 39, 40, 41, 42, 43, 44, 45, 46, 47, 48, 49, 50, 51, 52, 53, 54, 55, 56, 57, 58, 59, 60, 61] (by decide +kernel) (by decide +kernel)
set_option maxRecDepth 20000 in
theorem gX8_expectedTagged_X8_may : GoodIn wsX8_expectedTagged (wsV RX8 77 RX8 yX8_may wsX8_may) := goodIn_app (goodIn_of _ (by decide +kernel)) ggX8_expectedTagged_X8_may
theorem dX8_expectedTagged_0 : decode cX8_expectedTagged 0 = .ok (.aload_n 0, 1) := by decide +kernel
theorem dX8_expectedTagged_1 : decode cX8_expectedTagged 1 = .ok (.invokevirtual 136, 3) := by decide +kernel
theorem dX8_expectedTagged_4 : decode cX8_expectedTagged 4 = .ok (.aload_n 0, 1) := by decide +kernel
theorem dX8_expectedTagged_5 : decode cX8_expectedTagged 5 = .ok (.aload_n 0, 1) := by decide +kernel
theorem dX8_expectedTagged_6 : decode cX8_expectedTagged 6 = .ok (.iload_n 1, 1) := by decide +kernel
theorem dX8_expectedTagged_7 : decode cX8_expectedTagged 7 = .ok (.invokevirtual 123, 3) := by decide +kernel
theorem dX8_expectedTagged_10 : decode cX8_expectedTagged 10 = .ok (.invokevirtual 77, 3) := by decide +kernel
theorem dX8_expectedTagged_13 : decode cX8_expectedTagged 13 = .ok (.ifCond .eq 12, 3) := by decide +kernel
theorem dX8_expectedTagged_16 : decode cX8_expectedTagged 16 = .ok (.aload_n 0, 1) := by decide +kernel
theorem dX8_expectedTagged_17 : decode cX8_expectedTagged 17 = .ok (.getfield 44, 3) := by decide +kernel
theorem dX8_expectedTagged_20 : decode cX8_expectedTagged 20 = .ok (.iload_n 1, 1) := by decide +kernel
theorem dX8_expectedTagged_21 : decode cX8_expectedTagged 21 = .ok (.iaload, 1) := by decide +kernel
theorem dX8_expectedTagged_22 : decode cX8_expectedTagged 22 = .ok (.goto 4, 3) := by decide +kernel
theorem dX8_expectedTagged_25 : decode cX8_expectedTagged 25 = .ok (.iconst 0, 1) := by decide +kernel
theorem dX8_expectedTagged_26 : decode cX8_expectedTagged 26 = .ok (.ireturn, 1) := by decide +kernel
set_option maxRecDepth 20000 in
theorem ggX8_reason_X8_runModel : GoodIn wsX8_reason wsX8_runModel := goodIn_r _ [6, 7, 8, 9, 10, 5, 11, 12, 13, 14, 15, 16, 1, 17, 18, 19, 20, 21, 22, 23, 24, 25, 26, 27, 28, 29, 30, 40, 41, 42, 43, 44, 45, 46, 47, 48, 49, 50, 51, 52, 53, 54, 55, 56, 57, 58, 59, 60, 61] (by decide +kernel) (by decide +kernel)
set_option maxRecDepth 20000 in
theorem gX8_reason_X8_runModel : GoodIn wsX8_reason (wsV RX8 136 RX8 yX8_runModel wsX8_runModel) := goodIn_app (goodIn_of _ (by decide +kernel)) ggX8_reason_X8_runModel
set_option maxRecDepth 20000 in
theorem ggX8_reason_X8_isFrame : GoodIn wsX8_reason wsX8_isFrame := goodIn_r _ [34, 13, 40, 41, 42, 43, 44, 45, 46, 47, 48, 49, 50, 51, 52, 53, 54, 55, 56, 57, 58, 59, 60, 61] (by decide +kernel) (by decide +kernel)
set_option maxRecDepth 20000 in
theorem gX8_reason_X8_isFrame : GoodIn wsX8_reason (wsV RX8 123 RX8 yX8_isFrame wsX8_isFrame) := goodIn_app (goodIn_of _ (by decide +kernel)) ggX8_reason_X8_isFrame
set_option maxRecDepth 20000 in
theorem ggX8_reason_X8_may : GoodIn wsX8_reason wsX8_may := goodIn_r _ [38, 39, 40, 41, 42, 43, 44, 45, 46, 47, 48, 49, 50, 51, 52, 53, 54, 55, 56, 57, 58, 59, 60, 61] (by decide +kernel) (by decide +kernel)
set_option maxRecDepth 20000 in
theorem gX8_reason_X8_may : GoodIn wsX8_reason (wsV RX8 77 RX8 yX8_may wsX8_may) := goodIn_app (goodIn_of _ (by decide +kernel)) ggX8_reason_X8_may
theorem dX8_reason_0 : decode cX8_reason 0 = .ok (.aload_n 0, 1) := by decide +kernel
theorem dX8_reason_1 : decode cX8_reason 1 = .ok (.invokevirtual 136, 3) := by decide +kernel
theorem dX8_reason_4 : decode cX8_reason 4 = .ok (.aload_n 0, 1) := by decide +kernel
theorem dX8_reason_5 : decode cX8_reason 5 = .ok (.aload_n 0, 1) := by decide +kernel
theorem dX8_reason_6 : decode cX8_reason 6 = .ok (.iload_n 1, 1) := by decide +kernel
theorem dX8_reason_7 : decode cX8_reason 7 = .ok (.invokevirtual 123, 3) := by decide +kernel
theorem dX8_reason_10 : decode cX8_reason 10 = .ok (.invokevirtual 77, 3) := by decide +kernel
theorem dX8_reason_13 : decode cX8_reason 13 = .ok (.ifCond .eq 12, 3) := by decide +kernel
theorem dX8_reason_16 : decode cX8_reason 16 = .ok (.aload_n 0, 1) := by decide +kernel
theorem dX8_reason_17 : decode cX8_reason 17 = .ok (.getfield 47, 3) := by decide +kernel
theorem dX8_reason_20 : decode cX8_reason 20 = .ok (.iload_n 1, 1) := by decide +kernel
theorem dX8_reason_21 : decode cX8_reason 21 = .ok (.iaload, 1) := by decide +kernel
theorem dX8_reason_22 : decode cX8_reason 22 = .ok (.goto 4, 3) := by decide +kernel
theorem dX8_reason_25 : decode cX8_reason 25 = .ok (.iconst 0, 1) := by decide +kernel
theorem dX8_reason_26 : decode cX8_reason 26 = .ok (.ireturn, 1) := by decide +kernel
set_option maxRecDepth 20000 in
theorem ggX8_learned_X8_runModel : GoodIn wsX8_learned wsX8_runModel := goodIn_r _ [6, 7, 8, 9, 10, 5, 11, 1, 12, 13, 14, 15, 16, 17, 18, 19, 20, 21, 22, 23, 24, 25, 26, 27, 28, 29, 30, 36, 37, 38, 39, 40, 41, 42, 43, 44, 45, 46, 47, 48, 49, 50, 51, 52, 53, 54, 55, 56, 57] (by decide +kernel) (by decide +kernel)
set_option maxRecDepth 20000 in
theorem gX8_learned_X8_runModel : GoodIn wsX8_learned (wsV RX8 136 RX8 yX8_runModel wsX8_runModel) := goodIn_app (goodIn_of _ (by decide +kernel)) ggX8_learned_X8_runModel
set_option maxRecDepth 20000 in
theorem ggX8_learned_X8_may : GoodIn wsX8_learned wsX8_may := goodIn_r _ [34, 35, 36, 37, 38, 39, 40, 41, 42, 43, 44, 45, 46, 47, 48, 49, 50, 51, 52, 53, 54, 55, 56, 57] (by decide +kernel) (by decide +kernel)
set_option maxRecDepth 20000 in
theorem gX8_learned_X8_may : GoodIn wsX8_learned (wsV RX8 77 RX8 yX8_may wsX8_may) := goodIn_app (goodIn_of _ (by decide +kernel)) ggX8_learned_X8_may
theorem dX8_learned_0 : decode cX8_learned 0 = .ok (.aload_n 0, 1) := by decide +kernel
theorem dX8_learned_1 : decode cX8_learned 1 = .ok (.invokevirtual 136, 3) := by decide +kernel
theorem dX8_learned_4 : decode cX8_learned 4 = .ok (.aload_n 0, 1) := by decide +kernel
theorem dX8_learned_5 : decode cX8_learned 5 = .ok (.iload_n 1, 1) := by decide +kernel
theorem dX8_learned_6 : decode cX8_learned 6 = .ok (.iconst 1, 1) := by decide +kernel
theorem dX8_learned_7 : decode cX8_learned 7 = .ok (.if_icmp .lt 21, 3) := by decide +kernel
theorem dX8_learned_10 : decode cX8_learned 10 = .ok (.iload_n 1, 1) := by decide +kernel
theorem dX8_learned_11 : decode cX8_learned 11 = .ok (.iconst 4, 1) := by decide +kernel
theorem dX8_learned_12 : decode cX8_learned 12 = .ok (.if_icmp .gt 16, 3) := by decide +kernel
theorem dX8_learned_15 : decode cX8_learned 15 = .ok (.iload_n 2, 1) := by decide +kernel
theorem dX8_learned_16 : decode cX8_learned 16 = .ok (.ifCond .lt 12, 3) := by decide +kernel
theorem dX8_learned_19 : decode cX8_learned 19 = .ok (.iload_n 2, 1) := by decide +kernel
theorem dX8_learned_20 : decode cX8_learned 20 = .ok (.iconst 2, 1) := by decide +kernel
theorem dX8_learned_21 : decode cX8_learned 21 = .ok (.if_icmp .gt 7, 3) := by decide +kernel
theorem dX8_learned_24 : decode cX8_learned 24 = .ok (.iconst 1, 1) := by decide +kernel
theorem dX8_learned_25 : decode cX8_learned 25 = .ok (.goto 4, 3) := by decide +kernel
theorem dX8_learned_28 : decode cX8_learned 28 = .ok (.iconst 0, 1) := by decide +kernel
theorem dX8_learned_29 : decode cX8_learned 29 = .ok (.invokevirtual 77, 3) := by decide +kernel
theorem dX8_learned_32 : decode cX8_learned 32 = .ok (.ifCond .eq 16, 3) := by decide +kernel
theorem dX8_learned_35 : decode cX8_learned 35 = .ok (.aload_n 0, 1) := by decide +kernel
theorem dX8_learned_36 : decode cX8_learned 36 = .ok (.getfield 35, 3) := by decide +kernel
theorem dX8_learned_39 : decode cX8_learned 39 = .ok (.iconst 3, 1) := by decide +kernel
theorem dX8_learned_40 : decode cX8_learned 40 = .ok (.iload_n 1, 1) := by decide +kernel
theorem dX8_learned_41 : decode cX8_learned 41 = .ok (.imul, 1) := by decide +kernel
theorem dX8_learned_42 : decode cX8_learned 42 = .ok (.iload_n 2, 1) := by decide +kernel
theorem dX8_learned_43 : decode cX8_learned 43 = .ok (.iadd, 1) := by decide +kernel
theorem dX8_learned_44 : decode cX8_learned 44 = .ok (.iaload, 1) := by decide +kernel
theorem dX8_learned_45 : decode cX8_learned 45 = .ok (.goto 4, 3) := by decide +kernel
theorem dX8_learned_48 : decode cX8_learned 48 = .ok (.iconst 0, 1) := by decide +kernel
theorem dX8_learned_49 : decode cX8_learned 49 = .ok (.ireturn, 1) := by decide +kernel
set_option maxRecDepth 20000 in
theorem ggX8_seen_X8_runFaults : GoodIn wsX8_seen wsX8_runFaults := goodIn_r _ [6, 7, 8, 9, 10, 11, 5, 12, 13, 14, 15, 1, 16, 17, 18, 19, 20, 21, 22, 23, 24, 25, 26, 27, 28, 29, 30, 31, 41, 42, 43, 44, 45, 46, 47, 48, 49, 50, 51, 52, 53, 54, 55, 56, 57, 58, 59, 60, 61, 62] (by decide +kernel) (by decide +kernel)
set_option maxRecDepth 20000 in
theorem gX8_seen_X8_runFaults : GoodIn wsX8_seen (wsV RX8 133 RX8 yX8_runFaults wsX8_runFaults) := goodIn_app (goodIn_of _ (by decide +kernel)) ggX8_seen_X8_runFaults
set_option maxRecDepth 20000 in
theorem ggX8_seen_X8_isFrame : GoodIn wsX8_seen wsX8_isFrame := goodIn_r _ [35, 14, 41, 42, 43, 44, 45, 46, 47, 48, 49, 50, 51, 52, 53, 54, 55, 56, 57, 58, 59, 60, 61, 62] (by decide +kernel) (by decide +kernel)
set_option maxRecDepth 20000 in
theorem gX8_seen_X8_isFrame : GoodIn wsX8_seen (wsV RX8 123 RX8 yX8_isFrame wsX8_isFrame) := goodIn_app (goodIn_of _ (by decide +kernel)) ggX8_seen_X8_isFrame
set_option maxRecDepth 20000 in
theorem ggX8_seen_X8_may : GoodIn wsX8_seen wsX8_may := goodIn_r _ [39, 40, 41, 42, 43, 44, 45, 46, 47, 48, 49, 50, 51, 52, 53, 54, 55, 56, 57, 58, 59, 60, 61, 62] (by decide +kernel) (by decide +kernel)
set_option maxRecDepth 20000 in
theorem gX8_seen_X8_may : GoodIn wsX8_seen (wsV RX8 77 RX8 yX8_may wsX8_may) := goodIn_app (goodIn_of _ (by decide +kernel)) ggX8_seen_X8_may
theorem dX8_seen_0 : decode cX8_seen 0 = .ok (.aload_n 0, 1) := by decide +kernel
theorem dX8_seen_1 : decode cX8_seen 1 = .ok (.invokevirtual 133, 3) := by decide +kernel
theorem dX8_seen_4 : decode cX8_seen 4 = .ok (.aload_n 0, 1) := by decide +kernel
theorem dX8_seen_5 : decode cX8_seen 5 = .ok (.aload_n 0, 1) := by decide +kernel
theorem dX8_seen_6 : decode cX8_seen 6 = .ok (.iload_n 1, 1) := by decide +kernel
theorem dX8_seen_7 : decode cX8_seen 7 = .ok (.invokevirtual 123, 3) := by decide +kernel
theorem dX8_seen_10 : decode cX8_seen 10 = .ok (.invokevirtual 77, 3) := by decide +kernel
theorem dX8_seen_13 : decode cX8_seen 13 = .ok (.ifCond .eq 12, 3) := by decide +kernel
theorem dX8_seen_16 : decode cX8_seen 16 = .ok (.aload_n 0, 1) := by decide +kernel
theorem dX8_seen_17 : decode cX8_seen 17 = .ok (.getfield 41, 3) := by decide +kernel
theorem dX8_seen_20 : decode cX8_seen 20 = .ok (.iload_n 1, 1) := by decide +kernel
theorem dX8_seen_21 : decode cX8_seen 21 = .ok (.iaload, 1) := by decide +kernel
theorem dX8_seen_22 : decode cX8_seen 22 = .ok (.goto 4, 3) := by decide +kernel
theorem dX8_seen_25 : decode cX8_seen 25 = .ok (.iconst 0, 1) := by decide +kernel
theorem dX8_seen_26 : decode cX8_seen 26 = .ok (.ireturn, 1) := by decide +kernel
set_option maxRecDepth 20000 in
theorem ggX8_seenTagged_X8_runFaults : GoodIn wsX8_seenTagged wsX8_runFaults := goodIn_r _ [6, 7, 8, 9, 10, 11, 5, 12, 13, 14, 15, 16, 1, 17, 18, 19, 20, 21, 22, 23, 24, 25, 26, 27, 28, 29, 30, 31, 41, 42, 43, 44, 45, 46, 47, 48, 49, 50, 51, 52, 53, 54, 55, 56, 57, 58, 59, 60, 61, 62] (by decide +kernel) (by decide +kernel)
set_option maxRecDepth 20000 in
theorem gX8_seenTagged_X8_runFaults : GoodIn wsX8_seenTagged (wsV RX8 133 RX8 yX8_runFaults wsX8_runFaults) := goodIn_app (goodIn_of _ (by decide +kernel)) ggX8_seenTagged_X8_runFaults
set_option maxRecDepth 20000 in
theorem ggX8_seenTagged_X8_isFrame : GoodIn wsX8_seenTagged wsX8_isFrame := goodIn_r _ [35, 14, 41, 42, 43, 44, 45, 46, 47, 48, 49, 50, 51, 52, 53, 54, 55, 56, 57, 58, 59, 60, 61, 62] (by decide +kernel) (by decide +kernel)
set_option maxRecDepth 20000 in
theorem gX8_seenTagged_X8_isFrame : GoodIn wsX8_seenTagged (wsV RX8 123 RX8 yX8_isFrame wsX8_isFrame) := goodIn_app (goodIn_of _ (by decide +kernel)) ggX8_seenTagged_X8_isFrame
set_option maxRecDepth 20000 in
theorem ggX8_seenTagged_X8_may : GoodIn wsX8_seenTagged wsX8_may := goodIn_r _ [39, 40, 41, 42, 43, 44, 45, 46, 47, 48, 49, 50, 51, 52, 53, 54, 55, 56, 57, 58, 59, 60, 61, 62] (by decide +kernel) (by decide +kernel)
set_option maxRecDepth 20000 in
theorem gX8_seenTagged_X8_may : GoodIn wsX8_seenTagged (wsV RX8 77 RX8 yX8_may wsX8_may) := goodIn_app (goodIn_of _ (by decide +kernel)) ggX8_seenTagged_X8_may
theorem dX8_seenTagged_0 : decode cX8_seenTagged 0 = .ok (.aload_n 0, 1) := by decide +kernel
theorem dX8_seenTagged_1 : decode cX8_seenTagged 1 = .ok (.invokevirtual 133, 3) := by decide +kernel
theorem dX8_seenTagged_4 : decode cX8_seenTagged 4 = .ok (.aload_n 0, 1) := by decide +kernel
theorem dX8_seenTagged_5 : decode cX8_seenTagged 5 = .ok (.aload_n 0, 1) := by decide +kernel
theorem dX8_seenTagged_6 : decode cX8_seenTagged 6 = .ok (.iload_n 1, 1) := by decide +kernel
theorem dX8_seenTagged_7 : decode cX8_seenTagged 7 = .ok (.invokevirtual 123, 3) := by decide +kernel
theorem dX8_seenTagged_10 : decode cX8_seenTagged 10 = .ok (.invokevirtual 77, 3) := by decide +kernel
theorem dX8_seenTagged_13 : decode cX8_seenTagged 13 = .ok (.ifCond .eq 12, 3) := by decide +kernel
theorem dX8_seenTagged_16 : decode cX8_seenTagged 16 = .ok (.aload_n 0, 1) := by decide +kernel
theorem dX8_seenTagged_17 : decode cX8_seenTagged 17 = .ok (.getfield 44, 3) := by decide +kernel
theorem dX8_seenTagged_20 : decode cX8_seenTagged 20 = .ok (.iload_n 1, 1) := by decide +kernel
theorem dX8_seenTagged_21 : decode cX8_seenTagged 21 = .ok (.iaload, 1) := by decide +kernel
theorem dX8_seenTagged_22 : decode cX8_seenTagged 22 = .ok (.goto 4, 3) := by decide +kernel
theorem dX8_seenTagged_25 : decode cX8_seenTagged 25 = .ok (.iconst 0, 1) := by decide +kernel
theorem dX8_seenTagged_26 : decode cX8_seenTagged 26 = .ok (.ireturn, 1) := by decide +kernel
theorem dX8_isAsSeen_0 : decode cX8_isAsSeen 0 = .ok (.aload_n 0, 1) := by decide +kernel
theorem dX8_isAsSeen_1 : decode cX8_isAsSeen 1 = .ok (.getfield 41, 3) := by decide +kernel
theorem dX8_isAsSeen_4 : decode cX8_isAsSeen 4 = .ok (.iload_n 1, 1) := by decide +kernel
theorem dX8_isAsSeen_5 : decode cX8_isAsSeen 5 = .ok (.iaload, 1) := by decide +kernel
theorem dX8_isAsSeen_6 : decode cX8_isAsSeen 6 = .ok (.aload_n 0, 1) := by decide +kernel
theorem dX8_isAsSeen_7 : decode cX8_isAsSeen 7 = .ok (.getfield 50, 3) := by decide +kernel
theorem dX8_isAsSeen_10 : decode cX8_isAsSeen 10 = .ok (.iload_n 1, 1) := by decide +kernel
theorem dX8_isAsSeen_11 : decode cX8_isAsSeen 11 = .ok (.iaload, 1) := by decide +kernel
theorem dX8_isAsSeen_12 : decode cX8_isAsSeen 12 = .ok (.if_icmp .ne 22, 3) := by decide +kernel
theorem dX8_isAsSeen_15 : decode cX8_isAsSeen 15 = .ok (.aload_n 0, 1) := by decide +kernel
theorem dX8_isAsSeen_16 : decode cX8_isAsSeen 16 = .ok (.getfield 44, 3) := by decide +kernel
theorem dX8_isAsSeen_19 : decode cX8_isAsSeen 19 = .ok (.iload_n 1, 1) := by decide +kernel
theorem dX8_isAsSeen_20 : decode cX8_isAsSeen 20 = .ok (.iaload, 1) := by decide +kernel
theorem dX8_isAsSeen_21 : decode cX8_isAsSeen 21 = .ok (.aload_n 0, 1) := by decide +kernel
theorem dX8_isAsSeen_22 : decode cX8_isAsSeen 22 = .ok (.getfield 53, 3) := by decide +kernel
theorem dX8_isAsSeen_25 : decode cX8_isAsSeen 25 = .ok (.iload_n 1, 1) := by decide +kernel
theorem dX8_isAsSeen_26 : decode cX8_isAsSeen 26 = .ok (.iaload, 1) := by decide +kernel
theorem dX8_isAsSeen_27 : decode cX8_isAsSeen 27 = .ok (.if_icmp .ne 7, 3) := by decide +kernel
theorem dX8_isAsSeen_30 : decode cX8_isAsSeen 30 = .ok (.iconst 1, 1) := by decide +kernel
theorem dX8_isAsSeen_31 : decode cX8_isAsSeen 31 = .ok (.goto 4, 3) := by decide +kernel
theorem dX8_isAsSeen_34 : decode cX8_isAsSeen 34 = .ok (.iconst 0, 1) := by decide +kernel
theorem dX8_isAsSeen_35 : decode cX8_isAsSeen 35 = .ok (.ireturn, 1) := by decide +kernel
set_option maxRecDepth 20000 in
theorem ggX8_differing_X8_runBoth : GoodIn wsX8_differing wsX8_runBoth := goodIn_r _ [7, 2, 8, 9, 10, 11, 12, 13, 14, 6, 15, 16, 17, 18, 19, 20, 21, 22, 23, 24, 25, 26, 27, 28, 29, 30, 31, 32, 33, 34, 35, 36, 37, 38, 39, 40, 41, 42, 47, 48, 49, 50, 51, 52, 53, 54, 55, 56, 57, 58, 59, 60, 61, 62, 63, 64, 65, 66, 67, 68] (by decide +kernel) (by decide +kernel)
set_option maxRecDepth 20000 in
theorem gX8_differing_X8_runBoth : GoodIn wsX8_differing (wsV RX8 139 RX8 yX8_runBoth wsX8_runBoth) := goodIn_app (goodIn_of _ (by decide +kernel)) ggX8_differing_X8_runBoth
set_option maxRecDepth 20000 in
theorem ggX8_differing_X8_isAsSeen : GoodIn wsX8_differing wsX8_isAsSeen := goodIn_r _ [46, 9, 8, 11, 10, 47, 48, 49, 50, 51, 52, 53, 54, 55, 56, 57, 58, 59, 60, 61, 62, 63, 64, 65, 66, 67, 68] (by decide +kernel) (by decide +kernel)
set_option maxRecDepth 20000 in
theorem gX8_differing_X8_isAsSeen : GoodIn wsX8_differing (wsV RX8 142 RX8 yX8_isAsSeen wsX8_isAsSeen) := goodIn_app (goodIn_of _ (by decide +kernel)) ggX8_differing_X8_isAsSeen
theorem dX8_differing_0 : decode cX8_differing 0 = .ok (.aload_n 0, 1) := by decide +kernel
theorem dX8_differing_1 : decode cX8_differing 1 = .ok (.iconst 0, 1) := by decide +kernel
theorem dX8_differing_2 : decode cX8_differing 2 = .ok (.putfield 63, 3) := by decide +kernel
theorem dX8_differing_5 : decode cX8_differing 5 = .ok (.aload_n 0, 1) := by decide +kernel
theorem dX8_differing_6 : decode cX8_differing 6 = .ok (.invokevirtual 139, 3) := by decide +kernel
theorem dX8_differing_9 : decode cX8_differing 9 = .ok (.lconst 0, 1) := by decide +kernel
theorem dX8_differing_10 : decode cX8_differing 10 = .ok (.lstore_n 1, 1) := by decide +kernel
theorem dX8_differing_11 : decode cX8_differing 11 = .ok (.iconst 0, 1) := by decide +kernel
theorem dX8_differing_12 : decode cX8_differing 12 = .ok (.istore_n 3, 1) := by decide +kernel
theorem dX8_differing_13 : decode cX8_differing 13 = .ok (.iload_n 3, 1) := by decide +kernel
theorem dX8_differing_14 : decode cX8_differing 14 = .ok (.aload_n 0, 1) := by decide +kernel
theorem dX8_differing_15 : decode cX8_differing 15 = .ok (.getfield 70, 3) := by decide +kernel
theorem dX8_differing_18 : decode cX8_differing 18 = .ok (.if_icmp .ge 27, 3) := by decide +kernel
theorem dX8_differing_21 : decode cX8_differing 21 = .ok (.lload_n 1, 1) := by decide +kernel
theorem dX8_differing_22 : decode cX8_differing 22 = .ok (.aload_n 0, 1) := by decide +kernel
theorem dX8_differing_23 : decode cX8_differing 23 = .ok (.iload_n 3, 1) := by decide +kernel
theorem dX8_differing_24 : decode cX8_differing 24 = .ok (.invokevirtual 142, 3) := by decide +kernel
theorem dX8_differing_27 : decode cX8_differing 27 = .ok (.ifCond .eq 7, 3) := by decide +kernel
theorem dX8_differing_30 : decode cX8_differing 30 = .ok (.lconst 0, 1) := by decide +kernel
theorem dX8_differing_31 : decode cX8_differing 31 = .ok (.goto 6, 3) := by decide +kernel
theorem dX8_differing_34 : decode cX8_differing 34 = .ok (.lconst 1, 1) := by decide +kernel
theorem dX8_differing_35 : decode cX8_differing 35 = .ok (.iload_n 3, 1) := by decide +kernel
theorem dX8_differing_36 : decode cX8_differing 36 = .ok (.lshl, 1) := by decide +kernel
theorem dX8_differing_37 : decode cX8_differing 37 = .ok (.lor, 1) := by decide +kernel
theorem dX8_differing_38 : decode cX8_differing 38 = .ok (.lstore_n 1, 1) := by decide +kernel
theorem dX8_differing_39 : decode cX8_differing 39 = .ok (.iinc 3 1, 3) := by decide +kernel
theorem dX8_differing_42 : decode cX8_differing 42 = .ok (.goto (-29), 3) := by decide +kernel
theorem dX8_differing_45 : decode cX8_differing 45 = .ok (.lload_n 1, 1) := by decide +kernel
theorem dX8_differing_46 : decode cX8_differing 46 = .ok (.lreturn, 1) := by decide +kernel
set_option maxRecDepth 20000 in
theorem ggX8_differencesAt_X8_isPort : GoodIn wsX8_differencesAt wsX8_isPort := goodIn_r _ [10, 11, 51, 52, 53, 54, 55, 56, 57, 58, 59, 60, 61, 62, 63, 64, 65, 66, 67, 68, 69, 70, 71, 72] (by decide +kernel) (by decide +kernel)
set_option maxRecDepth 20000 in
theorem gX8_differencesAt_X8_isPort : GoodIn wsX8_differencesAt (wsV RX8 81 RX8 yX8_isPort wsX8_isPort) := goodIn_app (goodIn_of _ (by decide +kernel)) ggX8_differencesAt_X8_isPort
set_option maxRecDepth 20000 in
theorem ggX8_differencesAt_X8_may : GoodIn wsX8_differencesAt wsX8_may := goodIn_r _ [15, 16, 51, 52, 53, 54, 55, 56, 57, 58, 59, 60, 61, 62, 63, 64, 65, 66, 67, 68, 69, 70, 71, 72] (by decide +kernel) (by decide +kernel)
set_option maxRecDepth 20000 in
theorem gX8_differencesAt_X8_may : GoodIn wsX8_differencesAt (wsV RX8 77 RX8 yX8_may wsX8_may) := goodIn_app (goodIn_of _ (by decide +kernel)) ggX8_differencesAt_X8_may
set_option maxRecDepth 20000 in
theorem ggX8_differencesAt_X8_runBoth : GoodIn wsX8_differencesAt wsX8_runBoth := goodIn_r _ [20, 1, 3, 2, 5, 4, 21, 22, 23, 9, 24, 25, 26, 27, 28, 29, 30, 31, 32, 33, 34, 35, 11, 36, 37, 38, 39, 40, 41, 42, 43, 44, 45, 46, 47, 48, 49, 50, 51, 52, 53, 54, 55, 56, 57, 58, 59, 60, 61, 62, 63, 64, 65, 66, 67, 68, 69, 70, 71, 72] (by decide +kernel) (by decide +kernel)
set_option maxRecDepth 20000 in
theorem gX8_differencesAt_X8_runBoth : GoodIn wsX8_differencesAt (wsV RX8 139 RX8 yX8_runBoth wsX8_runBoth) := goodIn_app (goodIn_of _ (by decide +kernel)) ggX8_differencesAt_X8_runBoth
set_option maxRecDepth 20000 in
theorem ggX8_differencesAt_X8_has : GoodIn wsX8_differencesAt wsX8_has := goodIn_r _ [46] (by decide +kernel) (by decide +kernel)
set_option maxRecDepth 20000 in
theorem gX8_differencesAt_X8_has : GoodIn wsX8_differencesAt (va_wsS RX8 89 yX8_has wsX8_has) := goodIn_app (goodIn_of _ (by decide +kernel)) ggX8_differencesAt_X8_has
theorem dX8_differencesAt_0 : decode cX8_differencesAt 0 = .ok (.aload_n 0, 1) := by decide +kernel
theorem dX8_differencesAt_1 : decode cX8_differencesAt 1 = .ok (.aload_n 0, 1) := by decide +kernel
theorem dX8_differencesAt_2 : decode cX8_differencesAt 2 = .ok (.iload_n 1, 1) := by decide +kernel
theorem dX8_differencesAt_3 : decode cX8_differencesAt 3 = .ok (.invokevirtual 81, 3) := by decide +kernel
theorem dX8_differencesAt_6 : decode cX8_differencesAt 6 = .ok (.invokevirtual 77, 3) := by decide +kernel
theorem dX8_differencesAt_9 : decode cX8_differencesAt 9 = .ok (.ifCond .ne 5, 3) := by decide +kernel
theorem dX8_differencesAt_12 : decode cX8_differencesAt 12 = .ok (.iconst 0, 1) := by decide +kernel
theorem dX8_differencesAt_13 : decode cX8_differencesAt 13 = .ok (.ireturn, 1) := by decide +kernel
theorem dX8_differencesAt_14 : decode cX8_differencesAt 14 = .ok (.aload_n 0, 1) := by decide +kernel
theorem dX8_differencesAt_15 : decode cX8_differencesAt 15 = .ok (.invokevirtual 139, 3) := by decide +kernel
theorem dX8_differencesAt_18 : decode cX8_differencesAt 18 = .ok (.iconst 0, 1) := by decide +kernel
theorem dX8_differencesAt_19 : decode cX8_differencesAt 19 = .ok (.istore_n 2, 1) := by decide +kernel
theorem dX8_differencesAt_20 : decode cX8_differencesAt 20 = .ok (.iconst 0, 1) := by decide +kernel
theorem dX8_differencesAt_21 : decode cX8_differencesAt 21 = .ok (.istore_n 3, 1) := by decide +kernel
theorem dX8_differencesAt_22 : decode cX8_differencesAt 22 = .ok (.iload_n 3, 1) := by decide +kernel
theorem dX8_differencesAt_23 : decode cX8_differencesAt 23 = .ok (.aload_n 0, 1) := by decide +kernel
theorem dX8_differencesAt_24 : decode cX8_differencesAt 24 = .ok (.getfield 70, 3) := by decide +kernel
theorem dX8_differencesAt_27 : decode cX8_differencesAt 27 = .ok (.if_icmp .ge 69, 3) := by decide +kernel
theorem dX8_differencesAt_30 : decode cX8_differencesAt 30 = .ok (.aload_n 0, 1) := by decide +kernel
theorem dX8_differencesAt_31 : decode cX8_differencesAt 31 = .ok (.getfield 41, 3) := by decide +kernel
theorem dX8_differencesAt_34 : decode cX8_differencesAt 34 = .ok (.iload_n 3, 1) := by decide +kernel
theorem dX8_differencesAt_35 : decode cX8_differencesAt 35 = .ok (.iaload, 1) := by decide +kernel
theorem dX8_differencesAt_36 : decode cX8_differencesAt 36 = .ok (.aload_n 0, 1) := by decide +kernel
theorem dX8_differencesAt_37 : decode cX8_differencesAt 37 = .ok (.getfield 50, 3) := by decide +kernel
theorem dX8_differencesAt_40 : decode cX8_differencesAt 40 = .ok (.iload_n 3, 1) := by decide +kernel
theorem dX8_differencesAt_41 : decode cX8_differencesAt 41 = .ok (.iaload, 1) := by decide +kernel
theorem dX8_differencesAt_42 : decode cX8_differencesAt 42 = .ok (.ixor, 1) := by decide +kernel
theorem dX8_differencesAt_43 : decode cX8_differencesAt 43 = .ok (.iload_n 1, 1) := by decide +kernel
theorem dX8_differencesAt_44 : decode cX8_differencesAt 44 = .ok (.invokestatic 89, 3) := by decide +kernel
theorem dX8_differencesAt_47 : decode cX8_differencesAt 47 = .ok (.ifCond .ne 23, 3) := by decide +kernel
theorem dX8_differencesAt_50 : decode cX8_differencesAt 50 = .ok (.aload_n 0, 1) := by decide +kernel
theorem dX8_differencesAt_51 : decode cX8_differencesAt 51 = .ok (.getfield 44, 3) := by decide +kernel
theorem dX8_differencesAt_54 : decode cX8_differencesAt 54 = .ok (.iload_n 3, 1) := by decide +kernel
theorem dX8_differencesAt_55 : decode cX8_differencesAt 55 = .ok (.iaload, 1) := by decide +kernel
theorem dX8_differencesAt_56 : decode cX8_differencesAt 56 = .ok (.aload_n 0, 1) := by decide +kernel
theorem dX8_differencesAt_57 : decode cX8_differencesAt 57 = .ok (.getfield 53, 3) := by decide +kernel
theorem dX8_differencesAt_60 : decode cX8_differencesAt 60 = .ok (.iload_n 3, 1) := by decide +kernel
theorem dX8_differencesAt_61 : decode cX8_differencesAt 61 = .ok (.iaload, 1) := by decide +kernel
theorem dX8_differencesAt_62 : decode cX8_differencesAt 62 = .ok (.ixor, 1) := by decide +kernel
theorem dX8_differencesAt_63 : decode cX8_differencesAt 63 = .ok (.iload_n 1, 1) := by decide +kernel
theorem dX8_differencesAt_64 : decode cX8_differencesAt 64 = .ok (.invokestatic 89, 3) := by decide +kernel
theorem dX8_differencesAt_67 : decode cX8_differencesAt 67 = .ok (.ifCond .eq 7, 3) := by decide +kernel
theorem dX8_differencesAt_70 : decode cX8_differencesAt 70 = .ok (.iconst 1, 1) := by decide +kernel
theorem dX8_differencesAt_71 : decode cX8_differencesAt 71 = .ok (.goto 4, 3) := by decide +kernel
theorem dX8_differencesAt_74 : decode cX8_differencesAt 74 = .ok (.iconst 0, 1) := by decide +kernel
theorem dX8_differencesAt_75 : decode cX8_differencesAt 75 = .ok (.istore 4, 2) := by decide +kernel
theorem dX8_differencesAt_77 : decode cX8_differencesAt 77 = .ok (.iload_n 2, 1) := by decide +kernel
theorem dX8_differencesAt_78 : decode cX8_differencesAt 78 = .ok (.iload 4, 2) := by decide +kernel
theorem dX8_differencesAt_80 : decode cX8_differencesAt 80 = .ok (.ifCond .eq 7, 3) := by decide +kernel
theorem dX8_differencesAt_83 : decode cX8_differencesAt 83 = .ok (.iconst 1, 1) := by decide +kernel
theorem dX8_differencesAt_84 : decode cX8_differencesAt 84 = .ok (.goto 4, 3) := by decide +kernel
theorem dX8_differencesAt_87 : decode cX8_differencesAt 87 = .ok (.iconst 0, 1) := by decide +kernel
theorem dX8_differencesAt_88 : decode cX8_differencesAt 88 = .ok (.iadd, 1) := by decide +kernel
theorem dX8_differencesAt_89 : decode cX8_differencesAt 89 = .ok (.istore_n 2, 1) := by decide +kernel
theorem dX8_differencesAt_90 : decode cX8_differencesAt 90 = .ok (.iinc 3 1, 3) := by decide +kernel
theorem dX8_differencesAt_93 : decode cX8_differencesAt 93 = .ok (.goto (-71), 3) := by decide +kernel
theorem dX8_differencesAt_96 : decode cX8_differencesAt 96 = .ok (.iload_n 2, 1) := by decide +kernel
theorem dX8_differencesAt_97 : decode cX8_differencesAt 97 = .ok (.ireturn, 1) := by decide +kernel
set_option maxRecDepth 20000 in
theorem ggX8_explains_X8_run : GoodIn wsX8_explains wsX8_run := goodIn_r _ [7, 8, 2, 9, 10, 11, 12, 1, 13, 14, 15, 16, 17, 18, 19, 20, 21, 6, 22, 23, 24, 25, 26, 33, 34, 35, 36, 37, 38, 39, 40, 41, 42, 43, 44, 45, 46, 47, 48, 49, 50, 51, 52, 53, 54] (by decide +kernel) (by decide +kernel)
set_option maxRecDepth 20000 in
theorem gX8_explains_X8_run : GoodIn wsX8_explains (wsV RX8 130 RX8 yX8_run wsX8_run) := goodIn_app (goodIn_of _ (by decide +kernel)) ggX8_explains_X8_run
set_option maxRecDepth 20000 in
theorem ggX8_explains_X8_isAsSeen : GoodIn wsX8_explains wsX8_isAsSeen := goodIn_r _ [30, 10, 31, 11, 32, 33, 34, 35, 36, 37, 38, 39, 40, 41, 42, 43, 44, 45, 46, 47, 48, 49, 50, 51, 52, 53, 54] (by decide +kernel) (by decide +kernel)
set_option maxRecDepth 20000 in
theorem gX8_explains_X8_isAsSeen : GoodIn wsX8_explains (wsV RX8 142 RX8 yX8_isAsSeen wsX8_isAsSeen) := goodIn_app (goodIn_of _ (by decide +kernel)) ggX8_explains_X8_isAsSeen
theorem dX8_explains_0 : decode cX8_explains 0 = .ok (.iconst 0, 1) := by decide +kernel
theorem dX8_explains_1 : decode cX8_explains 1 = .ok (.istore_n 3, 1) := by decide +kernel
theorem dX8_explains_2 : decode cX8_explains 2 = .ok (.iload_n 3, 1) := by decide +kernel
theorem dX8_explains_3 : decode cX8_explains 3 = .ok (.bipush 6, 2) := by decide +kernel
theorem dX8_explains_5 : decode cX8_explains 5 = .ok (.if_icmp .ge 16, 3) := by decide +kernel
theorem dX8_explains_8 : decode cX8_explains 8 = .ok (.aload_n 0, 1) := by decide +kernel
theorem dX8_explains_9 : decode cX8_explains 9 = .ok (.getfield 38, 3) := by decide +kernel
theorem dX8_explains_12 : decode cX8_explains 12 = .ok (.iload_n 3, 1) := by decide +kernel
theorem dX8_explains_13 : decode cX8_explains 13 = .ok (.iconst 0, 1) := by decide +kernel
theorem dX8_explains_14 : decode cX8_explains 14 = .ok (.iastore, 1) := by decide +kernel
theorem dX8_explains_15 : decode cX8_explains 15 = .ok (.iinc 3 1, 3) := by decide +kernel
theorem dX8_explains_18 : decode cX8_explains 18 = .ok (.goto (-16), 3) := by decide +kernel
theorem dX8_explains_21 : decode cX8_explains 21 = .ok (.iload_n 1, 1) := by decide +kernel
theorem dX8_explains_22 : decode cX8_explains 22 = .ok (.iconst (-1), 1) := by decide +kernel
theorem dX8_explains_23 : decode cX8_explains 23 = .ok (.if_icmp .eq 19, 3) := by decide +kernel
theorem dX8_explains_26 : decode cX8_explains 26 = .ok (.aload_n 0, 1) := by decide +kernel
theorem dX8_explains_27 : decode cX8_explains 27 = .ok (.getfield 38, 3) := by decide +kernel
theorem dX8_explains_30 : decode cX8_explains 30 = .ok (.iload_n 1, 1) := by decide +kernel
theorem dX8_explains_31 : decode cX8_explains 31 = .ok (.iconst 5, 1) := by decide +kernel
theorem dX8_explains_32 : decode cX8_explains 32 = .ok (.idiv, 1) := by decide +kernel
theorem dX8_explains_33 : decode cX8_explains 33 = .ok (.dup2, 1) := by decide +kernel
theorem dX8_explains_34 : decode cX8_explains 34 = .ok (.iaload, 1) := by decide +kernel
theorem dX8_explains_35 : decode cX8_explains 35 = .ok (.iconst 1, 1) := by decide +kernel
theorem dX8_explains_36 : decode cX8_explains 36 = .ok (.iload_n 1, 1) := by decide +kernel
theorem dX8_explains_37 : decode cX8_explains 37 = .ok (.iconst 5, 1) := by decide +kernel
theorem dX8_explains_38 : decode cX8_explains 38 = .ok (.irem, 1) := by decide +kernel
theorem dX8_explains_39 : decode cX8_explains 39 = .ok (.ishl, 1) := by decide +kernel
theorem dX8_explains_40 : decode cX8_explains 40 = .ok (.ior, 1) := by decide +kernel
theorem dX8_explains_41 : decode cX8_explains 41 = .ok (.iastore, 1) := by decide +kernel
theorem dX8_explains_42 : decode cX8_explains 42 = .ok (.iload_n 2, 1) := by decide +kernel
theorem dX8_explains_43 : decode cX8_explains 43 = .ok (.iconst (-1), 1) := by decide +kernel
theorem dX8_explains_44 : decode cX8_explains 44 = .ok (.if_icmp .eq 19, 3) := by decide +kernel
theorem dX8_explains_47 : decode cX8_explains 47 = .ok (.aload_n 0, 1) := by decide +kernel
theorem dX8_explains_48 : decode cX8_explains 48 = .ok (.getfield 38, 3) := by decide +kernel
theorem dX8_explains_51 : decode cX8_explains 51 = .ok (.iload_n 2, 1) := by decide +kernel
theorem dX8_explains_52 : decode cX8_explains 52 = .ok (.iconst 5, 1) := by decide +kernel
theorem dX8_explains_53 : decode cX8_explains 53 = .ok (.idiv, 1) := by decide +kernel
theorem dX8_explains_54 : decode cX8_explains 54 = .ok (.dup2, 1) := by decide +kernel
theorem dX8_explains_55 : decode cX8_explains 55 = .ok (.iaload, 1) := by decide +kernel
theorem dX8_explains_56 : decode cX8_explains 56 = .ok (.iconst 1, 1) := by decide +kernel
theorem dX8_explains_57 : decode cX8_explains 57 = .ok (.iload_n 2, 1) := by decide +kernel
theorem dX8_explains_58 : decode cX8_explains 58 = .ok (.iconst 5, 1) := by decide +kernel
theorem dX8_explains_59 : decode cX8_explains 59 = .ok (.irem, 1) := by decide +kernel
theorem dX8_explains_60 : decode cX8_explains 60 = .ok (.ishl, 1) := by decide +kernel
theorem dX8_explains_61 : decode cX8_explains 61 = .ok (.ior, 1) := by decide +kernel
theorem dX8_explains_62 : decode cX8_explains 62 = .ok (.iastore, 1) := by decide +kernel
theorem dX8_explains_63 : decode cX8_explains 63 = .ok (.aload_n 0, 1) := by decide +kernel
theorem dX8_explains_64 : decode cX8_explains 64 = .ok (.invokevirtual 130, 3) := by decide +kernel
theorem dX8_explains_67 : decode cX8_explains 67 = .ok (.iconst 0, 1) := by decide +kernel
theorem dX8_explains_68 : decode cX8_explains 68 = .ok (.istore_n 3, 1) := by decide +kernel
theorem dX8_explains_69 : decode cX8_explains 69 = .ok (.iload_n 3, 1) := by decide +kernel
theorem dX8_explains_70 : decode cX8_explains 70 = .ok (.aload_n 0, 1) := by decide +kernel
theorem dX8_explains_71 : decode cX8_explains 71 = .ok (.getfield 70, 3) := by decide +kernel
theorem dX8_explains_74 : decode cX8_explains 74 = .ok (.if_icmp .ge 19, 3) := by decide +kernel
theorem dX8_explains_77 : decode cX8_explains 77 = .ok (.aload_n 0, 1) := by decide +kernel
theorem dX8_explains_78 : decode cX8_explains 78 = .ok (.iload_n 3, 1) := by decide +kernel
theorem dX8_explains_79 : decode cX8_explains 79 = .ok (.invokevirtual 142, 3) := by decide +kernel
theorem dX8_explains_82 : decode cX8_explains 82 = .ok (.ifCond .ne 5, 3) := by decide +kernel
theorem dX8_explains_85 : decode cX8_explains 85 = .ok (.iconst 0, 1) := by decide +kernel
theorem dX8_explains_86 : decode cX8_explains 86 = .ok (.ireturn, 1) := by decide +kernel
theorem dX8_explains_87 : decode cX8_explains 87 = .ok (.iinc 3 1, 3) := by decide +kernel
theorem dX8_explains_90 : decode cX8_explains 90 = .ok (.goto (-21), 3) := by decide +kernel
theorem dX8_explains_93 : decode cX8_explains 93 = .ok (.iconst 1, 1) := by decide +kernel
theorem dX8_explains_94 : decode cX8_explains 94 = .ok (.ireturn, 1) := by decide +kernel
theorem dX8_note_0 : decode cX8_note 0 = .ok (.aload_n 0, 1) := by decide +kernel
theorem dX8_note_1 : decode cX8_note 1 = .ok (.getfield 145, 3) := by decide +kernel
theorem dX8_note_4 : decode cX8_note 4 = .ok (.ifCond .ne 13, 3) := by decide +kernel
theorem dX8_note_7 : decode cX8_note 7 = .ok (.aload_n 0, 1) := by decide +kernel
theorem dX8_note_8 : decode cX8_note 8 = .ok (.iload_n 1, 1) := by decide +kernel
theorem dX8_note_9 : decode cX8_note 9 = .ok (.putfield 148, 3) := by decide +kernel
theorem dX8_note_12 : decode cX8_note 12 = .ok (.aload_n 0, 1) := by decide +kernel
theorem dX8_note_13 : decode cX8_note 13 = .ok (.iload_n 2, 1) := by decide +kernel
theorem dX8_note_14 : decode cX8_note 14 = .ok (.putfield 151, 3) := by decide +kernel
theorem dX8_note_17 : decode cX8_note 17 = .ok (.aload_n 0, 1) := by decide +kernel
theorem dX8_note_18 : decode cX8_note 18 = .ok (.dup, 1) := by decide +kernel
theorem dX8_note_19 : decode cX8_note 19 = .ok (.getfield 145, 3) := by decide +kernel
theorem dX8_note_22 : decode cX8_note 22 = .ok (.iconst 1, 1) := by decide +kernel
theorem dX8_note_23 : decode cX8_note 23 = .ok (.iadd, 1) := by decide +kernel
theorem dX8_note_24 : decode cX8_note 24 = .ok (.putfield 145, 3) := by decide +kernel
theorem dX8_note_27 : decode cX8_note 27 = .ok (.return_, 1) := by decide +kernel
set_option maxRecDepth 20000 in
theorem ggX8_explain_X8_runBoth : GoodIn wsX8_explain wsX8_runBoth := goodIn_r _ [7, 8, 9, 10, 11, 12, 13, 14, 15, 6, 16, 17, 18, 19, 20, 21, 22, 23, 24, 25, 26, 27, 2, 28, 29, 30, 31, 32, 33, 34, 35, 36, 37, 38, 39, 40, 41, 42, 57, 58, 59, 60, 61, 62, 63, 64, 65, 66, 67, 68, 69, 70, 71, 72, 73, 74, 75, 76, 77, 78] (by decide +kernel) (by decide +kernel)
set_option maxRecDepth 20000 in
theorem gX8_explain_X8_runBoth : GoodIn wsX8_explain (wsV RX8 139 RX8 yX8_runBoth wsX8_runBoth) := goodIn_app (goodIn_of _ (by decide +kernel)) ggX8_explain_X8_runBoth
set_option maxRecDepth 20000 in
theorem ggX8_explain_X8_explains : GoodIn wsX8_explain wsX8_explains := goodIn_r _ [46, 17, 8, 19, 20, 21, 6, 22, 23, 24, 10, 12, 25, 26, 27, 2, 28, 29, 30, 31, 32, 33, 34, 35, 36, 37, 38, 47, 48, 49, 50, 9, 11, 57, 58, 59, 60, 61, 62, 63, 64, 65, 66, 67, 68, 69, 70, 71, 72, 73, 74, 75, 76, 77, 78] (by decide +kernel) (by decide +kernel)
set_option maxRecDepth 20000 in
theorem gX8_explain_X8_explains : GoodIn wsX8_explain (wsV RX8 154 RX8 yX8_explains wsX8_explains) := goodIn_app (goodIn_of _ (by decide +kernel)) ggX8_explain_X8_explains
set_option maxRecDepth 20000 in
theorem ggX8_explain_X8_note : GoodIn wsX8_explain wsX8_note := goodIn_r _ [54, 1, 55, 56, 57, 58, 59, 60, 61, 62, 63, 64, 65, 66, 67, 68, 69, 70, 71, 72, 73, 74, 75, 76, 77, 78] (by decide +kernel) (by decide +kernel)
set_option maxRecDepth 20000 in
theorem gX8_explain_X8_note : GoodIn wsX8_explain (wsV RX8 157 RX8 yX8_note wsX8_note) := goodIn_app (goodIn_of _ (by decide +kernel)) ggX8_explain_X8_note
theorem dX8_explain_0 : decode cX8_explain 0 = .ok (.aload_n 0, 1) := by decide +kernel
theorem dX8_explain_1 : decode cX8_explain 1 = .ok (.invokevirtual 139, 3) := by decide +kernel
theorem dX8_explain_4 : decode cX8_explain 4 = .ok (.aload_n 0, 1) := by decide +kernel
theorem dX8_explain_5 : decode cX8_explain 5 = .ok (.iconst 0, 1) := by decide +kernel
theorem dX8_explain_6 : decode cX8_explain 6 = .ok (.putfield 145, 3) := by decide +kernel
theorem dX8_explain_9 : decode cX8_explain 9 = .ok (.aload_n 0, 1) := by decide +kernel
theorem dX8_explain_10 : decode cX8_explain 10 = .ok (.iconst (-1), 1) := by decide +kernel
theorem dX8_explain_11 : decode cX8_explain 11 = .ok (.iconst (-1), 1) := by decide +kernel
theorem dX8_explain_12 : decode cX8_explain 12 = .ok (.invokevirtual 154, 3) := by decide +kernel
theorem dX8_explain_15 : decode cX8_explain 15 = .ok (.ifCond .eq 11, 3) := by decide +kernel
theorem dX8_explain_18 : decode cX8_explain 18 = .ok (.aload_n 0, 1) := by decide +kernel
theorem dX8_explain_19 : decode cX8_explain 19 = .ok (.iconst (-1), 1) := by decide +kernel
theorem dX8_explain_20 : decode cX8_explain 20 = .ok (.iconst (-1), 1) := by decide +kernel
theorem dX8_explain_21 : decode cX8_explain 21 = .ok (.invokevirtual 157, 3) := by decide +kernel
theorem dX8_explain_24 : decode cX8_explain 24 = .ok (.iconst 0, 1) := by decide +kernel
theorem dX8_explain_25 : decode cX8_explain 25 = .ok (.ireturn, 1) := by decide +kernel
theorem dX8_explain_26 : decode cX8_explain 26 = .ok (.iconst 5, 1) := by decide +kernel
theorem dX8_explain_27 : decode cX8_explain 27 = .ok (.aload_n 0, 1) := by decide +kernel
theorem dX8_explain_28 : decode cX8_explain 28 = .ok (.getfield 67, 3) := by decide +kernel
theorem dX8_explain_31 : decode cX8_explain 31 = .ok (.imul, 1) := by decide +kernel
theorem dX8_explain_32 : decode cX8_explain 32 = .ok (.istore_n 1, 1) := by decide +kernel
theorem dX8_explain_33 : decode cX8_explain 33 = .ok (.iconst 0, 1) := by decide +kernel
theorem dX8_explain_34 : decode cX8_explain 34 = .ok (.istore_n 2, 1) := by decide +kernel
theorem dX8_explain_35 : decode cX8_explain 35 = .ok (.iload_n 2, 1) := by decide +kernel
theorem dX8_explain_36 : decode cX8_explain 36 = .ok (.iload_n 1, 1) := by decide +kernel
theorem dX8_explain_37 : decode cX8_explain 37 = .ok (.if_icmp .ge 24, 3) := by decide +kernel
theorem dX8_explain_40 : decode cX8_explain 40 = .ok (.aload_n 0, 1) := by decide +kernel
theorem dX8_explain_41 : decode cX8_explain 41 = .ok (.iload_n 2, 1) := by decide +kernel
theorem dX8_explain_42 : decode cX8_explain 42 = .ok (.iconst (-1), 1) := by decide +kernel
theorem dX8_explain_43 : decode cX8_explain 43 = .ok (.invokevirtual 154, 3) := by decide +kernel
theorem dX8_explain_46 : decode cX8_explain 46 = .ok (.ifCond .eq 9, 3) := by decide +kernel
theorem dX8_explain_49 : decode cX8_explain 49 = .ok (.aload_n 0, 1) := by decide +kernel
theorem dX8_explain_50 : decode cX8_explain 50 = .ok (.iload_n 2, 1) := by decide +kernel
theorem dX8_explain_51 : decode cX8_explain 51 = .ok (.iconst (-1), 1) := by decide +kernel
theorem dX8_explain_52 : decode cX8_explain 52 = .ok (.invokevirtual 157, 3) := by decide +kernel
theorem dX8_explain_55 : decode cX8_explain 55 = .ok (.iinc 2 1, 3) := by decide +kernel
theorem dX8_explain_58 : decode cX8_explain 58 = .ok (.goto (-23), 3) := by decide +kernel
theorem dX8_explain_61 : decode cX8_explain 61 = .ok (.aload_n 0, 1) := by decide +kernel
theorem dX8_explain_62 : decode cX8_explain 62 = .ok (.getfield 145, 3) := by decide +kernel
theorem dX8_explain_65 : decode cX8_explain 65 = .ok (.ifCond .le 5, 3) := by decide +kernel
theorem dX8_explain_68 : decode cX8_explain 68 = .ok (.iconst 1, 1) := by decide +kernel
theorem dX8_explain_69 : decode cX8_explain 69 = .ok (.ireturn, 1) := by decide +kernel
theorem dX8_explain_70 : decode cX8_explain 70 = .ok (.iconst 0, 1) := by decide +kernel
theorem dX8_explain_71 : decode cX8_explain 71 = .ok (.istore_n 2, 1) := by decide +kernel
theorem dX8_explain_72 : decode cX8_explain 72 = .ok (.iload_n 2, 1) := by decide +kernel
theorem dX8_explain_73 : decode cX8_explain 73 = .ok (.iload_n 1, 1) := by decide +kernel
theorem dX8_explain_74 : decode cX8_explain 74 = .ok (.if_icmp .ge 39, 3) := by decide +kernel
theorem dX8_explain_77 : decode cX8_explain 77 = .ok (.iload_n 2, 1) := by decide +kernel
theorem dX8_explain_78 : decode cX8_explain 78 = .ok (.iconst 1, 1) := by decide +kernel
theorem dX8_explain_79 : decode cX8_explain 79 = .ok (.iadd, 1) := by decide +kernel
theorem dX8_explain_80 : decode cX8_explain 80 = .ok (.istore_n 3, 1) := by decide +kernel
theorem dX8_explain_81 : decode cX8_explain 81 = .ok (.iload_n 3, 1) := by decide +kernel
theorem dX8_explain_82 : decode cX8_explain 82 = .ok (.iload_n 1, 1) := by decide +kernel
theorem dX8_explain_83 : decode cX8_explain 83 = .ok (.if_icmp .ge 24, 3) := by decide +kernel
theorem dX8_explain_86 : decode cX8_explain 86 = .ok (.aload_n 0, 1) := by decide +kernel
theorem dX8_explain_87 : decode cX8_explain 87 = .ok (.iload_n 2, 1) := by decide +kernel
theorem dX8_explain_88 : decode cX8_explain 88 = .ok (.iload_n 3, 1) := by decide +kernel
theorem dX8_explain_89 : decode cX8_explain 89 = .ok (.invokevirtual 154, 3) := by decide +kernel
theorem dX8_explain_92 : decode cX8_explain 92 = .ok (.ifCond .eq 9, 3) := by decide +kernel
theorem dX8_explain_95 : decode cX8_explain 95 = .ok (.aload_n 0, 1) := by decide +kernel
theorem dX8_explain_96 : decode cX8_explain 96 = .ok (.iload_n 2, 1) := by decide +kernel
theorem dX8_explain_97 : decode cX8_explain 97 = .ok (.iload_n 3, 1) := by decide +kernel
theorem dX8_explain_98 : decode cX8_explain 98 = .ok (.invokevirtual 157, 3) := by decide +kernel
theorem dX8_explain_101 : decode cX8_explain 101 = .ok (.iinc 3 1, 3) := by decide +kernel
theorem dX8_explain_104 : decode cX8_explain 104 = .ok (.goto (-23), 3) := by decide +kernel
theorem dX8_explain_107 : decode cX8_explain 107 = .ok (.iinc 2 1, 3) := by decide +kernel
theorem dX8_explain_110 : decode cX8_explain 110 = .ok (.goto (-38), 3) := by decide +kernel
theorem dX8_explain_113 : decode cX8_explain 113 = .ok (.aload_n 0, 1) := by decide +kernel
theorem dX8_explain_114 : decode cX8_explain 114 = .ok (.getfield 145, 3) := by decide +kernel
theorem dX8_explain_117 : decode cX8_explain 117 = .ok (.ifCond .le 7, 3) := by decide +kernel
theorem dX8_explain_120 : decode cX8_explain 120 = .ok (.iconst 2, 1) := by decide +kernel
theorem dX8_explain_121 : decode cX8_explain 121 = .ok (.goto 4, 3) := by decide +kernel
theorem dX8_explain_124 : decode cX8_explain 124 = .ok (.iconst (-1), 1) := by decide +kernel
theorem dX8_explain_125 : decode cX8_explain 125 = .ok (.ireturn, 1) := by decide +kernel
set_option maxRecDepth 20000 in
theorem ggX8_blame_X8_explain : GoodIn wsX8_blame wsX8_explain := goodIn_r _ [6, 7, 8, 9, 10, 11, 5, 12, 13, 14, 15, 16, 17, 18, 19, 20, 21, 22, 23, 24, 25, 26, 27, 28, 29, 30, 31, 32, 33, 34, 35, 36, 37, 38, 39, 40, 41, 42, 43, 44, 45, 46, 47, 48, 49, 50, 51, 52, 53, 54, 55, 56, 57, 58, 59, 60, 61, 62, 63, 64, 65, 66, 67, 68, 69, 70, 71, 72, 73, 74, 75, 76, 77, 78, 79, 80, 81, 82, 83] (by decide +kernel) (by decide +kernel)
set_option maxRecDepth 20000 in
theorem gX8_blame_X8_explain : GoodIn wsX8_blame (wsV RX8 160 RX8 yX8_explain wsX8_explain) := goodIn_app (goodIn_of _ (by decide +kernel)) ggX8_blame_X8_explain
theorem dX8_blame_0 : decode cX8_blame 0 = .ok (.aload_n 0, 1) := by decide +kernel
theorem dX8_blame_1 : decode cX8_blame 1 = .ok (.iconst 0, 1) := by decide +kernel
theorem dX8_blame_2 : decode cX8_blame 2 = .ok (.putfield 63, 3) := by decide +kernel
theorem dX8_blame_5 : decode cX8_blame 5 = .ok (.aload_n 0, 1) := by decide +kernel
theorem dX8_blame_6 : decode cX8_blame 6 = .ok (.invokevirtual 160, 3) := by decide +kernel
theorem dX8_blame_9 : decode cX8_blame 9 = .ok (.ireturn, 1) := by decide +kernel
set_option maxRecDepth 20000 in
theorem ggX8_blamed_X8_explain : GoodIn wsX8_blamed wsX8_explain := goodIn_r _ [7, 8, 9, 10, 11, 12, 6, 13, 14, 15, 16, 17, 18, 19, 20, 21, 22, 23, 24, 25, 26, 27, 28, 29, 30, 31, 32, 33, 34, 35, 36, 37, 38, 39, 40, 41, 42, 43, 44, 45, 46, 47, 48, 49, 50, 51, 52, 53, 54, 55, 56, 57, 58, 59, 60, 1, 2, 66, 67, 68, 69, 70, 71, 72, 73, 74, 75, 76, 77, 78, 79, 80, 81, 82, 83, 84, 85, 86, 87] (by decide +kernel) (by decide +kernel)
set_option maxRecDepth 20000 in
theorem gX8_blamed_X8_explain : GoodIn wsX8_blamed (wsV RX8 160 RX8 yX8_explain wsX8_explain) := goodIn_app (goodIn_of _ (by decide +kernel)) ggX8_blamed_X8_explain
set_option maxRecDepth 20000 in
theorem ggX8_blamed_X8_may : GoodIn wsX8_blamed wsX8_may := goodIn_r _ [64, 65, 66, 67, 68, 69, 70, 71, 72, 73, 74, 75, 76, 77, 78, 79, 80, 81, 82, 83, 84, 85, 86, 87] (by decide +kernel) (by decide +kernel)
set_option maxRecDepth 20000 in
theorem gX8_blamed_X8_may : GoodIn wsX8_blamed (wsV RX8 77 RX8 yX8_may wsX8_may) := goodIn_app (goodIn_of _ (by decide +kernel)) ggX8_blamed_X8_may
theorem dX8_blamed_0 : decode cX8_blamed 0 = .ok (.aload_n 0, 1) := by decide +kernel
theorem dX8_blamed_1 : decode cX8_blamed 1 = .ok (.invokevirtual 160, 3) := by decide +kernel
theorem dX8_blamed_4 : decode cX8_blamed 4 = .ok (.istore_n 2, 1) := by decide +kernel
theorem dX8_blamed_5 : decode cX8_blamed 5 = .ok (.aload_n 0, 1) := by decide +kernel
theorem dX8_blamed_6 : decode cX8_blamed 6 = .ok (.iload_n 1, 1) := by decide +kernel
theorem dX8_blamed_7 : decode cX8_blamed 7 = .ok (.ifCond .lt 12, 3) := by decide +kernel
theorem dX8_blamed_10 : decode cX8_blamed 10 = .ok (.iload_n 1, 1) := by decide +kernel
theorem dX8_blamed_11 : decode cX8_blamed 11 = .ok (.iload_n 2, 1) := by decide +kernel
theorem dX8_blamed_12 : decode cX8_blamed 12 = .ok (.if_icmp .ge 7, 3) := by decide +kernel
theorem dX8_blamed_15 : decode cX8_blamed 15 = .ok (.iconst 1, 1) := by decide +kernel
theorem dX8_blamed_16 : decode cX8_blamed 16 = .ok (.goto 4, 3) := by decide +kernel
theorem dX8_blamed_19 : decode cX8_blamed 19 = .ok (.iconst 0, 1) := by decide +kernel
theorem dX8_blamed_20 : decode cX8_blamed 20 = .ok (.invokevirtual 77, 3) := by decide +kernel
theorem dX8_blamed_23 : decode cX8_blamed 23 = .ok (.ifCond .ne 5, 3) := by decide +kernel
theorem dX8_blamed_26 : decode cX8_blamed 26 = .ok (.iconst 0, 1) := by decide +kernel
theorem dX8_blamed_27 : decode cX8_blamed 27 = .ok (.ireturn, 1) := by decide +kernel
theorem dX8_blamed_28 : decode cX8_blamed 28 = .ok (.iload_n 1, 1) := by decide +kernel
theorem dX8_blamed_29 : decode cX8_blamed 29 = .ok (.ifCond .ne 10, 3) := by decide +kernel
theorem dX8_blamed_32 : decode cX8_blamed 32 = .ok (.aload_n 0, 1) := by decide +kernel
theorem dX8_blamed_33 : decode cX8_blamed 33 = .ok (.getfield 148, 3) := by decide +kernel
theorem dX8_blamed_36 : decode cX8_blamed 36 = .ok (.goto 7, 3) := by decide +kernel
theorem dX8_blamed_39 : decode cX8_blamed 39 = .ok (.aload_n 0, 1) := by decide +kernel
theorem dX8_blamed_40 : decode cX8_blamed 40 = .ok (.getfield 151, 3) := by decide +kernel
theorem dX8_blamed_43 : decode cX8_blamed 43 = .ok (.istore_n 3, 1) := by decide +kernel
theorem dX8_blamed_44 : decode cX8_blamed 44 = .ok (.iload_n 3, 1) := by decide +kernel
theorem dX8_blamed_45 : decode cX8_blamed 45 = .ok (.iconst 5, 1) := by decide +kernel
theorem dX8_blamed_46 : decode cX8_blamed 46 = .ok (.idiv, 1) := by decide +kernel
theorem dX8_blamed_47 : decode cX8_blamed 47 = .ok (.bipush 10, 2) := by decide +kernel
theorem dX8_blamed_49 : decode cX8_blamed 49 = .ok (.imul, 1) := by decide +kernel
theorem dX8_blamed_50 : decode cX8_blamed 50 = .ok (.iload_n 3, 1) := by decide +kernel
theorem dX8_blamed_51 : decode cX8_blamed 51 = .ok (.iconst 5, 1) := by decide +kernel
theorem dX8_blamed_52 : decode cX8_blamed 52 = .ok (.irem, 1) := by decide +kernel
theorem dX8_blamed_53 : decode cX8_blamed 53 = .ok (.iadd, 1) := by decide +kernel
theorem dX8_blamed_54 : decode cX8_blamed 54 = .ok (.ireturn, 1) := by decide +kernel
set_option maxRecDepth 20000 in
theorem ggX8_explanations_X8_explain : GoodIn wsX8_explanations wsX8_explain := goodIn_r _ [7, 2, 8, 9, 10, 11, 6, 12, 13, 14, 15, 16, 17, 18, 19, 20, 21, 22, 23, 24, 25, 26, 27, 28, 29, 30, 31, 32, 33, 34, 35, 36, 37, 38, 39, 40, 41, 42, 43, 44, 45, 46, 47, 48, 49, 50, 51, 52, 53, 54, 55, 56, 57, 58, 59, 60, 61, 62, 63, 64, 65, 66, 67, 68, 69, 70, 71, 72, 73, 74, 75, 76, 77, 78, 79, 80, 81, 82, 83] (by decide +kernel) (by decide +kernel)
set_option maxRecDepth 20000 in
theorem gX8_explanations_X8_explain : GoodIn wsX8_explanations (wsV RX8 160 RX8 yX8_explain wsX8_explain) := goodIn_app (goodIn_of _ (by decide +kernel)) ggX8_explanations_X8_explain
theorem dX8_explanations_0 : decode cX8_explanations 0 = .ok (.aload_n 0, 1) := by decide +kernel
theorem dX8_explanations_1 : decode cX8_explanations 1 = .ok (.iconst 0, 1) := by decide +kernel
theorem dX8_explanations_2 : decode cX8_explanations 2 = .ok (.putfield 63, 3) := by decide +kernel
theorem dX8_explanations_5 : decode cX8_explanations 5 = .ok (.aload_n 0, 1) := by decide +kernel
theorem dX8_explanations_6 : decode cX8_explanations 6 = .ok (.invokevirtual 160, 3) := by decide +kernel
theorem dX8_explanations_9 : decode cX8_explanations 9 = .ok (.pop, 1) := by decide +kernel
theorem dX8_explanations_10 : decode cX8_explanations 10 = .ok (.aload_n 0, 1) := by decide +kernel
theorem dX8_explanations_11 : decode cX8_explanations 11 = .ok (.getfield 145, 3) := by decide +kernel
theorem dX8_explanations_14 : decode cX8_explanations 14 = .ok (.ireturn, 1) := by decide +kernel
theorem dJ6_bitCount_0f7a4_0 : decode cJ6_bitCount_0f7a4 0 = .ok (.iload_n 0, 1) := by decide +kernel
theorem dJ6_bitCount_0f7a4_1 : decode cJ6_bitCount_0f7a4 1 = .ok (.iload_n 0, 1) := by decide +kernel
theorem dJ6_bitCount_0f7a4_2 : decode cJ6_bitCount_0f7a4 2 = .ok (.iconst 1, 1) := by decide +kernel
theorem dJ6_bitCount_0f7a4_3 : decode cJ6_bitCount_0f7a4 3 = .ok (.iushr, 1) := by decide +kernel
theorem dJ6_bitCount_0f7a4_4 : decode cJ6_bitCount_0f7a4 4 = .ok (.ldc_w 265, 3) := by decide +kernel
theorem dJ6_bitCount_0f7a4_7 : decode cJ6_bitCount_0f7a4 7 = .ok (.iand, 1) := by decide +kernel
theorem dJ6_bitCount_0f7a4_8 : decode cJ6_bitCount_0f7a4 8 = .ok (.isub, 1) := by decide +kernel
theorem dJ6_bitCount_0f7a4_9 : decode cJ6_bitCount_0f7a4 9 = .ok (.istore_n 0, 1) := by decide +kernel
theorem dJ6_bitCount_0f7a4_10 : decode cJ6_bitCount_0f7a4 10 = .ok (.iload_n 0, 1) := by decide +kernel
theorem dJ6_bitCount_0f7a4_11 : decode cJ6_bitCount_0f7a4 11 = .ok (.ldc_w 266, 3) := by decide +kernel
theorem dJ6_bitCount_0f7a4_14 : decode cJ6_bitCount_0f7a4 14 = .ok (.iand, 1) := by decide +kernel
theorem dJ6_bitCount_0f7a4_15 : decode cJ6_bitCount_0f7a4 15 = .ok (.iload_n 0, 1) := by decide +kernel
theorem dJ6_bitCount_0f7a4_16 : decode cJ6_bitCount_0f7a4 16 = .ok (.iconst 2, 1) := by decide +kernel
theorem dJ6_bitCount_0f7a4_17 : decode cJ6_bitCount_0f7a4 17 = .ok (.iushr, 1) := by decide +kernel
theorem dJ6_bitCount_0f7a4_18 : decode cJ6_bitCount_0f7a4 18 = .ok (.ldc_w 266, 3) := by decide +kernel
theorem dJ6_bitCount_0f7a4_21 : decode cJ6_bitCount_0f7a4 21 = .ok (.iand, 1) := by decide +kernel
theorem dJ6_bitCount_0f7a4_22 : decode cJ6_bitCount_0f7a4 22 = .ok (.iadd, 1) := by decide +kernel
theorem dJ6_bitCount_0f7a4_23 : decode cJ6_bitCount_0f7a4 23 = .ok (.istore_n 0, 1) := by decide +kernel
theorem dJ6_bitCount_0f7a4_24 : decode cJ6_bitCount_0f7a4 24 = .ok (.iload_n 0, 1) := by decide +kernel
theorem dJ6_bitCount_0f7a4_25 : decode cJ6_bitCount_0f7a4 25 = .ok (.iload_n 0, 1) := by decide +kernel
theorem dJ6_bitCount_0f7a4_26 : decode cJ6_bitCount_0f7a4 26 = .ok (.iconst 4, 1) := by decide +kernel
theorem dJ6_bitCount_0f7a4_27 : decode cJ6_bitCount_0f7a4 27 = .ok (.iushr, 1) := by decide +kernel
theorem dJ6_bitCount_0f7a4_28 : decode cJ6_bitCount_0f7a4 28 = .ok (.iadd, 1) := by decide +kernel
theorem dJ6_bitCount_0f7a4_29 : decode cJ6_bitCount_0f7a4 29 = .ok (.ldc_w 267, 3) := by decide +kernel
theorem dJ6_bitCount_0f7a4_32 : decode cJ6_bitCount_0f7a4 32 = .ok (.iand, 1) := by decide +kernel
theorem dJ6_bitCount_0f7a4_33 : decode cJ6_bitCount_0f7a4 33 = .ok (.istore_n 0, 1) := by decide +kernel
theorem dJ6_bitCount_0f7a4_34 : decode cJ6_bitCount_0f7a4 34 = .ok (.iload_n 0, 1) := by decide +kernel
theorem dJ6_bitCount_0f7a4_35 : decode cJ6_bitCount_0f7a4 35 = .ok (.iload_n 0, 1) := by decide +kernel
theorem dJ6_bitCount_0f7a4_36 : decode cJ6_bitCount_0f7a4 36 = .ok (.bipush 8, 2) := by decide +kernel
theorem dJ6_bitCount_0f7a4_38 : decode cJ6_bitCount_0f7a4 38 = .ok (.iushr, 1) := by decide +kernel
theorem dJ6_bitCount_0f7a4_39 : decode cJ6_bitCount_0f7a4 39 = .ok (.iadd, 1) := by decide +kernel
theorem dJ6_bitCount_0f7a4_40 : decode cJ6_bitCount_0f7a4 40 = .ok (.istore_n 0, 1) := by decide +kernel
theorem dJ6_bitCount_0f7a4_41 : decode cJ6_bitCount_0f7a4 41 = .ok (.iload_n 0, 1) := by decide +kernel
theorem dJ6_bitCount_0f7a4_42 : decode cJ6_bitCount_0f7a4 42 = .ok (.iload_n 0, 1) := by decide +kernel
theorem dJ6_bitCount_0f7a4_43 : decode cJ6_bitCount_0f7a4 43 = .ok (.bipush 16, 2) := by decide +kernel
theorem dJ6_bitCount_0f7a4_45 : decode cJ6_bitCount_0f7a4 45 = .ok (.iushr, 1) := by decide +kernel
theorem dJ6_bitCount_0f7a4_46 : decode cJ6_bitCount_0f7a4 46 = .ok (.iadd, 1) := by decide +kernel
theorem dJ6_bitCount_0f7a4_47 : decode cJ6_bitCount_0f7a4 47 = .ok (.istore_n 0, 1) := by decide +kernel
theorem dJ6_bitCount_0f7a4_48 : decode cJ6_bitCount_0f7a4 48 = .ok (.iload_n 0, 1) := by decide +kernel
theorem dJ6_bitCount_0f7a4_49 : decode cJ6_bitCount_0f7a4 49 = .ok (.bipush 63, 2) := by decide +kernel
theorem dJ6_bitCount_0f7a4_51 : decode cJ6_bitCount_0f7a4 51 = .ok (.iand, 1) := by decide +kernel
theorem dJ6_bitCount_0f7a4_52 : decode cJ6_bitCount_0f7a4 52 = .ok (.ireturn, 1) := by decide +kernel
theorem dJ7_fill_53178_0 : decode cJ7_fill_53178 0 = .ok (.iconst 0, 1) := by decide +kernel
theorem dJ7_fill_53178_1 : decode cJ7_fill_53178 1 = .ok (.istore_n 2, 1) := by decide +kernel
theorem dJ7_fill_53178_2 : decode cJ7_fill_53178 2 = .ok (.aload_n 0, 1) := by decide +kernel
theorem dJ7_fill_53178_3 : decode cJ7_fill_53178 3 = .ok (.arraylength, 1) := by decide +kernel
theorem dJ7_fill_53178_4 : decode cJ7_fill_53178 4 = .ok (.istore_n 3, 1) := by decide +kernel
theorem dJ7_fill_53178_5 : decode cJ7_fill_53178 5 = .ok (.iload_n 2, 1) := by decide +kernel
theorem dJ7_fill_53178_6 : decode cJ7_fill_53178 6 = .ok (.iload_n 3, 1) := by decide +kernel
theorem dJ7_fill_53178_7 : decode cJ7_fill_53178 7 = .ok (.if_icmp .ge 13, 3) := by decide +kernel
theorem dJ7_fill_53178_10 : decode cJ7_fill_53178 10 = .ok (.aload_n 0, 1) := by decide +kernel
theorem dJ7_fill_53178_11 : decode cJ7_fill_53178 11 = .ok (.iload_n 2, 1) := by decide +kernel
theorem dJ7_fill_53178_12 : decode cJ7_fill_53178 12 = .ok (.iload_n 1, 1) := by decide +kernel
theorem dJ7_fill_53178_13 : decode cJ7_fill_53178 13 = .ok (.iastore, 1) := by decide +kernel
theorem dJ7_fill_53178_14 : decode cJ7_fill_53178 14 = .ok (.iinc 2 1, 3) := by decide +kernel
theorem dJ7_fill_53178_17 : decode cJ7_fill_53178 17 = .ok (.goto (-12), 3) := by decide +kernel
theorem dJ7_fill_53178_20 : decode cJ7_fill_53178 20 = .ok (.return_, 1) := by decide +kernel
