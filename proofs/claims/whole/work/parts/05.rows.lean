theorem dX8_runFaults_0 : decode cX8_runFaults 0 = .ok (.iconst 0, 1) := by decide +kernel
theorem dX8_runFaults_1 : decode cX8_runFaults 1 = .ok (.istore_n 1, 1) := by decide +kernel
theorem dX8_runFaults_2 : decode cX8_runFaults 2 = .ok (.iload_n 1, 1) := by decide +kernel
theorem dX8_runFaults_3 : decode cX8_runFaults 3 = .ok (.bipush 6, 2) := by decide +kernel
theorem dX8_runFaults_5 : decode cX8_runFaults 5 = .ok (.if_icmp .ge 21, 3) := by decide +kernel
theorem dX8_runFaults_8 : decode cX8_runFaults 8 = .ok (.aload_n 0, 1) := by decide +kernel
theorem dX8_runFaults_9 : decode cX8_runFaults 9 = .ok (.getfield 38, 3) := by decide +kernel
theorem dX8_runFaults_12 : decode cX8_runFaults 12 = .ok (.iload_n 1, 1) := by decide +kernel
theorem dX8_runFaults_13 : decode cX8_runFaults 13 = .ok (.aload_n 0, 1) := by decide +kernel
theorem dX8_runFaults_14 : decode cX8_runFaults 14 = .ok (.getfield 20, 3) := by decide +kernel
theorem dX8_runFaults_17 : decode cX8_runFaults 17 = .ok (.iload_n 1, 1) := by decide +kernel
theorem dX8_runFaults_18 : decode cX8_runFaults 18 = .ok (.iaload, 1) := by decide +kernel
theorem dX8_runFaults_19 : decode cX8_runFaults 19 = .ok (.iastore, 1) := by decide +kernel
theorem dX8_runFaults_20 : decode cX8_runFaults 20 = .ok (.iinc 1 1, 3) := by decide +kernel
theorem dX8_runFaults_23 : decode cX8_runFaults 23 = .ok (.goto (-21), 3) := by decide +kernel
theorem dX8_runFaults_26 : decode cX8_runFaults 26 = .ok (.aload_n 0, 1) := by decide +kernel
theorem dX8_runFaults_27 : decode cX8_runFaults 27 = .ok (.invokevirtual 130, 3) := by decide +kernel
theorem dX8_runFaults_30 : decode cX8_runFaults 30 = .ok (.return_, 1) := by decide +kernel
set_option maxRecDepth 20000 in
theorem ggX8_runBoth_X8_runFaults : GoodIn wsX8_runBoth wsX8_runFaults := goodIn_r _ [10, 11, 12, 13, 14, 15, 9, 16, 17, 1, 18, 3, 5, 19, 20, 21, 22, 23, 24, 25, 26, 27, 28, 29, 30, 31, 32, 33, 38, 39, 40, 41, 42, 43, 44, 45, 46, 47, 48, 49, 50, 51, 52, 53, 54, 55, 56, 57, 58, 59] (by decide +kernel) (by decide +kernel)
set_option maxRecDepth 20000 in
theorem gX8_runBoth_X8_runFaults : GoodIn wsX8_runBoth (wsV RX8 133 RX8 yX8_runFaults wsX8_runFaults) := goodIn_app (goodIn_of _ (by decide +kernel)) ggX8_runBoth_X8_runFaults
set_option maxRecDepth 20000 in
theorem ggX8_runBoth_X8_runModel : GoodIn wsX8_runBoth wsX8_runModel := goodIn_r _ [37, 11, 13, 14, 15, 9, 16, 17, 1, 18, 3, 5, 19, 20, 21, 22, 23, 24, 25, 26, 27, 28, 29, 30, 31, 32, 33, 38, 39, 40, 41, 42, 43, 44, 45, 46, 47, 48, 49, 50, 51, 52, 53, 54, 55, 56, 57, 58, 59] (by decide +kernel) (by decide +kernel)
set_option maxRecDepth 20000 in
theorem gX8_runBoth_X8_runModel : GoodIn wsX8_runBoth (wsV RX8 136 RX8 yX8_runModel wsX8_runModel) := goodIn_app (goodIn_of _ (by decide +kernel)) ggX8_runBoth_X8_runModel
theorem dX8_runBoth_0 : decode cX8_runBoth 0 = .ok (.aload_n 0, 1) := by decide +kernel
theorem dX8_runBoth_1 : decode cX8_runBoth 1 = .ok (.invokevirtual 133, 3) := by decide +kernel
theorem dX8_runBoth_4 : decode cX8_runBoth 4 = .ok (.iconst 0, 1) := by decide +kernel
theorem dX8_runBoth_5 : decode cX8_runBoth 5 = .ok (.istore_n 1, 1) := by decide +kernel
theorem dX8_runBoth_6 : decode cX8_runBoth 6 = .ok (.iload_n 1, 1) := by decide +kernel
theorem dX8_runBoth_7 : decode cX8_runBoth 7 = .ok (.aload_n 0, 1) := by decide +kernel
theorem dX8_runBoth_8 : decode cX8_runBoth 8 = .ok (.getfield 70, 3) := by decide +kernel
theorem dX8_runBoth_11 : decode cX8_runBoth 11 = .ok (.if_icmp .ge 33, 3) := by decide +kernel
theorem dX8_runBoth_14 : decode cX8_runBoth 14 = .ok (.aload_n 0, 1) := by decide +kernel
theorem dX8_runBoth_15 : decode cX8_runBoth 15 = .ok (.getfield 50, 3) := by decide +kernel
theorem dX8_runBoth_18 : decode cX8_runBoth 18 = .ok (.iload_n 1, 1) := by decide +kernel
theorem dX8_runBoth_19 : decode cX8_runBoth 19 = .ok (.aload_n 0, 1) := by decide +kernel
theorem dX8_runBoth_20 : decode cX8_runBoth 20 = .ok (.getfield 41, 3) := by decide +kernel
theorem dX8_runBoth_23 : decode cX8_runBoth 23 = .ok (.iload_n 1, 1) := by decide +kernel
theorem dX8_runBoth_24 : decode cX8_runBoth 24 = .ok (.iaload, 1) := by decide +kernel
theorem dX8_runBoth_25 : decode cX8_runBoth 25 = .ok (.iastore, 1) := by decide +kernel
theorem dX8_runBoth_26 : decode cX8_runBoth 26 = .ok (.aload_n 0, 1) := by decide +kernel
theorem dX8_runBoth_27 : decode cX8_runBoth 27 = .ok (.getfield 53, 3) := by decide +kernel
theorem dX8_runBoth_30 : decode cX8_runBoth 30 = .ok (.iload_n 1, 1) := by decide +kernel
theorem dX8_runBoth_31 : decode cX8_runBoth 31 = .ok (.aload_n 0, 1) := by decide +kernel
theorem dX8_runBoth_32 : decode cX8_runBoth 32 = .ok (.getfield 44, 3) := by decide +kernel
theorem dX8_runBoth_35 : decode cX8_runBoth 35 = .ok (.iload_n 1, 1) := by decide +kernel
theorem dX8_runBoth_36 : decode cX8_runBoth 36 = .ok (.iaload, 1) := by decide +kernel
theorem dX8_runBoth_37 : decode cX8_runBoth 37 = .ok (.iastore, 1) := by decide +kernel
theorem dX8_runBoth_38 : decode cX8_runBoth 38 = .ok (.iinc 1 1, 3) := by decide +kernel
theorem dX8_runBoth_41 : decode cX8_runBoth 41 = .ok (.goto (-35), 3) := by decide +kernel
theorem dX8_runBoth_44 : decode cX8_runBoth 44 = .ok (.aload_n 0, 1) := by decide +kernel
theorem dX8_runBoth_45 : decode cX8_runBoth 45 = .ok (.invokevirtual 136, 3) := by decide +kernel
theorem dX8_runBoth_48 : decode cX8_runBoth 48 = .ok (.return_, 1) := by decide +kernel
set_option maxRecDepth 20000 in
theorem ggX8_expected_X8_runModel : GoodIn wsX8_expected wsX8_runModel := goodIn_r _ [6, 7, 8, 9, 10, 5, 11, 12, 13, 14, 1, 15, 16, 17, 18, 19, 20, 21, 22, 23, 24, 25, 26, 27, 28, 29, 30, 40, 41, 42, 43, 44, 45, 46, 47, 48, 49, 50, 51, 52, 53, 54, 55, 56, 57, 58, 59, 60, 61] (by decide +kernel) (by decide +kernel)
set_option maxRecDepth 20000 in
theorem gX8_expected_X8_runModel : GoodIn wsX8_expected (wsV RX8 136 RX8 yX8_runModel wsX8_runModel) := goodIn_app (goodIn_of _ (by decide +kernel)) ggX8_expected_X8_runModel
set_option maxRecDepth 20000 in
theorem ggX8_expected_X8_isFrame : GoodIn wsX8_expected wsX8_isFrame := goodIn_r _ [34, 13, 40, 41, 42, 43, 44, 45, 46, 47, 48, 49, 50, 51, 52, 53, 54, 55, 56, 57, 58, 59, 60, 61] (by decide +kernel) (by decide +kernel)
set_option maxRecDepth 20000 in
theorem gX8_expected_X8_isFrame : GoodIn wsX8_expected (wsV RX8 123 RX8 yX8_isFrame wsX8_isFrame) := goodIn_app (goodIn_of _ (by decide +kernel)) ggX8_expected_X8_isFrame
set_option maxRecDepth 20000 in
theorem ggX8_expected_X8_may : GoodIn wsX8_expected wsX8_may := goodIn_r _ [38, 39, 40, 41, 42, 43, 44, 45, 46, 47, 48, 49, 50, 51, 52, 53, 54, 55, 56, 57, 58, 59, 60, 61] (by decide +kernel) (by decide +kernel)
set_option maxRecDepth 20000 in
theorem gX8_expected_X8_may : GoodIn wsX8_expected (wsV RX8 77 RX8 yX8_may wsX8_may) := goodIn_app (goodIn_of _ (by decide +kernel)) ggX8_expected_X8_may
theorem dX8_expected_0 : decode cX8_expected 0 = .ok (.aload_n 0, 1) := by decide +kernel
theorem dX8_expected_1 : decode cX8_expected 1 = .ok (.invokevirtual 136, 3) := by decide +kernel
theorem dX8_expected_4 : decode cX8_expected 4 = .ok (.aload_n 0, 1) := by decide +kernel
theorem dX8_expected_5 : decode cX8_expected 5 = .ok (.aload_n 0, 1) := by decide +kernel
theorem dX8_expected_6 : decode cX8_expected 6 = .ok (.iload_n 1, 1) := by decide +kernel
theorem dX8_expected_7 : decode cX8_expected 7 = .ok (.invokevirtual 123, 3) := by decide +kernel
theorem dX8_expected_10 : decode cX8_expected 10 = .ok (.invokevirtual 77, 3) := by decide +kernel
theorem dX8_expected_13 : decode cX8_expected 13 = .ok (.ifCond .eq 12, 3) := by decide +kernel
theorem dX8_expected_16 : decode cX8_expected 16 = .ok (.aload_n 0, 1) := by decide +kernel
theorem dX8_expected_17 : decode cX8_expected 17 = .ok (.getfield 41, 3) := by decide +kernel
theorem dX8_expected_20 : decode cX8_expected 20 = .ok (.iload_n 1, 1) := by decide +kernel
theorem dX8_expected_21 : decode cX8_expected 21 = .ok (.iaload, 1) := by decide +kernel
theorem dX8_expected_22 : decode cX8_expected 22 = .ok (.goto 4, 3) := by decide +kernel
theorem dX8_expected_25 : decode cX8_expected 25 = .ok (.iconst 0, 1) := by decide +kernel
theorem dX8_expected_26 : decode cX8_expected 26 = .ok (.ireturn, 1) := by decide +kernel
set_option maxRecDepth 20000 in
theorem ggX8_expectedTagged_X8_runModel : GoodIn wsX8_expectedTagged wsX8_runModel := goodIn_r _ [6, 7, 8, 9, 10, 5, 11, 12, 13, 14, 15, 1, 16, 17, 18, 19, 20, 21, 22, 23, 24, 25, 26, 27, 28, 29, 30, 40, 41, 42, 43, 44, 45, 46, 47, 48, 49, 50, 51, 52, 53, 54, 55, 56, 57, 58, 59, 60, 61] (by decide +kernel) (by decide +kernel)
set_option maxRecDepth 20000 in
theorem gX8_expectedTagged_X8_runModel : GoodIn wsX8_expectedTagged (wsV RX8 136 RX8 yX8_runModel wsX8_runModel) := goodIn_app (goodIn_of _ (by decide +kernel)) ggX8_expectedTagged_X8_runModel
set_option maxRecDepth 20000 in
theorem ggX8_expectedTagged_X8_isFrame : GoodIn wsX8_expectedTagged wsX8_isFrame := goodIn_r _ [34, 13, 40, 41, 42, 43, 44, 45, 46, 47, 48, 49, 50, 51, 52, 53, 54, 55, 56, 57, 58, 59, 60, 61] (by decide +kernel) (by decide +kernel)
set_option maxRecDepth 20000 in
theorem gX8_expectedTagged_X8_isFrame : GoodIn wsX8_expectedTagged (wsV RX8 123 RX8 yX8_isFrame wsX8_isFrame) := goodIn_app (goodIn_of _ (by decide +kernel)) ggX8_expectedTagged_X8_isFrame
set_option maxRecDepth 20000 in
theorem ggX8_expectedTagged_X8_may : GoodIn wsX8_expectedTagged wsX8_may := goodIn_r _ [38, 39, 40, 41, 42, 43, 44, 45, 46, 47, 48, 49, 50, 51, 52, 53, 54, 55, 56, 57, 58, 59, 60, 61] (by decide +kernel) (by decide +kernel)
set_option maxRecDepth 20000 in
theorem gX8_expectedTagged_X8_may : GoodIn wsX8_expectedTagged (wsV RX8 77 RX8 yX8_may wsX8_may) := goodIn_app (goodIn_of _ (by decide +kernel)) ggX8_expectedTagged_X8_may
theorem dX8_expectedTagged_0 : decode cX8_expectedTagged 0 = .ok (.aload_n 0, 1) := by decide +kernel
theorem dX8_expectedTagged_1 : decode cX8_expectedTagged 1 = .ok (.invokevirtual 136, 3) := by decide +kernel
theorem dX8_expectedTagged_4 : decode cX8_expectedTagged 4 = .ok (.aload_n 0, 1) := by decide +kernel
theorem dX8_expectedTagged_5 : decode cX8_expectedTagged 5 = .ok (.aload_n 0, 1) := by decide +kernel
theorem dX8_expectedTagged_6 : decode cX8_expectedTagged 6 = .ok (.iload_n 1, 1) := by decide +kernel
theorem dX8_expectedTagged_7 : decode cX8_expectedTagged 7 = .ok (.invokevirtual 123, 3) := by decide +kernel
theorem dX8_expectedTagged_10 : decode cX8_expectedTagged 10 = .ok (.invokevirtual 77, 3) := by decide +kernel
theorem dX8_expectedTagged_13 : decode cX8_expectedTagged 13 = .ok (.ifCond .eq 12, 3) := by decide +kernel
theorem dX8_expectedTagged_16 : decode cX8_expectedTagged 16 = .ok (.aload_n 0, 1) := by decide +kernel
theorem dX8_expectedTagged_17 : decode cX8_expectedTagged 17 = .ok (.getfield 44, 3) := by decide +kernel
theorem dX8_expectedTagged_20 : decode cX8_expectedTagged 20 = .ok (.iload_n 1, 1) := by decide +kernel
theorem dX8_expectedTagged_21 : decode cX8_expectedTagged 21 = .ok (.iaload, 1) := by decide +kernel
theorem dX8_expectedTagged_22 : decode cX8_expectedTagged 22 = .ok (.goto 4, 3) := by decide +kernel
theorem dX8_expectedTagged_25 : decode cX8_expectedTagged 25 = .ok (.iconst 0, 1) := by decide +kernel
theorem dX8_expectedTagged_26 : decode cX8_expectedTagged 26 = .ok (.ireturn, 1) := by decide +kernel
set_option maxRecDepth 20000 in
theorem ggX8_reason_X8_runModel : GoodIn wsX8_reason wsX8_runModel := goodIn_r _ [6, 7, 8, 9, 10, 5, 11, 12, 13, 14, 15, 16, 1, 17, 18, 19, 20, 21, 22, 23, 24, 25, 26, 27, 28, 29, 30, 40, 41, 42, 43, 44, 45, 46, 47, 48, 49, 50, 51, 52, 53, 54, 55, 56, 57, 58, 59, 60, 61] (by decide +kernel) (by decide +kernel)
set_option maxRecDepth 20000 in
theorem gX8_reason_X8_runModel : GoodIn wsX8_reason (wsV RX8 136 RX8 yX8_runModel wsX8_runModel) := goodIn_app (goodIn_of _ (by decide +kernel)) ggX8_reason_X8_runModel
set_option maxRecDepth 20000 in
theorem ggX8_reason_X8_isFrame : GoodIn wsX8_reason wsX8_isFrame := goodIn_r _ [34, 13, 40, 41, 42, 43, 44, 45, 46, 47, 48, 49, 50, 51, 52, 53, 54, 55, 56, 57, 58, 59, 60, 61] (by decide +kernel) (by decide +kernel)
set_option maxRecDepth 20000 in
theorem gX8_reason_X8_isFrame : GoodIn wsX8_reason (wsV RX8 123 RX8 yX8_isFrame wsX8_isFrame) := goodIn_app (goodIn_of _ (by decide +kernel)) ggX8_reason_X8_isFrame
set_option maxRecDepth 20000 in
theorem ggX8_reason_X8_may : GoodIn wsX8_reason wsX8_may := goodIn_r _ [38, 39, 40, 41, 42, 43, 44, 45, 46, 47, 48, 49, 50, 51, 52, 53, 54, 55, 56, 57, 58, 59, 60, 61] (by decide +kernel) (by decide +kernel)
set_option maxRecDepth 20000 in
theorem gX8_reason_X8_may : GoodIn wsX8_reason (wsV RX8 77 RX8 yX8_may wsX8_may) := goodIn_app (goodIn_of _ (by decide +kernel)) ggX8_reason_X8_may
theorem dX8_reason_0 : decode cX8_reason 0 = .ok (.aload_n 0, 1) := by decide +kernel
theorem dX8_reason_1 : decode cX8_reason 1 = .ok (.invokevirtual 136, 3) := by decide +kernel
theorem dX8_reason_4 : decode cX8_reason 4 = .ok (.aload_n 0, 1) := by decide +kernel
theorem dX8_reason_5 : decode cX8_reason 5 = .ok (.aload_n 0, 1) := by decide +kernel
theorem dX8_reason_6 : decode cX8_reason 6 = .ok (.iload_n 1, 1) := by decide +kernel
theorem dX8_reason_7 : decode cX8_reason 7 = .ok (.invokevirtual 123, 3) := by decide +kernel
theorem dX8_reason_10 : decode cX8_reason 10 = .ok (.invokevirtual 77, 3) := by decide +kernel
theorem dX8_reason_13 : decode cX8_reason 13 = .ok (.ifCond .eq 12, 3) := by decide +kernel
theorem dX8_reason_16 : decode cX8_reason 16 = .ok (.aload_n 0, 1) := by decide +kernel
theorem dX8_reason_17 : decode cX8_reason 17 = .ok (.getfield 47, 3) := by decide +kernel
theorem dX8_reason_20 : decode cX8_reason 20 = .ok (.iload_n 1, 1) := by decide +kernel
theorem dX8_reason_21 : decode cX8_reason 21 = .ok (.iaload, 1) := by decide +kernel
theorem dX8_reason_22 : decode cX8_reason 22 = .ok (.goto 4, 3) := by decide +kernel
theorem dX8_reason_25 : decode cX8_reason 25 = .ok (.iconst 0, 1) := by decide +kernel
theorem dX8_reason_26 : decode cX8_reason 26 = .ok (.ireturn, 1) := by decide +kernel
set_option maxRecDepth 20000 in
theorem ggX8_learned_X8_runModel : GoodIn wsX8_learned wsX8_runModel := goodIn_r _ [6, 7, 8, 9, 10, 5, 11, 1, 12, 13, 14, 15, 16, 17, 18, 19, 20, 21, 22, 23, 24, 25, 26, 27, 28, 29, 30, 36, 37, 38, 39, 40, 41, 42, 43, 44, 45, 46, 47, 48, 49, 50, 51, 52, 53, 54, 55, 56, 57] (by decide +kernel) (by decide +kernel)
set_option maxRecDepth 20000 in
theorem gX8_learned_X8_runModel : GoodIn wsX8_learned (wsV RX8 136 RX8 yX8_runModel wsX8_runModel) := goodIn_app (goodIn_of _ (by decide +kernel)) ggX8_learned_X8_runModel
set_option maxRecDepth 20000 in
theorem ggX8_learned_X8_may : GoodIn wsX8_learned wsX8_may := goodIn_r _ [34, 35, 36, 37, 38, 39, 40, 41, 42, 43, 44, 45, 46, 47, 48, 49, 50, 51, 52, 53, 54, 55, 56, 57] (by decide +kernel) (by decide +kernel)
set_option maxRecDepth 20000 in
theorem gX8_learned_X8_may : GoodIn wsX8_learned (wsV RX8 77 RX8 yX8_may wsX8_may) := goodIn_app (goodIn_of _ (by decide +kernel)) ggX8_learned_X8_may
theorem dX8_learned_0 : decode cX8_learned 0 = .ok (.aload_n 0, 1) := by decide +kernel
theorem dX8_learned_1 : decode cX8_learned 1 = .ok (.invokevirtual 136, 3) := by decide +kernel
theorem dX8_learned_4 : decode cX8_learned 4 = .ok (.aload_n 0, 1) := by decide +kernel
theorem dX8_learned_5 : decode cX8_learned 5 = .ok (.iload_n 1, 1) := by decide +kernel
theorem dX8_learned_6 : decode cX8_learned 6 = .ok (.iconst 1, 1) := by decide +kernel
theorem dX8_learned_7 : decode cX8_learned 7 = .ok (.if_icmp .lt 21, 3) := by decide +kernel
theorem dX8_learned_10 : decode cX8_learned 10 = .ok (.iload_n 1, 1) := by decide +kernel
theorem dX8_learned_11 : decode cX8_learned 11 = .ok (.iconst 4, 1) := by decide +kernel
theorem dX8_learned_12 : decode cX8_learned 12 = .ok (.if_icmp .gt 16, 3) := by decide +kernel
theorem dX8_learned_15 : decode cX8_learned 15 = .ok (.iload_n 2, 1) := by decide +kernel
theorem dX8_learned_16 : decode cX8_learned 16 = .ok (.ifCond .lt 12, 3) := by decide +kernel
theorem dX8_learned_19 : decode cX8_learned 19 = .ok (.iload_n 2, 1) := by decide +kernel
theorem dX8_learned_20 : decode cX8_learned 20 = .ok (.iconst 2, 1) := by decide +kernel
theorem dX8_learned_21 : decode cX8_learned 21 = .ok (.if_icmp .gt 7, 3) := by decide +kernel
theorem dX8_learned_24 : decode cX8_learned 24 = .ok (.iconst 1, 1) := by decide +kernel
theorem dX8_learned_25 : decode cX8_learned 25 = .ok (.goto 4, 3) := by decide +kernel
theorem dX8_learned_28 : decode cX8_learned 28 = .ok (.iconst 0, 1) := by decide +kernel
theorem dX8_learned_29 : decode cX8_learned 29 = .ok (.invokevirtual 77, 3) := by decide +kernel
theorem dX8_learned_32 : decode cX8_learned 32 = .ok (.ifCond .eq 16, 3) := by decide +kernel
theorem dX8_learned_35 : decode cX8_learned 35 = .ok (.aload_n 0, 1) := by decide +kernel
theorem dX8_learned_36 : decode cX8_learned 36 = .ok (.getfield 35, 3) := by decide +kernel
theorem dX8_learned_39 : decode cX8_learned 39 = .ok (.iconst 3, 1) := by decide +kernel
theorem dX8_learned_40 : decode cX8_learned 40 = .ok (.iload_n 1, 1) := by decide +kernel
theorem dX8_learned_41 : decode cX8_learned 41 = .ok (.imul, 1) := by decide +kernel
theorem dX8_learned_42 : decode cX8_learned 42 = .ok (.iload_n 2, 1) := by decide +kernel
theorem dX8_learned_43 : decode cX8_learned 43 = .ok (.iadd, 1) := by decide +kernel
theorem dX8_learned_44 : decode cX8_learned 44 = .ok (.iaload, 1) := by decide +kernel
theorem dX8_learned_45 : decode cX8_learned 45 = .ok (.goto 4, 3) := by decide +kernel
theorem dX8_learned_48 : decode cX8_learned 48 = .ok (.iconst 0, 1) := by decide +kernel
theorem dX8_learned_49 : decode cX8_learned 49 = .ok (.ireturn, 1) := by decide +kernel
set_option maxRecDepth 20000 in
theorem ggX8_seen_X8_runFaults : GoodIn wsX8_seen wsX8_runFaults := goodIn_r _ [6, 7, 8, 9, 10, 11, 5, 12, 13, 14, 15, 1, 16, 17, 18, 19, 20, 21, 22, 23, 24, 25, 26, 27, 28, 29, 30, 31, 41, 42, 43, 44, 45, 46, 47, 48, 49, 50, 51, 52, 53, 54, 55, 56, 57, 58, 59, 60, 61, 62] (by decide +kernel) (by decide +kernel)
set_option maxRecDepth 20000 in
theorem gX8_seen_X8_runFaults : GoodIn wsX8_seen (wsV RX8 133 RX8 yX8_runFaults wsX8_runFaults) := goodIn_app (goodIn_of _ (by decide +kernel)) ggX8_seen_X8_runFaults
set_option maxRecDepth 20000 in
theorem ggX8_seen_X8_isFrame : GoodIn wsX8_seen wsX8_isFrame := goodIn_r _ [35, 14, 41, 42, 43, 44, 45, 46, 47, 48, 49, 50, 51, 52, 53, 54, 55, 56, 57, 58, 59, 60, 61, 62] (by decide +kernel) (by decide +kernel)
set_option maxRecDepth 20000 in
theorem gX8_seen_X8_isFrame : GoodIn wsX8_seen (wsV RX8 123 RX8 yX8_isFrame wsX8_isFrame) := goodIn_app (goodIn_of _ (by decide +kernel)) ggX8_seen_X8_isFrame
set_option maxRecDepth 20000 in
theorem ggX8_seen_X8_may : GoodIn wsX8_seen wsX8_may := goodIn_r _ [39, 40, 41, 42, 43, 44, 45, 46, 47, 48, 49, 50, 51, 52, 53, 54, 55, 56, 57, 58, 59, 60, 61, 62] (by decide +kernel) (by decide +kernel)
set_option maxRecDepth 20000 in
theorem gX8_seen_X8_may : GoodIn wsX8_seen (wsV RX8 77 RX8 yX8_may wsX8_may) := goodIn_app (goodIn_of _ (by decide +kernel)) ggX8_seen_X8_may
theorem dX8_seen_0 : decode cX8_seen 0 = .ok (.aload_n 0, 1) := by decide +kernel
theorem dX8_seen_1 : decode cX8_seen 1 = .ok (.invokevirtual 133, 3) := by decide +kernel
theorem dX8_seen_4 : decode cX8_seen 4 = .ok (.aload_n 0, 1) := by decide +kernel
theorem dX8_seen_5 : decode cX8_seen 5 = .ok (.aload_n 0, 1) := by decide +kernel
theorem dX8_seen_6 : decode cX8_seen 6 = .ok (.iload_n 1, 1) := by decide +kernel
theorem dX8_seen_7 : decode cX8_seen 7 = .ok (.invokevirtual 123, 3) := by decide +kernel
theorem dX8_seen_10 : decode cX8_seen 10 = .ok (.invokevirtual 77, 3) := by decide +kernel
theorem dX8_seen_13 : decode cX8_seen 13 = .ok (.ifCond .eq 12, 3) := by decide +kernel
theorem dX8_seen_16 : decode cX8_seen 16 = .ok (.aload_n 0, 1) := by decide +kernel
theorem dX8_seen_17 : decode cX8_seen 17 = .ok (.getfield 41, 3) := by decide +kernel
theorem dX8_seen_20 : decode cX8_seen 20 = .ok (.iload_n 1, 1) := by decide +kernel
theorem dX8_seen_21 : decode cX8_seen 21 = .ok (.iaload, 1) := by decide +kernel
theorem dX8_seen_22 : decode cX8_seen 22 = .ok (.goto 4, 3) := by decide +kernel
theorem dX8_seen_25 : decode cX8_seen 25 = .ok (.iconst 0, 1) := by decide +kernel
theorem dX8_seen_26 : decode cX8_seen 26 = .ok (.ireturn, 1) := by decide +kernel
set_option maxRecDepth 20000 in
theorem ggX8_seenTagged_X8_runFaults : GoodIn wsX8_seenTagged wsX8_runFaults := goodIn_r _ [6, 7, 8, 9, 10, 11, 5, 12, 13, 14, 15, 16, 1, 17, 18, 19, 20, 21, 22, 23, 24, 25, 26, 27, 28, 29, 30, 31, 41, 42, 43, 44, 45, 46, 47, 48, 49, 50, 51, 52, 53, 54, 55, 56, 57, 58, 59, 60, 61, 62] (by decide +kernel) (by decide +kernel)
set_option maxRecDepth 20000 in
theorem gX8_seenTagged_X8_runFaults : GoodIn wsX8_seenTagged (wsV RX8 133 RX8 yX8_runFaults wsX8_runFaults) := goodIn_app (goodIn_of _ (by decide +kernel)) ggX8_seenTagged_X8_runFaults
set_option maxRecDepth 20000 in
theorem ggX8_seenTagged_X8_isFrame : GoodIn wsX8_seenTagged wsX8_isFrame := goodIn_r _ [35, 14, 41, 42, 43, 44, 45, 46, 47, 48, 49, 50, 51, 52, 53, 54, 55, 56, 57, 58, 59, 60, 61, 62] (by decide +kernel) (by decide +kernel)
set_option maxRecDepth 20000 in
theorem gX8_seenTagged_X8_isFrame : GoodIn wsX8_seenTagged (wsV RX8 123 RX8 yX8_isFrame wsX8_isFrame) := goodIn_app (goodIn_of _ (by decide +kernel)) ggX8_seenTagged_X8_isFrame
set_option maxRecDepth 20000 in
theorem ggX8_seenTagged_X8_may : GoodIn wsX8_seenTagged wsX8_may := goodIn_r _ [39, 40, 41, 42, 43, 44, 45, 46, 47, 48, 49, 50, 51, 52, 53, 54, 55, 56, 57, 58, 59, 60, 61, 62] (by decide +kernel) (by decide +kernel)
set_option maxRecDepth 20000 in
theorem gX8_seenTagged_X8_may : GoodIn wsX8_seenTagged (wsV RX8 77 RX8 yX8_may wsX8_may) := goodIn_app (goodIn_of _ (by decide +kernel)) ggX8_seenTagged_X8_may
theorem dX8_seenTagged_0 : decode cX8_seenTagged 0 = .ok (.aload_n 0, 1) := by decide +kernel
theorem dX8_seenTagged_1 : decode cX8_seenTagged 1 = .ok (.invokevirtual 133, 3) := by decide +kernel
theorem dX8_seenTagged_4 : decode cX8_seenTagged 4 = .ok (.aload_n 0, 1) := by decide +kernel
theorem dX8_seenTagged_5 : decode cX8_seenTagged 5 = .ok (.aload_n 0, 1) := by decide +kernel
theorem dX8_seenTagged_6 : decode cX8_seenTagged 6 = .ok (.iload_n 1, 1) := by decide +kernel
theorem dX8_seenTagged_7 : decode cX8_seenTagged 7 = .ok (.invokevirtual 123, 3) := by decide +kernel
theorem dX8_seenTagged_10 : decode cX8_seenTagged 10 = .ok (.invokevirtual 77, 3) := by decide +kernel
theorem dX8_seenTagged_13 : decode cX8_seenTagged 13 = .ok (.ifCond .eq 12, 3) := by decide +kernel
theorem dX8_seenTagged_16 : decode cX8_seenTagged 16 = .ok (.aload_n 0, 1) := by decide +kernel
theorem dX8_seenTagged_17 : decode cX8_seenTagged 17 = .ok (.getfield 44, 3) := by decide +kernel
theorem dX8_seenTagged_20 : decode cX8_seenTagged 20 = .ok (.iload_n 1, 1) := by decide +kernel
theorem dX8_seenTagged_21 : decode cX8_seenTagged 21 = .ok (.iaload, 1) := by decide +kernel
theorem dX8_seenTagged_22 : decode cX8_seenTagged 22 = .ok (.goto 4, 3) := by decide +kernel
theorem dX8_seenTagged_25 : decode cX8_seenTagged 25 = .ok (.iconst 0, 1) := by decide +kernel
theorem dX8_seenTagged_26 : decode cX8_seenTagged 26 = .ok (.ireturn, 1) := by decide +kernel
theorem dX8_isAsSeen_0 : decode cX8_isAsSeen 0 = .ok (.aload_n 0, 1) := by decide +kernel
theorem dX8_isAsSeen_1 : decode cX8_isAsSeen 1 = .ok (.getfield 41, 3) := by decide +kernel
theorem dX8_isAsSeen_4 : decode cX8_isAsSeen 4 = .ok (.iload_n 1, 1) := by decide +kernel
theorem dX8_isAsSeen_5 : decode cX8_isAsSeen 5 = .ok (.iaload, 1) := by decide +kernel
theorem dX8_isAsSeen_6 : decode cX8_isAsSeen 6 = .ok (.aload_n 0, 1) := by decide +kernel
theorem dX8_isAsSeen_7 : decode cX8_isAsSeen 7 = .ok (.getfield 50, 3) := by decide +kernel
theorem dX8_isAsSeen_10 : decode cX8_isAsSeen 10 = .ok (.iload_n 1, 1) := by decide +kernel
theorem dX8_isAsSeen_11 : decode cX8_isAsSeen 11 = .ok (.iaload, 1) := by decide +kernel
theorem dX8_isAsSeen_12 : decode cX8_isAsSeen 12 = .ok (.if_icmp .ne 22, 3) := by decide +kernel
theorem dX8_isAsSeen_15 : decode cX8_isAsSeen 15 = .ok (.aload_n 0, 1) := by decide +kernel
theorem dX8_isAsSeen_16 : decode cX8_isAsSeen 16 = .ok (.getfield 44, 3) := by decide +kernel
theorem dX8_isAsSeen_19 : decode cX8_isAsSeen 19 = .ok (.iload_n 1, 1) := by decide +kernel
theorem dX8_isAsSeen_20 : decode cX8_isAsSeen 20 = .ok (.iaload, 1) := by decide +kernel
theorem dX8_isAsSeen_21 : decode cX8_isAsSeen 21 = .ok (.aload_n 0, 1) := by decide +kernel
theorem dX8_isAsSeen_22 : decode cX8_isAsSeen 22 = .ok (.getfield 53, 3) := by decide +kernel
theorem dX8_isAsSeen_25 : decode cX8_isAsSeen 25 = .ok (.iload_n 1, 1) := by decide +kernel
theorem dX8_isAsSeen_26 : decode cX8_isAsSeen 26 = .ok (.iaload, 1) := by decide +kernel
theorem dX8_isAsSeen_27 : decode cX8_isAsSeen 27 = .ok (.if_icmp .ne 7, 3) := by decide +kernel
theorem dX8_isAsSeen_30 : decode cX8_isAsSeen 30 = .ok (.iconst 1, 1) := by decide +kernel
theorem dX8_isAsSeen_31 : decode cX8_isAsSeen 31 = .ok (.goto 4, 3) := by decide +kernel
theorem dX8_isAsSeen_34 : decode cX8_isAsSeen 34 = .ok (.iconst 0, 1) := by decide +kernel
theorem dX8_isAsSeen_35 : decode cX8_isAsSeen 35 = .ok (.ireturn, 1) := by decide +kernel
set_option maxRecDepth 20000 in
theorem ggX8_differing_X8_runBoth : GoodIn wsX8_differing wsX8_runBoth := goodIn_r _ [7, 2, 8, 9, 10, 11, 12, 13, 14, 6, 15, 16, 17, 18, 19, 20, 21, 22, 23, 24, 25, 26, 27, 28, 29, 30, 31, 32, 33, 34, 35, 36, 37, 38, 39, 40, 41, 42, 47, 48, 49, 50, 51, 52, 53, 54, 55, 56, 57, 58, 59, 60, 61, 62, 63, 64, 65, 66, 67, 68] (by decide +kernel) (by decide +kernel)
set_option maxRecDepth 20000 in
theorem gX8_differing_X8_runBoth : GoodIn wsX8_differing (wsV RX8 139 RX8 yX8_runBoth wsX8_runBoth) := goodIn_app (goodIn_of _ (by decide +kernel)) ggX8_differing_X8_runBoth
set_option maxRecDepth 20000 in
theorem ggX8_differing_X8_isAsSeen : GoodIn wsX8_differing wsX8_isAsSeen := goodIn_r _ [46, 9, 8, 11, 10, 47, 48, 49, 50, 51, 52, 53, 54, 55, 56, 57, 58, 59, 60, 61, 62, 63, 64, 65, 66, 67, 68] (by decide +kernel) (by decide +kernel)
set_option maxRecDepth 20000 in
theorem gX8_differing_X8_isAsSeen : GoodIn wsX8_differing (wsV RX8 142 RX8 yX8_isAsSeen wsX8_isAsSeen) := goodIn_app (goodIn_of _ (by decide +kernel)) ggX8_differing_X8_isAsSeen
theorem dX8_differing_0 : decode cX8_differing 0 = .ok (.aload_n 0, 1) := by decide +kernel
theorem dX8_differing_1 : decode cX8_differing 1 = .ok (.iconst 0, 1) := by decide +kernel
theorem dX8_differing_2 : decode cX8_differing 2 = .ok (.putfield 63, 3) := by decide +kernel
theorem dX8_differing_5 : decode cX8_differing 5 = .ok (.aload_n 0, 1) := by decide +kernel
theorem dX8_differing_6 : decode cX8_differing 6 = .ok (.invokevirtual 139, 3) := by decide +kernel
theorem dX8_differing_9 : decode cX8_differing 9 = .ok (.lconst 0, 1) := by decide +kernel
theorem dX8_differing_10 : decode cX8_differing 10 = .ok (.lstore_n 1, 1) := by decide +kernel
theorem dX8_differing_11 : decode cX8_differing 11 = .ok (.iconst 0, 1) := by decide +kernel
theorem dX8_differing_12 : decode cX8_differing 12 = .ok (.istore_n 3, 1) := by decide +kernel
theorem dX8_differing_13 : decode cX8_differing 13 = .ok (.iload_n 3, 1) := by decide +kernel
theorem dX8_differing_14 : decode cX8_differing 14 = .ok (.aload_n 0, 1) := by decide +kernel
theorem dX8_differing_15 : decode cX8_differing 15 = .ok (.getfield 70, 3) := by decide +kernel
theorem dX8_differing_18 : decode cX8_differing 18 = .ok (.if_icmp .ge 27, 3) := by decide +kernel
theorem dX8_differing_21 : decode cX8_differing 21 = .ok (.lload_n 1, 1) := by decide +kernel
theorem dX8_differing_22 : decode cX8_differing 22 = .ok (.aload_n 0, 1) := by decide +kernel
theorem dX8_differing_23 : decode cX8_differing 23 = .ok (.iload_n 3, 1) := by decide +kernel
theorem dX8_differing_24 : decode cX8_differing 24 = .ok (.invokevirtual 142, 3) := by decide +kernel
theorem dX8_differing_27 : decode cX8_differing 27 = .ok (.ifCond .eq 7, 3) := by decide +kernel
theorem dX8_differing_30 : decode cX8_differing 30 = .ok (.lconst 0, 1) := by decide +kernel
theorem dX8_differing_31 : decode cX8_differing 31 = .ok (.goto 6, 3) := by decide +kernel
theorem dX8_differing_34 : decode cX8_differing 34 = .ok (.lconst 1, 1) := by decide +kernel
theorem dX8_differing_35 : decode cX8_differing 35 = .ok (.iload_n 3, 1) := by decide +kernel
theorem dX8_differing_36 : decode cX8_differing 36 = .ok (.lshl, 1) := by decide +kernel
theorem dX8_differing_37 : decode cX8_differing 37 = .ok (.lor, 1) := by decide +kernel
theorem dX8_differing_38 : decode cX8_differing 38 = .ok (.lstore_n 1, 1) := by decide +kernel
theorem dX8_differing_39 : decode cX8_differing 39 = .ok (.iinc 3 1, 3) := by decide +kernel
theorem dX8_differing_42 : decode cX8_differing 42 = .ok (.goto (-29), 3) := by decide +kernel
theorem dX8_differing_45 : decode cX8_differing 45 = .ok (.lload_n 1, 1) := by decide +kernel
theorem dX8_differing_46 : decode cX8_differing 46 = .ok (.lreturn, 1) := by decide +kernel
set_option maxRecDepth 20000 in
theorem ggX8_differencesAt_X8_isPort : GoodIn wsX8_differencesAt wsX8_isPort := goodIn_r _ [10, 11, 51, 52, 53, 54, 55, 56, 57, 58, 59, 60, 61, 62, 63, 64, 65, 66, 67, 68, 69, 70, 71, 72] (by decide +kernel) (by decide +kernel)
set_option maxRecDepth 20000 in
theorem gX8_differencesAt_X8_isPort : GoodIn wsX8_differencesAt (wsV RX8 81 RX8 yX8_isPort wsX8_isPort) := goodIn_app (goodIn_of _ (by decide +kernel)) ggX8_differencesAt_X8_isPort
set_option maxRecDepth 20000 in
theorem ggX8_differencesAt_X8_may : GoodIn wsX8_differencesAt wsX8_may := goodIn_r _ [15, 16, 51, 52, 53, 54, 55, 56, 57, 58, 59, 60, 61, 62, 63, 64, 65, 66, 67, 68, 69, 70, 71, 72] (by decide +kernel) (by decide +kernel)
set_option maxRecDepth 20000 in
theorem gX8_differencesAt_X8_may : GoodIn wsX8_differencesAt (wsV RX8 77 RX8 yX8_may wsX8_may) := goodIn_app (goodIn_of _ (by decide +kernel)) ggX8_differencesAt_X8_may
set_option maxRecDepth 20000 in
theorem ggX8_differencesAt_X8_runBoth : GoodIn wsX8_differencesAt wsX8_runBoth := goodIn_r _ [20, 1, 3, 2, 5, 4, 21, 22, 23, 9, 24, 25, 26, 27, 28, 29, 30, 31, 32, 33, 34, 35, 11, 36, 37, 38, 39, 40, 41, 42, 43, 44, 45, 46, 47, 48, 49, 50, 51, 52, 53, 54, 55, 56, 57, 58, 59, 60, 61, 62, 63, 64, 65, 66, 67, 68, 69, 70, 71, 72] (by decide +kernel) (by decide +kernel)
set_option maxRecDepth 20000 in
theorem gX8_differencesAt_X8_runBoth : GoodIn wsX8_differencesAt (wsV RX8 139 RX8 yX8_runBoth wsX8_runBoth) := goodIn_app (goodIn_of _ (by decide +kernel)) ggX8_differencesAt_X8_runBoth
set_option maxRecDepth 20000 in
theorem ggX8_differencesAt_X8_has : GoodIn wsX8_differencesAt wsX8_has := goodIn_r _ [46] (by decide +kernel) (by decide +kernel)
set_option maxRecDepth 20000 in
theorem gX8_differencesAt_X8_has : GoodIn wsX8_differencesAt (va_wsS RX8 89 yX8_has wsX8_has) := goodIn_app (goodIn_of _ (by decide +kernel)) ggX8_differencesAt_X8_has
theorem dX8_differencesAt_0 : decode cX8_differencesAt 0 = .ok (.aload_n 0, 1) := by decide +kernel
theorem dX8_differencesAt_1 : decode cX8_differencesAt 1 = .ok (.aload_n 0, 1) := by decide +kernel
theorem dX8_differencesAt_2 : decode cX8_differencesAt 2 = .ok (.iload_n 1, 1) := by decide +kernel
theorem dX8_differencesAt_3 : decode cX8_differencesAt 3 = .ok (.invokevirtual 81, 3) := by decide +kernel
theorem dX8_differencesAt_6 : decode cX8_differencesAt 6 = .ok (.invokevirtual 77, 3) := by decide +kernel
theorem dX8_differencesAt_9 : decode cX8_differencesAt 9 = .ok (.ifCond .ne 5, 3) := by decide +kernel
theorem dX8_differencesAt_12 : decode cX8_differencesAt 12 = .ok (.iconst 0, 1) := by decide +kernel
theorem dX8_differencesAt_13 : decode cX8_differencesAt 13 = .ok (.ireturn, 1) := by decide +kernel
theorem dX8_differencesAt_14 : decode cX8_differencesAt 14 = .ok (.aload_n 0, 1) := by decide +kernel
theorem dX8_differencesAt_15 : decode cX8_differencesAt 15 = .ok (.invokevirtual 139, 3) := by decide +kernel
theorem dX8_differencesAt_18 : decode cX8_differencesAt 18 = .ok (.iconst 0, 1) := by decide +kernel
theorem dX8_differencesAt_19 : decode cX8_differencesAt 19 = .ok (.istore_n 2, 1) := by decide +kernel
theorem dX8_differencesAt_20 : decode cX8_differencesAt 20 = .ok (.iconst 0, 1) := by decide +kernel
theorem dX8_differencesAt_21 : decode cX8_differencesAt 21 = .ok (.istore_n 3, 1) := by decide +kernel
theorem dX8_differencesAt_22 : decode cX8_differencesAt 22 = .ok (.iload_n 3, 1) := by decide +kernel
theorem dX8_differencesAt_23 : decode cX8_differencesAt 23 = .ok (.aload_n 0, 1) := by decide +kernel
theorem dX8_differencesAt_24 : decode cX8_differencesAt 24 = .ok (.getfield 70, 3) := by decide +kernel
theorem dX8_differencesAt_27 : decode cX8_differencesAt 27 = .ok (.if_icmp .ge 69, 3) := by decide +kernel
theorem dX8_differencesAt_30 : decode cX8_differencesAt 30 = .ok (.aload_n 0, 1) := by decide +kernel
theorem dX8_differencesAt_31 : decode cX8_differencesAt 31 = .ok (.getfield 41, 3) := by decide +kernel
theorem dX8_differencesAt_34 : decode cX8_differencesAt 34 = .ok (.iload_n 3, 1) := by decide +kernel
theorem dX8_differencesAt_35 : decode cX8_differencesAt 35 = .ok (.iaload, 1) := by decide +kernel
theorem dX8_differencesAt_36 : decode cX8_differencesAt 36 = .ok (.aload_n 0, 1) := by decide +kernel
theorem dX8_differencesAt_37 : decode cX8_differencesAt 37 = .ok (.getfield 50, 3) := by decide +kernel
theorem dX8_differencesAt_40 : decode cX8_differencesAt 40 = .ok (.iload_n 3, 1) := by decide +kernel
theorem dX8_differencesAt_41 : decode cX8_differencesAt 41 = .ok (.iaload, 1) := by decide +kernel
theorem dX8_differencesAt_42 : decode cX8_differencesAt 42 = .ok (.ixor, 1) := by decide +kernel
theorem dX8_differencesAt_43 : decode cX8_differencesAt 43 = .ok (.iload_n 1, 1) := by decide +kernel
theorem dX8_differencesAt_44 : decode cX8_differencesAt 44 = .ok (.invokestatic 89, 3) := by decide +kernel
theorem dX8_differencesAt_47 : decode cX8_differencesAt 47 = .ok (.ifCond .ne 23, 3) := by decide +kernel
theorem dX8_differencesAt_50 : decode cX8_differencesAt 50 = .ok (.aload_n 0, 1) := by decide +kernel
theorem dX8_differencesAt_51 : decode cX8_differencesAt 51 = .ok (.getfield 44, 3) := by decide +kernel
theorem dX8_differencesAt_54 : decode cX8_differencesAt 54 = .ok (.iload_n 3, 1) := by decide +kernel
theorem dX8_differencesAt_55 : decode cX8_differencesAt 55 = .ok (.iaload, 1) := by decide +kernel
theorem dX8_differencesAt_56 : decode cX8_differencesAt 56 = .ok (.aload_n 0, 1) := by decide +kernel
theorem dX8_differencesAt_57 : decode cX8_differencesAt 57 = .ok (.getfield 53, 3) := by decide +kernel
theorem dX8_differencesAt_60 : decode cX8_differencesAt 60 = .ok (.iload_n 3, 1) := by decide +kernel
theorem dX8_differencesAt_61 : decode cX8_differencesAt 61 = .ok (.iaload, 1) := by decide +kernel
theorem dX8_differencesAt_62 : decode cX8_differencesAt 62 = .ok (.ixor, 1) := by decide +kernel
theorem dX8_differencesAt_63 : decode cX8_differencesAt 63 = .ok (.iload_n 1, 1) := by decide +kernel
theorem dX8_differencesAt_64 : decode cX8_differencesAt 64 = .ok (.invokestatic 89, 3) := by decide +kernel
theorem dX8_differencesAt_67 : decode cX8_differencesAt 67 = .ok (.ifCond .eq 7, 3) := by decide +kernel
theorem dX8_differencesAt_70 : decode cX8_differencesAt 70 = .ok (.iconst 1, 1) := by decide +kernel
theorem dX8_differencesAt_71 : decode cX8_differencesAt 71 = .ok (.goto 4, 3) := by decide +kernel
theorem dX8_differencesAt_74 : decode cX8_differencesAt 74 = .ok (.iconst 0, 1) := by decide +kernel
theorem dX8_differencesAt_75 : decode cX8_differencesAt 75 = .ok (.istore 4, 2) := by decide +kernel
theorem dX8_differencesAt_77 : decode cX8_differencesAt 77 = .ok (.iload_n 2, 1) := by decide +kernel
theorem dX8_differencesAt_78 : decode cX8_differencesAt 78 = .ok (.iload 4, 2) := by decide +kernel
theorem dX8_differencesAt_80 : decode cX8_differencesAt 80 = .ok (.ifCond .eq 7, 3) := by decide +kernel
theorem dX8_differencesAt_83 : decode cX8_differencesAt 83 = .ok (.iconst 1, 1) := by decide +kernel
theorem dX8_differencesAt_84 : decode cX8_differencesAt 84 = .ok (.goto 4, 3) := by decide +kernel
theorem dX8_differencesAt_87 : decode cX8_differencesAt 87 = .ok (.iconst 0, 1) := by decide +kernel
theorem dX8_differencesAt_88 : decode cX8_differencesAt 88 = .ok (.iadd, 1) := by decide +kernel
theorem dX8_differencesAt_89 : decode cX8_differencesAt 89 = .ok (.istore_n 2, 1) := by decide +kernel
theorem dX8_differencesAt_90 : decode cX8_differencesAt 90 = .ok (.iinc 3 1, 3) := by decide +kernel
theorem dX8_differencesAt_93 : decode cX8_differencesAt 93 = .ok (.goto (-71), 3) := by decide +kernel
theorem dX8_differencesAt_96 : decode cX8_differencesAt 96 = .ok (.iload_n 2, 1) := by decide +kernel
theorem dX8_differencesAt_97 : decode cX8_differencesAt 97 = .ok (.ireturn, 1) := by decide +kernel
set_option maxRecDepth 20000 in
theorem ggX8_explains_X8_run : GoodIn wsX8_explains wsX8_run := goodIn_r _ [7, 8, 2, 9, 10, 11, 12, 1, 13, 14, 15, 16, 17, 18, 19, 20, 21, 6, 22, 23, 24, 25, 26, 33, 34, 35, 36, 37, 38, 39, 40, 41, 42, 43, 44, 45, 46, 47, 48, 49, 50, 51, 52, 53, 54] (by decide +kernel) (by decide +kernel)
set_option maxRecDepth 20000 in
theorem gX8_explains_X8_run : GoodIn wsX8_explains (wsV RX8 130 RX8 yX8_run wsX8_run) := goodIn_app (goodIn_of _ (by decide +kernel)) ggX8_explains_X8_run
set_option maxRecDepth 20000 in
theorem ggX8_explains_X8_isAsSeen : GoodIn wsX8_explains wsX8_isAsSeen := goodIn_r _ [30, 10, 31, 11, 32, 33, 34, 35, 36, 37, 38, 39, 40, 41, 42, 43, 44, 45, 46, 47, 48, 49, 50, 51, 52, 53, 54] (by decide +kernel) (by decide +kernel)
set_option maxRecDepth 20000 in
theorem gX8_explains_X8_isAsSeen : GoodIn wsX8_explains (wsV RX8 142 RX8 yX8_isAsSeen wsX8_isAsSeen) := goodIn_app (goodIn_of _ (by decide +kernel)) ggX8_explains_X8_isAsSeen
theorem dX8_explains_0 : decode cX8_explains 0 = .ok (.iconst 0, 1) := by decide +kernel
theorem dX8_explains_1 : decode cX8_explains 1 = .ok (.istore_n 3, 1) := by decide +kernel
theorem dX8_explains_2 : decode cX8_explains 2 = .ok (.iload_n 3, 1) := by decide +kernel
theorem dX8_explains_3 : decode cX8_explains 3 = .ok (.bipush 6, 2) := by decide +kernel
theorem dX8_explains_5 : decode cX8_explains 5 = .ok (.if_icmp .ge 16, 3) := by decide +kernel
theorem dX8_explains_8 : decode cX8_explains 8 = .ok (.aload_n 0, 1) := by decide +kernel
theorem dX8_explains_9 : decode cX8_explains 9 = .ok (.getfield 38, 3) := by decide +kernel
theorem dX8_explains_12 : decode cX8_explains 12 = .ok (.iload_n 3, 1) := by decide +kernel
theorem dX8_explains_13 : decode cX8_explains 13 = .ok (.iconst 0, 1) := by decide +kernel
theorem dX8_explains_14 : decode cX8_explains 14 = .ok (.iastore, 1) := by decide +kernel
theorem dX8_explains_15 : decode cX8_explains 15 = .ok (.iinc 3 1, 3) := by decide +kernel
theorem dX8_explains_18 : decode cX8_explains 18 = .ok (.goto (-16), 3) := by decide +kernel
theorem dX8_explains_21 : decode cX8_explains 21 = .ok (.iload_n 1, 1) := by decide +kernel
theorem dX8_explains_22 : decode cX8_explains 22 = .ok (.iconst (-1), 1) := by decide +kernel
theorem dX8_explains_23 : decode cX8_explains 23 = .ok (.if_icmp .eq 19, 3) := by decide +kernel
theorem dX8_explains_26 : decode cX8_explains 26 = .ok (.aload_n 0, 1) := by decide +kernel
theorem dX8_explains_27 : decode cX8_explains 27 = .ok (.getfield 38, 3) := by decide +kernel
theorem dX8_explains_30 : decode cX8_explains 30 = .ok (.iload_n 1, 1) := by decide +kernel
theorem dX8_explains_31 : decode cX8_explains 31 = .ok (.iconst 5, 1) := by decide +kernel
theorem dX8_explains_32 : decode cX8_explains 32 = .ok (.idiv, 1) := by decide +kernel
theorem dX8_explains_33 : decode cX8_explains 33 = .ok (.dup2, 1) := by decide +kernel
theorem dX8_explains_34 : decode cX8_explains 34 = .ok (.iaload, 1) := by decide +kernel
theorem dX8_explains_35 : decode cX8_explains 35 = .ok (.iconst 1, 1) := by decide +kernel
theorem dX8_explains_36 : decode cX8_explains 36 = .ok (.iload_n 1, 1) := by decide +kernel
theorem dX8_explains_37 : decode cX8_explains 37 = .ok (.iconst 5, 1) := by decide +kernel
theorem dX8_explains_38 : decode cX8_explains 38 = .ok (.irem, 1) := by decide +kernel
theorem dX8_explains_39 : decode cX8_explains 39 = .ok (.ishl, 1) := by decide +kernel
theorem dX8_explains_40 : decode cX8_explains 40 = .ok (.ior, 1) := by decide +kernel
theorem dX8_explains_41 : decode cX8_explains 41 = .ok (.iastore, 1) := by decide +kernel
theorem dX8_explains_42 : decode cX8_explains 42 = .ok (.iload_n 2, 1) := by decide +kernel
theorem dX8_explains_43 : decode cX8_explains 43 = .ok (.iconst (-1), 1) := by decide +kernel
theorem dX8_explains_44 : decode cX8_explains 44 = .ok (.if_icmp .eq 19, 3) := by decide +kernel
theorem dX8_explains_47 : decode cX8_explains 47 = .ok (.aload_n 0, 1) := by decide +kernel
theorem dX8_explains_48 : decode cX8_explains 48 = .ok (.getfield 38, 3) := by decide +kernel
theorem dX8_explains_51 : decode cX8_explains 51 = .ok (.iload_n 2, 1) := by decide +kernel
theorem dX8_explains_52 : decode cX8_explains 52 = .ok (.iconst 5, 1) := by decide +kernel
theorem dX8_explains_53 : decode cX8_explains 53 = .ok (.idiv, 1) := by decide +kernel
theorem dX8_explains_54 : decode cX8_explains 54 = .ok (.dup2, 1) := by decide +kernel
theorem dX8_explains_55 : decode cX8_explains 55 = .ok (.iaload, 1) := by decide +kernel
theorem dX8_explains_56 : decode cX8_explains 56 = .ok (.iconst 1, 1) := by decide +kernel
theorem dX8_explains_57 : decode cX8_explains 57 = .ok (.iload_n 2, 1) := by decide +kernel
theorem dX8_explains_58 : decode cX8_explains 58 = .ok (.iconst 5, 1) := by decide +kernel
theorem dX8_explains_59 : decode cX8_explains 59 = .ok (.irem, 1) := by decide +kernel
theorem dX8_explains_60 : decode cX8_explains 60 = .ok (.ishl, 1) := by decide +kernel
theorem dX8_explains_61 : decode cX8_explains 61 = .ok (.ior, 1) := by decide +kernel
theorem dX8_explains_62 : decode cX8_explains 62 = .ok (.iastore, 1) := by decide +kernel
theorem dX8_explains_63 : decode cX8_explains 63 = .ok (.aload_n 0, 1) := by decide +kernel
theorem dX8_explains_64 : decode cX8_explains 64 = .ok (.invokevirtual 130, 3) := by decide +kernel
theorem dX8_explains_67 : decode cX8_explains 67 = .ok (.iconst 0, 1) := by decide +kernel
theorem dX8_explains_68 : decode cX8_explains 68 = .ok (.istore_n 3, 1) := by decide +kernel
theorem dX8_explains_69 : decode cX8_explains 69 = .ok (.iload_n 3, 1) := by decide +kernel
theorem dX8_explains_70 : decode cX8_explains 70 = .ok (.aload_n 0, 1) := by decide +kernel
theorem dX8_explains_71 : decode cX8_explains 71 = .ok (.getfield 70, 3) := by decide +kernel
theorem dX8_explains_74 : decode cX8_explains 74 = .ok (.if_icmp .ge 19, 3) := by decide +kernel
theorem dX8_explains_77 : decode cX8_explains 77 = .ok (.aload_n 0, 1) := by decide +kernel
theorem dX8_explains_78 : decode cX8_explains 78 = .ok (.iload_n 3, 1) := by decide +kernel
theorem dX8_explains_79 : decode cX8_explains 79 = .ok (.invokevirtual 142, 3) := by decide +kernel
theorem dX8_explains_82 : decode cX8_explains 82 = .ok (.ifCond .ne 5, 3) := by decide +kernel
theorem dX8_explains_85 : decode cX8_explains 85 = .ok (.iconst 0, 1) := by decide +kernel
theorem dX8_explains_86 : decode cX8_explains 86 = .ok (.ireturn, 1) := by decide +kernel
theorem dX8_explains_87 : decode cX8_explains 87 = .ok (.iinc 3 1, 3) := by decide +kernel
theorem dX8_explains_90 : decode cX8_explains 90 = .ok (.goto (-21), 3) := by decide +kernel
theorem dX8_explains_93 : decode cX8_explains 93 = .ok (.iconst 1, 1) := by decide +kernel
theorem dX8_explains_94 : decode cX8_explains 94 = .ok (.ireturn, 1) := by decide +kernel
theorem dX8_note_0 : decode cX8_note 0 = .ok (.aload_n 0, 1) := by decide +kernel
theorem dX8_note_1 : decode cX8_note 1 = .ok (.getfield 145, 3) := by decide +kernel
theorem dX8_note_4 : decode cX8_note 4 = .ok (.ifCond .ne 13, 3) := by decide +kernel
theorem dX8_note_7 : decode cX8_note 7 = .ok (.aload_n 0, 1) := by decide +kernel
theorem dX8_note_8 : decode cX8_note 8 = .ok (.iload_n 1, 1) := by decide +kernel
theorem dX8_note_9 : decode cX8_note 9 = .ok (.putfield 148, 3) := by decide +kernel
theorem dX8_note_12 : decode cX8_note 12 = .ok (.aload_n 0, 1) := by decide +kernel
theorem dX8_note_13 : decode cX8_note 13 = .ok (.iload_n 2, 1) := by decide +kernel
theorem dX8_note_14 : decode cX8_note 14 = .ok (.putfield 151, 3) := by decide +kernel
theorem dX8_note_17 : decode cX8_note 17 = .ok (.aload_n 0, 1) := by decide +kernel
theorem dX8_note_18 : decode cX8_note 18 = .ok (.dup, 1) := by decide +kernel
theorem dX8_note_19 : decode cX8_note 19 = .ok (.getfield 145, 3) := by decide +kernel
theorem dX8_note_22 : decode cX8_note 22 = .ok (.iconst 1, 1) := by decide +kernel
theorem dX8_note_23 : decode cX8_note 23 = .ok (.iadd, 1) := by decide +kernel
theorem dX8_note_24 : decode cX8_note 24 = .ok (.putfield 145, 3) := by decide +kernel
theorem dX8_note_27 : decode cX8_note 27 = .ok (.return_, 1) := by decide +kernel
set_option maxRecDepth 20000 in
theorem ggX8_explain_X8_runBoth : GoodIn wsX8_explain wsX8_runBoth := goodIn_r _ [7, 8, 9, 10, 11, 12, 13, 14, 15, 6, 16, 17, 18, 19, 20, 21, 22, 23, 24, 25, 26, 27, 2, 28, 29, 30, 31, 32, 33, 34, 35, 36, 37, 38, 39, 40, 41, 42, 57, 58, 59, 60, 61, 62, 63, 64, 65, 66, 67, 68, 69, 70, 71, 72, 73, 74, 75, 76, 77, 78] (by decide +kernel) (by decide +kernel)
set_option maxRecDepth 20000 in
theorem gX8_explain_X8_runBoth : GoodIn wsX8_explain (wsV RX8 139 RX8 yX8_runBoth wsX8_runBoth) := goodIn_app (goodIn_of _ (by decide +kernel)) ggX8_explain_X8_runBoth
set_option maxRecDepth 20000 in
theorem ggX8_explain_X8_explains : GoodIn wsX8_explain wsX8_explains := goodIn_r _ [46, 17, 8, 19, 20, 21, 6, 22, 23, 24, 10, 12, 25, 26, 27, 2, 28, 29, 30, 31, 32, 33, 34, 35, 36, 37, 38, 47, 48, 49, 50, 9, 11, 57, 58, 59, 60, 61, 62, 63, 64, 65, 66, 67, 68, 69, 70, 71, 72, 73, 74, 75, 76, 77, 78] (by decide +kernel) (by decide +kernel)
set_option maxRecDepth 20000 in
theorem gX8_explain_X8_explains : GoodIn wsX8_explain (wsV RX8 154 RX8 yX8_explains wsX8_explains) := goodIn_app (goodIn_of _ (by decide +kernel)) ggX8_explain_X8_explains
set_option maxRecDepth 20000 in
theorem ggX8_explain_X8_note : GoodIn wsX8_explain wsX8_note := goodIn_r _ [54, 1, 55, 56, 57, 58, 59, 60, 61, 62, 63, 64, 65, 66, 67, 68, 69, 70, 71, 72, 73, 74, 75, 76, 77, 78] (by decide +kernel) (by decide +kernel)
set_option maxRecDepth 20000 in
theorem gX8_explain_X8_note : GoodIn wsX8_explain (wsV RX8 157 RX8 yX8_note wsX8_note) := goodIn_app (goodIn_of _ (by decide +kernel)) ggX8_explain_X8_note
theorem dX8_explain_0 : decode cX8_explain 0 = .ok (.aload_n 0, 1) := by decide +kernel
theorem dX8_explain_1 : decode cX8_explain 1 = .ok (.invokevirtual 139, 3) := by decide +kernel
theorem dX8_explain_4 : decode cX8_explain 4 = .ok (.aload_n 0, 1) := by decide +kernel
theorem dX8_explain_5 : decode cX8_explain 5 = .ok (.iconst 0, 1) := by decide +kernel
theorem dX8_explain_6 : decode cX8_explain 6 = .ok (.putfield 145, 3) := by decide +kernel
theorem dX8_explain_9 : decode cX8_explain 9 = .ok (.aload_n 0, 1) := by decide +kernel
theorem dX8_explain_10 : decode cX8_explain 10 = .ok (.iconst (-1), 1) := by decide +kernel
theorem dX8_explain_11 : decode cX8_explain 11 = .ok (.iconst (-1), 1) := by decide +kernel
theorem dX8_explain_12 : decode cX8_explain 12 = .ok (.invokevirtual 154, 3) := by decide +kernel
theorem dX8_explain_15 : decode cX8_explain 15 = .ok (.ifCond .eq 11, 3) := by decide +kernel
theorem dX8_explain_18 : decode cX8_explain 18 = .ok (.aload_n 0, 1) := by decide +kernel
theorem dX8_explain_19 : decode cX8_explain 19 = .ok (.iconst (-1), 1) := by decide +kernel
theorem dX8_explain_20 : decode cX8_explain 20 = .ok (.iconst (-1), 1) := by decide +kernel
theorem dX8_explain_21 : decode cX8_explain 21 = .ok (.invokevirtual 157, 3) := by decide +kernel
theorem dX8_explain_24 : decode cX8_explain 24 = .ok (.iconst 0, 1) := by decide +kernel
theorem dX8_explain_25 : decode cX8_explain 25 = .ok (.ireturn, 1) := by decide +kernel
theorem dX8_explain_26 : decode cX8_explain 26 = .ok (.iconst 5, 1) := by decide +kernel
theorem dX8_explain_27 : decode cX8_explain 27 = .ok (.aload_n 0, 1) := by decide +kernel
theorem dX8_explain_28 : decode cX8_explain 28 = .ok (.getfield 67, 3) := by decide +kernel
theorem dX8_explain_31 : decode cX8_explain 31 = .ok (.imul, 1) := by decide +kernel
theorem dX8_explain_32 : decode cX8_explain 32 = .ok (.istore_n 1, 1) := by decide +kernel
theorem dX8_explain_33 : decode cX8_explain 33 = .ok (.iconst 0, 1) := by decide +kernel
theorem dX8_explain_34 : decode cX8_explain 34 = .ok (.istore_n 2, 1) := by decide +kernel
theorem dX8_explain_35 : decode cX8_explain 35 = .ok (.iload_n 2, 1) := by decide +kernel
theorem dX8_explain_36 : decode cX8_explain 36 = .ok (.iload_n 1, 1) := by decide +kernel
theorem dX8_explain_37 : decode cX8_explain 37 = .ok (.if_icmp .ge 24, 3) := by decide +kernel
theorem dX8_explain_40 : decode cX8_explain 40 = .ok (.aload_n 0, 1) := by decide +kernel
theorem dX8_explain_41 : decode cX8_explain 41 = .ok (.iload_n 2, 1) := by decide +kernel
theorem dX8_explain_42 : decode cX8_explain 42 = .ok (.iconst (-1), 1) := by decide +kernel
theorem dX8_explain_43 : decode cX8_explain 43 = .ok (.invokevirtual 154, 3) := by decide +kernel
theorem dX8_explain_46 : decode cX8_explain 46 = .ok (.ifCond .eq 9, 3) := by decide +kernel
theorem dX8_explain_49 : decode cX8_explain 49 = .ok (.aload_n 0, 1) := by decide +kernel
theorem dX8_explain_50 : decode cX8_explain 50 = .ok (.iload_n 2, 1) := by decide +kernel
theorem dX8_explain_51 : decode cX8_explain 51 = .ok (.iconst (-1), 1) := by decide +kernel
theorem dX8_explain_52 : decode cX8_explain 52 = .ok (.invokevirtual 157, 3) := by decide +kernel
theorem dX8_explain_55 : decode cX8_explain 55 = .ok (.iinc 2 1, 3) := by decide +kernel
theorem dX8_explain_58 : decode cX8_explain 58 = .ok (.goto (-23), 3) := by decide +kernel
theorem dX8_explain_61 : decode cX8_explain 61 = .ok (.aload_n 0, 1) := by decide +kernel
theorem dX8_explain_62 : decode cX8_explain 62 = .ok (.getfield 145, 3) := by decide +kernel
theorem dX8_explain_65 : decode cX8_explain 65 = .ok (.ifCond .le 5, 3) := by decide +kernel
theorem dX8_explain_68 : decode cX8_explain 68 = .ok (.iconst 1, 1) := by decide +kernel
theorem dX8_explain_69 : decode cX8_explain 69 = .ok (.ireturn, 1) := by decide +kernel
theorem dX8_explain_70 : decode cX8_explain 70 = .ok (.iconst 0, 1) := by decide +kernel
theorem dX8_explain_71 : decode cX8_explain 71 = .ok (.istore_n 2, 1) := by decide +kernel
theorem dX8_explain_72 : decode cX8_explain 72 = .ok (.iload_n 2, 1) := by decide +kernel
theorem dX8_explain_73 : decode cX8_explain 73 = .ok (.iload_n 1, 1) := by decide +kernel
theorem dX8_explain_74 : decode cX8_explain 74 = .ok (.if_icmp .ge 39, 3) := by decide +kernel
theorem dX8_explain_77 : decode cX8_explain 77 = .ok (.iload_n 2, 1) := by decide +kernel
theorem dX8_explain_78 : decode cX8_explain 78 = .ok (.iconst 1, 1) := by decide +kernel
theorem dX8_explain_79 : decode cX8_explain 79 = .ok (.iadd, 1) := by decide +kernel
theorem dX8_explain_80 : decode cX8_explain 80 = .ok (.istore_n 3, 1) := by decide +kernel
theorem dX8_explain_81 : decode cX8_explain 81 = .ok (.iload_n 3, 1) := by decide +kernel
theorem dX8_explain_82 : decode cX8_explain 82 = .ok (.iload_n 1, 1) := by decide +kernel
theorem dX8_explain_83 : decode cX8_explain 83 = .ok (.if_icmp .ge 24, 3) := by decide +kernel
theorem dX8_explain_86 : decode cX8_explain 86 = .ok (.aload_n 0, 1) := by decide +kernel
theorem dX8_explain_87 : decode cX8_explain 87 = .ok (.iload_n 2, 1) := by decide +kernel
theorem dX8_explain_88 : decode cX8_explain 88 = .ok (.iload_n 3, 1) := by decide +kernel
theorem dX8_explain_89 : decode cX8_explain 89 = .ok (.invokevirtual 154, 3) := by decide +kernel
theorem dX8_explain_92 : decode cX8_explain 92 = .ok (.ifCond .eq 9, 3) := by decide +kernel
theorem dX8_explain_95 : decode cX8_explain 95 = .ok (.aload_n 0, 1) := by decide +kernel
theorem dX8_explain_96 : decode cX8_explain 96 = .ok (.iload_n 2, 1) := by decide +kernel
theorem dX8_explain_97 : decode cX8_explain 97 = .ok (.iload_n 3, 1) := by decide +kernel
theorem dX8_explain_98 : decode cX8_explain 98 = .ok (.invokevirtual 157, 3) := by decide +kernel
theorem dX8_explain_101 : decode cX8_explain 101 = .ok (.iinc 3 1, 3) := by decide +kernel
theorem dX8_explain_104 : decode cX8_explain 104 = .ok (.goto (-23), 3) := by decide +kernel
theorem dX8_explain_107 : decode cX8_explain 107 = .ok (.iinc 2 1, 3) := by decide +kernel
theorem dX8_explain_110 : decode cX8_explain 110 = .ok (.goto (-38), 3) := by decide +kernel
theorem dX8_explain_113 : decode cX8_explain 113 = .ok (.aload_n 0, 1) := by decide +kernel
theorem dX8_explain_114 : decode cX8_explain 114 = .ok (.getfield 145, 3) := by decide +kernel
theorem dX8_explain_117 : decode cX8_explain 117 = .ok (.ifCond .le 7, 3) := by decide +kernel
theorem dX8_explain_120 : decode cX8_explain 120 = .ok (.iconst 2, 1) := by decide +kernel
theorem dX8_explain_121 : decode cX8_explain 121 = .ok (.goto 4, 3) := by decide +kernel
theorem dX8_explain_124 : decode cX8_explain 124 = .ok (.iconst (-1), 1) := by decide +kernel
theorem dX8_explain_125 : decode cX8_explain 125 = .ok (.ireturn, 1) := by decide +kernel
set_option maxRecDepth 20000 in
theorem ggX8_blame_X8_explain : GoodIn wsX8_blame wsX8_explain := goodIn_r _ [6, 7, 8, 9, 10, 11, 5, 12, 13, 14, 15, 16, 17, 18, 19, 20, 21, 22, 23, 24, 25, 26, 27, 28, 29, 30, 31, 32, 33, 34, 35, 36, 37, 38, 39, 40, 41, 42, 43, 44, 45, 46, 47, 48, 49, 50, 51, 52, 53, 54, 55, 56, 57, 58, 59, 60, 61, 62, 63, 64, 65, 66, 67, 68, 69, 70, 71, 72, 73, 74, 75, 76, 77, 78, 79, 80, 81, 82, 83] (by decide +kernel) (by decide +kernel)
set_option maxRecDepth 20000 in
theorem gX8_blame_X8_explain : GoodIn wsX8_blame (wsV RX8 160 RX8 yX8_explain wsX8_explain) := goodIn_app (goodIn_of _ (by decide +kernel)) ggX8_blame_X8_explain
theorem dX8_blame_0 : decode cX8_blame 0 = .ok (.aload_n 0, 1) := by decide +kernel
theorem dX8_blame_1 : decode cX8_blame 1 = .ok (.iconst 0, 1) := by decide +kernel
theorem dX8_blame_2 : decode cX8_blame 2 = .ok (.putfield 63, 3) := by decide +kernel
theorem dX8_blame_5 : decode cX8_blame 5 = .ok (.aload_n 0, 1) := by decide +kernel
theorem dX8_blame_6 : decode cX8_blame 6 = .ok (.invokevirtual 160, 3) := by decide +kernel
theorem dX8_blame_9 : decode cX8_blame 9 = .ok (.ireturn, 1) := by decide +kernel
set_option maxRecDepth 20000 in
theorem ggX8_blamed_X8_explain : GoodIn wsX8_blamed wsX8_explain := goodIn_r _ [7, 8, 9, 10, 11, 12, 6, 13, 14, 15, 16, 17, 18, 19, 20, 21, 22, 23, 24, 25, 26, 27, 28, 29, 30, 31, 32, 33, 34, 35, 36, 37, 38, 39, 40, 41, 42, 43, 44, 45, 46, 47, 48, 49, 50, 51, 52, 53, 54, 55, 56, 57, 58, 59, 60, 1, 2, 66, 67, 68, 69, 70, 71, 72, 73, 74, 75, 76, 77, 78, 79, 80, 81, 82, 83, 84, 85, 86, 87] (by decide +kernel) (by decide +kernel)
set_option maxRecDepth 20000 in
theorem gX8_blamed_X8_explain : GoodIn wsX8_blamed (wsV RX8 160 RX8 yX8_explain wsX8_explain) := goodIn_app (goodIn_of _ (by decide +kernel)) ggX8_blamed_X8_explain
set_option maxRecDepth 20000 in
theorem ggX8_blamed_X8_may : GoodIn wsX8_blamed wsX8_may := goodIn_r _ [64, 65, 66, 67, 68, 69, 70, 71, 72, 73, 74, 75, 76, 77, 78, 79, 80, 81, 82, 83, 84, 85, 86, 87] (by decide +kernel) (by decide +kernel)
set_option maxRecDepth 20000 in
theorem gX8_blamed_X8_may : GoodIn wsX8_blamed (wsV RX8 77 RX8 yX8_may wsX8_may) := goodIn_app (goodIn_of _ (by decide +kernel)) ggX8_blamed_X8_may
theorem dX8_blamed_0 : decode cX8_blamed 0 = .ok (.aload_n 0, 1) := by decide +kernel
theorem dX8_blamed_1 : decode cX8_blamed 1 = .ok (.invokevirtual 160, 3) := by decide +kernel
theorem dX8_blamed_4 : decode cX8_blamed 4 = .ok (.istore_n 2, 1) := by decide +kernel
theorem dX8_blamed_5 : decode cX8_blamed 5 = .ok (.aload_n 0, 1) := by decide +kernel
theorem dX8_blamed_6 : decode cX8_blamed 6 = .ok (.iload_n 1, 1) := by decide +kernel
theorem dX8_blamed_7 : decode cX8_blamed 7 = .ok (.ifCond .lt 12, 3) := by decide +kernel
theorem dX8_blamed_10 : decode cX8_blamed 10 = .ok (.iload_n 1, 1) := by decide +kernel
theorem dX8_blamed_11 : decode cX8_blamed 11 = .ok (.iload_n 2, 1) := by decide +kernel
theorem dX8_blamed_12 : decode cX8_blamed 12 = .ok (.if_icmp .ge 7, 3) := by decide +kernel
theorem dX8_blamed_15 : decode cX8_blamed 15 = .ok (.iconst 1, 1) := by decide +kernel
theorem dX8_blamed_16 : decode cX8_blamed 16 = .ok (.goto 4, 3) := by decide +kernel
theorem dX8_blamed_19 : decode cX8_blamed 19 = .ok (.iconst 0, 1) := by decide +kernel
theorem dX8_blamed_20 : decode cX8_blamed 20 = .ok (.invokevirtual 77, 3) := by decide +kernel
theorem dX8_blamed_23 : decode cX8_blamed 23 = .ok (.ifCond .ne 5, 3) := by decide +kernel
theorem dX8_blamed_26 : decode cX8_blamed 26 = .ok (.iconst 0, 1) := by decide +kernel
theorem dX8_blamed_27 : decode cX8_blamed 27 = .ok (.ireturn, 1) := by decide +kernel
theorem dX8_blamed_28 : decode cX8_blamed 28 = .ok (.iload_n 1, 1) := by decide +kernel
theorem dX8_blamed_29 : decode cX8_blamed 29 = .ok (.ifCond .ne 10, 3) := by decide +kernel
theorem dX8_blamed_32 : decode cX8_blamed 32 = .ok (.aload_n 0, 1) := by decide +kernel
theorem dX8_blamed_33 : decode cX8_blamed 33 = .ok (.getfield 148, 3) := by decide +kernel
theorem dX8_blamed_36 : decode cX8_blamed 36 = .ok (.goto 7, 3) := by decide +kernel
theorem dX8_blamed_39 : decode cX8_blamed 39 = .ok (.aload_n 0, 1) := by decide +kernel
theorem dX8_blamed_40 : decode cX8_blamed 40 = .ok (.getfield 151, 3) := by decide +kernel
theorem dX8_blamed_43 : decode cX8_blamed 43 = .ok (.istore_n 3, 1) := by decide +kernel
theorem dX8_blamed_44 : decode cX8_blamed 44 = .ok (.iload_n 3, 1) := by decide +kernel
theorem dX8_blamed_45 : decode cX8_blamed 45 = .ok (.iconst 5, 1) := by decide +kernel
theorem dX8_blamed_46 : decode cX8_blamed 46 = .ok (.idiv, 1) := by decide +kernel
theorem dX8_blamed_47 : decode cX8_blamed 47 = .ok (.bipush 10, 2) := by decide +kernel
theorem dX8_blamed_49 : decode cX8_blamed 49 = .ok (.imul, 1) := by decide +kernel
theorem dX8_blamed_50 : decode cX8_blamed 50 = .ok (.iload_n 3, 1) := by decide +kernel
theorem dX8_blamed_51 : decode cX8_blamed 51 = .ok (.iconst 5, 1) := by decide +kernel
theorem dX8_blamed_52 : decode cX8_blamed 52 = .ok (.irem, 1) := by decide +kernel
theorem dX8_blamed_53 : decode cX8_blamed 53 = .ok (.iadd, 1) := by decide +kernel
theorem dX8_blamed_54 : decode cX8_blamed 54 = .ok (.ireturn, 1) := by decide +kernel
set_option maxRecDepth 20000 in
theorem ggX8_explanations_X8_explain : GoodIn wsX8_explanations wsX8_explain := goodIn_r _ [7, 2, 8, 9, 10, 11, 6, 12, 13, 14, 15, 16, 17, 18, 19, 20, 21, 22, 23, 24, 25, 26, 27, 28, 29, 30, 31, 32, 33, 34, 35, 36, 37, 38, 39, 40, 41, 42, 43, 44, 45, 46, 47, 48, 49, 50, 51, 52, 53, 54, 55, 56, 57, 58, 59, 60, 61, 62, 63, 64, 65, 66, 67, 68, 69, 70, 71, 72, 73, 74, 75, 76, 77, 78, 79, 80, 81, 82, 83] (by decide +kernel) (by decide +kernel)
set_option maxRecDepth 20000 in
theorem gX8_explanations_X8_explain : GoodIn wsX8_explanations (wsV RX8 160 RX8 yX8_explain wsX8_explain) := goodIn_app (goodIn_of _ (by decide +kernel)) ggX8_explanations_X8_explain
theorem dX8_explanations_0 : decode cX8_explanations 0 = .ok (.aload_n 0, 1) := by decide +kernel
theorem dX8_explanations_1 : decode cX8_explanations 1 = .ok (.iconst 0, 1) := by decide +kernel
theorem dX8_explanations_2 : decode cX8_explanations 2 = .ok (.putfield 63, 3) := by decide +kernel
theorem dX8_explanations_5 : decode cX8_explanations 5 = .ok (.aload_n 0, 1) := by decide +kernel
theorem dX8_explanations_6 : decode cX8_explanations 6 = .ok (.invokevirtual 160, 3) := by decide +kernel
theorem dX8_explanations_9 : decode cX8_explanations 9 = .ok (.pop, 1) := by decide +kernel
theorem dX8_explanations_10 : decode cX8_explanations 10 = .ok (.aload_n 0, 1) := by decide +kernel
theorem dX8_explanations_11 : decode cX8_explanations 11 = .ok (.getfield 145, 3) := by decide +kernel
theorem dX8_explanations_14 : decode cX8_explanations 14 = .ok (.ireturn, 1) := by decide +kernel
theorem dJ6_bitCount_0f7a4_0 : decode cJ6_bitCount_0f7a4 0 = .ok (.iload_n 0, 1) := by decide +kernel
theorem dJ6_bitCount_0f7a4_1 : decode cJ6_bitCount_0f7a4 1 = .ok (.iload_n 0, 1) := by decide +kernel
theorem dJ6_bitCount_0f7a4_2 : decode cJ6_bitCount_0f7a4 2 = .ok (.iconst 1, 1) := by decide +kernel
theorem dJ6_bitCount_0f7a4_3 : decode cJ6_bitCount_0f7a4 3 = .ok (.iushr, 1) := by decide +kernel
theorem dJ6_bitCount_0f7a4_4 : decode cJ6_bitCount_0f7a4 4 = .ok (.ldc_w 265, 3) := by decide +kernel
theorem dJ6_bitCount_0f7a4_7 : decode cJ6_bitCount_0f7a4 7 = .ok (.iand, 1) := by decide +kernel
theorem dJ6_bitCount_0f7a4_8 : decode cJ6_bitCount_0f7a4 8 = .ok (.isub, 1) := by decide +kernel
theorem dJ6_bitCount_0f7a4_9 : decode cJ6_bitCount_0f7a4 9 = .ok (.istore_n 0, 1) := by decide +kernel
theorem dJ6_bitCount_0f7a4_10 : decode cJ6_bitCount_0f7a4 10 = .ok (.iload_n 0, 1) := by decide +kernel
theorem dJ6_bitCount_0f7a4_11 : decode cJ6_bitCount_0f7a4 11 = .ok (.ldc_w 266, 3) := by decide +kernel
theorem dJ6_bitCount_0f7a4_14 : decode cJ6_bitCount_0f7a4 14 = .ok (.iand, 1) := by decide +kernel
theorem dJ6_bitCount_0f7a4_15 : decode cJ6_bitCount_0f7a4 15 = .ok (.iload_n 0, 1) := by decide +kernel
theorem dJ6_bitCount_0f7a4_16 : decode cJ6_bitCount_0f7a4 16 = .ok (.iconst 2, 1) := by decide +kernel
theorem dJ6_bitCount_0f7a4_17 : decode cJ6_bitCount_0f7a4 17 = .ok (.iushr, 1) := by decide +kernel
theorem dJ6_bitCount_0f7a4_18 : decode cJ6_bitCount_0f7a4 18 = .ok (.ldc_w 266, 3) := by decide +kernel
theorem dJ6_bitCount_0f7a4_21 : decode cJ6_bitCount_0f7a4 21 = .ok (.iand, 1) := by decide +kernel
theorem dJ6_bitCount_0f7a4_22 : decode cJ6_bitCount_0f7a4 22 = .ok (.iadd, 1) := by decide +kernel
theorem dJ6_bitCount_0f7a4_23 : decode cJ6_bitCount_0f7a4 23 = .ok (.istore_n 0, 1) := by decide +kernel
theorem dJ6_bitCount_0f7a4_24 : decode cJ6_bitCount_0f7a4 24 = .ok (.iload_n 0, 1) := by decide +kernel
theorem dJ6_bitCount_0f7a4_25 : decode cJ6_bitCount_0f7a4 25 = .ok (.iload_n 0, 1) := by decide +kernel
theorem dJ6_bitCount_0f7a4_26 : decode cJ6_bitCount_0f7a4 26 = .ok (.iconst 4, 1) := by decide +kernel
theorem dJ6_bitCount_0f7a4_27 : decode cJ6_bitCount_0f7a4 27 = .ok (.iushr, 1) := by decide +kernel
theorem dJ6_bitCount_0f7a4_28 : decode cJ6_bitCount_0f7a4 28 = .ok (.iadd, 1) := by decide +kernel
theorem dJ6_bitCount_0f7a4_29 : decode cJ6_bitCount_0f7a4 29 = .ok (.ldc_w 267, 3) := by decide +kernel
theorem dJ6_bitCount_0f7a4_32 : decode cJ6_bitCount_0f7a4 32 = .ok (.iand, 1) := by decide +kernel
theorem dJ6_bitCount_0f7a4_33 : decode cJ6_bitCount_0f7a4 33 = .ok (.istore_n 0, 1) := by decide +kernel
theorem dJ6_bitCount_0f7a4_34 : decode cJ6_bitCount_0f7a4 34 = .ok (.iload_n 0, 1) := by decide +kernel
theorem dJ6_bitCount_0f7a4_35 : decode cJ6_bitCount_0f7a4 35 = .ok (.iload_n 0, 1) := by decide +kernel
theorem dJ6_bitCount_0f7a4_36 : decode cJ6_bitCount_0f7a4 36 = .ok (.bipush 8, 2) := by decide +kernel
theorem dJ6_bitCount_0f7a4_38 : decode cJ6_bitCount_0f7a4 38 = .ok (.iushr, 1) := by decide +kernel
theorem dJ6_bitCount_0f7a4_39 : decode cJ6_bitCount_0f7a4 39 = .ok (.iadd, 1) := by decide +kernel
theorem dJ6_bitCount_0f7a4_40 : decode cJ6_bitCount_0f7a4 40 = .ok (.istore_n 0, 1) := by decide +kernel
theorem dJ6_bitCount_0f7a4_41 : decode cJ6_bitCount_0f7a4 41 = .ok (.iload_n 0, 1) := by decide +kernel
theorem dJ6_bitCount_0f7a4_42 : decode cJ6_bitCount_0f7a4 42 = .ok (.iload_n 0, 1) := by decide +kernel
theorem dJ6_bitCount_0f7a4_43 : decode cJ6_bitCount_0f7a4 43 = .ok (.bipush 16, 2) := by decide +kernel
theorem dJ6_bitCount_0f7a4_45 : decode cJ6_bitCount_0f7a4 45 = .ok (.iushr, 1) := by decide +kernel
theorem dJ6_bitCount_0f7a4_46 : decode cJ6_bitCount_0f7a4 46 = .ok (.iadd, 1) := by decide +kernel
theorem dJ6_bitCount_0f7a4_47 : decode cJ6_bitCount_0f7a4 47 = .ok (.istore_n 0, 1) := by decide +kernel
theorem dJ6_bitCount_0f7a4_48 : decode cJ6_bitCount_0f7a4 48 = .ok (.iload_n 0, 1) := by decide +kernel
theorem dJ6_bitCount_0f7a4_49 : decode cJ6_bitCount_0f7a4 49 = .ok (.bipush 63, 2) := by decide +kernel
theorem dJ6_bitCount_0f7a4_51 : decode cJ6_bitCount_0f7a4 51 = .ok (.iand, 1) := by decide +kernel
theorem dJ6_bitCount_0f7a4_52 : decode cJ6_bitCount_0f7a4 52 = .ok (.ireturn, 1) := by decide +kernel
theorem dJ7_fill_53178_0 : decode cJ7_fill_53178 0 = .ok (.iconst 0, 1) := by decide +kernel
theorem dJ7_fill_53178_1 : decode cJ7_fill_53178 1 = .ok (.istore_n 2, 1) := by decide +kernel
theorem dJ7_fill_53178_2 : decode cJ7_fill_53178 2 = .ok (.aload_n 0, 1) := by decide +kernel
theorem dJ7_fill_53178_3 : decode cJ7_fill_53178 3 = .ok (.arraylength, 1) := by decide +kernel
theorem dJ7_fill_53178_4 : decode cJ7_fill_53178 4 = .ok (.istore_n 3, 1) := by decide +kernel
theorem dJ7_fill_53178_5 : decode cJ7_fill_53178 5 = .ok (.iload_n 2, 1) := by decide +kernel
theorem dJ7_fill_53178_6 : decode cJ7_fill_53178 6 = .ok (.iload_n 3, 1) := by decide +kernel
theorem dJ7_fill_53178_7 : decode cJ7_fill_53178 7 = .ok (.if_icmp .ge 13, 3) := by decide +kernel
theorem dJ7_fill_53178_10 : decode cJ7_fill_53178 10 = .ok (.aload_n 0, 1) := by decide +kernel
theorem dJ7_fill_53178_11 : decode cJ7_fill_53178 11 = .ok (.iload_n 2, 1) := by decide +kernel
theorem dJ7_fill_53178_12 : decode cJ7_fill_53178 12 = .ok (.iload_n 1, 1) := by decide +kernel
theorem dJ7_fill_53178_13 : decode cJ7_fill_53178 13 = .ok (.iastore, 1) := by decide +kernel
theorem dJ7_fill_53178_14 : decode cJ7_fill_53178 14 = .ok (.iinc 2 1, 3) := by decide +kernel
theorem dJ7_fill_53178_17 : decode cJ7_fill_53178 17 = .ok (.goto (-12), 3) := by decide +kernel
theorem dJ7_fill_53178_20 : decode cJ7_fill_53178 20 = .ok (.return_, 1) := by decide +kernel
set_option maxRecDepth 20000 in
theorem ggL_begin_X7_begin : GoodIn wsL_begin wsX7_begin := goodIn_ca (goodIn_r _ [6, 7, 8, 9, 10, 11, 12, 13, 14, 15, 16, 17, 18, 19, 20, 21, 22, 23, 24, 25, 26, 27, 28, 29, 30, 5, 31, 32, 33, 34, 35, 36, 37, 38, 39, 40, 41, 42, 43, 44, 45, 46, 47, 48, 49, 50, 51, 52, 53] (by decide +kernel) (by decide +kernel)) (goodIn_sub (fun _ h => List.mem_cons_of_mem _ (List.mem_append_right _ h)) (by decide +kernel))
set_option maxRecDepth 20000 in
theorem gL_begin_X7_begin : GoodIn wsL_begin (wsV RL 7 RX7 yX7_begin wsX7_begin) := goodIn_app (goodIn_of _ (by decide +kernel)) ggL_begin_X7_begin
theorem dL_begin_0 : decode cL_begin 0 = .ok (.aload_n 0, 1) := by decide +kernel
theorem dL_begin_1 : decode cL_begin 1 = .ok (.iload_n 1, 1) := by decide +kernel
theorem dL_begin_2 : decode cL_begin 2 = .ok (.invokevirtual 7, 3) := by decide +kernel
theorem dL_begin_5 : decode cL_begin 5 = .ok (.goto 6, 3) := by decide +kernel
theorem dL_begin_8 : decode cL_begin 8 = .ok (.astore_n 2, 1) := by decide +kernel
theorem dL_begin_9 : decode cL_begin 9 = .ok (.iconst 1, 1) := by decide +kernel
theorem dL_begin_10 : decode cL_begin 10 = .ok (.ireturn, 1) := by decide +kernel
theorem dL_begin_11 : decode cL_begin 11 = .ok (.iconst 0, 1) := by decide +kernel
theorem dL_begin_12 : decode cL_begin 12 = .ok (.ireturn, 1) := by decide +kernel
set_option maxRecDepth 20000 in
theorem ggL_access_X7_access : GoodIn wsL_access wsX7_access := goodIn_ca (goodIn_ca (goodIn_r _ [7, 8, 9, 10, 11, 12, 13, 14, 6, 15, 16, 17, 18, 19, 20, 21, 22, 23, 24, 25, 26, 27, 28, 29, 30, 31, 32, 33, 34, 35, 36, 37, 38, 39, 40, 41, 42, 43, 44, 45, 46, 47, 48, 49, 50, 51, 52, 53] (by decide +kernel) (by decide +kernel)) (goodIn_sub (fun _ h => List.mem_cons_of_mem _ (List.mem_append_left _ (List.mem_append_right _ h))) (by decide +kernel))) (goodIn_sub (fun _ h => List.mem_cons_of_mem _ (List.mem_append_right _ h)) (by decide +kernel))
set_option maxRecDepth 20000 in
theorem gL_access_X7_access : GoodIn wsL_access (wsV RL 15 RX7 yX7_access wsX7_access) := goodIn_app (goodIn_of _ (by decide +kernel)) ggL_access_X7_access
theorem dL_access_0 : decode cL_access 0 = .ok (.aload_n 0, 1) := by decide +kernel
theorem dL_access_1 : decode cL_access 1 = .ok (.iload_n 1, 1) := by decide +kernel
theorem dL_access_2 : decode cL_access 2 = .ok (.iload_n 2, 1) := by decide +kernel
theorem dL_access_3 : decode cL_access 3 = .ok (.invokevirtual 15, 3) := by decide +kernel
theorem dL_access_6 : decode cL_access 6 = .ok (.goto 9, 3) := by decide +kernel
theorem dL_access_9 : decode cL_access 9 = .ok (.astore_n 3, 1) := by decide +kernel
theorem dL_access_10 : decode cL_access 10 = .ok (.iconst 1, 1) := by decide +kernel
theorem dL_access_11 : decode cL_access 11 = .ok (.ireturn, 1) := by decide +kernel
theorem dL_access_12 : decode cL_access 12 = .ok (.astore_n 3, 1) := by decide +kernel
theorem dL_access_13 : decode cL_access 13 = .ok (.iconst 2, 1) := by decide +kernel
theorem dL_access_14 : decode cL_access 14 = .ok (.ireturn, 1) := by decide +kernel
theorem dL_access_15 : decode cL_access 15 = .ok (.iconst 0, 1) := by decide +kernel
theorem dL_access_16 : decode cL_access 16 = .ok (.ireturn, 1) := by decide +kernel
set_option maxRecDepth 20000 in
theorem ggL_trunk_X7_trunk : GoodIn wsL_trunk wsX7_trunk := goodIn_ca (goodIn_ca (goodIn_r _ [7, 8, 9, 10, 11, 12, 13, 14, 6, 15, 16, 17, 18, 19, 20, 21, 22, 23, 24, 25, 26, 27, 28, 29, 30, 31, 32, 33, 34, 35, 36, 37, 38, 39, 40, 41, 42, 43, 44, 45, 46, 47, 48, 49, 50] (by decide +kernel) (by decide +kernel)) (goodIn_sub (fun _ h => List.mem_cons_of_mem _ (List.mem_append_left _ (List.mem_append_right _ h))) (by decide +kernel))) (goodIn_sub (fun _ h => List.mem_cons_of_mem _ (List.mem_append_right _ h)) (by decide +kernel))
set_option maxRecDepth 20000 in
theorem gL_trunk_X7_trunk : GoodIn wsL_trunk (wsV RL 21 RX7 yX7_trunk wsX7_trunk) := goodIn_app (goodIn_of _ (by decide +kernel)) ggL_trunk_X7_trunk
theorem dL_trunk_0 : decode cL_trunk 0 = .ok (.aload_n 0, 1) := by decide +kernel
theorem dL_trunk_1 : decode cL_trunk 1 = .ok (.iload_n 1, 1) := by decide +kernel
theorem dL_trunk_2 : decode cL_trunk 2 = .ok (.iload_n 2, 1) := by decide +kernel
theorem dL_trunk_3 : decode cL_trunk 3 = .ok (.iload_n 3, 1) := by decide +kernel
theorem dL_trunk_4 : decode cL_trunk 4 = .ok (.invokevirtual 21, 3) := by decide +kernel
theorem dL_trunk_7 : decode cL_trunk 7 = .ok (.goto 11, 3) := by decide +kernel
theorem dL_trunk_10 : decode cL_trunk 10 = .ok (.astore 4, 2) := by decide +kernel
theorem dL_trunk_12 : decode cL_trunk 12 = .ok (.iconst 1, 1) := by decide +kernel
theorem dL_trunk_13 : decode cL_trunk 13 = .ok (.ireturn, 1) := by decide +kernel
theorem dL_trunk_14 : decode cL_trunk 14 = .ok (.astore 4, 2) := by decide +kernel
theorem dL_trunk_16 : decode cL_trunk 16 = .ok (.iconst 2, 1) := by decide +kernel
theorem dL_trunk_17 : decode cL_trunk 17 = .ok (.ireturn, 1) := by decide +kernel
theorem dL_trunk_18 : decode cL_trunk 18 = .ok (.iconst 0, 1) := by decide +kernel
theorem dL_trunk_19 : decode cL_trunk 19 = .ok (.ireturn, 1) := by decide +kernel
set_option maxRecDepth 20000 in
theorem ggL_fault_X7_fault : GoodIn wsL_fault wsX7_fault := goodIn_ca (goodIn_ca (goodIn_r _ [7, 8, 9, 10, 11, 12, 13, 14, 6, 15, 16, 17, 18, 19, 20, 21, 22, 23, 24, 25, 26, 27, 28, 29, 30, 31, 32, 33, 34, 35, 36, 37, 38, 39] (by decide +kernel) (by decide +kernel)) (goodIn_sub (fun _ h => List.mem_cons_of_mem _ (List.mem_append_left _ (List.mem_append_right _ h))) (by decide +kernel))) (goodIn_sub (fun _ h => List.mem_cons_of_mem _ (List.mem_append_right _ h)) (by decide +kernel))
set_option maxRecDepth 20000 in
theorem gL_fault_X7_fault : GoodIn wsL_fault (wsV RL 25 RX7 yX7_fault wsX7_fault) := goodIn_app (goodIn_of _ (by decide +kernel)) ggL_fault_X7_fault
theorem dL_fault_0 : decode cL_fault 0 = .ok (.aload_n 3, 1) := by decide +kernel
theorem dL_fault_1 : decode cL_fault 1 = .ok (.iconst 0, 1) := by decide +kernel
theorem dL_fault_2 : decode cL_fault 2 = .ok (.aload_n 0, 1) := by decide +kernel
theorem dL_fault_3 : decode cL_fault 3 = .ok (.iload_n 1, 1) := by decide +kernel
theorem dL_fault_4 : decode cL_fault 4 = .ok (.iload_n 2, 1) := by decide +kernel
theorem dL_fault_5 : decode cL_fault 5 = .ok (.invokevirtual 25, 3) := by decide +kernel
theorem dL_fault_8 : decode cL_fault 8 = .ok (.ifCond .eq 7, 3) := by decide +kernel
theorem dL_fault_11 : decode cL_fault 11 = .ok (.lconst 1, 1) := by decide +kernel
theorem dL_fault_12 : decode cL_fault 12 = .ok (.goto 4, 3) := by decide +kernel
theorem dL_fault_15 : decode cL_fault 15 = .ok (.lconst 0, 1) := by decide +kernel
theorem dL_fault_16 : decode cL_fault 16 = .ok (.lastore, 1) := by decide +kernel
theorem dL_fault_17 : decode cL_fault 17 = .ok (.goto 11, 3) := by decide +kernel
theorem dL_fault_20 : decode cL_fault 20 = .ok (.astore 4, 2) := by decide +kernel
theorem dL_fault_22 : decode cL_fault 22 = .ok (.iconst 1, 1) := by decide +kernel
theorem dL_fault_23 : decode cL_fault 23 = .ok (.ireturn, 1) := by decide +kernel
theorem dL_fault_24 : decode cL_fault 24 = .ok (.astore 4, 2) := by decide +kernel
theorem dL_fault_26 : decode cL_fault 26 = .ok (.iconst 2, 1) := by decide +kernel
theorem dL_fault_27 : decode cL_fault 27 = .ok (.ireturn, 1) := by decide +kernel
theorem dL_fault_28 : decode cL_fault 28 = .ok (.iconst 0, 1) := by decide +kernel
theorem dL_fault_29 : decode cL_fault 29 = .ok (.ireturn, 1) := by decide +kernel
set_option maxRecDepth 20000 in
theorem ggL_add_X7_add : GoodIn wsL_add wsX7_add := goodIn_ca (goodIn_ca (goodIn_ca (goodIn_r _ [8, 9, 10, 11, 12, 13, 14, 15, 16, 17, 7, 18, 19, 20, 21, 22, 23, 24, 25, 26, 27, 28, 29, 30, 31, 32, 33, 34, 35, 36, 37, 38, 39, 40, 41, 42, 43, 44, 45, 46, 47, 48, 49, 50, 51, 52, 53, 54, 55, 56, 57, 58, 59, 60, 61, 62] (by decide +kernel) (by decide +kernel)) (goodIn_sub (fun _ h => List.mem_cons_of_mem _ (List.mem_append_left _ (List.mem_append_left _ (List.mem_append_right _ h)))) (by decide +kernel))) (goodIn_sub (fun _ h => List.mem_cons_of_mem _ (List.mem_append_left _ (List.mem_append_right _ h))) (by decide +kernel))) (goodIn_sub (fun _ h => List.mem_cons_of_mem _ (List.mem_append_right _ h)) (by decide +kernel))
set_option maxRecDepth 20000 in
theorem gL_add_X7_add : GoodIn wsL_add (wsV RL 29 RX7 yX7_add wsX7_add) := goodIn_app (goodIn_of _ (by decide +kernel)) ggL_add_X7_add
theorem dL_add_0 : decode cL_add 0 = .ok (.aload 5, 2) := by decide +kernel
theorem dL_add_2 : decode cL_add 2 = .ok (.iconst 0, 1) := by decide +kernel
theorem dL_add_3 : decode cL_add 3 = .ok (.aload_n 0, 1) := by decide +kernel
theorem dL_add_4 : decode cL_add 4 = .ok (.iload_n 1, 1) := by decide +kernel
theorem dL_add_5 : decode cL_add 5 = .ok (.iload_n 2, 1) := by decide +kernel
theorem dL_add_6 : decode cL_add 6 = .ok (.iload_n 3, 1) := by decide +kernel
theorem dL_add_7 : decode cL_add 7 = .ok (.iload 4, 2) := by decide +kernel
theorem dL_add_9 : decode cL_add 9 = .ok (.invokevirtual 29, 3) := by decide +kernel
theorem dL_add_12 : decode cL_add 12 = .ok (.i2l, 1) := by decide +kernel
theorem dL_add_13 : decode cL_add 13 = .ok (.lastore, 1) := by decide +kernel
theorem dL_add_14 : decode cL_add 14 = .ok (.goto 15, 3) := by decide +kernel
theorem dL_add_17 : decode cL_add 17 = .ok (.astore 6, 2) := by decide +kernel
theorem dL_add_19 : decode cL_add 19 = .ok (.iconst 1, 1) := by decide +kernel
theorem dL_add_20 : decode cL_add 20 = .ok (.ireturn, 1) := by decide +kernel
theorem dL_add_21 : decode cL_add 21 = .ok (.astore 6, 2) := by decide +kernel
theorem dL_add_23 : decode cL_add 23 = .ok (.iconst 2, 1) := by decide +kernel
theorem dL_add_24 : decode cL_add 24 = .ok (.ireturn, 1) := by decide +kernel
theorem dL_add_25 : decode cL_add 25 = .ok (.astore 6, 2) := by decide +kernel
theorem dL_add_27 : decode cL_add 27 = .ok (.iconst 3, 1) := by decide +kernel
theorem dL_add_28 : decode cL_add 28 = .ok (.ireturn, 1) := by decide +kernel
theorem dL_add_29 : decode cL_add 29 = .ok (.iconst 0, 1) := by decide +kernel
theorem dL_add_30 : decode cL_add 30 = .ok (.ireturn, 1) := by decide +kernel
set_option maxRecDepth 20000 in
theorem ggL_cover_X7_cover : GoodIn wsL_cover wsX7_cover := goodIn_ca (goodIn_r _ [6, 7, 8, 9, 10, 11, 12, 13, 14, 15, 16, 17, 18, 19, 20, 21, 22, 23, 24, 25, 26, 27, 28, 29, 30, 31, 32, 33, 34, 35, 36, 37, 38, 39, 40, 41, 42, 43, 44, 45, 46, 47, 48, 49, 50, 51, 52, 5, 53, 54, 55, 56, 57, 58, 59, 60, 61, 62, 63, 64, 65, 66, 67, 68, 69, 70, 71, 72, 73, 74, 75, 76, 77, 78, 79, 80, 81, 82, 83, 84, 85, 86, 87, 88, 89, 90, 91, 92, 93, 94, 95, 96, 97, 98, 99, 100, 101, 102, 103, 104, 105, 106, 107, 108, 109, 110, 111, 112, 113, 114, 115, 116, 117, 118, 119, 120, 121, 122, 123, 124, 125, 126, 127, 128] (by decide +kernel) (by decide +kernel)) (goodIn_sub (fun _ h => List.mem_cons_of_mem _ (List.mem_append_right _ h)) (by decide +kernel))
set_option maxRecDepth 20000 in
theorem gL_cover_X7_cover : GoodIn wsL_cover (wsV RL 35 RX7 yX7_cover wsX7_cover) := goodIn_app (goodIn_of _ (by decide +kernel)) ggL_cover_X7_cover
theorem dL_cover_0 : decode cL_cover 0 = .ok (.aload_n 1, 1) := by decide +kernel
theorem dL_cover_1 : decode cL_cover 1 = .ok (.iconst 0, 1) := by decide +kernel
theorem dL_cover_2 : decode cL_cover 2 = .ok (.aload_n 0, 1) := by decide +kernel
theorem dL_cover_3 : decode cL_cover 3 = .ok (.invokevirtual 35, 3) := by decide +kernel
theorem dL_cover_6 : decode cL_cover 6 = .ok (.i2l, 1) := by decide +kernel
theorem dL_cover_7 : decode cL_cover 7 = .ok (.lastore, 1) := by decide +kernel
theorem dL_cover_8 : decode cL_cover 8 = .ok (.goto 6, 3) := by decide +kernel
theorem dL_cover_11 : decode cL_cover 11 = .ok (.astore_n 2, 1) := by decide +kernel
theorem dL_cover_12 : decode cL_cover 12 = .ok (.iconst 1, 1) := by decide +kernel
theorem dL_cover_13 : decode cL_cover 13 = .ok (.ireturn, 1) := by decide +kernel
theorem dL_cover_14 : decode cL_cover 14 = .ok (.iconst 0, 1) := by decide +kernel
theorem dL_cover_15 : decode cL_cover 15 = .ok (.ireturn, 1) := by decide +kernel
set_option maxRecDepth 20000 in
theorem ggL_frameAt_X7_frameAt : GoodIn wsL_frameAt wsX7_frameAt := goodIn_ca (goodIn_r _ [6, 7, 8, 9, 10, 5, 11, 12, 13, 14, 15, 16, 17, 18, 19, 20, 21, 22, 23, 24, 25, 26, 27, 28, 29, 30, 31, 32, 33, 34, 35, 36, 37, 38, 39, 40, 41] (by decide +kernel) (by decide +kernel)) (goodIn_sub (fun _ h => List.mem_cons_of_mem _ (List.mem_append_right _ h)) (by decide +kernel))
set_option maxRecDepth 20000 in
theorem gL_frameAt_X7_frameAt : GoodIn wsL_frameAt (wsV RL 39 RX7 yX7_frameAt wsX7_frameAt) := goodIn_app (goodIn_of _ (by decide +kernel)) ggL_frameAt_X7_frameAt
theorem dL_frameAt_0 : decode cL_frameAt 0 = .ok (.aload_n 2, 1) := by decide +kernel
theorem dL_frameAt_1 : decode cL_frameAt 1 = .ok (.iconst 0, 1) := by decide +kernel
theorem dL_frameAt_2 : decode cL_frameAt 2 = .ok (.aload_n 0, 1) := by decide +kernel
theorem dL_frameAt_3 : decode cL_frameAt 3 = .ok (.iload_n 1, 1) := by decide +kernel
theorem dL_frameAt_4 : decode cL_frameAt 4 = .ok (.invokevirtual 39, 3) := by decide +kernel
theorem dL_frameAt_7 : decode cL_frameAt 7 = .ok (.i2l, 1) := by decide +kernel
theorem dL_frameAt_8 : decode cL_frameAt 8 = .ok (.lastore, 1) := by decide +kernel
theorem dL_frameAt_9 : decode cL_frameAt 9 = .ok (.goto 6, 3) := by decide +kernel
theorem dL_frameAt_12 : decode cL_frameAt 12 = .ok (.astore_n 3, 1) := by decide +kernel
theorem dL_frameAt_13 : decode cL_frameAt 13 = .ok (.iconst 1, 1) := by decide +kernel
theorem dL_frameAt_14 : decode cL_frameAt 14 = .ok (.ireturn, 1) := by decide +kernel
theorem dL_frameAt_15 : decode cL_frameAt 15 = .ok (.iconst 0, 1) := by decide +kernel
theorem dL_frameAt_16 : decode cL_frameAt 16 = .ok (.ireturn, 1) := by decide +kernel
set_option maxRecDepth 20000 in
theorem ggL_expected_X7_expected : GoodIn wsL_expected wsX7_expected := goodIn_ca (goodIn_r _ [6, 7, 8, 9, 10, 5, 11, 12, 13, 14, 15, 16, 17, 18, 19, 20, 21, 22, 23, 24, 25, 26, 27, 28, 29, 30, 31, 32, 33, 34, 35, 36, 37, 38, 39, 40, 41, 42, 43, 44, 45, 46, 47, 48, 49, 50, 51, 52, 53, 54, 55, 56, 57, 58, 59, 60, 61, 62, 63, 64, 65, 66, 67, 68, 69, 70, 71, 72, 73, 74, 75, 76, 77, 78, 79, 80, 81, 82, 83, 84, 85, 86, 87, 88, 89, 90, 91, 92, 93, 94, 95, 96, 97, 98, 99, 100, 101, 102, 103, 104, 105, 106, 107, 108, 109, 110, 111, 112, 113, 114, 115, 116, 117, 118, 119, 120, 121, 122, 123, 124, 125, 126, 127, 128, 129, 130, 131, 132, 133, 134, 135, 136, 137, 138, 139, 140, 141, 142, 143, 144, 145, 146, 147, 148, 149, 150, 151, 152, 153, 154, 155, 156, 157, 158, 159, 160, 161, 162, 163, 164, 165, 166, 167, 168, 169, 170, 171, 172, 173, 174, 175, 176, 177, 178, 179, 180, 181, 182] (by decide +kernel) (by decide +kernel)) (goodIn_sub (fun _ h => List.mem_cons_of_mem _ (List.mem_append_right _ h)) (by decide +kernel))
set_option maxRecDepth 20000 in
theorem gL_expected_X7_expected : GoodIn wsL_expected (wsV RL 43 RX7 yX7_expected wsX7_expected) := goodIn_app (goodIn_of _ (by decide +kernel)) ggL_expected_X7_expected
theorem dL_expected_0 : decode cL_expected 0 = .ok (.aload_n 2, 1) := by decide +kernel
theorem dL_expected_1 : decode cL_expected 1 = .ok (.iconst 0, 1) := by decide +kernel
theorem dL_expected_2 : decode cL_expected 2 = .ok (.aload_n 0, 1) := by decide +kernel
theorem dL_expected_3 : decode cL_expected 3 = .ok (.iload_n 1, 1) := by decide +kernel
theorem dL_expected_4 : decode cL_expected 4 = .ok (.invokevirtual 43, 3) := by decide +kernel
theorem dL_expected_7 : decode cL_expected 7 = .ok (.i2l, 1) := by decide +kernel
theorem dL_expected_8 : decode cL_expected 8 = .ok (.lastore, 1) := by decide +kernel
theorem dL_expected_9 : decode cL_expected 9 = .ok (.goto 6, 3) := by decide +kernel
theorem dL_expected_12 : decode cL_expected 12 = .ok (.astore_n 3, 1) := by decide +kernel
theorem dL_expected_13 : decode cL_expected 13 = .ok (.iconst 1, 1) := by decide +kernel
theorem dL_expected_14 : decode cL_expected 14 = .ok (.ireturn, 1) := by decide +kernel
theorem dL_expected_15 : decode cL_expected 15 = .ok (.iconst 0, 1) := by decide +kernel
theorem dL_expected_16 : decode cL_expected 16 = .ok (.ireturn, 1) := by decide +kernel
set_option maxRecDepth 20000 in
theorem ggL_expectedTagged_X7_expectedTagged : GoodIn wsL_expectedTagged wsX7_expectedTagged := goodIn_ca (goodIn_r _ [6, 7, 8, 9, 10, 5, 11, 12, 13, 14, 15, 16, 17, 18, 19, 20, 21, 22, 23, 24, 25, 26, 27, 28, 29, 30, 31, 32, 33, 34, 35, 36, 37, 38, 39, 40, 41, 42, 43, 44, 45, 46, 47, 48, 49, 50, 51, 52, 53, 54, 55, 56, 57, 58, 59, 60, 61, 62, 63, 64, 65, 66, 67, 68, 69, 70, 71, 72, 73, 74, 75, 76, 77, 78, 79, 80, 81, 82, 83, 84, 85, 86, 87, 88, 89, 90, 91, 92, 93, 94, 95, 96, 97, 98, 99, 100, 101, 102, 103, 104, 105, 106, 107, 108, 109, 110, 111, 112, 113, 114, 115, 116, 117, 118, 119, 120, 121, 122, 123, 124, 125, 126, 127, 128, 129, 130, 131, 132, 133, 134, 135, 136, 137, 138, 139, 140, 141, 142, 143, 144, 145, 146, 147, 148, 149, 150, 151, 152, 153, 154, 155, 156, 157, 158, 159, 160, 161, 162, 163, 164, 165, 166, 167, 168, 169, 170, 171, 172, 173, 174, 175, 176, 177, 178, 179, 180, 181, 182] (by decide +kernel) (by decide +kernel)) (goodIn_sub (fun _ h => List.mem_cons_of_mem _ (List.mem_append_right _ h)) (by decide +kernel))
set_option maxRecDepth 20000 in
theorem gL_expectedTagged_X7_expectedTagged : GoodIn wsL_expectedTagged (wsV RL 46 RX7 yX7_expectedTagged wsX7_expectedTagged) := goodIn_app (goodIn_of _ (by decide +kernel)) ggL_expectedTagged_X7_expectedTagged
theorem dL_expectedTagged_0 : decode cL_expectedTagged 0 = .ok (.aload_n 2, 1) := by decide +kernel
theorem dL_expectedTagged_1 : decode cL_expectedTagged 1 = .ok (.iconst 0, 1) := by decide +kernel
theorem dL_expectedTagged_2 : decode cL_expectedTagged 2 = .ok (.aload_n 0, 1) := by decide +kernel
theorem dL_expectedTagged_3 : decode cL_expectedTagged 3 = .ok (.iload_n 1, 1) := by decide +kernel
theorem dL_expectedTagged_4 : decode cL_expectedTagged 4 = .ok (.invokevirtual 46, 3) := by decide +kernel
theorem dL_expectedTagged_7 : decode cL_expectedTagged 7 = .ok (.i2l, 1) := by decide +kernel
theorem dL_expectedTagged_8 : decode cL_expectedTagged 8 = .ok (.lastore, 1) := by decide +kernel
theorem dL_expectedTagged_9 : decode cL_expectedTagged 9 = .ok (.goto 6, 3) := by decide +kernel
theorem dL_expectedTagged_12 : decode cL_expectedTagged 12 = .ok (.astore_n 3, 1) := by decide +kernel
theorem dL_expectedTagged_13 : decode cL_expectedTagged 13 = .ok (.iconst 1, 1) := by decide +kernel
theorem dL_expectedTagged_14 : decode cL_expectedTagged 14 = .ok (.ireturn, 1) := by decide +kernel
theorem dL_expectedTagged_15 : decode cL_expectedTagged 15 = .ok (.iconst 0, 1) := by decide +kernel
theorem dL_expectedTagged_16 : decode cL_expectedTagged 16 = .ok (.ireturn, 1) := by decide +kernel
set_option maxRecDepth 20000 in
theorem ggL_reason_X7_reason : GoodIn wsL_reason wsX7_reason := goodIn_ca (goodIn_r _ [6, 7, 8, 9, 10, 5, 11, 12, 13, 14, 15, 16, 17, 18, 19, 20, 21, 22, 23, 24, 25, 26, 27, 28, 29, 30, 31, 32, 33, 34, 35, 36, 37, 38, 39, 40, 41, 42, 43, 44, 45, 46, 47, 48, 49, 50, 51, 52, 53, 54, 55, 56, 57, 58, 59, 60, 61, 62, 63, 64, 65, 66, 67, 68, 69, 70, 71, 72, 73, 74, 75, 76, 77, 78, 79, 80, 81, 82, 83, 84, 85, 86, 87, 88, 89, 90, 91, 92, 93, 94, 95, 96, 97, 98, 99, 100, 101, 102, 103, 104, 105, 106, 107, 108, 109, 110, 111, 112, 113, 114, 115, 116, 117, 118, 119, 120, 121, 122, 123, 124, 125, 126, 127, 128, 129, 130, 131, 132, 133, 134, 135, 136, 137, 138, 139, 140, 141, 142, 143, 144, 145, 146, 147, 148, 149, 150, 151, 152, 153, 154, 155, 156, 157, 158, 159, 160, 161, 162, 163, 164, 165, 166, 167, 168, 169, 170, 171, 172, 173, 174, 175, 176, 177, 178, 179, 180, 181, 182] (by decide +kernel) (by decide +kernel)) (goodIn_sub (fun _ h => List.mem_cons_of_mem _ (List.mem_append_right _ h)) (by decide +kernel))
set_option maxRecDepth 20000 in
theorem gL_reason_X7_reason : GoodIn wsL_reason (wsV RL 49 RX7 yX7_reason wsX7_reason) := goodIn_app (goodIn_of _ (by decide +kernel)) ggL_reason_X7_reason
theorem dL_reason_0 : decode cL_reason 0 = .ok (.aload_n 2, 1) := by decide +kernel
theorem dL_reason_1 : decode cL_reason 1 = .ok (.iconst 0, 1) := by decide +kernel
theorem dL_reason_2 : decode cL_reason 2 = .ok (.aload_n 0, 1) := by decide +kernel
theorem dL_reason_3 : decode cL_reason 3 = .ok (.iload_n 1, 1) := by decide +kernel
theorem dL_reason_4 : decode cL_reason 4 = .ok (.invokevirtual 49, 3) := by decide +kernel
theorem dL_reason_7 : decode cL_reason 7 = .ok (.i2l, 1) := by decide +kernel
theorem dL_reason_8 : decode cL_reason 8 = .ok (.lastore, 1) := by decide +kernel
theorem dL_reason_9 : decode cL_reason 9 = .ok (.goto 6, 3) := by decide +kernel
theorem dL_reason_12 : decode cL_reason 12 = .ok (.astore_n 3, 1) := by decide +kernel
theorem dL_reason_13 : decode cL_reason 13 = .ok (.iconst 1, 1) := by decide +kernel
theorem dL_reason_14 : decode cL_reason 14 = .ok (.ireturn, 1) := by decide +kernel
theorem dL_reason_15 : decode cL_reason 15 = .ok (.iconst 0, 1) := by decide +kernel
theorem dL_reason_16 : decode cL_reason 16 = .ok (.ireturn, 1) := by decide +kernel
set_option maxRecDepth 20000 in
theorem ggL_learned_X7_learned : GoodIn wsL_learned wsX7_learned := goodIn_ca (goodIn_r _ [6, 7, 8, 9, 10, 11, 5, 12, 13, 14, 15, 16, 17, 18, 19, 20, 21, 22, 23, 24, 25, 26, 27, 28, 29, 30, 31, 32, 33, 34, 35, 36, 37, 38, 39, 40, 41, 42, 43, 44, 45, 46, 47, 48, 49, 50, 51, 52, 53, 54, 55, 56, 57, 58, 59, 60, 61, 62, 63, 64, 65, 66, 67, 68, 69, 70, 71, 72, 73, 74, 75, 76, 77, 78, 79, 80, 81, 82, 83, 84, 85, 86, 87, 88, 89, 90, 91, 92, 93, 94, 95, 96, 97, 98, 99, 100, 101, 102, 103, 104, 105, 106, 107, 108, 109, 110, 111, 112, 113, 114, 115, 116, 117, 118, 119, 120, 121, 122, 123, 124, 125, 126, 127, 128, 129, 130, 131, 132, 133, 134, 135, 136, 137, 138, 139, 140, 141, 142, 143, 144, 145, 146, 147, 148, 149, 150, 151, 152, 153, 154, 155, 156, 157, 158, 159, 160, 161, 162, 163, 164, 165, 166, 167, 168, 169, 170, 171, 172, 173, 174, 175, 176, 177, 178, 179, 180, 181, 182, 183] (by decide +kernel) (by decide +kernel)) (goodIn_sub (fun _ h => List.mem_cons_of_mem _ (List.mem_append_right _ h)) (by decide +kernel))
set_option maxRecDepth 20000 in
theorem gL_learned_X7_learned : GoodIn wsL_learned (wsV RL 52 RX7 yX7_learned wsX7_learned) := goodIn_app (goodIn_of _ (by decide +kernel)) ggL_learned_X7_learned
theorem dL_learned_0 : decode cL_learned 0 = .ok (.aload_n 3, 1) := by decide +kernel
theorem dL_learned_1 : decode cL_learned 1 = .ok (.iconst 0, 1) := by decide +kernel
theorem dL_learned_2 : decode cL_learned 2 = .ok (.aload_n 0, 1) := by decide +kernel
theorem dL_learned_3 : decode cL_learned 3 = .ok (.iload_n 1, 1) := by decide +kernel
theorem dL_learned_4 : decode cL_learned 4 = .ok (.iload_n 2, 1) := by decide +kernel
theorem dL_learned_5 : decode cL_learned 5 = .ok (.invokevirtual 52, 3) := by decide +kernel
theorem dL_learned_8 : decode cL_learned 8 = .ok (.i2l, 1) := by decide +kernel
theorem dL_learned_9 : decode cL_learned 9 = .ok (.lastore, 1) := by decide +kernel
theorem dL_learned_10 : decode cL_learned 10 = .ok (.goto 7, 3) := by decide +kernel
theorem dL_learned_13 : decode cL_learned 13 = .ok (.astore 4, 2) := by decide +kernel
theorem dL_learned_15 : decode cL_learned 15 = .ok (.iconst 1, 1) := by decide +kernel
theorem dL_learned_16 : decode cL_learned 16 = .ok (.ireturn, 1) := by decide +kernel
theorem dL_learned_17 : decode cL_learned 17 = .ok (.iconst 0, 1) := by decide +kernel
theorem dL_learned_18 : decode cL_learned 18 = .ok (.ireturn, 1) := by decide +kernel
set_option maxRecDepth 20000 in
theorem ggL_seen_X7_seen : GoodIn wsL_seen wsX7_seen := goodIn_ca (goodIn_r _ [6, 7, 8, 9, 10, 5, 11, 12, 13, 14, 15, 16, 17, 18, 19, 20, 21, 22, 23, 24, 25, 26, 27, 28, 29, 30, 31, 32, 33, 34, 35, 36, 37, 38, 39, 40, 41, 42, 43, 44, 45, 46, 47, 48, 49, 50, 51, 52, 53, 54, 55, 56, 57, 58, 59, 60, 61, 62, 63, 64, 65, 66, 67, 68, 69, 70, 71, 72, 73, 74, 75, 76, 77, 78, 79, 80, 81, 82, 83, 84, 85, 86, 87, 88, 89, 90, 91, 92, 93, 94, 95, 96, 97, 98, 99, 100, 101, 102, 103, 104, 105, 106, 107, 108, 109, 110, 111, 112, 113, 114, 115, 116, 117, 118, 119, 120, 121, 122, 123, 124, 125, 126, 127, 128, 129, 130, 131, 132, 133, 134, 135, 136, 137, 138, 139, 140, 141, 142, 143, 144, 145, 146, 147, 148, 149, 150, 151, 152, 153, 154, 155, 156, 157, 158, 159, 160, 161, 162, 163, 164, 165, 166, 167, 168, 169, 170, 171, 172, 173, 174, 175, 176, 177, 178, 179, 180, 181, 182] (by decide +kernel) (by decide +kernel)) (goodIn_sub (fun _ h => List.mem_cons_of_mem _ (List.mem_append_right _ h)) (by decide +kernel))
set_option maxRecDepth 20000 in
theorem gL_seen_X7_seen : GoodIn wsL_seen (wsV RL 56 RX7 yX7_seen wsX7_seen) := goodIn_app (goodIn_of _ (by decide +kernel)) ggL_seen_X7_seen
theorem dL_seen_0 : decode cL_seen 0 = .ok (.aload_n 2, 1) := by decide +kernel
theorem dL_seen_1 : decode cL_seen 1 = .ok (.iconst 0, 1) := by decide +kernel
theorem dL_seen_2 : decode cL_seen 2 = .ok (.aload_n 0, 1) := by decide +kernel
theorem dL_seen_3 : decode cL_seen 3 = .ok (.iload_n 1, 1) := by decide +kernel
theorem dL_seen_4 : decode cL_seen 4 = .ok (.invokevirtual 56, 3) := by decide +kernel
theorem dL_seen_7 : decode cL_seen 7 = .ok (.i2l, 1) := by decide +kernel
theorem dL_seen_8 : decode cL_seen 8 = .ok (.lastore, 1) := by decide +kernel
theorem dL_seen_9 : decode cL_seen 9 = .ok (.goto 6, 3) := by decide +kernel
theorem dL_seen_12 : decode cL_seen 12 = .ok (.astore_n 3, 1) := by decide +kernel
theorem dL_seen_13 : decode cL_seen 13 = .ok (.iconst 1, 1) := by decide +kernel
theorem dL_seen_14 : decode cL_seen 14 = .ok (.ireturn, 1) := by decide +kernel
theorem dL_seen_15 : decode cL_seen 15 = .ok (.iconst 0, 1) := by decide +kernel
theorem dL_seen_16 : decode cL_seen 16 = .ok (.ireturn, 1) := by decide +kernel
set_option maxRecDepth 20000 in
theorem ggL_seenTagged_X7_seenTagged : GoodIn wsL_seenTagged wsX7_seenTagged := goodIn_ca (goodIn_r _ [6, 7, 8, 9, 10, 5, 11, 12, 13, 14, 15, 16, 17, 18, 19, 20, 21, 22, 23, 24, 25, 26, 27, 28, 29, 30, 31, 32, 33, 34, 35, 36, 37, 38, 39, 40, 41, 42, 43, 44, 45, 46, 47, 48, 49, 50, 51, 52, 53, 54, 55, 56, 57, 58, 59, 60, 61, 62, 63, 64, 65, 66, 67, 68, 69, 70, 71, 72, 73, 74, 75, 76, 77, 78, 79, 80, 81, 82, 83, 84, 85, 86, 87, 88, 89, 90, 91, 92, 93, 94, 95, 96, 97, 98, 99, 100, 101, 102, 103, 104, 105, 106, 107, 108, 109, 110, 111, 112, 113, 114, 115, 116, 117, 118, 119, 120, 121, 122, 123, 124, 125, 126, 127, 128, 129, 130, 131, 132, 133, 134, 135, 136, 137, 138, 139, 140, 141, 142, 143, 144, 145, 146, 147, 148, 149, 150, 151, 152, 153, 154, 155, 156, 157, 158, 159, 160, 161, 162, 163, 164, 165, 166, 167, 168, 169, 170, 171, 172, 173, 174, 175, 176, 177, 178, 179, 180, 181, 182] (by decide +kernel) (by decide +kernel)) (goodIn_sub (fun _ h => List.mem_cons_of_mem _ (List.mem_append_right _ h)) (by decide +kernel))
set_option maxRecDepth 20000 in
theorem gL_seenTagged_X7_seenTagged : GoodIn wsL_seenTagged (wsV RL 59 RX7 yX7_seenTagged wsX7_seenTagged) := goodIn_app (goodIn_of _ (by decide +kernel)) ggL_seenTagged_X7_seenTagged
theorem dL_seenTagged_0 : decode cL_seenTagged 0 = .ok (.aload_n 2, 1) := by decide +kernel
theorem dL_seenTagged_1 : decode cL_seenTagged 1 = .ok (.iconst 0, 1) := by decide +kernel
theorem dL_seenTagged_2 : decode cL_seenTagged 2 = .ok (.aload_n 0, 1) := by decide +kernel
theorem dL_seenTagged_3 : decode cL_seenTagged 3 = .ok (.iload_n 1, 1) := by decide +kernel
theorem dL_seenTagged_4 : decode cL_seenTagged 4 = .ok (.invokevirtual 59, 3) := by decide +kernel
theorem dL_seenTagged_7 : decode cL_seenTagged 7 = .ok (.i2l, 1) := by decide +kernel
theorem dL_seenTagged_8 : decode cL_seenTagged 8 = .ok (.lastore, 1) := by decide +kernel
theorem dL_seenTagged_9 : decode cL_seenTagged 9 = .ok (.goto 6, 3) := by decide +kernel
theorem dL_seenTagged_12 : decode cL_seenTagged 12 = .ok (.astore_n 3, 1) := by decide +kernel
theorem dL_seenTagged_13 : decode cL_seenTagged 13 = .ok (.iconst 1, 1) := by decide +kernel
theorem dL_seenTagged_14 : decode cL_seenTagged 14 = .ok (.ireturn, 1) := by decide +kernel
theorem dL_seenTagged_15 : decode cL_seenTagged 15 = .ok (.iconst 0, 1) := by decide +kernel
theorem dL_seenTagged_16 : decode cL_seenTagged 16 = .ok (.ireturn, 1) := by decide +kernel
set_option maxRecDepth 20000 in
theorem ggL_differencesAt_X7_differencesAt : GoodIn wsL_differencesAt wsX7_differencesAt := goodIn_ca (goodIn_r _ [6, 7, 8, 9, 10, 5, 11, 12, 13, 14, 15, 16, 17, 18, 19, 20, 21, 22, 23, 24, 25, 26, 27, 28, 29, 30, 31, 32, 33, 34, 35, 36, 37, 38, 39, 40, 41, 42, 43, 44, 45, 46, 47, 48, 49, 50, 51, 52, 53, 54, 55, 56, 57, 58, 59, 60, 61, 62, 63, 64, 65, 66, 67, 68, 69, 70, 71, 72, 73, 74, 75, 76, 77, 78, 79, 80, 81, 82, 83, 84, 85, 86, 87, 88, 89, 90, 91, 92, 93, 94, 95, 96, 97, 98, 99, 100, 101, 102, 103, 104, 105, 106, 107, 108, 109, 110, 111, 112, 113, 114, 115, 116, 117, 118, 119, 120, 121, 122, 123, 124, 125, 126, 127, 128, 129, 130, 131, 132, 133, 134, 135, 136, 137, 138, 139, 140, 141, 142, 143, 144, 145, 146, 147, 148, 149, 150, 151, 152, 153, 154, 155, 156, 157, 158, 159, 160, 161, 162, 163, 164, 165, 166, 167, 168, 169, 170, 171, 172, 173, 174, 175, 176, 177, 178, 179, 180, 181, 182, 183, 184, 185, 186, 187, 188, 189, 190, 191, 192, 193, 194, 195] (by decide +kernel) (by decide +kernel)) (goodIn_sub (fun _ h => List.mem_cons_of_mem _ (List.mem_append_right _ h)) (by decide +kernel))
set_option maxRecDepth 20000 in
theorem gL_differencesAt_X7_differencesAt : GoodIn wsL_differencesAt (wsV RL 62 RX7 yX7_differencesAt wsX7_differencesAt) := goodIn_app (goodIn_of _ (by decide +kernel)) ggL_differencesAt_X7_differencesAt
theorem dL_differencesAt_0 : decode cL_differencesAt 0 = .ok (.aload_n 2, 1) := by decide +kernel
theorem dL_differencesAt_1 : decode cL_differencesAt 1 = .ok (.iconst 0, 1) := by decide +kernel
theorem dL_differencesAt_2 : decode cL_differencesAt 2 = .ok (.aload_n 0, 1) := by decide +kernel
theorem dL_differencesAt_3 : decode cL_differencesAt 3 = .ok (.iload_n 1, 1) := by decide +kernel
theorem dL_differencesAt_4 : decode cL_differencesAt 4 = .ok (.invokevirtual 62, 3) := by decide +kernel
theorem dL_differencesAt_7 : decode cL_differencesAt 7 = .ok (.i2l, 1) := by decide +kernel
theorem dL_differencesAt_8 : decode cL_differencesAt 8 = .ok (.lastore, 1) := by decide +kernel
theorem dL_differencesAt_9 : decode cL_differencesAt 9 = .ok (.goto 6, 3) := by decide +kernel
theorem dL_differencesAt_12 : decode cL_differencesAt 12 = .ok (.astore_n 3, 1) := by decide +kernel
theorem dL_differencesAt_13 : decode cL_differencesAt 13 = .ok (.iconst 1, 1) := by decide +kernel
theorem dL_differencesAt_14 : decode cL_differencesAt 14 = .ok (.ireturn, 1) := by decide +kernel
theorem dL_differencesAt_15 : decode cL_differencesAt 15 = .ok (.iconst 0, 1) := by decide +kernel
theorem dL_differencesAt_16 : decode cL_differencesAt 16 = .ok (.ireturn, 1) := by decide +kernel
set_option maxRecDepth 20000 in
theorem ggL_blamed_X7_blamed : GoodIn wsL_blamed wsX7_blamed := goodIn_ca (goodIn_r _ [6, 7, 8, 9, 10, 11, 12, 13, 14, 15, 5, 16, 17, 18, 19, 20, 21, 22, 23, 24, 25, 26, 27, 28, 29, 30, 31, 32, 33, 34, 35, 36, 37, 38, 39, 40, 41, 42, 43, 44, 45, 46, 47, 48, 49, 50, 51, 52, 53, 54, 55, 56, 57, 58, 59, 60, 61, 62, 63, 64, 65, 66, 67, 68, 69, 70, 71, 72, 73, 74, 75, 76, 77, 78, 79, 80, 81, 82, 83, 84, 85, 86, 87, 88, 89, 90, 91, 92, 93, 94, 95, 96, 97, 98, 99, 100, 101, 102, 103, 104, 105, 106, 107, 108, 109, 110, 111, 112, 113, 114, 115, 116, 117, 118, 119, 120, 121, 122, 123, 124, 125, 126, 127, 128, 129, 130, 131, 132, 133, 134, 135, 136, 137, 138, 139, 140, 141, 142, 143, 144, 145, 146, 147, 148, 149, 150, 151, 152, 153, 154, 155, 156, 157, 158, 159, 160, 161, 162, 163, 164, 165, 166, 167, 168, 169, 170, 171, 172, 173, 174, 175, 176, 177, 178, 179, 180, 181, 182, 183, 184, 185, 186, 187, 188, 189, 190, 191, 192, 193, 194, 195, 196, 197, 198, 199, 200, 201, 202, 203, 204, 205, 206, 207, 208, 209, 210, 211, 212, 213, 214, 215, 216, 217, 218, 219, 220, 221, 222, 223, 224, 225, 226, 227, 228, 229, 230, 231, 232, 233, 234, 235] (by decide +kernel) (by decide +kernel)) (goodIn_sub (fun _ h => List.mem_cons_of_mem _ (List.mem_append_right _ h)) (by decide +kernel))
set_option maxRecDepth 20000 in
theorem gL_blamed_X7_blamed : GoodIn wsL_blamed (wsV RL 65 RX7 yX7_blamed wsX7_blamed) := goodIn_app (goodIn_of _ (by decide +kernel)) ggL_blamed_X7_blamed
theorem dL_blamed_0 : decode cL_blamed 0 = .ok (.aload_n 2, 1) := by decide +kernel
theorem dL_blamed_1 : decode cL_blamed 1 = .ok (.iconst 0, 1) := by decide +kernel
theorem dL_blamed_2 : decode cL_blamed 2 = .ok (.aload_n 0, 1) := by decide +kernel
theorem dL_blamed_3 : decode cL_blamed 3 = .ok (.iload_n 1, 1) := by decide +kernel
theorem dL_blamed_4 : decode cL_blamed 4 = .ok (.invokevirtual 65, 3) := by decide +kernel
theorem dL_blamed_7 : decode cL_blamed 7 = .ok (.i2l, 1) := by decide +kernel
theorem dL_blamed_8 : decode cL_blamed 8 = .ok (.lastore, 1) := by decide +kernel
theorem dL_blamed_9 : decode cL_blamed 9 = .ok (.goto 6, 3) := by decide +kernel
theorem dL_blamed_12 : decode cL_blamed 12 = .ok (.astore_n 3, 1) := by decide +kernel
theorem dL_blamed_13 : decode cL_blamed 13 = .ok (.iconst 1, 1) := by decide +kernel
theorem dL_blamed_14 : decode cL_blamed 14 = .ok (.ireturn, 1) := by decide +kernel
theorem dL_blamed_15 : decode cL_blamed 15 = .ok (.iconst 0, 1) := by decide +kernel
theorem dL_blamed_16 : decode cL_blamed 16 = .ok (.ireturn, 1) := by decide +kernel
set_option maxRecDepth 20000 in
theorem ggL_law_X7_init : GoodIn wsL_law wsX7_init := goodIn_r _ [9, 10, 11, 12, 13, 14, 15, 16, 17, 18, 19, 20, 21, 22, 23, 24, 25, 26, 27, 28, 29, 30, 31, 32, 33, 34, 35, 36, 37, 38, 39, 40, 41, 42, 43, 44, 45, 46, 47, 48, 49, 50, 51, 52, 53, 54, 55, 56, 57, 58, 59, 60, 61, 62, 63, 64, 65, 66, 67, 68, 69, 70, 71, 72, 73, 74, 75, 76, 77, 78, 79, 80, 81, 82, 83, 84, 85, 86, 87, 88, 89, 90, 91, 92, 93, 94, 95, 96, 2, 97, 98, 99, 764, 765, 766, 767, 734, 735, 736, 737, 738, 739, 740, 741, 768, 769, 770, 771, 772, 773, 774, 775, 776, 777, 778, 779, 780, 781, 782, 783, 784, 785, 786] (by decide +kernel) (by decide +kernel)
set_option maxRecDepth 20000 in
theorem gL_law_X7_init : GoodIn wsL_law (wsX7_init) := ggL_law_X7_init
set_option maxRecDepth 20000 in
theorem ggL_law_X8_init : GoodIn wsL_law wsX8_init := goodIn_r _ [102, 103, 11, 12, 49, 104, 105, 106, 107, 108, 109, 110, 111, 112, 113, 114, 115, 116, 117, 118, 119, 120, 121, 122, 123, 5, 124, 125, 126, 127, 128, 129, 130, 742, 743, 744, 745, 746, 747, 748, 749, 750, 751, 752, 753, 754, 755, 756, 757, 758, 759, 760, 761, 762, 763] (by decide +kernel) (by decide +kernel)
set_option maxRecDepth 20000 in
theorem gL_law_X8_init : GoodIn wsL_law (wsX8_init) := ggL_law_X8_init
set_option maxRecDepth 20000 in
theorem ggL_law_L_begin : GoodIn wsL_law wsL_begin := goodIn_ca (goodIn_r _ [134, 135, 136, 137, 138, 2, 139, 140, 141, 16, 20, 142, 34, 80, 81, 82, 15, 83, 84, 85, 86, 87, 88, 89, 90, 91, 92, 93, 94, 95, 96, 97, 98, 99, 143, 144, 145, 19, 146, 147, 734, 735, 736, 737, 738, 739, 740, 741, 764, 765, 766, 767, 768, 769] (by decide +kernel) (by decide +kernel)) (goodIn_sub (fun _ h => List.mem_append_left _ (List.mem_append_left _ (List.mem_append_right _ h))) (by decide +kernel))
set_option maxRecDepth 20000 in
theorem gL_law_L_begin : GoodIn wsL_law (va_wsS RL 72 yL_begin wsL_begin) := goodIn_app (goodIn_of _ (by decide +kernel)) ggL_law_L_begin
set_option maxRecDepth 20000 in
theorem ggL_law_X8_begin : GoodIn wsL_law wsX8_begin := goodIn_r _ [151, 152, 153, 154, 5, 155, 156, 121, 122, 123, 124, 125, 126, 108, 127, 128, 129, 130, 106, 104, 107, 742, 743, 744, 745, 746, 747, 748, 749, 750, 751, 752, 753, 754, 755, 756, 757, 758, 759, 760, 761, 762, 763] (by decide +kernel) (by decide +kernel)
set_option maxRecDepth 20000 in
theorem gL_law_X8_begin : GoodIn wsL_law (wsV RL 77 RX8 yX8_begin wsX8_begin) := goodIn_app (goodIn_of _ (by decide +kernel)) ggL_law_X8_begin
set_option maxRecDepth 20000 in
theorem ggL_law_X8_thrown : GoodIn wsL_law wsX8_thrown := goodIn_r _ [160, 156, 742, 743, 744, 745, 746, 747, 748, 749, 750, 751, 752, 753, 754, 755, 756, 757, 758, 759, 760, 761, 762, 763] (by decide +kernel) (by decide +kernel)
set_option maxRecDepth 20000 in
theorem gL_law_X8_thrown : GoodIn wsL_law (wsV RL 78 RX8 yX8_thrown wsX8_thrown) := goodIn_app (goodIn_of _ (by decide +kernel)) ggL_law_X8_thrown
set_option maxRecDepth 20000 in
theorem ggL_law_X7_ports : GoodIn wsL_law wsX7_ports := goodIn_r _ [164, 16, 165, 166, 167, 15, 168, 84, 734, 735, 736, 737, 738, 739, 740, 741, 764, 765, 766, 767] (by decide +kernel) (by decide +kernel)
set_option maxRecDepth 20000 in
theorem gL_law_X7_ports : GoodIn wsL_law (wsV RL 81 RX7 yX7_ports wsX7_ports) := goodIn_app (goodIn_of _ (by decide +kernel)) ggL_law_X7_ports
set_option maxRecDepth 20000 in
theorem ggL_law_X8_ports : GoodIn wsL_law wsX8_ports := goodIn_r _ [172, 156, 125, 742, 743, 744, 745, 746, 747, 748, 749, 750, 751, 752, 753, 754, 755, 756, 757, 758, 759, 760, 761, 762, 763] (by decide +kernel) (by decide +kernel)
set_option maxRecDepth 20000 in
theorem gL_law_X8_ports : GoodIn wsL_law (wsV RL 84 RX8 yX8_ports wsX8_ports) := goodIn_app (goodIn_of _ (by decide +kernel)) ggL_law_X8_ports
set_option maxRecDepth 20000 in
theorem ggL_law_L_access : GoodIn wsL_law wsL_access := goodIn_ca (goodIn_ca (goodIn_r _ [175, 176, 135, 177, 178, 179, 2, 180, 140, 141, 16, 34, 181, 182, 183, 184, 185, 186, 165, 166, 167, 15, 168, 84, 187, 188, 189, 190, 89, 90, 91, 85, 92, 93, 94, 95, 86, 87, 96, 97, 98, 99, 734, 735, 736, 737, 738, 739, 740, 741, 764, 765, 766, 767] (by decide +kernel) (by decide +kernel)) (goodIn_sub (fun _ h => List.mem_append_left _ (List.mem_append_left _ (List.mem_append_right _ h))) (by decide +kernel))) (goodIn_sub (fun _ h => List.mem_append_left _ (List.mem_append_right _ h)) (by decide +kernel))
set_option maxRecDepth 20000 in
theorem gL_law_L_access : GoodIn wsL_law (va_wsS RL 85 yL_access wsL_access) := goodIn_app (goodIn_of _ (by decide +kernel)) ggL_law_L_access
set_option maxRecDepth 20000 in
theorem ggL_law_X8_access : GoodIn wsL_law wsX8_access := goodIn_r _ [194, 195, 196, 197, 5, 198, 125, 199, 200, 201, 202, 156, 127, 128, 129, 130, 106, 104, 107, 742, 743, 744, 745, 746, 747, 748, 749, 750, 751, 752, 753, 754, 755, 756, 757, 758, 759, 760, 761, 762, 763] (by decide +kernel) (by decide +kernel)
set_option maxRecDepth 20000 in
theorem gL_law_X8_access : GoodIn wsL_law (wsV RL 88 RX8 yX8_access wsX8_access) := goodIn_app (goodIn_of _ (by decide +kernel)) ggL_law_X8_access
set_option maxRecDepth 20000 in
theorem ggL_law_L_trunk : GoodIn wsL_law wsL_trunk := goodIn_ca (goodIn_ca (goodIn_r _ [205, 176, 135, 206, 207, 208, 2, 209, 140, 141, 16, 34, 181, 182, 183, 184, 185, 186, 165, 166, 167, 15, 168, 84, 187, 188, 189, 210, 98, 99, 211, 93, 94, 95, 85, 86, 87, 96, 97, 734, 735, 736, 737, 738, 739, 740, 741, 764, 765, 766, 767] (by decide +kernel) (by decide +kernel)) (goodIn_sub (fun _ h => List.mem_append_left _ (List.mem_append_left _ (List.mem_append_right _ h))) (by decide +kernel))) (goodIn_sub (fun _ h => List.mem_append_left _ (List.mem_append_right _ h)) (by decide +kernel))
set_option maxRecDepth 20000 in
theorem gL_law_L_trunk : GoodIn wsL_law (va_wsS RL 89 yL_trunk wsL_trunk) := goodIn_app (goodIn_of _ (by decide +kernel)) ggL_law_L_trunk
set_option maxRecDepth 20000 in
theorem ggL_law_X8_trunk : GoodIn wsL_law wsX8_trunk := goodIn_r _ [215, 106, 104, 107, 195, 196, 197, 5, 198, 125, 199, 200, 201, 202, 156, 742, 743, 744, 745, 746, 747, 748, 749, 750, 751, 752, 753, 754, 755, 756, 757, 758, 759, 760, 761, 762, 763] (by decide +kernel) (by decide +kernel)
set_option maxRecDepth 20000 in
theorem gL_law_X8_trunk : GoodIn wsL_law (wsV RL 92 RX8 yX8_trunk wsX8_trunk) := goodIn_app (goodIn_of _ (by decide +kernel)) ggL_law_X8_trunk
set_option maxRecDepth 20000 in
theorem ggL_law_L_fault : GoodIn wsL_law wsL_fault := goodIn_ca (goodIn_ca (goodIn_r _ [218, 176, 135, 219, 220, 221, 2, 222, 140, 141, 142, 34, 181, 182, 183, 184, 185, 186, 16, 165, 166, 167, 15, 168, 84, 223, 96, 97, 734, 735, 736, 737, 738, 739, 740, 741, 764, 765, 766, 767] (by decide +kernel) (by decide +kernel)) (goodIn_sub (fun _ h => List.mem_append_left _ (List.mem_append_left _ (List.mem_append_right _ h))) (by decide +kernel))) (goodIn_sub (fun _ h => List.mem_append_left _ (List.mem_append_right _ h)) (by decide +kernel))
set_option maxRecDepth 20000 in
theorem gL_law_L_fault : GoodIn wsL_law (va_wsS RL 93 yL_fault wsL_fault) := goodIn_app (goodIn_of _ (by decide +kernel)) ggL_law_L_fault
set_option maxRecDepth 20000 in
theorem ggL_law_X8_fault : GoodIn wsL_law wsX8_fault := goodIn_r _ [227, 108, 195, 196, 197, 5, 198, 125, 199, 200, 201, 202, 156, 228, 229, 230, 742, 743, 744, 745, 746, 747, 748, 749, 750, 751, 752, 753, 754, 755, 756, 757, 758, 759, 760, 761, 762, 763] (by decide +kernel) (by decide +kernel)
set_option maxRecDepth 20000 in
theorem gL_law_X8_fault : GoodIn wsL_law (wsV RL 96 RX8 yX8_fault wsX8_fault) := goodIn_app (goodIn_of _ (by decide +kernel)) ggL_law_X8_fault
set_option maxRecDepth 20000 in
theorem ggL_law_L_add : GoodIn wsL_law wsL_add := goodIn_ca (goodIn_ca (goodIn_ca (goodIn_r _ [233, 176, 135, 234, 235, 236, 237, 2, 238, 140, 141, 239, 240, 20, 34, 181, 182, 183, 184, 185, 186, 16, 165, 166, 167, 15, 168, 84, 241, 242, 243, 19, 244, 147, 245, 246, 247, 248, 249, 250, 251, 44, 252, 253, 254, 43, 255, 50, 734, 735, 736, 737, 738, 739, 740, 741, 764, 765, 766, 767, 768, 769, 781] (by decide +kernel) (by decide +kernel)) (goodIn_sub (fun _ h => List.mem_append_left _ (List.mem_append_left _ (List.mem_append_right _ h))) (by decide +kernel))) (goodIn_sub (fun _ h => List.mem_append_right _ h) (by decide +kernel))) (goodIn_sub (fun _ h => List.mem_append_left _ (List.mem_append_right _ h)) (by decide +kernel))
set_option maxRecDepth 20000 in
theorem gL_law_L_add : GoodIn wsL_law (va_wsS RL 97 yL_add wsL_add) := goodIn_app (goodIn_of _ (by decide +kernel)) ggL_law_L_add
set_option maxRecDepth 20000 in
theorem ggL_law_X8_add : GoodIn wsL_law wsX8_add := goodIn_r _ [259, 126, 195, 196, 197, 5, 198, 125, 260, 261, 262, 263, 156, 264, 265, 266, 267, 109, 110, 111, 112, 742, 743, 744, 745, 746, 747, 748, 749, 750, 751, 752, 753, 754, 755, 756, 757, 758, 759, 760, 761, 762, 763] (by decide +kernel) (by decide +kernel)
set_option maxRecDepth 20000 in
theorem gL_law_X8_add : GoodIn wsL_law (wsV RL 100 RX8 yX8_add wsX8_add) := goodIn_app (goodIn_of _ (by decide +kernel)) ggL_law_X8_add
set_option maxRecDepth 20000 in
theorem ggL_law_L_cover : GoodIn wsL_law wsL_cover := goodIn_ca (goodIn_r _ [270, 234, 271, 272, 273, 2, 274, 239, 240, 20, 24, 16, 34, 241, 242, 243, 19, 244, 147, 275, 276, 277, 23, 278, 55, 279, 280, 281, 43, 282, 50, 283, 284, 285, 286, 287, 288, 289, 290, 291, 44, 292, 293, 294, 295, 296, 297, 298, 299, 300, 301, 302, 303, 304, 305, 306, 307, 308, 309, 310, 311, 312, 313, 314, 315, 253, 254, 255, 165, 166, 167, 15, 168, 84, 316, 317, 318, 319, 320, 321, 322, 323, 324, 325, 326, 327, 328, 329, 330, 331, 332, 333, 334, 335, 336, 337, 338, 246, 247, 339, 340, 341, 342, 248, 249, 250, 251, 252, 343, 143, 144, 145, 146, 734, 735, 736, 737, 738, 739, 740, 741, 768, 769, 770, 781, 764, 765, 766, 767] (by decide +kernel) (by decide +kernel)) (goodIn_sub (fun _ h => List.mem_append_right _ h) (by decide +kernel))
set_option maxRecDepth 20000 in
theorem gL_law_L_cover : GoodIn wsL_law (va_wsS RL 101 yL_cover wsL_cover) := goodIn_app (goodIn_of _ (by decide +kernel)) ggL_law_L_cover
set_option maxRecDepth 20000 in
theorem ggL_law_X8_cover : GoodIn wsL_law wsX8_cover := goodIn_r _ [347, 126, 156, 348, 349, 350, 5, 351, 125, 352, 353, 354, 355, 120, 109, 110, 111, 112, 356, 357, 358, 359, 360, 361, 362, 264, 265, 266, 267, 363, 364, 365, 366, 367, 368, 369, 370, 152, 153, 154, 155, 742, 743, 744, 745, 746, 747, 748, 749, 750, 751, 752, 753, 754, 755, 756, 757, 758, 759, 760, 761, 762, 763] (by decide +kernel) (by decide +kernel)
set_option maxRecDepth 20000 in
theorem gL_law_X8_cover : GoodIn wsL_law (wsV RL 104 RX8 yX8_cover wsX8_cover) := goodIn_app (goodIn_of _ (by decide +kernel)) ggL_law_X8_cover
set_option maxRecDepth 20000 in
theorem ggL_law_X7_clear : GoodIn wsL_law wsX7_clear := goodIn_r _ [374, 20, 34, 143, 144, 145, 19, 146, 147, 734, 735, 736, 737, 738, 739, 740, 741, 768, 769] (by decide +kernel) (by decide +kernel)
set_option maxRecDepth 20000 in
theorem gL_law_X7_clear : GoodIn wsL_law (wsV RL 105 RX7 yX7_clear wsX7_clear) := goodIn_app (goodIn_of _ (by decide +kernel)) ggL_law_X7_clear
set_option maxRecDepth 20000 in
theorem ggL_law_X8_clear : GoodIn wsL_law wsX8_clear := goodIn_r _ [378, 156, 126, 742, 743, 744, 745, 746, 747, 748, 749, 750, 751, 752, 753, 754, 755, 756, 757, 758, 759, 760, 761, 762, 763] (by decide +kernel) (by decide +kernel)
set_option maxRecDepth 20000 in
theorem gL_law_X8_clear : GoodIn wsL_law (wsV RL 108 RX8 yX8_clear wsX8_clear) := goodIn_app (goodIn_of _ (by decide +kernel)) ggL_law_X8_clear
set_option maxRecDepth 20000 in
theorem ggL_law_X7_frames : GoodIn wsL_law wsX7_frames := goodIn_r _ [382, 20, 241, 242, 243, 19, 244, 147, 734, 735, 736, 737, 738, 739, 740, 741, 768, 769] (by decide +kernel) (by decide +kernel)
set_option maxRecDepth 20000 in
theorem gL_law_X7_frames : GoodIn wsL_law (wsV RL 109 RX7 yX7_frames wsX7_frames) := goodIn_app (goodIn_of _ (by decide +kernel)) ggL_law_X7_frames
set_option maxRecDepth 20000 in
theorem ggL_law_X8_frames : GoodIn wsL_law wsX8_frames := goodIn_r _ [386, 156, 126, 742, 743, 744, 745, 746, 747, 748, 749, 750, 751, 752, 753, 754, 755, 756, 757, 758, 759, 760, 761, 762, 763] (by decide +kernel) (by decide +kernel)
set_option maxRecDepth 20000 in
theorem gL_law_X8_frames : GoodIn wsL_law (wsV RL 112 RX8 yX8_frames wsX8_frames) := goodIn_app (goodIn_of _ (by decide +kernel)) ggL_law_X8_frames
set_option maxRecDepth 20000 in
theorem ggL_law_L_frameAt : GoodIn wsL_law wsL_frameAt := goodIn_ca (goodIn_r _ [389, 176, 390, 391, 392, 2, 393, 20, 394, 395, 396, 397, 185, 186, 241, 242, 243, 19, 244, 147, 398, 289, 290, 291, 44, 292, 293, 294, 43, 295, 50, 734, 735, 736, 737, 738, 739, 740, 741, 768, 769, 781] (by decide +kernel) (by decide +kernel)) (goodIn_sub (fun _ h => List.mem_append_left _ (List.mem_append_right _ h)) (by decide +kernel))
set_option maxRecDepth 20000 in
theorem gL_law_L_frameAt : GoodIn wsL_law (va_wsS RL 113 yL_frameAt wsL_frameAt) := goodIn_app (goodIn_of _ (by decide +kernel)) ggL_law_L_frameAt
set_option maxRecDepth 20000 in
theorem ggL_law_X8_frameAt : GoodIn wsL_law wsX8_frameAt := goodIn_r _ [402, 109, 110, 111, 112, 403, 404, 405, 5, 406, 126, 152, 153, 154, 155, 156, 742, 743, 744, 745, 746, 747, 748, 749, 750, 751, 752, 753, 754, 755, 756, 757, 758, 759, 760, 761, 762, 763] (by decide +kernel) (by decide +kernel)
set_option maxRecDepth 20000 in
theorem gL_law_X8_frameAt : GoodIn wsL_law (wsV RL 116 RX8 yX8_frameAt wsX8_frameAt) := goodIn_app (goodIn_of _ (by decide +kernel)) ggL_law_X8_frameAt
set_option maxRecDepth 20000 in
theorem ggL_law_X7_pairs : GoodIn wsL_law wsX7_pairs := goodIn_r _ [410, 24, 16, 165, 166, 167, 15, 168, 84, 316, 317, 318, 23, 319, 734, 735, 736, 737, 738, 739, 740, 741, 764, 765, 766, 767] (by decide +kernel) (by decide +kernel)
set_option maxRecDepth 20000 in
theorem gL_law_X7_pairs : GoodIn wsL_law (wsV RL 117 RX7 yX7_pairs wsX7_pairs) := goodIn_app (goodIn_of _ (by decide +kernel)) ggL_law_X7_pairs
set_option maxRecDepth 20000 in
theorem ggL_law_X8_pairs : GoodIn wsL_law wsX8_pairs := goodIn_r _ [414, 156, 367, 368, 369, 5, 370, 125, 742, 743, 744, 745, 746, 747, 748, 749, 750, 751, 752, 753, 754, 755, 756, 757, 758, 759, 760, 761, 762, 763] (by decide +kernel) (by decide +kernel)
set_option maxRecDepth 20000 in
theorem gL_law_X8_pairs : GoodIn wsL_law (wsV RL 120 RX8 yX8_pairs wsX8_pairs) := goodIn_app (goodIn_of _ (by decide +kernel)) ggL_law_X8_pairs
set_option maxRecDepth 20000 in
theorem ggL_law_X7_pairsMet : GoodIn wsL_law wsX7_pairsMet := goodIn_r _ [418, 24, 20, 275, 276, 277, 23, 278, 55, 279, 280, 281, 43, 282, 50, 283, 284, 285, 286, 287, 242, 243, 19, 244, 147, 288, 289, 290, 291, 44, 292, 293, 294, 295, 296, 297, 298, 299, 300, 301, 302, 303, 2, 304, 305, 306, 307, 308, 309, 310, 311, 312, 313, 314, 315, 253, 254, 255, 320, 321, 322, 323, 324, 325, 326, 327, 328, 329, 330, 734, 735, 736, 737, 738, 739, 740, 741, 770, 781, 768, 769] (by decide +kernel) (by decide +kernel)
set_option maxRecDepth 20000 in
theorem gL_law_X7_pairsMet : GoodIn wsL_law (wsV RL 121 RX7 yX7_pairsMet wsX7_pairsMet) := goodIn_app (goodIn_of _ (by decide +kernel)) ggL_law_X7_pairsMet
set_option maxRecDepth 20000 in
theorem ggL_law_X8_pairsMet : GoodIn wsL_law wsX8_pairsMet := goodIn_r _ [422, 156, 352, 353, 354, 5, 355, 120, 126, 109, 110, 111, 112, 356, 357, 358, 363, 364, 365, 366, 742, 743, 744, 745, 746, 747, 748, 749, 750, 751, 752, 753, 754, 755, 756, 757, 758, 759, 760, 761, 762, 763] (by decide +kernel) (by decide +kernel)
set_option maxRecDepth 20000 in
theorem gL_law_X8_pairsMet : GoodIn wsL_law (wsV RL 124 RX8 yX8_pairsMet wsX8_pairsMet) := goodIn_app (goodIn_of _ (by decide +kernel)) ggL_law_X8_pairsMet
set_option maxRecDepth 20000 in
theorem ggL_law_L_expected : GoodIn wsL_law wsL_expected := goodIn_ca (goodIn_r _ [425, 176, 426, 427, 428, 2, 429, 28, 394, 395, 396, 397, 185, 186, 20, 241, 242, 243, 19, 244, 147, 430, 431, 432, 433, 34, 16, 29, 142, 33, 434, 435, 436, 27, 437, 63, 65, 66, 67, 438, 439, 440, 62, 441, 442, 72, 443, 280, 281, 43, 282, 50, 283, 284, 285, 286, 444, 445, 289, 290, 291, 44, 292, 293, 294, 295, 446, 447, 448, 449, 450, 451, 452, 453, 454, 455, 456, 303, 304, 457, 458, 459, 460, 305, 306, 461, 462, 463, 464, 465, 466, 467, 15, 468, 87, 469, 470, 471, 472, 85, 473, 474, 475, 476, 86, 96, 97, 307, 308, 477, 478, 479, 480, 253, 254, 255, 309, 310, 481, 482, 483, 484, 485, 486, 487, 488, 489, 490, 491, 492, 493, 494, 495, 496, 497, 498, 499, 500, 501, 502, 503, 504, 505, 506, 507, 32, 508, 509, 510, 511, 512, 513, 514, 734, 735, 736, 737, 738, 739, 740, 741, 768, 769, 771, 772, 773, 774, 782, 783, 784, 785, 786, 781, 764, 765, 766, 767, 775, 776, 777, 778, 779, 780] (by decide +kernel) (by decide +kernel)) (goodIn_sub (fun _ h => List.mem_append_left _ (List.mem_append_right _ h)) (by decide +kernel))
set_option maxRecDepth 20000 in
theorem gL_law_L_expected : GoodIn wsL_law (va_wsS RL 125 yL_expected wsL_expected) := goodIn_app (goodIn_of _ (by decide +kernel)) ggL_law_L_expected
set_option maxRecDepth 20000 in
theorem ggL_law_X8_expected : GoodIn wsL_law wsX8_expected := goodIn_r _ [518, 115, 519, 520, 521, 5, 522, 114, 523, 524, 525, 526, 113, 126, 109, 116, 117, 111, 112, 125, 104, 106, 107, 527, 528, 529, 530, 110, 228, 229, 230, 403, 404, 405, 406, 152, 153, 154, 155, 156, 742, 743, 744, 745, 746, 747, 748, 749, 750, 751, 752, 753, 754, 755, 756, 757, 758, 759, 760, 761, 762, 763] (by decide +kernel) (by decide +kernel)
set_option maxRecDepth 20000 in
theorem gL_law_X8_expected : GoodIn wsL_law (wsV RL 127 RX8 yX8_expected wsX8_expected) := goodIn_app (goodIn_of _ (by decide +kernel)) ggL_law_X8_expected
set_option maxRecDepth 20000 in
theorem ggL_law_L_expectedTagged : GoodIn wsL_law wsL_expectedTagged := goodIn_ca (goodIn_r _ [533, 176, 534, 535, 536, 2, 537, 28, 394, 395, 396, 397, 185, 186, 20, 241, 242, 243, 19, 244, 147, 430, 431, 432, 433, 34, 16, 29, 142, 33, 434, 435, 436, 27, 437, 63, 65, 66, 67, 438, 439, 440, 62, 441, 442, 72, 443, 280, 281, 43, 282, 50, 283, 284, 285, 286, 444, 445, 289, 290, 291, 44, 292, 293, 294, 295, 446, 447, 448, 449, 450, 451, 452, 453, 454, 455, 456, 303, 304, 457, 458, 459, 460, 305, 306, 461, 462, 463, 464, 465, 466, 467, 15, 468, 87, 469, 470, 471, 472, 85, 473, 474, 475, 476, 86, 96, 97, 307, 308, 477, 478, 479, 480, 253, 254, 255, 309, 310, 481, 482, 483, 484, 485, 486, 487, 488, 489, 490, 491, 492, 493, 494, 495, 496, 497, 498, 499, 500, 501, 502, 503, 504, 505, 506, 507, 32, 508, 509, 538, 539, 540, 541, 514, 734, 735, 736, 737, 738, 739, 740, 741, 768, 769, 771, 772, 773, 774, 782, 783, 784, 785, 786, 781, 764, 765, 766, 767, 775, 776, 777, 778, 779, 780] (by decide +kernel) (by decide +kernel)) (goodIn_sub (fun _ h => List.mem_append_left _ (List.mem_append_right _ h)) (by decide +kernel))
set_option maxRecDepth 20000 in
theorem gL_law_L_expectedTagged : GoodIn wsL_law (va_wsS RL 128 yL_expectedTagged wsL_expectedTagged) := goodIn_app (goodIn_of _ (by decide +kernel)) ggL_law_L_expectedTagged
set_option maxRecDepth 20000 in
theorem ggL_law_X8_expectedTagged : GoodIn wsL_law wsX8_expectedTagged := goodIn_r _ [545, 116, 519, 520, 521, 5, 522, 114, 523, 524, 525, 526, 113, 126, 109, 115, 117, 111, 112, 125, 104, 106, 107, 527, 528, 529, 530, 110, 228, 229, 230, 403, 404, 405, 406, 152, 153, 154, 155, 156, 742, 743, 744, 745, 746, 747, 748, 749, 750, 751, 752, 753, 754, 755, 756, 757, 758, 759, 760, 761, 762, 763] (by decide +kernel) (by decide +kernel)
set_option maxRecDepth 20000 in
theorem gL_law_X8_expectedTagged : GoodIn wsL_law (wsV RL 130 RX8 yX8_expectedTagged wsX8_expectedTagged) := goodIn_app (goodIn_of _ (by decide +kernel)) ggL_law_X8_expectedTagged
set_option maxRecDepth 20000 in
theorem ggL_law_L_reason : GoodIn wsL_law wsL_reason := goodIn_ca (goodIn_r _ [548, 176, 549, 550, 551, 2, 552, 28, 394, 395, 396, 397, 185, 186, 20, 241, 242, 243, 19, 244, 147, 430, 431, 432, 433, 34, 16, 29, 142, 33, 434, 435, 436, 27, 437, 63, 65, 66, 67, 438, 439, 440, 62, 441, 442, 72, 443, 280, 281, 43, 282, 50, 283, 284, 285, 286, 444, 445, 289, 290, 291, 44, 292, 293, 294, 295, 446, 447, 448, 449, 450, 451, 452, 453, 454, 455, 456, 303, 304, 457, 458, 459, 460, 305, 306, 461, 462, 463, 464, 465, 466, 467, 15, 468, 87, 469, 470, 471, 472, 85, 473, 474, 475, 476, 86, 96, 97, 307, 308, 477, 478, 479, 480, 253, 254, 255, 309, 310, 481, 482, 483, 484, 485, 486, 487, 488, 489, 490, 491, 492, 493, 494, 495, 496, 497, 498, 499, 500, 501, 502, 503, 504, 505, 506, 507, 32, 508, 509, 553, 554, 555, 556, 514, 734, 735, 736, 737, 738, 739, 740, 741, 768, 769, 771, 772, 773, 774, 782, 783, 784, 785, 786, 781, 764, 765, 766, 767, 775, 776, 777, 778, 779, 780] (by decide +kernel) (by decide +kernel)) (goodIn_sub (fun _ h => List.mem_append_left _ (List.mem_append_right _ h)) (by decide +kernel))
set_option maxRecDepth 20000 in
theorem gL_law_L_reason : GoodIn wsL_law (va_wsS RL 131 yL_reason wsL_reason) := goodIn_app (goodIn_of _ (by decide +kernel)) ggL_law_L_reason
set_option maxRecDepth 20000 in
theorem ggL_law_X8_reason : GoodIn wsL_law wsX8_reason := goodIn_r _ [560, 117, 519, 520, 521, 5, 522, 114, 523, 524, 525, 526, 113, 126, 109, 115, 116, 111, 112, 125, 104, 106, 107, 527, 528, 529, 530, 110, 228, 229, 230, 403, 404, 405, 406, 152, 153, 154, 155, 156, 742, 743, 744, 745, 746, 747, 748, 749, 750, 751, 752, 753, 754, 755, 756, 757, 758, 759, 760, 761, 762, 763] (by decide +kernel) (by decide +kernel)
set_option maxRecDepth 20000 in
theorem gL_law_X8_reason : GoodIn wsL_law (wsV RL 133 RX8 yX8_reason wsX8_reason) := goodIn_app (goodIn_of _ (by decide +kernel)) ggL_law_X8_reason
set_option maxRecDepth 20000 in
theorem ggL_law_L_learned : GoodIn wsL_law wsL_learned := goodIn_ca (goodIn_r _ [563, 135, 564, 565, 566, 2, 567, 140, 141, 28, 187, 188, 189, 430, 431, 432, 433, 34, 16, 20, 29, 142, 33, 434, 435, 436, 27, 437, 63, 65, 66, 67, 438, 439, 440, 62, 441, 442, 72, 443, 280, 281, 43, 282, 50, 283, 284, 285, 286, 444, 242, 243, 19, 244, 147, 445, 289, 290, 291, 44, 292, 293, 294, 295, 446, 447, 448, 449, 450, 451, 452, 453, 454, 455, 456, 303, 304, 457, 458, 459, 460, 305, 306, 461, 462, 463, 464, 465, 466, 467, 15, 468, 87, 469, 470, 471, 472, 85, 473, 474, 475, 476, 86, 96, 97, 307, 308, 477, 478, 479, 480, 253, 254, 255, 309, 310, 481, 482, 483, 484, 485, 486, 487, 488, 489, 490, 491, 492, 493, 494, 495, 496, 497, 498, 499, 500, 501, 502, 503, 504, 505, 506, 507, 32, 508, 509, 568, 569, 570, 571, 572, 573, 574, 575, 734, 735, 736, 737, 738, 739, 740, 741, 771, 772, 773, 774, 782, 783, 784, 785, 786, 781, 768, 769, 764, 765, 766, 767, 775, 776, 777, 778, 779, 780] (by decide +kernel) (by decide +kernel)) (goodIn_sub (fun _ h => List.mem_append_left _ (List.mem_append_left _ (List.mem_append_right _ h))) (by decide +kernel))
set_option maxRecDepth 20000 in
theorem gL_law_L_learned : GoodIn wsL_law (va_wsS RL 134 yL_learned wsL_learned) := goodIn_app (goodIn_of _ (by decide +kernel)) ggL_law_L_learned
set_option maxRecDepth 20000 in
theorem ggL_law_X8_learned : GoodIn wsL_law wsX8_learned := goodIn_r _ [579, 113, 519, 520, 521, 5, 522, 114, 523, 524, 525, 526, 126, 109, 115, 116, 117, 111, 112, 125, 104, 106, 107, 527, 528, 529, 530, 110, 228, 229, 230, 152, 153, 154, 155, 156, 742, 743, 744, 745, 746, 747, 748, 749, 750, 751, 752, 753, 754, 755, 756, 757, 758, 759, 760, 761, 762, 763] (by decide +kernel) (by decide +kernel)
set_option maxRecDepth 20000 in
theorem gL_law_X8_learned : GoodIn wsL_law (wsV RL 136 RX8 yX8_learned wsX8_learned) := goodIn_app (goodIn_of _ (by decide +kernel)) ggL_law_X8_learned
set_option maxRecDepth 20000 in
theorem ggL_law_L_seen : GoodIn wsL_law wsL_seen := goodIn_ca (goodIn_r _ [582, 176, 583, 584, 585, 2, 586, 29, 394, 395, 396, 397, 185, 186, 20, 241, 242, 243, 19, 244, 147, 430, 431, 432, 433, 34, 28, 16, 142, 33, 434, 435, 436, 27, 437, 63, 65, 66, 67, 438, 439, 440, 62, 441, 442, 72, 443, 280, 281, 43, 282, 50, 283, 284, 285, 286, 444, 445, 289, 290, 291, 44, 292, 293, 294, 295, 446, 447, 448, 449, 450, 451, 452, 453, 454, 455, 456, 303, 304, 457, 458, 459, 460, 305, 306, 461, 462, 463, 464, 465, 466, 467, 15, 468, 87, 469, 470, 471, 472, 85, 473, 474, 475, 476, 86, 96, 97, 307, 308, 477, 478, 479, 480, 253, 254, 255, 309, 310, 481, 482, 483, 484, 485, 486, 487, 488, 489, 490, 491, 492, 493, 494, 495, 496, 497, 498, 499, 500, 501, 502, 503, 504, 505, 506, 507, 32, 508, 509, 510, 511, 512, 513, 514, 734, 735, 736, 737, 738, 739, 740, 741, 768, 769, 771, 772, 773, 774, 782, 783, 784, 785, 786, 781, 764, 765, 766, 767, 775, 776, 777, 778, 779, 780] (by decide +kernel) (by decide +kernel)) (goodIn_sub (fun _ h => List.mem_append_left _ (List.mem_append_right _ h)) (by decide +kernel))
set_option maxRecDepth 20000 in
theorem gL_law_L_seen : GoodIn wsL_law (va_wsS RL 137 yL_seen wsL_seen) := goodIn_app (goodIn_of _ (by decide +kernel)) ggL_law_L_seen
set_option maxRecDepth 20000 in
theorem ggL_law_X8_seen : GoodIn wsL_law wsX8_seen := goodIn_r _ [590, 115, 591, 592, 593, 5, 594, 114, 108, 523, 524, 525, 526, 113, 126, 109, 116, 117, 111, 112, 125, 104, 106, 107, 527, 528, 529, 530, 110, 228, 229, 230, 403, 404, 405, 406, 152, 153, 154, 155, 156, 742, 743, 744, 745, 746, 747, 748, 749, 750, 751, 752, 753, 754, 755, 756, 757, 758, 759, 760, 761, 762, 763] (by decide +kernel) (by decide +kernel)
set_option maxRecDepth 20000 in
theorem gL_law_X8_seen : GoodIn wsL_law (wsV RL 139 RX8 yX8_seen wsX8_seen) := goodIn_app (goodIn_of _ (by decide +kernel)) ggL_law_X8_seen
set_option maxRecDepth 20000 in
theorem ggL_law_L_seenTagged : GoodIn wsL_law wsL_seenTagged := goodIn_ca (goodIn_r _ [597, 176, 598, 599, 600, 2, 601, 29, 394, 395, 396, 397, 185, 186, 20, 241, 242, 243, 19, 244, 147, 430, 431, 432, 433, 34, 28, 16, 142, 33, 434, 435, 436, 27, 437, 63, 65, 66, 67, 438, 439, 440, 62, 441, 442, 72, 443, 280, 281, 43, 282, 50, 283, 284, 285, 286, 444, 445, 289, 290, 291, 44, 292, 293, 294, 295, 446, 447, 448, 449, 450, 451, 452, 453, 454, 455, 456, 303, 304, 457, 458, 459, 460, 305, 306, 461, 462, 463, 464, 465, 466, 467, 15, 468, 87, 469, 470, 471, 472, 85, 473, 474, 475, 476, 86, 96, 97, 307, 308, 477, 478, 479, 480, 253, 254, 255, 309, 310, 481, 482, 483, 484, 485, 486, 487, 488, 489, 490, 491, 492, 493, 494, 495, 496, 497, 498, 499, 500, 501, 502, 503, 504, 505, 506, 507, 32, 508, 509, 538, 539, 540, 541, 514, 734, 735, 736, 737, 738, 739, 740, 741, 768, 769, 771, 772, 773, 774, 782, 783, 784, 785, 786, 781, 764, 765, 766, 767, 775, 776, 777, 778, 779, 780] (by decide +kernel) (by decide +kernel)) (goodIn_sub (fun _ h => List.mem_append_left _ (List.mem_append_right _ h)) (by decide +kernel))
set_option maxRecDepth 20000 in
theorem gL_law_L_seenTagged : GoodIn wsL_law (va_wsS RL 140 yL_seenTagged wsL_seenTagged) := goodIn_app (goodIn_of _ (by decide +kernel)) ggL_law_L_seenTagged
set_option maxRecDepth 20000 in
theorem ggL_law_X8_seenTagged : GoodIn wsL_law wsX8_seenTagged := goodIn_r _ [605, 116, 591, 592, 593, 5, 594, 114, 108, 523, 524, 525, 526, 113, 126, 109, 115, 117, 111, 112, 125, 104, 106, 107, 527, 528, 529, 530, 110, 228, 229, 230, 403, 404, 405, 406, 152, 153, 154, 155, 156, 742, 743, 744, 745, 746, 747, 748, 749, 750, 751, 752, 753, 754, 755, 756, 757, 758, 759, 760, 761, 762, 763] (by decide +kernel) (by decide +kernel)
set_option maxRecDepth 20000 in
theorem gL_law_X8_seenTagged : GoodIn wsL_law (wsV RL 142 RX8 yX8_seenTagged wsX8_seenTagged) := goodIn_app (goodIn_of _ (by decide +kernel)) ggL_law_X8_seenTagged
set_option maxRecDepth 20000 in
theorem ggL_law_X7_differing : GoodIn wsL_law wsX7_differing := goodIn_r _ [609, 20, 430, 431, 432, 2, 433, 34, 28, 16, 29, 142, 33, 434, 435, 436, 27, 437, 63, 65, 66, 67, 438, 439, 440, 62, 441, 442, 72, 443, 280, 281, 43, 282, 50, 283, 284, 285, 286, 444, 242, 243, 19, 244, 147, 445, 289, 290, 291, 44, 292, 293, 294, 295, 446, 447, 448, 449, 450, 451, 452, 453, 454, 455, 456, 303, 304, 457, 458, 459, 460, 305, 306, 461, 462, 463, 464, 465, 466, 467, 15, 468, 87, 469, 470, 471, 472, 85, 473, 474, 475, 476, 86, 96, 97, 307, 308, 477, 478, 479, 480, 253, 254, 255, 309, 310, 481, 482, 483, 484, 485, 486, 487, 488, 489, 490, 491, 492, 493, 494, 495, 496, 497, 498, 499, 500, 501, 502, 503, 504, 505, 506, 507, 32, 508, 509, 241, 610, 611, 612, 613, 510, 511, 512, 513, 514, 538, 539, 540, 541, 734, 735, 736, 737, 738, 739, 740, 741, 771, 772, 773, 774, 782, 783, 784, 785, 786, 781, 768, 769, 764, 765, 766, 767, 775, 776, 777, 778, 779, 780] (by decide +kernel) (by decide +kernel)
set_option maxRecDepth 20000 in
theorem gL_law_X7_differing : GoodIn wsL_law (wsV RL 143 RX7 yX7_differing wsX7_differing) := goodIn_app (goodIn_of _ (by decide +kernel)) ggL_law_X7_differing
set_option maxRecDepth 20000 in
theorem ggL_law_X8_differing : GoodIn wsL_law wsX8_differing := goodIn_r _ [617, 156, 126, 618, 619, 620, 5, 621, 118, 115, 119, 116, 591, 592, 593, 594, 114, 108, 523, 524, 525, 526, 113, 109, 117, 111, 112, 125, 104, 106, 107, 527, 528, 529, 530, 110, 228, 229, 230, 519, 520, 521, 522, 622, 623, 624, 625, 742, 743, 744, 745, 746, 747, 748, 749, 750, 751, 752, 753, 754, 755, 756, 757, 758, 759, 760, 761, 762, 763] (by decide +kernel) (by decide +kernel)
set_option maxRecDepth 20000 in
theorem gL_law_X8_differing : GoodIn wsL_law (wsV RL 147 RX8 yX8_differing wsX8_differing) := goodIn_app (goodIn_of _ (by decide +kernel)) ggL_law_X8_differing
set_option maxRecDepth 20000 in
theorem ggL_law_L_differencesAt : GoodIn wsL_law wsL_differencesAt := goodIn_ca (goodIn_r _ [628, 176, 629, 630, 631, 2, 632, 20, 181, 182, 183, 184, 185, 186, 16, 165, 166, 167, 15, 168, 84, 430, 431, 432, 433, 34, 28, 29, 142, 33, 434, 435, 436, 27, 437, 63, 65, 66, 67, 438, 439, 440, 62, 441, 442, 72, 443, 280, 281, 43, 282, 50, 283, 284, 285, 286, 444, 242, 243, 19, 244, 147, 445, 289, 290, 291, 44, 292, 293, 294, 295, 446, 447, 448, 449, 450, 451, 452, 453, 454, 455, 456, 303, 304, 457, 458, 459, 460, 305, 306, 461, 462, 463, 464, 465, 466, 467, 468, 87, 469, 470, 471, 472, 85, 473, 474, 475, 476, 86, 96, 97, 307, 308, 477, 478, 479, 480, 253, 254, 255, 309, 310, 481, 482, 483, 484, 485, 486, 487, 488, 489, 490, 491, 492, 493, 494, 495, 496, 497, 498, 499, 500, 501, 502, 503, 504, 505, 506, 507, 32, 508, 509, 241, 610, 611, 612, 613, 510, 511, 512, 513, 514, 538, 539, 540, 541, 734, 735, 736, 737, 738, 739, 740, 741, 764, 765, 766, 767, 771, 772, 773, 774, 782, 783, 784, 785, 786, 781, 768, 769, 775, 776, 777, 778, 779, 780] (by decide +kernel) (by decide +kernel)) (goodIn_sub (fun _ h => List.mem_append_left _ (List.mem_append_right _ h)) (by decide +kernel))
set_option maxRecDepth 20000 in
theorem gL_law_L_differencesAt : GoodIn wsL_law (va_wsS RL 148 yL_differencesAt wsL_differencesAt) := goodIn_app (goodIn_of _ (by decide +kernel)) ggL_law_L_differencesAt
set_option maxRecDepth 20000 in
theorem ggL_law_X8_differencesAt : GoodIn wsL_law wsX8_differencesAt := goodIn_r _ [636, 126, 115, 118, 116, 119, 195, 196, 197, 5, 198, 125, 152, 153, 154, 155, 156, 618, 619, 620, 621, 591, 592, 593, 594, 114, 108, 523, 524, 525, 526, 113, 109, 117, 111, 112, 104, 106, 107, 527, 528, 529, 530, 110, 228, 229, 230, 519, 520, 521, 522, 742, 743, 744, 745, 746, 747, 748, 749, 750, 751, 752, 753, 754, 755, 756, 757, 758, 759, 760, 761, 762, 763] (by decide +kernel) (by decide +kernel)
set_option maxRecDepth 20000 in
theorem gL_law_X8_differencesAt : GoodIn wsL_law (wsV RL 150 RX8 yX8_differencesAt wsX8_differencesAt) := goodIn_app (goodIn_of _ (by decide +kernel)) ggL_law_X8_differencesAt
set_option maxRecDepth 20000 in
theorem ggL_law_X7_blame : GoodIn wsL_law wsX7_blame := goodIn_r _ [640, 33, 16, 20, 29, 430, 431, 432, 2, 433, 34, 28, 142, 434, 435, 436, 27, 437, 63, 65, 66, 67, 438, 439, 440, 62, 441, 442, 72, 443, 280, 281, 43, 282, 50, 283, 284, 285, 286, 444, 242, 243, 19, 244, 147, 445, 289, 290, 291, 44, 292, 293, 294, 295, 446, 447, 448, 449, 450, 451, 452, 453, 454, 455, 456, 303, 304, 457, 458, 459, 460, 305, 306, 461, 462, 463, 464, 465, 466, 467, 15, 468, 87, 469, 470, 471, 472, 85, 473, 474, 475, 476, 86, 96, 97, 307, 308, 477, 478, 479, 480, 253, 254, 255, 309, 310, 481, 482, 483, 484, 485, 486, 487, 488, 489, 490, 491, 492, 493, 494, 495, 496, 497, 498, 499, 500, 501, 502, 503, 504, 505, 506, 507, 32, 508, 509, 641, 642, 643, 644, 645, 646, 647, 648, 649, 650, 651, 652, 653, 654, 79, 655, 656, 657, 658, 659, 660, 511, 512, 513, 514, 661, 662, 539, 540, 541, 663, 664, 665, 666, 667, 668, 669, 670, 671, 672, 673, 166, 167, 168, 84, 674, 675, 676, 677, 678, 679, 680, 681, 682, 683, 684, 734, 735, 736, 737, 738, 739, 740, 741, 771, 772, 773, 774, 782, 783, 784, 785, 786, 781, 768, 769, 764, 765, 766, 767, 775, 776, 777, 778, 779, 780] (by decide +kernel) (by decide +kernel)
set_option maxRecDepth 20000 in
theorem gL_law_X7_blame : GoodIn wsL_law (wsV RL 151 RX7 yX7_blame wsX7_blame) := goodIn_app (goodIn_of _ (by decide +kernel)) ggL_law_X7_blame
set_option maxRecDepth 20000 in
theorem ggL_law_X8_blame : GoodIn wsL_law wsX8_blame := goodIn_r _ [688, 156, 689, 690, 691, 5, 692, 693, 125, 618, 619, 620, 621, 126, 118, 115, 119, 116, 591, 592, 593, 594, 114, 108, 523, 524, 525, 526, 113, 109, 117, 111, 112, 104, 106, 107, 527, 528, 529, 530, 110, 228, 229, 230, 519, 520, 521, 522, 694, 695, 696, 697, 622, 623, 624, 625, 698, 699, 700, 701, 702, 703, 742, 743, 744, 745, 746, 747, 748, 749, 750, 751, 752, 753, 754, 755, 756, 757, 758, 759, 760, 761, 762, 763] (by decide +kernel) (by decide +kernel)
set_option maxRecDepth 20000 in
theorem gL_law_X8_blame : GoodIn wsL_law (wsV RL 154 RX8 yX8_blame wsX8_blame) := goodIn_app (goodIn_of _ (by decide +kernel)) ggL_law_X8_blame
set_option maxRecDepth 20000 in
theorem ggL_law_L_blamed : GoodIn wsL_law wsL_blamed := goodIn_ca (goodIn_r _ [706, 176, 707, 708, 709, 2, 710, 185, 186, 33, 16, 20, 29, 430, 431, 432, 433, 34, 28, 142, 434, 435, 436, 27, 437, 63, 65, 66, 67, 438, 439, 440, 62, 441, 442, 72, 443, 280, 281, 43, 282, 50, 283, 284, 285, 286, 444, 242, 243, 19, 244, 147, 445, 289, 290, 291, 44, 292, 293, 294, 295, 446, 447, 448, 449, 450, 451, 452, 453, 454, 455, 456, 303, 304, 457, 458, 459, 460, 305, 306, 461, 462, 463, 464, 465, 466, 467, 15, 468, 87, 469, 470, 471, 472, 85, 473, 474, 475, 476, 86, 96, 97, 307, 308, 477, 478, 479, 480, 253, 254, 255, 309, 310, 481, 482, 483, 484, 485, 486, 487, 488, 489, 490, 491, 492, 493, 494, 495, 496, 497, 498, 499, 500, 501, 502, 503, 504, 505, 506, 507, 32, 508, 509, 641, 642, 643, 644, 645, 646, 647, 648, 649, 650, 651, 652, 653, 654, 79, 655, 656, 657, 658, 659, 660, 511, 512, 513, 514, 661, 662, 539, 540, 541, 663, 664, 665, 666, 667, 668, 669, 670, 671, 672, 673, 166, 167, 168, 84, 674, 675, 676, 677, 678, 679, 680, 681, 682, 683, 684, 711, 712, 713, 714, 715, 716, 717, 734, 735, 736, 737, 738, 739, 740, 741, 771, 772, 773, 774, 782, 783, 784, 785, 786, 781, 768, 769, 764, 765, 766, 767, 775, 776, 777, 778, 779, 780] (by decide +kernel) (by decide +kernel)) (goodIn_sub (fun _ h => List.mem_append_left _ (List.mem_append_right _ h)) (by decide +kernel))
set_option maxRecDepth 20000 in
theorem gL_law_L_blamed : GoodIn wsL_law (va_wsS RL 155 yL_blamed wsL_blamed) := goodIn_app (goodIn_of _ (by decide +kernel)) ggL_law_L_blamed
set_option maxRecDepth 20000 in
theorem ggL_law_X8_blamed : GoodIn wsL_law wsX8_blamed := goodIn_r _ [721, 702, 703, 689, 690, 691, 5, 692, 693, 125, 618, 619, 620, 621, 126, 118, 115, 119, 116, 591, 592, 593, 594, 114, 108, 523, 524, 525, 526, 113, 109, 117, 111, 112, 104, 106, 107, 527, 528, 529, 530, 110, 228, 229, 230, 519, 520, 521, 522, 694, 695, 696, 697, 622, 623, 624, 625, 698, 699, 700, 701, 152, 153, 154, 155, 156, 742, 743, 744, 745, 746, 747, 748, 749, 750, 751, 752, 753, 754, 755, 756, 757, 758, 759, 760, 761, 762, 763] (by decide +kernel) (by decide +kernel)
set_option maxRecDepth 20000 in
theorem gL_law_X8_blamed : GoodIn wsL_law (wsV RL 157 RX8 yX8_blamed wsX8_blamed) := goodIn_app (goodIn_of _ (by decide +kernel)) ggL_law_X8_blamed
set_option maxRecDepth 20000 in
theorem ggL_law_X7_explanations : GoodIn wsL_law wsX7_explanations := goodIn_r _ [725, 33, 16, 20, 29, 430, 431, 432, 2, 433, 34, 28, 142, 434, 435, 436, 27, 437, 63, 65, 66, 67, 438, 439, 440, 62, 441, 442, 72, 443, 280, 281, 43, 282, 50, 283, 284, 285, 286, 444, 242, 243, 19, 244, 147, 445, 289, 290, 291, 44, 292, 293, 294, 295, 446, 447, 448, 449, 450, 451, 452, 453, 454, 455, 456, 303, 304, 457, 458, 459, 460, 305, 306, 461, 462, 463, 464, 465, 466, 467, 15, 468, 87, 469, 470, 471, 472, 85, 473, 474, 475, 476, 86, 96, 97, 307, 308, 477, 478, 479, 480, 253, 254, 255, 309, 310, 481, 482, 483, 484, 485, 486, 487, 488, 489, 490, 491, 492, 493, 494, 495, 496, 497, 498, 499, 500, 501, 502, 503, 504, 505, 506, 507, 32, 508, 509, 641, 642, 643, 644, 645, 646, 647, 648, 649, 650, 651, 652, 653, 654, 79, 655, 656, 657, 658, 659, 660, 511, 512, 513, 514, 661, 662, 539, 540, 541, 663, 664, 665, 666, 667, 668, 669, 670, 671, 672, 673, 166, 167, 168, 84, 674, 675, 676, 677, 678, 679, 680, 726, 727, 728, 729, 734, 735, 736, 737, 738, 739, 740, 741, 771, 772, 773, 774, 782, 783, 784, 785, 786, 781, 768, 769, 764, 765, 766, 767, 775, 776, 777, 778, 779, 780] (by decide +kernel) (by decide +kernel)
set_option maxRecDepth 20000 in
theorem gL_law_X7_explanations : GoodIn wsL_law (wsV RL 158 RX7 yX7_explanations wsX7_explanations) := goodIn_app (goodIn_of _ (by decide +kernel)) ggL_law_X7_explanations
set_option maxRecDepth 20000 in
theorem ggL_law_X8_explanations : GoodIn wsL_law wsX8_explanations := goodIn_r _ [733, 156, 693, 689, 690, 691, 5, 692, 125, 618, 619, 620, 621, 126, 118, 115, 119, 116, 591, 592, 593, 594, 114, 108, 523, 524, 525, 526, 113, 109, 117, 111, 112, 104, 106, 107, 527, 528, 529, 530, 110, 228, 229, 230, 519, 520, 521, 522, 694, 695, 696, 697, 622, 623, 624, 625, 698, 699, 700, 701, 702, 703, 742, 743, 744, 745, 746, 747, 748, 749, 750, 751, 752, 753, 754, 755, 756, 757, 758, 759, 760, 761, 762, 763] (by decide +kernel) (by decide +kernel)
set_option maxRecDepth 20000 in
theorem gL_law_X8_explanations : GoodIn wsL_law (wsV RL 161 RX8 yX8_explanations wsX8_explanations) := goodIn_app (goodIn_of _ (by decide +kernel)) ggL_law_X8_explanations
theorem dL_law_0 : decode cL_law 0 = .ok (.new 8, 3) := by decide +kernel
theorem dL_law_3 : decode cL_law 3 = .ok (.dup, 1) := by decide +kernel
theorem dL_law_4 : decode cL_law 4 = .ok (.invokespecial 68, 3) := by decide +kernel
theorem dL_law_7 : decode cL_law 7 = .ok (.astore_n 1, 1) := by decide +kernel
theorem dL_law_8 : decode cL_law 8 = .ok (.new 69, 3) := by decide +kernel
theorem dL_law_11 : decode cL_law 11 = .ok (.dup, 1) := by decide +kernel
theorem dL_law_12 : decode cL_law 12 = .ok (.invokespecial 71, 3) := by decide +kernel
theorem dL_law_15 : decode cL_law 15 = .ok (.astore_n 2, 1) := by decide +kernel
theorem dL_law_16 : decode cL_law 16 = .ok (.iconst 1, 1) := by decide +kernel
theorem dL_law_17 : decode cL_law 17 = .ok (.newarray .long, 2) := by decide +kernel
theorem dL_law_19 : decode cL_law 19 = .ok (.astore_n 3, 1) := by decide +kernel
theorem dL_law_20 : decode cL_law 20 = .ok (.iconst 0, 1) := by decide +kernel
theorem dL_law_21 : decode cL_law 21 = .ok (.istore 4, 2) := by decide +kernel
theorem dL_law_23 : decode cL_law 23 = .ok (.iload 4, 2) := by decide +kernel
theorem dL_law_25 : decode cL_law 25 = .ok (.aload_n 0, 1) := by decide +kernel
theorem dL_law_26 : decode cL_law 26 = .ok (.arraylength, 1) := by decide +kernel
theorem dL_law_27 : decode cL_law 27 = .ok (.iconst 5, 1) := by decide +kernel
theorem dL_law_28 : decode cL_law 28 = .ok (.isub, 1) := by decide +kernel
theorem dL_law_29 : decode cL_law 29 = .ok (.if_icmp .gt 1095, 3) := by decide +kernel
theorem dL_law_32 : decode cL_law 32 = .ok (.aload_n 0, 1) := by decide +kernel
theorem dL_law_33 : decode cL_law 33 = .ok (.iload 4, 2) := by decide +kernel
theorem dL_law_35 : decode cL_law 35 = .ok (.iaload, 1) := by decide +kernel
theorem dL_law_36 : decode cL_law 36 = .ok (.bipush 31, 2) := by decide +kernel
theorem dL_law_38 : decode cL_law 38 = .ok (.iand, 1) := by decide +kernel
theorem dL_law_39 : decode cL_law 39 = .ok (.tableswitch 1079 0 22 #[105, 141, 154, 202, 262, 337, 429, 473, 484, 497, 553, 566, 579, 635, 691, 747, 815, 871, 927, 941, 997, 1010, 1066], 105) := by decide +kernel
theorem dL_law_144 : decode cL_law 144 = .ok (.aload_n 1, 1) := by decide +kernel
theorem dL_law_145 : decode cL_law 145 = .ok (.aload_n 0, 1) := by decide +kernel
theorem dL_law_146 : decode cL_law 146 = .ok (.iload 4, 2) := by decide +kernel
theorem dL_law_148 : decode cL_law 148 = .ok (.iconst 1, 1) := by decide +kernel
theorem dL_law_149 : decode cL_law 149 = .ok (.iadd, 1) := by decide +kernel
theorem dL_law_150 : decode cL_law 150 = .ok (.iaload, 1) := by decide +kernel
theorem dL_law_151 : decode cL_law 151 = .ok (.invokestatic 72, 3) := by decide +kernel
theorem dL_law_154 : decode cL_law 154 = .ok (.istore 5, 2) := by decide +kernel
theorem dL_law_156 : decode cL_law 156 = .ok (.aload_n 2, 1) := by decide +kernel
theorem dL_law_157 : decode cL_law 157 = .ok (.aload_n 0, 1) := by decide +kernel
theorem dL_law_158 : decode cL_law 158 = .ok (.iload 4, 2) := by decide +kernel
theorem dL_law_160 : decode cL_law 160 = .ok (.iconst 1, 1) := by decide +kernel
theorem dL_law_161 : decode cL_law 161 = .ok (.iadd, 1) := by decide +kernel
theorem dL_law_162 : decode cL_law 162 = .ok (.iaload, 1) := by decide +kernel
theorem dL_law_163 : decode cL_law 163 = .ok (.invokevirtual 77, 3) := by decide +kernel
theorem dL_law_166 : decode cL_law 166 = .ok (.aload_n 2, 1) := by decide +kernel
theorem dL_law_167 : decode cL_law 167 = .ok (.invokevirtual 78, 3) := by decide +kernel
theorem dL_law_170 : decode cL_law 170 = .ok (.iload 5, 2) := by decide +kernel
theorem dL_law_172 : decode cL_law 172 = .ok (.if_icmp .eq 5, 3) := by decide +kernel
theorem dL_law_175 : decode cL_law 175 = .ok (.iconst 0, 1) := by decide +kernel
theorem dL_law_176 : decode cL_law 176 = .ok (.ireturn, 1) := by decide +kernel
theorem dL_law_177 : decode cL_law 177 = .ok (.goto 941, 3) := by decide +kernel
theorem dL_law_180 : decode cL_law 180 = .ok (.aload_n 1, 1) := by decide +kernel
theorem dL_law_181 : decode cL_law 181 = .ok (.invokevirtual 81, 3) := by decide +kernel
theorem dL_law_184 : decode cL_law 184 = .ok (.aload_n 2, 1) := by decide +kernel
theorem dL_law_185 : decode cL_law 185 = .ok (.invokevirtual 84, 3) := by decide +kernel
theorem dL_law_188 : decode cL_law 188 = .ok (.if_icmp .eq 930, 3) := by decide +kernel
theorem dL_law_191 : decode cL_law 191 = .ok (.iconst 0, 1) := by decide +kernel
theorem dL_law_192 : decode cL_law 192 = .ok (.ireturn, 1) := by decide +kernel
theorem dL_law_193 : decode cL_law 193 = .ok (.aload_n 1, 1) := by decide +kernel
theorem dL_law_194 : decode cL_law 194 = .ok (.aload_n 0, 1) := by decide +kernel
theorem dL_law_195 : decode cL_law 195 = .ok (.iload 4, 2) := by decide +kernel
theorem dL_law_197 : decode cL_law 197 = .ok (.iconst 1, 1) := by decide +kernel
theorem dL_law_198 : decode cL_law 198 = .ok (.iadd, 1) := by decide +kernel
theorem dL_law_199 : decode cL_law 199 = .ok (.iaload, 1) := by decide +kernel
theorem dL_law_200 : decode cL_law 200 = .ok (.aload_n 0, 1) := by decide +kernel
theorem dL_law_201 : decode cL_law 201 = .ok (.iload 4, 2) := by decide +kernel
theorem dL_law_203 : decode cL_law 203 = .ok (.iconst 2, 1) := by decide +kernel
theorem dL_law_204 : decode cL_law 204 = .ok (.iadd, 1) := by decide +kernel
theorem dL_law_205 : decode cL_law 205 = .ok (.iaload, 1) := by decide +kernel
theorem dL_law_206 : decode cL_law 206 = .ok (.invokestatic 85, 3) := by decide +kernel
theorem dL_law_209 : decode cL_law 209 = .ok (.istore 5, 2) := by decide +kernel
theorem dL_law_211 : decode cL_law 211 = .ok (.aload_n 2, 1) := by decide +kernel
theorem dL_law_212 : decode cL_law 212 = .ok (.aload_n 0, 1) := by decide +kernel
theorem dL_law_213 : decode cL_law 213 = .ok (.iload 4, 2) := by decide +kernel
theorem dL_law_215 : decode cL_law 215 = .ok (.iconst 1, 1) := by decide +kernel
theorem dL_law_216 : decode cL_law 216 = .ok (.iadd, 1) := by decide +kernel
theorem dL_law_217 : decode cL_law 217 = .ok (.iaload, 1) := by decide +kernel
theorem dL_law_218 : decode cL_law 218 = .ok (.aload_n 0, 1) := by decide +kernel
theorem dL_law_219 : decode cL_law 219 = .ok (.iload 4, 2) := by decide +kernel
theorem dL_law_221 : decode cL_law 221 = .ok (.iconst 2, 1) := by decide +kernel
theorem dL_law_222 : decode cL_law 222 = .ok (.iadd, 1) := by decide +kernel
theorem dL_law_223 : decode cL_law 223 = .ok (.iaload, 1) := by decide +kernel
theorem dL_law_224 : decode cL_law 224 = .ok (.invokevirtual 88, 3) := by decide +kernel
theorem dL_law_227 : decode cL_law 227 = .ok (.aload_n 2, 1) := by decide +kernel
theorem dL_law_228 : decode cL_law 228 = .ok (.invokevirtual 78, 3) := by decide +kernel
theorem dL_law_231 : decode cL_law 231 = .ok (.iload 5, 2) := by decide +kernel
theorem dL_law_233 : decode cL_law 233 = .ok (.if_icmp .eq 5, 3) := by decide +kernel
theorem dL_law_236 : decode cL_law 236 = .ok (.iconst 0, 1) := by decide +kernel
theorem dL_law_237 : decode cL_law 237 = .ok (.ireturn, 1) := by decide +kernel
theorem dL_law_238 : decode cL_law 238 = .ok (.goto 880, 3) := by decide +kernel
theorem dL_law_241 : decode cL_law 241 = .ok (.aload_n 1, 1) := by decide +kernel
theorem dL_law_242 : decode cL_law 242 = .ok (.aload_n 0, 1) := by decide +kernel
theorem dL_law_243 : decode cL_law 243 = .ok (.iload 4, 2) := by decide +kernel
theorem dL_law_245 : decode cL_law 245 = .ok (.iconst 1, 1) := by decide +kernel
theorem dL_law_246 : decode cL_law 246 = .ok (.iadd, 1) := by decide +kernel
theorem dL_law_247 : decode cL_law 247 = .ok (.iaload, 1) := by decide +kernel
theorem dL_law_248 : decode cL_law 248 = .ok (.aload_n 0, 1) := by decide +kernel
theorem dL_law_249 : decode cL_law 249 = .ok (.iload 4, 2) := by decide +kernel
theorem dL_law_251 : decode cL_law 251 = .ok (.iconst 2, 1) := by decide +kernel
theorem dL_law_252 : decode cL_law 252 = .ok (.iadd, 1) := by decide +kernel
theorem dL_law_253 : decode cL_law 253 = .ok (.iaload, 1) := by decide +kernel
theorem dL_law_254 : decode cL_law 254 = .ok (.aload_n 0, 1) := by decide +kernel
theorem dL_law_255 : decode cL_law 255 = .ok (.iload 4, 2) := by decide +kernel
theorem dL_law_257 : decode cL_law 257 = .ok (.iconst 3, 1) := by decide +kernel
theorem dL_law_258 : decode cL_law 258 = .ok (.iadd, 1) := by decide +kernel
theorem dL_law_259 : decode cL_law 259 = .ok (.iaload, 1) := by decide +kernel
theorem dL_law_260 : decode cL_law 260 = .ok (.invokestatic 89, 3) := by decide +kernel
theorem dL_law_263 : decode cL_law 263 = .ok (.istore 5, 2) := by decide +kernel
theorem dL_law_265 : decode cL_law 265 = .ok (.aload_n 2, 1) := by decide +kernel
theorem dL_law_266 : decode cL_law 266 = .ok (.aload_n 0, 1) := by decide +kernel
theorem dL_law_267 : decode cL_law 267 = .ok (.iload 4, 2) := by decide +kernel
theorem dL_law_269 : decode cL_law 269 = .ok (.iconst 1, 1) := by decide +kernel
theorem dL_law_270 : decode cL_law 270 = .ok (.iadd, 1) := by decide +kernel
theorem dL_law_271 : decode cL_law 271 = .ok (.iaload, 1) := by decide +kernel
theorem dL_law_272 : decode cL_law 272 = .ok (.aload_n 0, 1) := by decide +kernel
theorem dL_law_273 : decode cL_law 273 = .ok (.iload 4, 2) := by decide +kernel
theorem dL_law_275 : decode cL_law 275 = .ok (.iconst 2, 1) := by decide +kernel
theorem dL_law_276 : decode cL_law 276 = .ok (.iadd, 1) := by decide +kernel
theorem dL_law_277 : decode cL_law 277 = .ok (.iaload, 1) := by decide +kernel
theorem dL_law_278 : decode cL_law 278 = .ok (.aload_n 0, 1) := by decide +kernel
theorem dL_law_279 : decode cL_law 279 = .ok (.iload 4, 2) := by decide +kernel
theorem dL_law_281 : decode cL_law 281 = .ok (.iconst 3, 1) := by decide +kernel
theorem dL_law_282 : decode cL_law 282 = .ok (.iadd, 1) := by decide +kernel
theorem dL_law_283 : decode cL_law 283 = .ok (.iaload, 1) := by decide +kernel
theorem dL_law_284 : decode cL_law 284 = .ok (.invokevirtual 92, 3) := by decide +kernel
theorem dL_law_287 : decode cL_law 287 = .ok (.aload_n 2, 1) := by decide +kernel
theorem dL_law_288 : decode cL_law 288 = .ok (.invokevirtual 78, 3) := by decide +kernel
theorem dL_law_291 : decode cL_law 291 = .ok (.iload 5, 2) := by decide +kernel
theorem dL_law_293 : decode cL_law 293 = .ok (.if_icmp .eq 5, 3) := by decide +kernel
theorem dL_law_296 : decode cL_law 296 = .ok (.iconst 0, 1) := by decide +kernel
theorem dL_law_297 : decode cL_law 297 = .ok (.ireturn, 1) := by decide +kernel
theorem dL_law_298 : decode cL_law 298 = .ok (.goto 820, 3) := by decide +kernel
theorem dL_law_301 : decode cL_law 301 = .ok (.aload_n 1, 1) := by decide +kernel
theorem dL_law_302 : decode cL_law 302 = .ok (.aload_n 0, 1) := by decide +kernel
theorem dL_law_303 : decode cL_law 303 = .ok (.iload 4, 2) := by decide +kernel
theorem dL_law_305 : decode cL_law 305 = .ok (.iconst 1, 1) := by decide +kernel
theorem dL_law_306 : decode cL_law 306 = .ok (.iadd, 1) := by decide +kernel
theorem dL_law_307 : decode cL_law 307 = .ok (.iaload, 1) := by decide +kernel
theorem dL_law_308 : decode cL_law 308 = .ok (.aload_n 0, 1) := by decide +kernel
theorem dL_law_309 : decode cL_law 309 = .ok (.iload 4, 2) := by decide +kernel
theorem dL_law_311 : decode cL_law 311 = .ok (.iconst 2, 1) := by decide +kernel
theorem dL_law_312 : decode cL_law 312 = .ok (.iadd, 1) := by decide +kernel
theorem dL_law_313 : decode cL_law 313 = .ok (.iaload, 1) := by decide +kernel
theorem dL_law_314 : decode cL_law 314 = .ok (.aload_n 3, 1) := by decide +kernel
theorem dL_law_315 : decode cL_law 315 = .ok (.invokestatic 93, 3) := by decide +kernel
theorem dL_law_318 : decode cL_law 318 = .ok (.istore 5, 2) := by decide +kernel
theorem dL_law_320 : decode cL_law 320 = .ok (.aload_n 2, 1) := by decide +kernel
theorem dL_law_321 : decode cL_law 321 = .ok (.aload_n 0, 1) := by decide +kernel
theorem dL_law_322 : decode cL_law 322 = .ok (.iload 4, 2) := by decide +kernel
theorem dL_law_324 : decode cL_law 324 = .ok (.iconst 1, 1) := by decide +kernel
theorem dL_law_325 : decode cL_law 325 = .ok (.iadd, 1) := by decide +kernel
theorem dL_law_326 : decode cL_law 326 = .ok (.iaload, 1) := by decide +kernel
theorem dL_law_327 : decode cL_law 327 = .ok (.aload_n 0, 1) := by decide +kernel
theorem dL_law_328 : decode cL_law 328 = .ok (.iload 4, 2) := by decide +kernel
theorem dL_law_330 : decode cL_law 330 = .ok (.iconst 2, 1) := by decide +kernel
theorem dL_law_331 : decode cL_law 331 = .ok (.iadd, 1) := by decide +kernel
theorem dL_law_332 : decode cL_law 332 = .ok (.iaload, 1) := by decide +kernel
theorem dL_law_333 : decode cL_law 333 = .ok (.invokevirtual 96, 3) := by decide +kernel
theorem dL_law_336 : decode cL_law 336 = .ok (.istore 6, 2) := by decide +kernel
theorem dL_law_338 : decode cL_law 338 = .ok (.aload_n 2, 1) := by decide +kernel
theorem dL_law_339 : decode cL_law 339 = .ok (.invokevirtual 78, 3) := by decide +kernel
theorem dL_law_342 : decode cL_law 342 = .ok (.iload 5, 2) := by decide +kernel
theorem dL_law_344 : decode cL_law 344 = .ok (.if_icmp .eq 5, 3) := by decide +kernel
theorem dL_law_347 : decode cL_law 347 = .ok (.iconst 0, 1) := by decide +kernel
theorem dL_law_348 : decode cL_law 348 = .ok (.ireturn, 1) := by decide +kernel
theorem dL_law_349 : decode cL_law 349 = .ok (.iload 5, 2) := by decide +kernel
theorem dL_law_351 : decode cL_law 351 = .ok (.ifCond .ne 22, 3) := by decide +kernel
theorem dL_law_354 : decode cL_law 354 = .ok (.aload_n 3, 1) := by decide +kernel
theorem dL_law_355 : decode cL_law 355 = .ok (.iconst 0, 1) := by decide +kernel
theorem dL_law_356 : decode cL_law 356 = .ok (.laload, 1) := by decide +kernel
theorem dL_law_357 : decode cL_law 357 = .ok (.iload 6, 2) := by decide +kernel
theorem dL_law_359 : decode cL_law 359 = .ok (.ifCond .eq 7, 3) := by decide +kernel
theorem dL_law_362 : decode cL_law 362 = .ok (.lconst 1, 1) := by decide +kernel
theorem dL_law_363 : decode cL_law 363 = .ok (.goto 4, 3) := by decide +kernel
theorem dL_law_366 : decode cL_law 366 = .ok (.lconst 0, 1) := by decide +kernel
theorem dL_law_367 : decode cL_law 367 = .ok (.lcmp, 1) := by decide +kernel
theorem dL_law_368 : decode cL_law 368 = .ok (.ifCond .eq 5, 3) := by decide +kernel
theorem dL_law_371 : decode cL_law 371 = .ok (.iconst 0, 1) := by decide +kernel
theorem dL_law_372 : decode cL_law 372 = .ok (.ireturn, 1) := by decide +kernel
theorem dL_law_373 : decode cL_law 373 = .ok (.goto 745, 3) := by decide +kernel
theorem dL_law_376 : decode cL_law 376 = .ok (.aload_n 1, 1) := by decide +kernel
theorem dL_law_377 : decode cL_law 377 = .ok (.aload_n 0, 1) := by decide +kernel
theorem dL_law_378 : decode cL_law 378 = .ok (.iload 4, 2) := by decide +kernel
theorem dL_law_380 : decode cL_law 380 = .ok (.iconst 1, 1) := by decide +kernel
theorem dL_law_381 : decode cL_law 381 = .ok (.iadd, 1) := by decide +kernel
theorem dL_law_382 : decode cL_law 382 = .ok (.iaload, 1) := by decide +kernel
theorem dL_law_383 : decode cL_law 383 = .ok (.aload_n 0, 1) := by decide +kernel
theorem dL_law_384 : decode cL_law 384 = .ok (.iload 4, 2) := by decide +kernel
theorem dL_law_386 : decode cL_law 386 = .ok (.iconst 2, 1) := by decide +kernel
theorem dL_law_387 : decode cL_law 387 = .ok (.iadd, 1) := by decide +kernel
theorem dL_law_388 : decode cL_law 388 = .ok (.iaload, 1) := by decide +kernel
theorem dL_law_389 : decode cL_law 389 = .ok (.aload_n 0, 1) := by decide +kernel
theorem dL_law_390 : decode cL_law 390 = .ok (.iload 4, 2) := by decide +kernel
theorem dL_law_392 : decode cL_law 392 = .ok (.iconst 3, 1) := by decide +kernel
theorem dL_law_393 : decode cL_law 393 = .ok (.iadd, 1) := by decide +kernel
theorem dL_law_394 : decode cL_law 394 = .ok (.iaload, 1) := by decide +kernel
theorem dL_law_395 : decode cL_law 395 = .ok (.aload_n 0, 1) := by decide +kernel
theorem dL_law_396 : decode cL_law 396 = .ok (.iload 4, 2) := by decide +kernel
theorem dL_law_398 : decode cL_law 398 = .ok (.iconst 4, 1) := by decide +kernel
theorem dL_law_399 : decode cL_law 399 = .ok (.iadd, 1) := by decide +kernel
theorem dL_law_400 : decode cL_law 400 = .ok (.iaload, 1) := by decide +kernel
theorem dL_law_401 : decode cL_law 401 = .ok (.aload_n 3, 1) := by decide +kernel
theorem dL_law_402 : decode cL_law 402 = .ok (.invokestatic 97, 3) := by decide +kernel
theorem dL_law_405 : decode cL_law 405 = .ok (.istore 5, 2) := by decide +kernel
theorem dL_law_407 : decode cL_law 407 = .ok (.aload_n 2, 1) := by decide +kernel
theorem dL_law_408 : decode cL_law 408 = .ok (.aload_n 0, 1) := by decide +kernel
theorem dL_law_409 : decode cL_law 409 = .ok (.iload 4, 2) := by decide +kernel
theorem dL_law_411 : decode cL_law 411 = .ok (.iconst 1, 1) := by decide +kernel
theorem dL_law_412 : decode cL_law 412 = .ok (.iadd, 1) := by decide +kernel
theorem dL_law_413 : decode cL_law 413 = .ok (.iaload, 1) := by decide +kernel
theorem dL_law_414 : decode cL_law 414 = .ok (.aload_n 0, 1) := by decide +kernel
theorem dL_law_415 : decode cL_law 415 = .ok (.iload 4, 2) := by decide +kernel
theorem dL_law_417 : decode cL_law 417 = .ok (.iconst 2, 1) := by decide +kernel
theorem dL_law_418 : decode cL_law 418 = .ok (.iadd, 1) := by decide +kernel
theorem dL_law_419 : decode cL_law 419 = .ok (.iaload, 1) := by decide +kernel
theorem dL_law_420 : decode cL_law 420 = .ok (.aload_n 0, 1) := by decide +kernel
theorem dL_law_421 : decode cL_law 421 = .ok (.iload 4, 2) := by decide +kernel
theorem dL_law_423 : decode cL_law 423 = .ok (.iconst 3, 1) := by decide +kernel
theorem dL_law_424 : decode cL_law 424 = .ok (.iadd, 1) := by decide +kernel
theorem dL_law_425 : decode cL_law 425 = .ok (.iaload, 1) := by decide +kernel
theorem dL_law_426 : decode cL_law 426 = .ok (.aload_n 0, 1) := by decide +kernel
theorem dL_law_427 : decode cL_law 427 = .ok (.iload 4, 2) := by decide +kernel
theorem dL_law_429 : decode cL_law 429 = .ok (.iconst 4, 1) := by decide +kernel
theorem dL_law_430 : decode cL_law 430 = .ok (.iadd, 1) := by decide +kernel
theorem dL_law_431 : decode cL_law 431 = .ok (.iaload, 1) := by decide +kernel
theorem dL_law_432 : decode cL_law 432 = .ok (.invokevirtual 100, 3) := by decide +kernel
theorem dL_law_435 : decode cL_law 435 = .ok (.istore 6, 2) := by decide +kernel
theorem dL_law_437 : decode cL_law 437 = .ok (.aload_n 2, 1) := by decide +kernel
theorem dL_law_438 : decode cL_law 438 = .ok (.invokevirtual 78, 3) := by decide +kernel
theorem dL_law_441 : decode cL_law 441 = .ok (.iload 5, 2) := by decide +kernel
theorem dL_law_443 : decode cL_law 443 = .ok (.if_icmp .eq 5, 3) := by decide +kernel
theorem dL_law_446 : decode cL_law 446 = .ok (.iconst 0, 1) := by decide +kernel
theorem dL_law_447 : decode cL_law 447 = .ok (.ireturn, 1) := by decide +kernel
theorem dL_law_448 : decode cL_law 448 = .ok (.iload 5, 2) := by decide +kernel
theorem dL_law_450 : decode cL_law 450 = .ok (.ifCond .ne 15, 3) := by decide +kernel
theorem dL_law_453 : decode cL_law 453 = .ok (.aload_n 3, 1) := by decide +kernel
theorem dL_law_454 : decode cL_law 454 = .ok (.iconst 0, 1) := by decide +kernel
theorem dL_law_455 : decode cL_law 455 = .ok (.laload, 1) := by decide +kernel
theorem dL_law_456 : decode cL_law 456 = .ok (.iload 6, 2) := by decide +kernel
theorem dL_law_458 : decode cL_law 458 = .ok (.i2l, 1) := by decide +kernel
theorem dL_law_459 : decode cL_law 459 = .ok (.lcmp, 1) := by decide +kernel
theorem dL_law_460 : decode cL_law 460 = .ok (.ifCond .eq 5, 3) := by decide +kernel
theorem dL_law_463 : decode cL_law 463 = .ok (.iconst 0, 1) := by decide +kernel
theorem dL_law_464 : decode cL_law 464 = .ok (.ireturn, 1) := by decide +kernel
theorem dL_law_465 : decode cL_law 465 = .ok (.goto 653, 3) := by decide +kernel
theorem dL_law_468 : decode cL_law 468 = .ok (.aload_n 1, 1) := by decide +kernel
theorem dL_law_469 : decode cL_law 469 = .ok (.aload_n 3, 1) := by decide +kernel
theorem dL_law_470 : decode cL_law 470 = .ok (.invokestatic 101, 3) := by decide +kernel
theorem dL_law_473 : decode cL_law 473 = .ok (.istore 5, 2) := by decide +kernel
theorem dL_law_475 : decode cL_law 475 = .ok (.aload_n 2, 1) := by decide +kernel
theorem dL_law_476 : decode cL_law 476 = .ok (.invokevirtual 104, 3) := by decide +kernel
theorem dL_law_479 : decode cL_law 479 = .ok (.istore 6, 2) := by decide +kernel
theorem dL_law_481 : decode cL_law 481 = .ok (.aload_n 2, 1) := by decide +kernel
theorem dL_law_482 : decode cL_law 482 = .ok (.invokevirtual 78, 3) := by decide +kernel
theorem dL_law_485 : decode cL_law 485 = .ok (.iload 5, 2) := by decide +kernel
theorem dL_law_487 : decode cL_law 487 = .ok (.if_icmp .eq 5, 3) := by decide +kernel
theorem dL_law_490 : decode cL_law 490 = .ok (.iconst 0, 1) := by decide +kernel
theorem dL_law_491 : decode cL_law 491 = .ok (.ireturn, 1) := by decide +kernel
theorem dL_law_492 : decode cL_law 492 = .ok (.iload 5, 2) := by decide +kernel
theorem dL_law_494 : decode cL_law 494 = .ok (.ifCond .ne 15, 3) := by decide +kernel
theorem dL_law_497 : decode cL_law 497 = .ok (.aload_n 3, 1) := by decide +kernel
theorem dL_law_498 : decode cL_law 498 = .ok (.iconst 0, 1) := by decide +kernel
theorem dL_law_499 : decode cL_law 499 = .ok (.laload, 1) := by decide +kernel
theorem dL_law_500 : decode cL_law 500 = .ok (.iload 6, 2) := by decide +kernel
theorem dL_law_502 : decode cL_law 502 = .ok (.i2l, 1) := by decide +kernel
theorem dL_law_503 : decode cL_law 503 = .ok (.lcmp, 1) := by decide +kernel
theorem dL_law_504 : decode cL_law 504 = .ok (.ifCond .eq 5, 3) := by decide +kernel
theorem dL_law_507 : decode cL_law 507 = .ok (.iconst 0, 1) := by decide +kernel
theorem dL_law_508 : decode cL_law 508 = .ok (.ireturn, 1) := by decide +kernel
theorem dL_law_509 : decode cL_law 509 = .ok (.goto 609, 3) := by decide +kernel
theorem dL_law_512 : decode cL_law 512 = .ok (.aload_n 1, 1) := by decide +kernel
theorem dL_law_513 : decode cL_law 513 = .ok (.invokevirtual 105, 3) := by decide +kernel
theorem dL_law_516 : decode cL_law 516 = .ok (.aload_n 2, 1) := by decide +kernel
theorem dL_law_517 : decode cL_law 517 = .ok (.invokevirtual 108, 3) := by decide +kernel
theorem dL_law_520 : decode cL_law 520 = .ok (.goto 598, 3) := by decide +kernel
theorem dL_law_523 : decode cL_law 523 = .ok (.aload_n 1, 1) := by decide +kernel
theorem dL_law_524 : decode cL_law 524 = .ok (.invokevirtual 109, 3) := by decide +kernel
theorem dL_law_527 : decode cL_law 527 = .ok (.aload_n 2, 1) := by decide +kernel
theorem dL_law_528 : decode cL_law 528 = .ok (.invokevirtual 112, 3) := by decide +kernel
theorem dL_law_531 : decode cL_law 531 = .ok (.if_icmp .eq 587, 3) := by decide +kernel
theorem dL_law_534 : decode cL_law 534 = .ok (.iconst 0, 1) := by decide +kernel
theorem dL_law_535 : decode cL_law 535 = .ok (.ireturn, 1) := by decide +kernel
theorem dL_law_536 : decode cL_law 536 = .ok (.aload_n 1, 1) := by decide +kernel
theorem dL_law_537 : decode cL_law 537 = .ok (.aload_n 0, 1) := by decide +kernel
theorem dL_law_538 : decode cL_law 538 = .ok (.iload 4, 2) := by decide +kernel
theorem dL_law_540 : decode cL_law 540 = .ok (.iconst 1, 1) := by decide +kernel
theorem dL_law_541 : decode cL_law 541 = .ok (.iadd, 1) := by decide +kernel
theorem dL_law_542 : decode cL_law 542 = .ok (.iaload, 1) := by decide +kernel
theorem dL_law_543 : decode cL_law 543 = .ok (.aload_n 3, 1) := by decide +kernel
theorem dL_law_544 : decode cL_law 544 = .ok (.invokestatic 113, 3) := by decide +kernel
theorem dL_law_547 : decode cL_law 547 = .ok (.istore 5, 2) := by decide +kernel
theorem dL_law_549 : decode cL_law 549 = .ok (.aload_n 2, 1) := by decide +kernel
theorem dL_law_550 : decode cL_law 550 = .ok (.aload_n 0, 1) := by decide +kernel
theorem dL_law_551 : decode cL_law 551 = .ok (.iload 4, 2) := by decide +kernel
theorem dL_law_553 : decode cL_law 553 = .ok (.iconst 1, 1) := by decide +kernel
theorem dL_law_554 : decode cL_law 554 = .ok (.iadd, 1) := by decide +kernel
theorem dL_law_555 : decode cL_law 555 = .ok (.iaload, 1) := by decide +kernel
theorem dL_law_556 : decode cL_law 556 = .ok (.invokevirtual 116, 3) := by decide +kernel
theorem dL_law_559 : decode cL_law 559 = .ok (.istore 6, 2) := by decide +kernel
theorem dL_law_561 : decode cL_law 561 = .ok (.aload_n 2, 1) := by decide +kernel
theorem dL_law_562 : decode cL_law 562 = .ok (.invokevirtual 78, 3) := by decide +kernel
theorem dL_law_565 : decode cL_law 565 = .ok (.iload 5, 2) := by decide +kernel
theorem dL_law_567 : decode cL_law 567 = .ok (.if_icmp .eq 5, 3) := by decide +kernel
theorem dL_law_570 : decode cL_law 570 = .ok (.iconst 0, 1) := by decide +kernel
theorem dL_law_571 : decode cL_law 571 = .ok (.ireturn, 1) := by decide +kernel
theorem dL_law_572 : decode cL_law 572 = .ok (.iload 5, 2) := by decide +kernel
theorem dL_law_574 : decode cL_law 574 = .ok (.ifCond .ne 15, 3) := by decide +kernel
theorem dL_law_577 : decode cL_law 577 = .ok (.aload_n 3, 1) := by decide +kernel
theorem dL_law_578 : decode cL_law 578 = .ok (.iconst 0, 1) := by decide +kernel
theorem dL_law_579 : decode cL_law 579 = .ok (.laload, 1) := by decide +kernel
theorem dL_law_580 : decode cL_law 580 = .ok (.iload 6, 2) := by decide +kernel
theorem dL_law_582 : decode cL_law 582 = .ok (.i2l, 1) := by decide +kernel
theorem dL_law_583 : decode cL_law 583 = .ok (.lcmp, 1) := by decide +kernel
theorem dL_law_584 : decode cL_law 584 = .ok (.ifCond .eq 5, 3) := by decide +kernel
theorem dL_law_587 : decode cL_law 587 = .ok (.iconst 0, 1) := by decide +kernel
theorem dL_law_588 : decode cL_law 588 = .ok (.ireturn, 1) := by decide +kernel
theorem dL_law_589 : decode cL_law 589 = .ok (.goto 529, 3) := by decide +kernel
theorem dL_law_592 : decode cL_law 592 = .ok (.aload_n 1, 1) := by decide +kernel
theorem dL_law_593 : decode cL_law 593 = .ok (.invokevirtual 117, 3) := by decide +kernel
theorem dL_law_596 : decode cL_law 596 = .ok (.aload_n 2, 1) := by decide +kernel
theorem dL_law_597 : decode cL_law 597 = .ok (.invokevirtual 120, 3) := by decide +kernel
theorem dL_law_600 : decode cL_law 600 = .ok (.if_icmp .eq 518, 3) := by decide +kernel
theorem dL_law_603 : decode cL_law 603 = .ok (.iconst 0, 1) := by decide +kernel
theorem dL_law_604 : decode cL_law 604 = .ok (.ireturn, 1) := by decide +kernel
theorem dL_law_605 : decode cL_law 605 = .ok (.aload_n 1, 1) := by decide +kernel
theorem dL_law_606 : decode cL_law 606 = .ok (.invokevirtual 121, 3) := by decide +kernel
theorem dL_law_609 : decode cL_law 609 = .ok (.aload_n 2, 1) := by decide +kernel
theorem dL_law_610 : decode cL_law 610 = .ok (.invokevirtual 124, 3) := by decide +kernel
theorem dL_law_613 : decode cL_law 613 = .ok (.if_icmp .eq 505, 3) := by decide +kernel
theorem dL_law_616 : decode cL_law 616 = .ok (.iconst 0, 1) := by decide +kernel
theorem dL_law_617 : decode cL_law 617 = .ok (.ireturn, 1) := by decide +kernel
theorem dL_law_618 : decode cL_law 618 = .ok (.aload_n 1, 1) := by decide +kernel
theorem dL_law_619 : decode cL_law 619 = .ok (.aload_n 0, 1) := by decide +kernel
theorem dL_law_620 : decode cL_law 620 = .ok (.iload 4, 2) := by decide +kernel
theorem dL_law_622 : decode cL_law 622 = .ok (.iconst 1, 1) := by decide +kernel
theorem dL_law_623 : decode cL_law 623 = .ok (.iadd, 1) := by decide +kernel
theorem dL_law_624 : decode cL_law 624 = .ok (.iaload, 1) := by decide +kernel
theorem dL_law_625 : decode cL_law 625 = .ok (.aload_n 3, 1) := by decide +kernel
theorem dL_law_626 : decode cL_law 626 = .ok (.invokestatic 125, 3) := by decide +kernel
theorem dL_law_629 : decode cL_law 629 = .ok (.istore 5, 2) := by decide +kernel
theorem dL_law_631 : decode cL_law 631 = .ok (.aload_n 2, 1) := by decide +kernel
theorem dL_law_632 : decode cL_law 632 = .ok (.aload_n 0, 1) := by decide +kernel
theorem dL_law_633 : decode cL_law 633 = .ok (.iload 4, 2) := by decide +kernel
theorem dL_law_635 : decode cL_law 635 = .ok (.iconst 1, 1) := by decide +kernel
theorem dL_law_636 : decode cL_law 636 = .ok (.iadd, 1) := by decide +kernel
theorem dL_law_637 : decode cL_law 637 = .ok (.iaload, 1) := by decide +kernel
theorem dL_law_638 : decode cL_law 638 = .ok (.invokevirtual 127, 3) := by decide +kernel
theorem dL_law_641 : decode cL_law 641 = .ok (.istore 6, 2) := by decide +kernel
theorem dL_law_643 : decode cL_law 643 = .ok (.aload_n 2, 1) := by decide +kernel
theorem dL_law_644 : decode cL_law 644 = .ok (.invokevirtual 78, 3) := by decide +kernel
theorem dL_law_647 : decode cL_law 647 = .ok (.iload 5, 2) := by decide +kernel
theorem dL_law_649 : decode cL_law 649 = .ok (.if_icmp .eq 5, 3) := by decide +kernel
theorem dL_law_652 : decode cL_law 652 = .ok (.iconst 0, 1) := by decide +kernel
theorem dL_law_653 : decode cL_law 653 = .ok (.ireturn, 1) := by decide +kernel
theorem dL_law_654 : decode cL_law 654 = .ok (.iload 5, 2) := by decide +kernel
theorem dL_law_656 : decode cL_law 656 = .ok (.ifCond .ne 15, 3) := by decide +kernel
theorem dL_law_659 : decode cL_law 659 = .ok (.aload_n 3, 1) := by decide +kernel
theorem dL_law_660 : decode cL_law 660 = .ok (.iconst 0, 1) := by decide +kernel
theorem dL_law_661 : decode cL_law 661 = .ok (.laload, 1) := by decide +kernel
theorem dL_law_662 : decode cL_law 662 = .ok (.iload 6, 2) := by decide +kernel
theorem dL_law_664 : decode cL_law 664 = .ok (.i2l, 1) := by decide +kernel
theorem dL_law_665 : decode cL_law 665 = .ok (.lcmp, 1) := by decide +kernel
theorem dL_law_666 : decode cL_law 666 = .ok (.ifCond .eq 5, 3) := by decide +kernel
theorem dL_law_669 : decode cL_law 669 = .ok (.iconst 0, 1) := by decide +kernel
theorem dL_law_670 : decode cL_law 670 = .ok (.ireturn, 1) := by decide +kernel
theorem dL_law_671 : decode cL_law 671 = .ok (.goto 447, 3) := by decide +kernel
theorem dL_law_674 : decode cL_law 674 = .ok (.aload_n 1, 1) := by decide +kernel
theorem dL_law_675 : decode cL_law 675 = .ok (.aload_n 0, 1) := by decide +kernel
theorem dL_law_676 : decode cL_law 676 = .ok (.iload 4, 2) := by decide +kernel
theorem dL_law_678 : decode cL_law 678 = .ok (.iconst 1, 1) := by decide +kernel
theorem dL_law_679 : decode cL_law 679 = .ok (.iadd, 1) := by decide +kernel
theorem dL_law_680 : decode cL_law 680 = .ok (.iaload, 1) := by decide +kernel
theorem dL_law_681 : decode cL_law 681 = .ok (.aload_n 3, 1) := by decide +kernel
theorem dL_law_682 : decode cL_law 682 = .ok (.invokestatic 128, 3) := by decide +kernel
theorem dL_law_685 : decode cL_law 685 = .ok (.istore 5, 2) := by decide +kernel
theorem dL_law_687 : decode cL_law 687 = .ok (.aload_n 2, 1) := by decide +kernel
theorem dL_law_688 : decode cL_law 688 = .ok (.aload_n 0, 1) := by decide +kernel
theorem dL_law_689 : decode cL_law 689 = .ok (.iload 4, 2) := by decide +kernel
theorem dL_law_691 : decode cL_law 691 = .ok (.iconst 1, 1) := by decide +kernel
theorem dL_law_692 : decode cL_law 692 = .ok (.iadd, 1) := by decide +kernel
theorem dL_law_693 : decode cL_law 693 = .ok (.iaload, 1) := by decide +kernel
theorem dL_law_694 : decode cL_law 694 = .ok (.invokevirtual 130, 3) := by decide +kernel
theorem dL_law_697 : decode cL_law 697 = .ok (.istore 6, 2) := by decide +kernel
theorem dL_law_699 : decode cL_law 699 = .ok (.aload_n 2, 1) := by decide +kernel
theorem dL_law_700 : decode cL_law 700 = .ok (.invokevirtual 78, 3) := by decide +kernel
theorem dL_law_703 : decode cL_law 703 = .ok (.iload 5, 2) := by decide +kernel
theorem dL_law_705 : decode cL_law 705 = .ok (.if_icmp .eq 5, 3) := by decide +kernel
theorem dL_law_708 : decode cL_law 708 = .ok (.iconst 0, 1) := by decide +kernel
theorem dL_law_709 : decode cL_law 709 = .ok (.ireturn, 1) := by decide +kernel
theorem dL_law_710 : decode cL_law 710 = .ok (.iload 5, 2) := by decide +kernel
theorem dL_law_712 : decode cL_law 712 = .ok (.ifCond .ne 15, 3) := by decide +kernel
theorem dL_law_715 : decode cL_law 715 = .ok (.aload_n 3, 1) := by decide +kernel
theorem dL_law_716 : decode cL_law 716 = .ok (.iconst 0, 1) := by decide +kernel
theorem dL_law_717 : decode cL_law 717 = .ok (.laload, 1) := by decide +kernel
theorem dL_law_718 : decode cL_law 718 = .ok (.iload 6, 2) := by decide +kernel
theorem dL_law_720 : decode cL_law 720 = .ok (.i2l, 1) := by decide +kernel
theorem dL_law_721 : decode cL_law 721 = .ok (.lcmp, 1) := by decide +kernel
theorem dL_law_722 : decode cL_law 722 = .ok (.ifCond .eq 5, 3) := by decide +kernel
theorem dL_law_725 : decode cL_law 725 = .ok (.iconst 0, 1) := by decide +kernel
theorem dL_law_726 : decode cL_law 726 = .ok (.ireturn, 1) := by decide +kernel
theorem dL_law_727 : decode cL_law 727 = .ok (.goto 391, 3) := by decide +kernel
theorem dL_law_730 : decode cL_law 730 = .ok (.aload_n 1, 1) := by decide +kernel
theorem dL_law_731 : decode cL_law 731 = .ok (.aload_n 0, 1) := by decide +kernel
theorem dL_law_732 : decode cL_law 732 = .ok (.iload 4, 2) := by decide +kernel
theorem dL_law_734 : decode cL_law 734 = .ok (.iconst 1, 1) := by decide +kernel
theorem dL_law_735 : decode cL_law 735 = .ok (.iadd, 1) := by decide +kernel
theorem dL_law_736 : decode cL_law 736 = .ok (.iaload, 1) := by decide +kernel
theorem dL_law_737 : decode cL_law 737 = .ok (.aload_n 3, 1) := by decide +kernel
theorem dL_law_738 : decode cL_law 738 = .ok (.invokestatic 131, 3) := by decide +kernel
theorem dL_law_741 : decode cL_law 741 = .ok (.istore 5, 2) := by decide +kernel
theorem dL_law_743 : decode cL_law 743 = .ok (.aload_n 2, 1) := by decide +kernel
theorem dL_law_744 : decode cL_law 744 = .ok (.aload_n 0, 1) := by decide +kernel
theorem dL_law_745 : decode cL_law 745 = .ok (.iload 4, 2) := by decide +kernel
theorem dL_law_747 : decode cL_law 747 = .ok (.iconst 1, 1) := by decide +kernel
theorem dL_law_748 : decode cL_law 748 = .ok (.iadd, 1) := by decide +kernel
theorem dL_law_749 : decode cL_law 749 = .ok (.iaload, 1) := by decide +kernel
theorem dL_law_750 : decode cL_law 750 = .ok (.invokevirtual 133, 3) := by decide +kernel
theorem dL_law_753 : decode cL_law 753 = .ok (.istore 6, 2) := by decide +kernel
theorem dL_law_755 : decode cL_law 755 = .ok (.aload_n 2, 1) := by decide +kernel
theorem dL_law_756 : decode cL_law 756 = .ok (.invokevirtual 78, 3) := by decide +kernel
theorem dL_law_759 : decode cL_law 759 = .ok (.iload 5, 2) := by decide +kernel
theorem dL_law_761 : decode cL_law 761 = .ok (.if_icmp .eq 5, 3) := by decide +kernel
theorem dL_law_764 : decode cL_law 764 = .ok (.iconst 0, 1) := by decide +kernel
theorem dL_law_765 : decode cL_law 765 = .ok (.ireturn, 1) := by decide +kernel
theorem dL_law_766 : decode cL_law 766 = .ok (.iload 5, 2) := by decide +kernel
theorem dL_law_768 : decode cL_law 768 = .ok (.ifCond .ne 15, 3) := by decide +kernel
theorem dL_law_771 : decode cL_law 771 = .ok (.aload_n 3, 1) := by decide +kernel
theorem dL_law_772 : decode cL_law 772 = .ok (.iconst 0, 1) := by decide +kernel
theorem dL_law_773 : decode cL_law 773 = .ok (.laload, 1) := by decide +kernel
theorem dL_law_774 : decode cL_law 774 = .ok (.iload 6, 2) := by decide +kernel
theorem dL_law_776 : decode cL_law 776 = .ok (.i2l, 1) := by decide +kernel
theorem dL_law_777 : decode cL_law 777 = .ok (.lcmp, 1) := by decide +kernel
theorem dL_law_778 : decode cL_law 778 = .ok (.ifCond .eq 5, 3) := by decide +kernel
theorem dL_law_781 : decode cL_law 781 = .ok (.iconst 0, 1) := by decide +kernel
theorem dL_law_782 : decode cL_law 782 = .ok (.ireturn, 1) := by decide +kernel
theorem dL_law_783 : decode cL_law 783 = .ok (.goto 335, 3) := by decide +kernel
theorem dL_law_786 : decode cL_law 786 = .ok (.aload_n 1, 1) := by decide +kernel
theorem dL_law_787 : decode cL_law 787 = .ok (.aload_n 0, 1) := by decide +kernel
theorem dL_law_788 : decode cL_law 788 = .ok (.iload 4, 2) := by decide +kernel
theorem dL_law_790 : decode cL_law 790 = .ok (.iconst 1, 1) := by decide +kernel
theorem dL_law_791 : decode cL_law 791 = .ok (.iadd, 1) := by decide +kernel
theorem dL_law_792 : decode cL_law 792 = .ok (.iaload, 1) := by decide +kernel
theorem dL_law_793 : decode cL_law 793 = .ok (.aload_n 0, 1) := by decide +kernel
theorem dL_law_794 : decode cL_law 794 = .ok (.iload 4, 2) := by decide +kernel
theorem dL_law_796 : decode cL_law 796 = .ok (.iconst 2, 1) := by decide +kernel
theorem dL_law_797 : decode cL_law 797 = .ok (.iadd, 1) := by decide +kernel
theorem dL_law_798 : decode cL_law 798 = .ok (.iaload, 1) := by decide +kernel
theorem dL_law_799 : decode cL_law 799 = .ok (.aload_n 3, 1) := by decide +kernel
theorem dL_law_800 : decode cL_law 800 = .ok (.invokestatic 134, 3) := by decide +kernel
theorem dL_law_803 : decode cL_law 803 = .ok (.istore 5, 2) := by decide +kernel
theorem dL_law_805 : decode cL_law 805 = .ok (.aload_n 2, 1) := by decide +kernel
theorem dL_law_806 : decode cL_law 806 = .ok (.aload_n 0, 1) := by decide +kernel
theorem dL_law_807 : decode cL_law 807 = .ok (.iload 4, 2) := by decide +kernel
theorem dL_law_809 : decode cL_law 809 = .ok (.iconst 1, 1) := by decide +kernel
theorem dL_law_810 : decode cL_law 810 = .ok (.iadd, 1) := by decide +kernel
theorem dL_law_811 : decode cL_law 811 = .ok (.iaload, 1) := by decide +kernel
theorem dL_law_812 : decode cL_law 812 = .ok (.aload_n 0, 1) := by decide +kernel
theorem dL_law_813 : decode cL_law 813 = .ok (.iload 4, 2) := by decide +kernel
theorem dL_law_815 : decode cL_law 815 = .ok (.iconst 2, 1) := by decide +kernel
theorem dL_law_816 : decode cL_law 816 = .ok (.iadd, 1) := by decide +kernel
theorem dL_law_817 : decode cL_law 817 = .ok (.iaload, 1) := by decide +kernel
theorem dL_law_818 : decode cL_law 818 = .ok (.invokevirtual 136, 3) := by decide +kernel
theorem dL_law_821 : decode cL_law 821 = .ok (.istore 6, 2) := by decide +kernel
theorem dL_law_823 : decode cL_law 823 = .ok (.aload_n 2, 1) := by decide +kernel
theorem dL_law_824 : decode cL_law 824 = .ok (.invokevirtual 78, 3) := by decide +kernel
theorem dL_law_827 : decode cL_law 827 = .ok (.iload 5, 2) := by decide +kernel
theorem dL_law_829 : decode cL_law 829 = .ok (.if_icmp .eq 5, 3) := by decide +kernel
theorem dL_law_832 : decode cL_law 832 = .ok (.iconst 0, 1) := by decide +kernel
theorem dL_law_833 : decode cL_law 833 = .ok (.ireturn, 1) := by decide +kernel
theorem dL_law_834 : decode cL_law 834 = .ok (.iload 5, 2) := by decide +kernel
theorem dL_law_836 : decode cL_law 836 = .ok (.ifCond .ne 15, 3) := by decide +kernel
theorem dL_law_839 : decode cL_law 839 = .ok (.aload_n 3, 1) := by decide +kernel
theorem dL_law_840 : decode cL_law 840 = .ok (.iconst 0, 1) := by decide +kernel
theorem dL_law_841 : decode cL_law 841 = .ok (.laload, 1) := by decide +kernel
theorem dL_law_842 : decode cL_law 842 = .ok (.iload 6, 2) := by decide +kernel
theorem dL_law_844 : decode cL_law 844 = .ok (.i2l, 1) := by decide +kernel
theorem dL_law_845 : decode cL_law 845 = .ok (.lcmp, 1) := by decide +kernel
theorem dL_law_846 : decode cL_law 846 = .ok (.ifCond .eq 5, 3) := by decide +kernel
theorem dL_law_849 : decode cL_law 849 = .ok (.iconst 0, 1) := by decide +kernel
theorem dL_law_850 : decode cL_law 850 = .ok (.ireturn, 1) := by decide +kernel
theorem dL_law_851 : decode cL_law 851 = .ok (.goto 267, 3) := by decide +kernel
theorem dL_law_854 : decode cL_law 854 = .ok (.aload_n 1, 1) := by decide +kernel
theorem dL_law_855 : decode cL_law 855 = .ok (.aload_n 0, 1) := by decide +kernel
theorem dL_law_856 : decode cL_law 856 = .ok (.iload 4, 2) := by decide +kernel
theorem dL_law_858 : decode cL_law 858 = .ok (.iconst 1, 1) := by decide +kernel
theorem dL_law_859 : decode cL_law 859 = .ok (.iadd, 1) := by decide +kernel
theorem dL_law_860 : decode cL_law 860 = .ok (.iaload, 1) := by decide +kernel
theorem dL_law_861 : decode cL_law 861 = .ok (.aload_n 3, 1) := by decide +kernel
theorem dL_law_862 : decode cL_law 862 = .ok (.invokestatic 137, 3) := by decide +kernel
theorem dL_law_865 : decode cL_law 865 = .ok (.istore 5, 2) := by decide +kernel
theorem dL_law_867 : decode cL_law 867 = .ok (.aload_n 2, 1) := by decide +kernel
theorem dL_law_868 : decode cL_law 868 = .ok (.aload_n 0, 1) := by decide +kernel
theorem dL_law_869 : decode cL_law 869 = .ok (.iload 4, 2) := by decide +kernel
theorem dL_law_871 : decode cL_law 871 = .ok (.iconst 1, 1) := by decide +kernel
theorem dL_law_872 : decode cL_law 872 = .ok (.iadd, 1) := by decide +kernel
theorem dL_law_873 : decode cL_law 873 = .ok (.iaload, 1) := by decide +kernel
theorem dL_law_874 : decode cL_law 874 = .ok (.invokevirtual 139, 3) := by decide +kernel
theorem dL_law_877 : decode cL_law 877 = .ok (.istore 6, 2) := by decide +kernel
theorem dL_law_879 : decode cL_law 879 = .ok (.aload_n 2, 1) := by decide +kernel
theorem dL_law_880 : decode cL_law 880 = .ok (.invokevirtual 78, 3) := by decide +kernel
theorem dL_law_883 : decode cL_law 883 = .ok (.iload 5, 2) := by decide +kernel
theorem dL_law_885 : decode cL_law 885 = .ok (.if_icmp .eq 5, 3) := by decide +kernel
theorem dL_law_888 : decode cL_law 888 = .ok (.iconst 0, 1) := by decide +kernel
theorem dL_law_889 : decode cL_law 889 = .ok (.ireturn, 1) := by decide +kernel
theorem dL_law_890 : decode cL_law 890 = .ok (.iload 5, 2) := by decide +kernel
theorem dL_law_892 : decode cL_law 892 = .ok (.ifCond .ne 15, 3) := by decide +kernel
theorem dL_law_895 : decode cL_law 895 = .ok (.aload_n 3, 1) := by decide +kernel
theorem dL_law_896 : decode cL_law 896 = .ok (.iconst 0, 1) := by decide +kernel
theorem dL_law_897 : decode cL_law 897 = .ok (.laload, 1) := by decide +kernel
theorem dL_law_898 : decode cL_law 898 = .ok (.iload 6, 2) := by decide +kernel
theorem dL_law_900 : decode cL_law 900 = .ok (.i2l, 1) := by decide +kernel
theorem dL_law_901 : decode cL_law 901 = .ok (.lcmp, 1) := by decide +kernel
theorem dL_law_902 : decode cL_law 902 = .ok (.ifCond .eq 5, 3) := by decide +kernel
theorem dL_law_905 : decode cL_law 905 = .ok (.iconst 0, 1) := by decide +kernel
theorem dL_law_906 : decode cL_law 906 = .ok (.ireturn, 1) := by decide +kernel
theorem dL_law_907 : decode cL_law 907 = .ok (.goto 211, 3) := by decide +kernel
theorem dL_law_910 : decode cL_law 910 = .ok (.aload_n 1, 1) := by decide +kernel
theorem dL_law_911 : decode cL_law 911 = .ok (.aload_n 0, 1) := by decide +kernel
theorem dL_law_912 : decode cL_law 912 = .ok (.iload 4, 2) := by decide +kernel
theorem dL_law_914 : decode cL_law 914 = .ok (.iconst 1, 1) := by decide +kernel
theorem dL_law_915 : decode cL_law 915 = .ok (.iadd, 1) := by decide +kernel
theorem dL_law_916 : decode cL_law 916 = .ok (.iaload, 1) := by decide +kernel
theorem dL_law_917 : decode cL_law 917 = .ok (.aload_n 3, 1) := by decide +kernel
theorem dL_law_918 : decode cL_law 918 = .ok (.invokestatic 140, 3) := by decide +kernel
theorem dL_law_921 : decode cL_law 921 = .ok (.istore 5, 2) := by decide +kernel
theorem dL_law_923 : decode cL_law 923 = .ok (.aload_n 2, 1) := by decide +kernel
theorem dL_law_924 : decode cL_law 924 = .ok (.aload_n 0, 1) := by decide +kernel
theorem dL_law_925 : decode cL_law 925 = .ok (.iload 4, 2) := by decide +kernel
theorem dL_law_927 : decode cL_law 927 = .ok (.iconst 1, 1) := by decide +kernel
theorem dL_law_928 : decode cL_law 928 = .ok (.iadd, 1) := by decide +kernel
theorem dL_law_929 : decode cL_law 929 = .ok (.iaload, 1) := by decide +kernel
theorem dL_law_930 : decode cL_law 930 = .ok (.invokevirtual 142, 3) := by decide +kernel
theorem dL_law_933 : decode cL_law 933 = .ok (.istore 6, 2) := by decide +kernel
theorem dL_law_935 : decode cL_law 935 = .ok (.aload_n 2, 1) := by decide +kernel
theorem dL_law_936 : decode cL_law 936 = .ok (.invokevirtual 78, 3) := by decide +kernel
theorem dL_law_939 : decode cL_law 939 = .ok (.iload 5, 2) := by decide +kernel
theorem dL_law_941 : decode cL_law 941 = .ok (.if_icmp .eq 5, 3) := by decide +kernel
theorem dL_law_944 : decode cL_law 944 = .ok (.iconst 0, 1) := by decide +kernel
theorem dL_law_945 : decode cL_law 945 = .ok (.ireturn, 1) := by decide +kernel
theorem dL_law_946 : decode cL_law 946 = .ok (.iload 5, 2) := by decide +kernel
theorem dL_law_948 : decode cL_law 948 = .ok (.ifCond .ne 15, 3) := by decide +kernel
theorem dL_law_951 : decode cL_law 951 = .ok (.aload_n 3, 1) := by decide +kernel
theorem dL_law_952 : decode cL_law 952 = .ok (.iconst 0, 1) := by decide +kernel
theorem dL_law_953 : decode cL_law 953 = .ok (.laload, 1) := by decide +kernel
theorem dL_law_954 : decode cL_law 954 = .ok (.iload 6, 2) := by decide +kernel
theorem dL_law_956 : decode cL_law 956 = .ok (.i2l, 1) := by decide +kernel
theorem dL_law_957 : decode cL_law 957 = .ok (.lcmp, 1) := by decide +kernel
theorem dL_law_958 : decode cL_law 958 = .ok (.ifCond .eq 5, 3) := by decide +kernel
theorem dL_law_961 : decode cL_law 961 = .ok (.iconst 0, 1) := by decide +kernel
theorem dL_law_962 : decode cL_law 962 = .ok (.ireturn, 1) := by decide +kernel
theorem dL_law_963 : decode cL_law 963 = .ok (.goto 155, 3) := by decide +kernel
theorem dL_law_966 : decode cL_law 966 = .ok (.aload_n 1, 1) := by decide +kernel
theorem dL_law_967 : decode cL_law 967 = .ok (.invokevirtual 143, 3) := by decide +kernel
theorem dL_law_970 : decode cL_law 970 = .ok (.aload_n 2, 1) := by decide +kernel
theorem dL_law_971 : decode cL_law 971 = .ok (.invokevirtual 147, 3) := by decide +kernel
theorem dL_law_974 : decode cL_law 974 = .ok (.lcmp, 1) := by decide +kernel
theorem dL_law_975 : decode cL_law 975 = .ok (.ifCond .eq 143, 3) := by decide +kernel
theorem dL_law_978 : decode cL_law 978 = .ok (.iconst 0, 1) := by decide +kernel
theorem dL_law_979 : decode cL_law 979 = .ok (.ireturn, 1) := by decide +kernel
theorem dL_law_980 : decode cL_law 980 = .ok (.aload_n 1, 1) := by decide +kernel
theorem dL_law_981 : decode cL_law 981 = .ok (.aload_n 0, 1) := by decide +kernel
theorem dL_law_982 : decode cL_law 982 = .ok (.iload 4, 2) := by decide +kernel
theorem dL_law_984 : decode cL_law 984 = .ok (.iconst 1, 1) := by decide +kernel
theorem dL_law_985 : decode cL_law 985 = .ok (.iadd, 1) := by decide +kernel
theorem dL_law_986 : decode cL_law 986 = .ok (.iaload, 1) := by decide +kernel
theorem dL_law_987 : decode cL_law 987 = .ok (.aload_n 3, 1) := by decide +kernel
theorem dL_law_988 : decode cL_law 988 = .ok (.invokestatic 148, 3) := by decide +kernel
theorem dL_law_991 : decode cL_law 991 = .ok (.istore 5, 2) := by decide +kernel
theorem dL_law_993 : decode cL_law 993 = .ok (.aload_n 2, 1) := by decide +kernel
theorem dL_law_994 : decode cL_law 994 = .ok (.aload_n 0, 1) := by decide +kernel
theorem dL_law_995 : decode cL_law 995 = .ok (.iload 4, 2) := by decide +kernel
theorem dL_law_997 : decode cL_law 997 = .ok (.iconst 1, 1) := by decide +kernel
theorem dL_law_998 : decode cL_law 998 = .ok (.iadd, 1) := by decide +kernel
theorem dL_law_999 : decode cL_law 999 = .ok (.iaload, 1) := by decide +kernel
theorem dL_law_1000 : decode cL_law 1000 = .ok (.invokevirtual 150, 3) := by decide +kernel
theorem dL_law_1003 : decode cL_law 1003 = .ok (.istore 6, 2) := by decide +kernel
theorem dL_law_1005 : decode cL_law 1005 = .ok (.aload_n 2, 1) := by decide +kernel
theorem dL_law_1006 : decode cL_law 1006 = .ok (.invokevirtual 78, 3) := by decide +kernel
theorem dL_law_1009 : decode cL_law 1009 = .ok (.iload 5, 2) := by decide +kernel
theorem dL_law_1011 : decode cL_law 1011 = .ok (.if_icmp .eq 5, 3) := by decide +kernel
theorem dL_law_1014 : decode cL_law 1014 = .ok (.iconst 0, 1) := by decide +kernel
theorem dL_law_1015 : decode cL_law 1015 = .ok (.ireturn, 1) := by decide +kernel
theorem dL_law_1016 : decode cL_law 1016 = .ok (.iload 5, 2) := by decide +kernel
theorem dL_law_1018 : decode cL_law 1018 = .ok (.ifCond .ne 15, 3) := by decide +kernel
theorem dL_law_1021 : decode cL_law 1021 = .ok (.aload_n 3, 1) := by decide +kernel
theorem dL_law_1022 : decode cL_law 1022 = .ok (.iconst 0, 1) := by decide +kernel
theorem dL_law_1023 : decode cL_law 1023 = .ok (.laload, 1) := by decide +kernel
theorem dL_law_1024 : decode cL_law 1024 = .ok (.iload 6, 2) := by decide +kernel
theorem dL_law_1026 : decode cL_law 1026 = .ok (.i2l, 1) := by decide +kernel
theorem dL_law_1027 : decode cL_law 1027 = .ok (.lcmp, 1) := by decide +kernel
theorem dL_law_1028 : decode cL_law 1028 = .ok (.ifCond .eq 5, 3) := by decide +kernel
theorem dL_law_1031 : decode cL_law 1031 = .ok (.iconst 0, 1) := by decide +kernel
theorem dL_law_1032 : decode cL_law 1032 = .ok (.ireturn, 1) := by decide +kernel
theorem dL_law_1033 : decode cL_law 1033 = .ok (.goto 85, 3) := by decide +kernel
theorem dL_law_1036 : decode cL_law 1036 = .ok (.aload_n 1, 1) := by decide +kernel
theorem dL_law_1037 : decode cL_law 1037 = .ok (.invokevirtual 151, 3) := by decide +kernel
theorem dL_law_1040 : decode cL_law 1040 = .ok (.aload_n 2, 1) := by decide +kernel
theorem dL_law_1041 : decode cL_law 1041 = .ok (.invokevirtual 154, 3) := by decide +kernel
theorem dL_law_1044 : decode cL_law 1044 = .ok (.if_icmp .eq 74, 3) := by decide +kernel
theorem dL_law_1047 : decode cL_law 1047 = .ok (.iconst 0, 1) := by decide +kernel
theorem dL_law_1048 : decode cL_law 1048 = .ok (.ireturn, 1) := by decide +kernel
theorem dL_law_1049 : decode cL_law 1049 = .ok (.aload_n 1, 1) := by decide +kernel
theorem dL_law_1050 : decode cL_law 1050 = .ok (.aload_n 0, 1) := by decide +kernel
theorem dL_law_1051 : decode cL_law 1051 = .ok (.iload 4, 2) := by decide +kernel
theorem dL_law_1053 : decode cL_law 1053 = .ok (.iconst 1, 1) := by decide +kernel
theorem dL_law_1054 : decode cL_law 1054 = .ok (.iadd, 1) := by decide +kernel
theorem dL_law_1055 : decode cL_law 1055 = .ok (.iaload, 1) := by decide +kernel
theorem dL_law_1056 : decode cL_law 1056 = .ok (.aload_n 3, 1) := by decide +kernel
theorem dL_law_1057 : decode cL_law 1057 = .ok (.invokestatic 155, 3) := by decide +kernel
theorem dL_law_1060 : decode cL_law 1060 = .ok (.istore 5, 2) := by decide +kernel
theorem dL_law_1062 : decode cL_law 1062 = .ok (.aload_n 2, 1) := by decide +kernel
theorem dL_law_1063 : decode cL_law 1063 = .ok (.aload_n 0, 1) := by decide +kernel
theorem dL_law_1064 : decode cL_law 1064 = .ok (.iload 4, 2) := by decide +kernel
theorem dL_law_1066 : decode cL_law 1066 = .ok (.iconst 1, 1) := by decide +kernel
theorem dL_law_1067 : decode cL_law 1067 = .ok (.iadd, 1) := by decide +kernel
theorem dL_law_1068 : decode cL_law 1068 = .ok (.iaload, 1) := by decide +kernel
theorem dL_law_1069 : decode cL_law 1069 = .ok (.invokevirtual 157, 3) := by decide +kernel
theorem dL_law_1072 : decode cL_law 1072 = .ok (.istore 6, 2) := by decide +kernel
theorem dL_law_1074 : decode cL_law 1074 = .ok (.aload_n 2, 1) := by decide +kernel
theorem dL_law_1075 : decode cL_law 1075 = .ok (.invokevirtual 78, 3) := by decide +kernel
theorem dL_law_1078 : decode cL_law 1078 = .ok (.iload 5, 2) := by decide +kernel
theorem dL_law_1080 : decode cL_law 1080 = .ok (.if_icmp .eq 5, 3) := by decide +kernel
theorem dL_law_1083 : decode cL_law 1083 = .ok (.iconst 0, 1) := by decide +kernel
theorem dL_law_1084 : decode cL_law 1084 = .ok (.ireturn, 1) := by decide +kernel
theorem dL_law_1085 : decode cL_law 1085 = .ok (.iload 5, 2) := by decide +kernel
theorem dL_law_1087 : decode cL_law 1087 = .ok (.ifCond .ne 15, 3) := by decide +kernel
theorem dL_law_1090 : decode cL_law 1090 = .ok (.aload_n 3, 1) := by decide +kernel
theorem dL_law_1091 : decode cL_law 1091 = .ok (.iconst 0, 1) := by decide +kernel
theorem dL_law_1092 : decode cL_law 1092 = .ok (.laload, 1) := by decide +kernel
theorem dL_law_1093 : decode cL_law 1093 = .ok (.iload 6, 2) := by decide +kernel
theorem dL_law_1095 : decode cL_law 1095 = .ok (.i2l, 1) := by decide +kernel
theorem dL_law_1096 : decode cL_law 1096 = .ok (.lcmp, 1) := by decide +kernel
theorem dL_law_1097 : decode cL_law 1097 = .ok (.ifCond .eq 5, 3) := by decide +kernel
theorem dL_law_1100 : decode cL_law 1100 = .ok (.iconst 0, 1) := by decide +kernel
theorem dL_law_1101 : decode cL_law 1101 = .ok (.ireturn, 1) := by decide +kernel
theorem dL_law_1102 : decode cL_law 1102 = .ok (.goto 16, 3) := by decide +kernel
theorem dL_law_1105 : decode cL_law 1105 = .ok (.aload_n 1, 1) := by decide +kernel
theorem dL_law_1106 : decode cL_law 1106 = .ok (.invokevirtual 158, 3) := by decide +kernel
theorem dL_law_1109 : decode cL_law 1109 = .ok (.aload_n 2, 1) := by decide +kernel
theorem dL_law_1110 : decode cL_law 1110 = .ok (.invokevirtual 161, 3) := by decide +kernel
theorem dL_law_1113 : decode cL_law 1113 = .ok (.if_icmp .eq 5, 3) := by decide +kernel
theorem dL_law_1116 : decode cL_law 1116 = .ok (.iconst 0, 1) := by decide +kernel
theorem dL_law_1117 : decode cL_law 1117 = .ok (.ireturn, 1) := by decide +kernel
theorem dL_law_1118 : decode cL_law 1118 = .ok (.iinc 4 5, 3) := by decide +kernel
theorem dL_law_1121 : decode cL_law 1121 = .ok (.goto (-1098), 3) := by decide +kernel
theorem dL_law_1124 : decode cL_law 1124 = .ok (.iconst 1, 1) := by decide +kernel
theorem dL_law_1125 : decode cL_law 1125 = .ok (.ireturn, 1) := by decide +kernel
abbrev vwCl : List vw_C := [(RX0, TX0, 5), (RX1, TX1, 2), (RX2, TX2, 4), (RX3, TX3, 1), (RX4, TX4, 1), (RX5, TX5, 4), (RX6, TX6, 6), (RX7, TX7, 8), (RX8, TX8, 22)]
