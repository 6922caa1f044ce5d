set_option maxRecDepth 20000 in
theorem ggX0_init_X4_init : GoodIn wsX0_init wsX4_init := goodIn_r _ [10, 11, 2, 3, 12, 13, 14] (by decide +kernel) (by decide +kernel)
set_option maxRecDepth 20000 in
theorem gX0_init_X4_init : GoodIn wsX0_init (wsX4_init) := ggX0_init_X4_init
theorem dX0_init_0 : decode cX0_init 0 = .ok (.aload_n 0, 1) := by decide +kernel
theorem dX0_init_1 : decode cX0_init 1 = .ok (.invokespecial 3, 3) := by decide +kernel
theorem dX0_init_4 : decode cX0_init 4 = .ok (.aload_n 0, 1) := by decide +kernel
theorem dX0_init_5 : decode cX0_init 5 = .ok (.new 9, 3) := by decide +kernel
theorem dX0_init_8 : decode cX0_init 8 = .ok (.dup, 1) := by decide +kernel
theorem dX0_init_9 : decode cX0_init 9 = .ok (.bipush 12, 2) := by decide +kernel
theorem dX0_init_11 : decode cX0_init 11 = .ok (.invokespecial 11, 3) := by decide +kernel
theorem dX0_init_14 : decode cX0_init 14 = .ok (.putfield 14, 3) := by decide +kernel
theorem dX0_init_17 : decode cX0_init 17 = .ok (.return_, 1) := by decide +kernel
set_option maxRecDepth 20000 in
theorem ggX0_restart_X4_fill : GoodIn wsX0_restart wsX4_fill := goodIn_r _ [7, 8, 9, 10, 11, 12, 18] (by decide +kernel) (by decide +kernel)
set_option maxRecDepth 20000 in
theorem gX0_restart_X4_fill : GoodIn wsX0_restart (wsV RX0 24 RX4 yX4_fill wsX4_fill) := goodIn_app (goodIn_of _ (by decide +kernel)) ggX0_restart_X4_fill
theorem dX0_restart_0 : decode cX0_restart 0 = .ok (.aload_n 0, 1) := by decide +kernel
theorem dX0_restart_1 : decode cX0_restart 1 = .ok (.iload_n 1, 1) := by decide +kernel
theorem dX0_restart_2 : decode cX0_restart 2 = .ok (.putfield 20, 3) := by decide +kernel
theorem dX0_restart_5 : decode cX0_restart 5 = .ok (.aload_n 0, 1) := by decide +kernel
theorem dX0_restart_6 : decode cX0_restart 6 = .ok (.getfield 14, 3) := by decide +kernel
theorem dX0_restart_9 : decode cX0_restart 9 = .ok (.iconst (-1), 1) := by decide +kernel
theorem dX0_restart_10 : decode cX0_restart 10 = .ok (.invokevirtual 24, 3) := by decide +kernel
theorem dX0_restart_13 : decode cX0_restart 13 = .ok (.return_, 1) := by decide +kernel
theorem dX0_exits_0 : decode cX0_exits 0 = .ok (.aload_n 0, 1) := by decide +kernel
theorem dX0_exits_1 : decode cX0_exits 1 = .ok (.getfield 27, 3) := by decide +kernel
theorem dX0_exits_4 : decode cX0_exits 4 = .ok (.ireturn, 1) := by decide +kernel
theorem dX0_taggedExits_0 : decode cX0_taggedExits 0 = .ok (.aload_n 0, 1) := by decide +kernel
theorem dX0_taggedExits_1 : decode cX0_taggedExits 1 = .ok (.getfield 30, 3) := by decide +kernel
theorem dX0_taggedExits_4 : decode cX0_taggedExits 4 = .ok (.ireturn, 1) := by decide +kernel
theorem dX0_why_0 : decode cX0_why 0 = .ok (.aload_n 0, 1) := by decide +kernel
theorem dX0_why_1 : decode cX0_why 1 = .ok (.getfield 33, 3) := by decide +kernel
theorem dX0_why_4 : decode cX0_why 4 = .ok (.ireturn, 1) := by decide +kernel
set_option maxRecDepth 20000 in
theorem ggX0_placeOf_X0_slotOf : GoodIn wsX0_placeOf wsX0_slotOf := goodIn_r _ [5] (by decide +kernel) (by decide +kernel)
set_option maxRecDepth 20000 in
theorem gX0_placeOf_X0_slotOf : GoodIn wsX0_placeOf (va_wsS RX0 36 yX0_slotOf wsX0_slotOf) := goodIn_app (goodIn_of _ (by decide +kernel)) ggX0_placeOf_X0_slotOf
set_option maxRecDepth 20000 in
theorem ggX0_placeOf_X4_read : GoodIn wsX0_placeOf wsX4_read := goodIn_r _ [10, 11, 17] (by decide +kernel) (by decide +kernel)
set_option maxRecDepth 20000 in
theorem gX0_placeOf_X4_read : GoodIn wsX0_placeOf (wsV RX0 40 RX4 yX4_read wsX4_read) := goodIn_app (goodIn_of _ (by decide +kernel)) ggX0_placeOf_X4_read
theorem dX0_placeOf_0 : decode cX0_placeOf 0 = .ok (.aload_n 0, 1) := by decide +kernel
theorem dX0_placeOf_1 : decode cX0_placeOf 1 = .ok (.getfield 14, 3) := by decide +kernel
theorem dX0_placeOf_4 : decode cX0_placeOf 4 = .ok (.iload_n 1, 1) := by decide +kernel
theorem dX0_placeOf_5 : decode cX0_placeOf 5 = .ok (.iload_n 2, 1) := by decide +kernel
theorem dX0_placeOf_6 : decode cX0_placeOf 6 = .ok (.invokestatic 36, 3) := by decide +kernel
theorem dX0_placeOf_9 : decode cX0_placeOf 9 = .ok (.invokevirtual 40, 3) := by decide +kernel
theorem dX0_placeOf_12 : decode cX0_placeOf 12 = .ok (.ireturn, 1) := by decide +kernel
set_option maxRecDepth 20000 in
theorem ggX0_send_X0_isLostAtEntry : GoodIn wsX0_send wsX0_isLostAtEntry := goodIn_r _ [9, 10, 11, 12, 13, 14, 15, 8, 16, 17, 18, 19, 69, 70, 71, 72, 73] (by decide +kernel) (by decide +kernel)
set_option maxRecDepth 20000 in
theorem gX0_send_X0_isLostAtEntry : GoodIn wsX0_send (wsV RX0 44 RX0 yX0_isLostAtEntry wsX0_isLostAtEntry) := goodIn_app (goodIn_of _ (by decide +kernel)) ggX0_send_X0_isLostAtEntry
set_option maxRecDepth 20000 in
theorem ggX0_send_X0_refusal : GoodIn wsX0_send wsX0_refusal := goodIn_r _ [23, 10, 11, 12, 18, 19, 24, 25, 26, 27, 28, 29, 13, 14, 15, 8, 16, 17, 30, 31, 32, 33, 34, 35, 36, 37, 38, 39, 40, 41, 74, 75, 76, 77, 69, 70, 71, 72, 73] (by decide +kernel) (by decide +kernel)
set_option maxRecDepth 20000 in
theorem gX0_send_X0_refusal : GoodIn wsX0_send (wsV RX0 48 RX0 yX0_refusal wsX0_refusal) := goodIn_app (goodIn_of _ (by decide +kernel)) ggX0_send_X0_refusal
set_option maxRecDepth 20000 in
theorem ggX0_send_X7_portOf : GoodIn wsX0_send wsX7_portOf := goodIn_r _ [12] (by decide +kernel) (by decide +kernel)
set_option maxRecDepth 20000 in
theorem gX0_send_X7_portOf_n52 : GoodIn wsX0_send (wsX7_portOf) := ggX0_send_X7_portOf
set_option maxRecDepth 20000 in
theorem ggX0_send_X7_tagOf : GoodIn wsX0_send wsX7_tagOf := goodIn_r _ [19] (by decide +kernel) (by decide +kernel)
set_option maxRecDepth 20000 in
theorem gX0_send_X7_tagOf_n55 : GoodIn wsX0_send (wsX7_tagOf) := ggX0_send_X7_tagOf
set_option maxRecDepth 20000 in
theorem ggX0_send_X2_nativeOf : GoodIn wsX0_send wsX2_nativeOf := goodIn_r _ [28, 29, 74, 75, 76, 77] (by decide +kernel) (by decide +kernel)
set_option maxRecDepth 20000 in
theorem gX0_send_X2_nativeOf : GoodIn wsX0_send (wsV RX0 58 RX2 yX2_nativeOf wsX2_nativeOf) := goodIn_app (goodIn_of _ (by decide +kernel)) ggX0_send_X2_nativeOf
set_option maxRecDepth 20000 in
theorem ggX0_send_X0_has : GoodIn wsX0_send wsX0_has := goodIn_r _ [16, 17, 69, 70, 71, 72, 73] (by decide +kernel) (by decide +kernel)
set_option maxRecDepth 20000 in
theorem gX0_send_X0_has : GoodIn wsX0_send (wsV RX0 63 RX0 yX0_has wsX0_has) := goodIn_app (goodIn_of _ (by decide +kernel)) ggX0_send_X0_has
set_option maxRecDepth 20000 in
theorem ggX0_send_X7_sourceOf : GoodIn wsX0_send wsX7_sourceOf := goodIn_r _ [43] (by decide +kernel) (by decide +kernel)
set_option maxRecDepth 20000 in
theorem gX0_send_X7_sourceOf_n67 : GoodIn wsX0_send (wsX7_sourceOf) := ggX0_send_X7_sourceOf
set_option maxRecDepth 20000 in
theorem ggX0_send_X0_slotOf : GoodIn wsX0_send wsX0_slotOf := goodIn_r _ [46] (by decide +kernel) (by decide +kernel)
set_option maxRecDepth 20000 in
theorem gX0_send_X0_slotOf : GoodIn wsX0_send (va_wsS RX0 36 yX0_slotOf wsX0_slotOf) := goodIn_app (goodIn_of _ (by decide +kernel)) ggX0_send_X0_slotOf
set_option maxRecDepth 20000 in
theorem ggX0_send_X4_write : GoodIn wsX0_send wsX4_write := goodIn_r _ [51, 52, 78] (by decide +kernel) (by decide +kernel)
set_option maxRecDepth 20000 in
theorem gX0_send_X4_write : GoodIn wsX0_send (wsV RX0 70 RX4 yX4_write wsX4_write) := goodIn_app (goodIn_of _ (by decide +kernel)) ggX0_send_X4_write
set_option maxRecDepth 20000 in
theorem ggX0_send_X7_destinationOf : GoodIn wsX0_send wsX7_destinationOf := goodIn_r _ [54] (by decide +kernel) (by decide +kernel)
set_option maxRecDepth 20000 in
theorem gX0_send_X7_destinationOf_n74 : GoodIn wsX0_send (wsX7_destinationOf) := ggX0_send_X7_destinationOf
set_option maxRecDepth 20000 in
theorem ggX0_send_X0_forward : GoodIn wsX0_send wsX0_forward := goodIn_r _ [58, 4, 3, 17, 1, 2, 44, 45, 8, 46, 59, 60, 61, 50, 62, 52, 35, 36, 37, 27, 38, 39, 63, 11, 64, 30, 31, 32, 33, 34, 65, 66, 67, 68, 29, 69, 70, 71, 72, 73, 78, 74, 75, 76, 77] (by decide +kernel) (by decide +kernel)
set_option maxRecDepth 20000 in
theorem gX0_send_X0_forward : GoodIn wsX0_send (wsV RX0 77 RX0 yX0_forward wsX0_forward) := goodIn_app (goodIn_of _ (by decide +kernel)) ggX0_send_X0_forward
theorem dX0_send_0 : decode cX0_send 0 = .ok (.aload_n 0, 1) := by decide +kernel
theorem dX0_send_1 : decode cX0_send 1 = .ok (.iconst 0, 1) := by decide +kernel
theorem dX0_send_2 : decode cX0_send 2 = .ok (.putfield 27, 3) := by decide +kernel
theorem dX0_send_5 : decode cX0_send 5 = .ok (.aload_n 0, 1) := by decide +kernel
theorem dX0_send_6 : decode cX0_send 6 = .ok (.iconst 0, 1) := by decide +kernel
theorem dX0_send_7 : decode cX0_send 7 = .ok (.putfield 30, 3) := by decide +kernel
theorem dX0_send_10 : decode cX0_send 10 = .ok (.aload_n 0, 1) := by decide +kernel
theorem dX0_send_11 : decode cX0_send 11 = .ok (.iconst 0, 1) := by decide +kernel
theorem dX0_send_12 : decode cX0_send 12 = .ok (.putfield 33, 3) := by decide +kernel
theorem dX0_send_15 : decode cX0_send 15 = .ok (.aload_n 0, 1) := by decide +kernel
theorem dX0_send_16 : decode cX0_send 16 = .ok (.iload_n 2, 1) := by decide +kernel
theorem dX0_send_17 : decode cX0_send 17 = .ok (.invokevirtual 44, 3) := by decide +kernel
theorem dX0_send_20 : decode cX0_send 20 = .ok (.ifCond .eq 4, 3) := by decide +kernel
theorem dX0_send_23 : decode cX0_send 23 = .ok (.return_, 1) := by decide +kernel
theorem dX0_send_24 : decode cX0_send 24 = .ok (.aload_n 0, 1) := by decide +kernel
theorem dX0_send_25 : decode cX0_send 25 = .ok (.aload_n 0, 1) := by decide +kernel
theorem dX0_send_26 : decode cX0_send 26 = .ok (.aload_n 1, 1) := by decide +kernel
theorem dX0_send_27 : decode cX0_send 27 = .ok (.iload_n 2, 1) := by decide +kernel
theorem dX0_send_28 : decode cX0_send 28 = .ok (.invokevirtual 48, 3) := by decide +kernel
theorem dX0_send_31 : decode cX0_send 31 = .ok (.putfield 33, 3) := by decide +kernel
theorem dX0_send_34 : decode cX0_send 34 = .ok (.aload_n 0, 1) := by decide +kernel
theorem dX0_send_35 : decode cX0_send 35 = .ok (.getfield 33, 3) := by decide +kernel
theorem dX0_send_38 : decode cX0_send 38 = .ok (.ifCond .eq 4, 3) := by decide +kernel
theorem dX0_send_41 : decode cX0_send 41 = .ok (.return_, 1) := by decide +kernel
theorem dX0_send_42 : decode cX0_send 42 = .ok (.iload_n 2, 1) := by decide +kernel
theorem dX0_send_43 : decode cX0_send 43 = .ok (.invokestatic 52, 3) := by decide +kernel
theorem dX0_send_46 : decode cX0_send 46 = .ok (.istore_n 3, 1) := by decide +kernel
theorem dX0_send_47 : decode cX0_send 47 = .ok (.iload_n 2, 1) := by decide +kernel
theorem dX0_send_48 : decode cX0_send 48 = .ok (.invokestatic 55, 3) := by decide +kernel
theorem dX0_send_51 : decode cX0_send 51 = .ok (.ifCond .ne 11, 3) := by decide +kernel
theorem dX0_send_54 : decode cX0_send 54 = .ok (.aload_n 1, 1) := by decide +kernel
theorem dX0_send_55 : decode cX0_send 55 = .ok (.iload_n 3, 1) := by decide +kernel
theorem dX0_send_56 : decode cX0_send 56 = .ok (.invokevirtual 58, 3) := by decide +kernel
theorem dX0_send_59 : decode cX0_send 59 = .ok (.goto 7, 3) := by decide +kernel
theorem dX0_send_62 : decode cX0_send 62 = .ok (.iload_n 2, 1) := by decide +kernel
theorem dX0_send_63 : decode cX0_send 63 = .ok (.invokestatic 55, 3) := by decide +kernel
theorem dX0_send_66 : decode cX0_send 66 = .ok (.istore 4, 2) := by decide +kernel
theorem dX0_send_68 : decode cX0_send 68 = .ok (.aload_n 0, 1) := by decide +kernel
theorem dX0_send_69 : decode cX0_send 69 = .ok (.iconst 1, 1) := by decide +kernel
theorem dX0_send_70 : decode cX0_send 70 = .ok (.iload_n 3, 1) := by decide +kernel
theorem dX0_send_71 : decode cX0_send 71 = .ok (.invokevirtual 63, 3) := by decide +kernel
theorem dX0_send_74 : decode cX0_send 74 = .ok (.ifCond .ne 20, 3) := by decide +kernel
theorem dX0_send_77 : decode cX0_send 77 = .ok (.aload_n 0, 1) := by decide +kernel
theorem dX0_send_78 : decode cX0_send 78 = .ok (.getfield 14, 3) := by decide +kernel
theorem dX0_send_81 : decode cX0_send 81 = .ok (.iload 4, 2) := by decide +kernel
theorem dX0_send_83 : decode cX0_send 83 = .ok (.iload_n 2, 1) := by decide +kernel
theorem dX0_send_84 : decode cX0_send 84 = .ok (.invokestatic 67, 3) := by decide +kernel
theorem dX0_send_87 : decode cX0_send 87 = .ok (.invokestatic 36, 3) := by decide +kernel
theorem dX0_send_90 : decode cX0_send 90 = .ok (.iload_n 3, 1) := by decide +kernel
theorem dX0_send_91 : decode cX0_send 91 = .ok (.invokevirtual 70, 3) := by decide +kernel
theorem dX0_send_94 : decode cX0_send 94 = .ok (.aload_n 0, 1) := by decide +kernel
theorem dX0_send_95 : decode cX0_send 95 = .ok (.aload_n 1, 1) := by decide +kernel
theorem dX0_send_96 : decode cX0_send 96 = .ok (.iload_n 3, 1) := by decide +kernel
theorem dX0_send_97 : decode cX0_send 97 = .ok (.iload 4, 2) := by decide +kernel
theorem dX0_send_99 : decode cX0_send 99 = .ok (.iload_n 2, 1) := by decide +kernel
theorem dX0_send_100 : decode cX0_send 100 = .ok (.invokestatic 74, 3) := by decide +kernel
theorem dX0_send_103 : decode cX0_send 103 = .ok (.invokevirtual 77, 3) := by decide +kernel
theorem dX0_send_106 : decode cX0_send 106 = .ok (.return_, 1) := by decide +kernel
set_option maxRecDepth 20000 in
theorem ggX0_isLostAtEntry_X7_portOf : GoodIn wsX0_isLostAtEntry wsX7_portOf := goodIn_r _ [3] (by decide +kernel) (by decide +kernel)
set_option maxRecDepth 20000 in
theorem gX0_isLostAtEntry_X7_portOf_n52 : GoodIn wsX0_isLostAtEntry (wsX7_portOf) := ggX0_isLostAtEntry_X7_portOf
set_option maxRecDepth 20000 in
theorem ggX0_isLostAtEntry_X0_has : GoodIn wsX0_isLostAtEntry wsX0_has := goodIn_r _ [8, 9, 12, 13, 14, 15, 16] (by decide +kernel) (by decide +kernel)
set_option maxRecDepth 20000 in
theorem gX0_isLostAtEntry_X0_has : GoodIn wsX0_isLostAtEntry (wsV RX0 63 RX0 yX0_has wsX0_has) := goodIn_app (goodIn_of _ (by decide +kernel)) ggX0_isLostAtEntry_X0_has
set_option maxRecDepth 20000 in
theorem ggX0_isLostAtEntry_X7_tagOf : GoodIn wsX0_isLostAtEntry wsX7_tagOf := goodIn_r _ [11] (by decide +kernel) (by decide +kernel)
set_option maxRecDepth 20000 in
theorem gX0_isLostAtEntry_X7_tagOf_n55 : GoodIn wsX0_isLostAtEntry (wsX7_tagOf) := ggX0_isLostAtEntry_X7_tagOf
theorem dX0_isLostAtEntry_0 : decode cX0_isLostAtEntry 0 = .ok (.iload_n 1, 1) := by decide +kernel
theorem dX0_isLostAtEntry_1 : decode cX0_isLostAtEntry 1 = .ok (.invokestatic 52, 3) := by decide +kernel
theorem dX0_isLostAtEntry_4 : decode cX0_isLostAtEntry 4 = .ok (.istore_n 2, 1) := by decide +kernel
theorem dX0_isLostAtEntry_5 : decode cX0_isLostAtEntry 5 = .ok (.aload_n 0, 1) := by decide +kernel
theorem dX0_isLostAtEntry_6 : decode cX0_isLostAtEntry 6 = .ok (.iconst 0, 1) := by decide +kernel
theorem dX0_isLostAtEntry_7 : decode cX0_isLostAtEntry 7 = .ok (.iload_n 2, 1) := by decide +kernel
theorem dX0_isLostAtEntry_8 : decode cX0_isLostAtEntry 8 = .ok (.invokevirtual 63, 3) := by decide +kernel
theorem dX0_isLostAtEntry_11 : decode cX0_isLostAtEntry 11 = .ok (.ifCond .ne 19, 3) := by decide +kernel
theorem dX0_isLostAtEntry_14 : decode cX0_isLostAtEntry 14 = .ok (.aload_n 0, 1) := by decide +kernel
theorem dX0_isLostAtEntry_15 : decode cX0_isLostAtEntry 15 = .ok (.iconst 3, 1) := by decide +kernel
theorem dX0_isLostAtEntry_16 : decode cX0_isLostAtEntry 16 = .ok (.iload_n 2, 1) := by decide +kernel
theorem dX0_isLostAtEntry_17 : decode cX0_isLostAtEntry 17 = .ok (.invokevirtual 63, 3) := by decide +kernel
theorem dX0_isLostAtEntry_20 : decode cX0_isLostAtEntry 20 = .ok (.ifCond .eq 14, 3) := by decide +kernel
theorem dX0_isLostAtEntry_23 : decode cX0_isLostAtEntry 23 = .ok (.iload_n 1, 1) := by decide +kernel
theorem dX0_isLostAtEntry_24 : decode cX0_isLostAtEntry 24 = .ok (.invokestatic 55, 3) := by decide +kernel
theorem dX0_isLostAtEntry_27 : decode cX0_isLostAtEntry 27 = .ok (.ifCond .ne 7, 3) := by decide +kernel
theorem dX0_isLostAtEntry_30 : decode cX0_isLostAtEntry 30 = .ok (.iconst 1, 1) := by decide +kernel
theorem dX0_isLostAtEntry_31 : decode cX0_isLostAtEntry 31 = .ok (.goto 4, 3) := by decide +kernel
theorem dX0_isLostAtEntry_34 : decode cX0_isLostAtEntry 34 = .ok (.iconst 0, 1) := by decide +kernel
theorem dX0_isLostAtEntry_35 : decode cX0_isLostAtEntry 35 = .ok (.ireturn, 1) := by decide +kernel
set_option maxRecDepth 20000 in
theorem ggX0_refusal_X7_portOf : GoodIn wsX0_refusal wsX7_portOf := goodIn_r _ [3] (by decide +kernel) (by decide +kernel)
set_option maxRecDepth 20000 in
theorem gX0_refusal_X7_portOf_n52 : GoodIn wsX0_refusal (wsX7_portOf) := ggX0_refusal_X7_portOf
set_option maxRecDepth 20000 in
theorem ggX0_refusal_X7_tagOf : GoodIn wsX0_refusal wsX7_tagOf := goodIn_r _ [5] (by decide +kernel) (by decide +kernel)
set_option maxRecDepth 20000 in
theorem gX0_refusal_X7_tagOf_n55 : GoodIn wsX0_refusal (wsX7_tagOf) := ggX0_refusal_X7_tagOf
set_option maxRecDepth 20000 in
theorem ggX0_refusal_X2_nativeOf : GoodIn wsX0_refusal wsX2_nativeOf := goodIn_r _ [10, 11, 30, 31, 32, 33] (by decide +kernel) (by decide +kernel)
set_option maxRecDepth 20000 in
theorem gX0_refusal_X2_nativeOf : GoodIn wsX0_refusal (wsV RX0 58 RX2 yX2_nativeOf wsX2_nativeOf) := goodIn_app (goodIn_of _ (by decide +kernel)) ggX0_refusal_X2_nativeOf
set_option maxRecDepth 20000 in
theorem ggX0_refusal_X0_has : GoodIn wsX0_refusal wsX0_has := goodIn_r _ [16, 17, 34, 35, 36, 37, 38] (by decide +kernel) (by decide +kernel)
set_option maxRecDepth 20000 in
theorem gX0_refusal_X0_has : GoodIn wsX0_refusal (wsV RX0 63 RX0 yX0_has wsX0_has) := goodIn_app (goodIn_of _ (by decide +kernel)) ggX0_refusal_X0_has
set_option maxRecDepth 20000 in
theorem ggX0_refusal_X2_accessPorts : GoodIn wsX0_refusal wsX2_accessPorts := goodIn_r _ [21, 22, 30, 31, 32, 33] (by decide +kernel) (by decide +kernel)
set_option maxRecDepth 20000 in
theorem gX0_refusal_X2_accessPorts : GoodIn wsX0_refusal (wsV RX0 81 RX2 yX2_accessPorts wsX2_accessPorts) := goodIn_app (goodIn_of _ (by decide +kernel)) ggX0_refusal_X2_accessPorts
set_option maxRecDepth 20000 in
theorem ggX0_refusal_X2_members : GoodIn wsX0_refusal wsX2_members := goodIn_r _ [26, 27, 30, 31, 32, 33] (by decide +kernel) (by decide +kernel)
set_option maxRecDepth 20000 in
theorem gX0_refusal_X2_members : GoodIn wsX0_refusal (wsV RX0 85 RX2 yX2_members wsX2_members) := goodIn_app (goodIn_of _ (by decide +kernel)) ggX0_refusal_X2_members
set_option maxRecDepth 20000 in
theorem ggX0_refusal_X7_cellOf : GoodIn wsX0_refusal wsX7_cellOf := goodIn_r _ [29] (by decide +kernel) (by decide +kernel)
set_option maxRecDepth 20000 in
theorem gX0_refusal_X7_cellOf_n88 : GoodIn wsX0_refusal (wsX7_cellOf) := ggX0_refusal_X7_cellOf
theorem dX0_refusal_0 : decode cX0_refusal 0 = .ok (.iload_n 2, 1) := by decide +kernel
theorem dX0_refusal_1 : decode cX0_refusal 1 = .ok (.invokestatic 52, 3) := by decide +kernel
theorem dX0_refusal_4 : decode cX0_refusal 4 = .ok (.istore_n 3, 1) := by decide +kernel
theorem dX0_refusal_5 : decode cX0_refusal 5 = .ok (.iload_n 2, 1) := by decide +kernel
theorem dX0_refusal_6 : decode cX0_refusal 6 = .ok (.invokestatic 55, 3) := by decide +kernel
theorem dX0_refusal_9 : decode cX0_refusal 9 = .ok (.istore 4, 2) := by decide +kernel
theorem dX0_refusal_11 : decode cX0_refusal 11 = .ok (.iload 4, 2) := by decide +kernel
theorem dX0_refusal_13 : decode cX0_refusal 13 = .ok (.ifCond .ne 17, 3) := by decide +kernel
theorem dX0_refusal_16 : decode cX0_refusal 16 = .ok (.aload_n 1, 1) := by decide +kernel
theorem dX0_refusal_17 : decode cX0_refusal 17 = .ok (.iload_n 3, 1) := by decide +kernel
theorem dX0_refusal_18 : decode cX0_refusal 18 = .ok (.invokevirtual 58, 3) := by decide +kernel
theorem dX0_refusal_21 : decode cX0_refusal 21 = .ok (.ifCond .ne 7, 3) := by decide +kernel
theorem dX0_refusal_24 : decode cX0_refusal 24 = .ok (.iconst 2, 1) := by decide +kernel
theorem dX0_refusal_25 : decode cX0_refusal 25 = .ok (.goto 4, 3) := by decide +kernel
theorem dX0_refusal_28 : decode cX0_refusal 28 = .ok (.iconst 0, 1) := by decide +kernel
theorem dX0_refusal_29 : decode cX0_refusal 29 = .ok (.ireturn, 1) := by decide +kernel
theorem dX0_refusal_30 : decode cX0_refusal 30 = .ok (.aload_n 0, 1) := by decide +kernel
theorem dX0_refusal_31 : decode cX0_refusal 31 = .ok (.iconst 4, 1) := by decide +kernel
theorem dX0_refusal_32 : decode cX0_refusal 32 = .ok (.iload_n 3, 1) := by decide +kernel
theorem dX0_refusal_33 : decode cX0_refusal 33 = .ok (.invokevirtual 63, 3) := by decide +kernel
theorem dX0_refusal_36 : decode cX0_refusal 36 = .ok (.ifCond .eq 5, 3) := by decide +kernel
theorem dX0_refusal_39 : decode cX0_refusal 39 = .ok (.iconst 0, 1) := by decide +kernel
theorem dX0_refusal_40 : decode cX0_refusal 40 = .ok (.ireturn, 1) := by decide +kernel
theorem dX0_refusal_41 : decode cX0_refusal 41 = .ok (.aload_n 1, 1) := by decide +kernel
theorem dX0_refusal_42 : decode cX0_refusal 42 = .ok (.invokevirtual 81, 3) := by decide +kernel
theorem dX0_refusal_45 : decode cX0_refusal 45 = .ok (.iload_n 3, 1) := by decide +kernel
theorem dX0_refusal_46 : decode cX0_refusal 46 = .ok (.ishr, 1) := by decide +kernel
theorem dX0_refusal_47 : decode cX0_refusal 47 = .ok (.iconst 1, 1) := by decide +kernel
theorem dX0_refusal_48 : decode cX0_refusal 48 = .ok (.iand, 1) := by decide +kernel
theorem dX0_refusal_49 : decode cX0_refusal 49 = .ok (.ifCond .eq 5, 3) := by decide +kernel
theorem dX0_refusal_52 : decode cX0_refusal 52 = .ok (.iconst 1, 1) := by decide +kernel
theorem dX0_refusal_53 : decode cX0_refusal 53 = .ok (.ireturn, 1) := by decide +kernel
theorem dX0_refusal_54 : decode cX0_refusal 54 = .ok (.aload_n 1, 1) := by decide +kernel
theorem dX0_refusal_55 : decode cX0_refusal 55 = .ok (.invokevirtual 85, 3) := by decide +kernel
theorem dX0_refusal_58 : decode cX0_refusal 58 = .ok (.iload 4, 2) := by decide +kernel
theorem dX0_refusal_60 : decode cX0_refusal 60 = .ok (.iload_n 3, 1) := by decide +kernel
theorem dX0_refusal_61 : decode cX0_refusal 61 = .ok (.invokestatic 88, 3) := by decide +kernel
theorem dX0_refusal_64 : decode cX0_refusal 64 = .ok (.iand, 1) := by decide +kernel
theorem dX0_refusal_65 : decode cX0_refusal 65 = .ok (.ifCond .ne 7, 3) := by decide +kernel
theorem dX0_refusal_68 : decode cX0_refusal 68 = .ok (.iconst 3, 1) := by decide +kernel
theorem dX0_refusal_69 : decode cX0_refusal 69 = .ok (.goto 4, 3) := by decide +kernel
theorem dX0_refusal_72 : decode cX0_refusal 72 = .ok (.iconst 0, 1) := by decide +kernel
theorem dX0_refusal_73 : decode cX0_refusal 73 = .ok (.ireturn, 1) := by decide +kernel
set_option maxRecDepth 20000 in
theorem ggX0_forward_X0_slotOf : GoodIn wsX0_forward wsX0_slotOf := goodIn_r _ [9] (by decide +kernel) (by decide +kernel)
set_option maxRecDepth 20000 in
theorem gX0_forward_X0_slotOf : GoodIn wsX0_forward (va_wsS RX0 36 yX0_slotOf wsX0_slotOf) := goodIn_app (goodIn_of _ (by decide +kernel)) ggX0_forward_X0_slotOf
set_option maxRecDepth 20000 in
theorem ggX0_forward_X4_read : GoodIn wsX0_forward wsX4_read := goodIn_r _ [14, 15, 40] (by decide +kernel) (by decide +kernel)
set_option maxRecDepth 20000 in
theorem gX0_forward_X4_read : GoodIn wsX0_forward (wsV RX0 40 RX4 yX4_read wsX4_read) := goodIn_app (goodIn_of _ (by decide +kernel)) ggX0_forward_X4_read
set_option maxRecDepth 20000 in
theorem ggX0_forward_X2_members : GoodIn wsX0_forward wsX2_members := goodIn_r _ [20, 21, 41, 42, 43, 44] (by decide +kernel) (by decide +kernel)
set_option maxRecDepth 20000 in
theorem gX0_forward_X2_members : GoodIn wsX0_forward (wsV RX0 85 RX2 yX2_members wsX2_members) := goodIn_app (goodIn_of _ (by decide +kernel)) ggX0_forward_X2_members
set_option maxRecDepth 20000 in
theorem ggX0_forward_X7_portsIn : GoodIn wsX0_forward wsX7_portsIn := goodIn_r _ [24] (by decide +kernel) (by decide +kernel)
set_option maxRecDepth 20000 in
theorem gX0_forward_X7_portsIn_n91 : GoodIn wsX0_forward (wsX7_portsIn) := ggX0_forward_X7_portsIn
set_option maxRecDepth 20000 in
theorem ggX0_forward_X2_accessPorts : GoodIn wsX0_forward wsX2_accessPorts := goodIn_r _ [28, 29, 41, 42, 43, 44] (by decide +kernel) (by decide +kernel)
set_option maxRecDepth 20000 in
theorem gX0_forward_X2_accessPorts : GoodIn wsX0_forward (wsV RX0 81 RX2 yX2_accessPorts wsX2_accessPorts) := goodIn_app (goodIn_of _ (by decide +kernel)) ggX0_forward_X2_accessPorts
set_option maxRecDepth 20000 in
theorem ggX0_forward_X2_natives : GoodIn wsX0_forward wsX2_natives := goodIn_r _ [33, 34, 41, 42, 43, 44] (by decide +kernel) (by decide +kernel)
set_option maxRecDepth 20000 in
theorem gX0_forward_X2_natives : GoodIn wsX0_forward (wsV RX0 94 RX2 yX2_natives wsX2_natives) := goodIn_app (goodIn_of _ (by decide +kernel)) ggX0_forward_X2_natives
theorem dX0_forward_0 : decode cX0_forward 0 = .ok (.iload 4, 2) := by decide +kernel
theorem dX0_forward_2 : decode cX0_forward 2 = .ok (.iconst 3, 1) := by decide +kernel
theorem dX0_forward_3 : decode cX0_forward 3 = .ok (.if_icmp .ne 7, 3) := by decide +kernel
theorem dX0_forward_6 : decode cX0_forward 6 = .ok (.iconst (-1), 1) := by decide +kernel
theorem dX0_forward_7 : decode cX0_forward 7 = .ok (.goto 16, 3) := by decide +kernel
theorem dX0_forward_10 : decode cX0_forward 10 = .ok (.aload_n 0, 1) := by decide +kernel
theorem dX0_forward_11 : decode cX0_forward 11 = .ok (.getfield 14, 3) := by decide +kernel
theorem dX0_forward_14 : decode cX0_forward 14 = .ok (.iload_n 3, 1) := by decide +kernel
theorem dX0_forward_15 : decode cX0_forward 15 = .ok (.iload 4, 2) := by decide +kernel
theorem dX0_forward_17 : decode cX0_forward 17 = .ok (.invokestatic 36, 3) := by decide +kernel
theorem dX0_forward_20 : decode cX0_forward 20 = .ok (.invokevirtual 40, 3) := by decide +kernel
theorem dX0_forward_23 : decode cX0_forward 23 = .ok (.istore 5, 2) := by decide +kernel
theorem dX0_forward_25 : decode cX0_forward 25 = .ok (.iload 5, 2) := by decide +kernel
theorem dX0_forward_27 : decode cX0_forward 27 = .ok (.iload_n 2, 1) := by decide +kernel
theorem dX0_forward_28 : decode cX0_forward 28 = .ok (.if_icmp .ne 9, 3) := by decide +kernel
theorem dX0_forward_31 : decode cX0_forward 31 = .ok (.aload_n 0, 1) := by decide +kernel
theorem dX0_forward_32 : decode cX0_forward 32 = .ok (.iconst 4, 1) := by decide +kernel
theorem dX0_forward_33 : decode cX0_forward 33 = .ok (.putfield 33, 3) := by decide +kernel
theorem dX0_forward_36 : decode cX0_forward 36 = .ok (.return_, 1) := by decide +kernel
theorem dX0_forward_37 : decode cX0_forward 37 = .ok (.iload 5, 2) := by decide +kernel
theorem dX0_forward_39 : decode cX0_forward 39 = .ok (.iconst (-1), 1) := by decide +kernel
theorem dX0_forward_40 : decode cX0_forward 40 = .ok (.if_icmp .ne 20, 3) := by decide +kernel
theorem dX0_forward_43 : decode cX0_forward 43 = .ok (.aload_n 1, 1) := by decide +kernel
theorem dX0_forward_44 : decode cX0_forward 44 = .ok (.invokevirtual 85, 3) := by decide +kernel
theorem dX0_forward_47 : decode cX0_forward 47 = .ok (.iload_n 3, 1) := by decide +kernel
theorem dX0_forward_48 : decode cX0_forward 48 = .ok (.invokestatic 91, 3) := by decide +kernel
theorem dX0_forward_51 : decode cX0_forward 51 = .ok (.iconst 1, 1) := by decide +kernel
theorem dX0_forward_52 : decode cX0_forward 52 = .ok (.iload_n 2, 1) := by decide +kernel
theorem dX0_forward_53 : decode cX0_forward 53 = .ok (.ishl, 1) := by decide +kernel
theorem dX0_forward_54 : decode cX0_forward 54 = .ok (.iconst (-1), 1) := by decide +kernel
theorem dX0_forward_55 : decode cX0_forward 55 = .ok (.ixor, 1) := by decide +kernel
theorem dX0_forward_56 : decode cX0_forward 56 = .ok (.iand, 1) := by decide +kernel
theorem dX0_forward_57 : decode cX0_forward 57 = .ok (.goto 7, 3) := by decide +kernel
theorem dX0_forward_60 : decode cX0_forward 60 = .ok (.iconst 1, 1) := by decide +kernel
theorem dX0_forward_61 : decode cX0_forward 61 = .ok (.iload 5, 2) := by decide +kernel
theorem dX0_forward_63 : decode cX0_forward 63 = .ok (.ishl, 1) := by decide +kernel
theorem dX0_forward_64 : decode cX0_forward 64 = .ok (.istore 6, 2) := by decide +kernel
theorem dX0_forward_66 : decode cX0_forward 66 = .ok (.iload 6, 2) := by decide +kernel
theorem dX0_forward_68 : decode cX0_forward 68 = .ok (.ifCond .ne 9, 3) := by decide +kernel
theorem dX0_forward_71 : decode cX0_forward 71 = .ok (.aload_n 0, 1) := by decide +kernel
theorem dX0_forward_72 : decode cX0_forward 72 = .ok (.iconst 5, 1) := by decide +kernel
theorem dX0_forward_73 : decode cX0_forward 73 = .ok (.putfield 33, 3) := by decide +kernel
theorem dX0_forward_76 : decode cX0_forward 76 = .ok (.return_, 1) := by decide +kernel
theorem dX0_forward_77 : decode cX0_forward 77 = .ok (.aload_n 0, 1) := by decide +kernel
theorem dX0_forward_78 : decode cX0_forward 78 = .ok (.iload 6, 2) := by decide +kernel
theorem dX0_forward_80 : decode cX0_forward 80 = .ok (.aload_n 0, 1) := by decide +kernel
theorem dX0_forward_81 : decode cX0_forward 81 = .ok (.getfield 20, 3) := by decide +kernel
theorem dX0_forward_84 : decode cX0_forward 84 = .ok (.iconst 0, 1) := by decide +kernel
theorem dX0_forward_85 : decode cX0_forward 85 = .ok (.invokestatic 91, 3) := by decide +kernel
theorem dX0_forward_88 : decode cX0_forward 88 = .ok (.iconst (-1), 1) := by decide +kernel
theorem dX0_forward_89 : decode cX0_forward 89 = .ok (.ixor, 1) := by decide +kernel
theorem dX0_forward_90 : decode cX0_forward 90 = .ok (.iand, 1) := by decide +kernel
theorem dX0_forward_91 : decode cX0_forward 91 = .ok (.putfield 27, 3) := by decide +kernel
theorem dX0_forward_94 : decode cX0_forward 94 = .ok (.aload_n 1, 1) := by decide +kernel
theorem dX0_forward_95 : decode cX0_forward 95 = .ok (.invokevirtual 81, 3) := by decide +kernel
theorem dX0_forward_98 : decode cX0_forward 98 = .ok (.aload_n 1, 1) := by decide +kernel
theorem dX0_forward_99 : decode cX0_forward 99 = .ok (.invokevirtual 94, 3) := by decide +kernel
theorem dX0_forward_102 : decode cX0_forward 102 = .ok (.iload_n 3, 1) := by decide +kernel
theorem dX0_forward_103 : decode cX0_forward 103 = .ok (.invokestatic 91, 3) := by decide +kernel
theorem dX0_forward_106 : decode cX0_forward 106 = .ok (.ior, 1) := by decide +kernel
theorem dX0_forward_107 : decode cX0_forward 107 = .ok (.aload_n 0, 1) := by decide +kernel
theorem dX0_forward_108 : decode cX0_forward 108 = .ok (.getfield 20, 3) := by decide +kernel
theorem dX0_forward_111 : decode cX0_forward 111 = .ok (.iconst 2, 1) := by decide +kernel
theorem dX0_forward_112 : decode cX0_forward 112 = .ok (.invokestatic 91, 3) := by decide +kernel
theorem dX0_forward_115 : decode cX0_forward 115 = .ok (.ior, 1) := by decide +kernel
theorem dX0_forward_116 : decode cX0_forward 116 = .ok (.istore 7, 2) := by decide +kernel
theorem dX0_forward_118 : decode cX0_forward 118 = .ok (.aload_n 0, 1) := by decide +kernel
theorem dX0_forward_119 : decode cX0_forward 119 = .ok (.aload_n 0, 1) := by decide +kernel
theorem dX0_forward_120 : decode cX0_forward 120 = .ok (.getfield 27, 3) := by decide +kernel
theorem dX0_forward_123 : decode cX0_forward 123 = .ok (.iload 7, 2) := by decide +kernel
theorem dX0_forward_125 : decode cX0_forward 125 = .ok (.iconst (-1), 1) := by decide +kernel
theorem dX0_forward_126 : decode cX0_forward 126 = .ok (.ixor, 1) := by decide +kernel
theorem dX0_forward_127 : decode cX0_forward 127 = .ok (.iand, 1) := by decide +kernel
theorem dX0_forward_128 : decode cX0_forward 128 = .ok (.putfield 30, 3) := by decide +kernel
theorem dX0_forward_131 : decode cX0_forward 131 = .ok (.return_, 1) := by decide +kernel
theorem dX0_has_0 : decode cX0_has 0 = .ok (.aload_n 0, 1) := by decide +kernel
theorem dX0_has_1 : decode cX0_has 1 = .ok (.getfield 20, 3) := by decide +kernel
theorem dX0_has_4 : decode cX0_has 4 = .ok (.bipush 6, 2) := by decide +kernel
theorem dX0_has_6 : decode cX0_has 6 = .ok (.iload_n 1, 1) := by decide +kernel
theorem dX0_has_7 : decode cX0_has 7 = .ok (.imul, 1) := by decide +kernel
theorem dX0_has_8 : decode cX0_has 8 = .ok (.iload_n 2, 1) := by decide +kernel
theorem dX0_has_9 : decode cX0_has 9 = .ok (.iadd, 1) := by decide +kernel
theorem dX0_has_10 : decode cX0_has 10 = .ok (.ishr, 1) := by decide +kernel
theorem dX0_has_11 : decode cX0_has 11 = .ok (.iconst 1, 1) := by decide +kernel
theorem dX0_has_12 : decode cX0_has 12 = .ok (.iand, 1) := by decide +kernel
theorem dX0_has_13 : decode cX0_has 13 = .ok (.ifCond .eq 7, 3) := by decide +kernel
theorem dX0_has_16 : decode cX0_has 16 = .ok (.iconst 1, 1) := by decide +kernel
theorem dX0_has_17 : decode cX0_has 17 = .ok (.goto 4, 3) := by decide +kernel
theorem dX0_has_20 : decode cX0_has 20 = .ok (.iconst 0, 1) := by decide +kernel
theorem dX0_has_21 : decode cX0_has 21 = .ok (.ireturn, 1) := by decide +kernel
theorem dX0_slotOf_0 : decode cX0_slotOf 0 = .ok (.iload_n 0, 1) := by decide +kernel
theorem dX0_slotOf_1 : decode cX0_slotOf 1 = .ok (.iconst 1, 1) := by decide +kernel
theorem dX0_slotOf_2 : decode cX0_slotOf 2 = .ok (.isub, 1) := by decide +kernel
theorem dX0_slotOf_3 : decode cX0_slotOf 3 = .ok (.iconst 3, 1) := by decide +kernel
theorem dX0_slotOf_4 : decode cX0_slotOf 4 = .ok (.imul, 1) := by decide +kernel
theorem dX0_slotOf_5 : decode cX0_slotOf 5 = .ok (.iload_n 1, 1) := by decide +kernel
theorem dX0_slotOf_6 : decode cX0_slotOf 6 = .ok (.iadd, 1) := by decide +kernel
theorem dX0_slotOf_7 : decode cX0_slotOf 7 = .ok (.ireturn, 1) := by decide +kernel
set_option maxRecDepth 20000 in
theorem ggX1_init_X4_init : GoodIn wsX1_init wsX4_init := goodIn_r _ [10, 11, 2, 3, 12, 13, 14] (by decide +kernel) (by decide +kernel)
set_option maxRecDepth 20000 in
theorem gX1_init_X4_init : GoodIn wsX1_init (wsX4_init) := ggX1_init_X4_init
theorem dX1_init_0 : decode cX1_init 0 = .ok (.aload_n 0, 1) := by decide +kernel
theorem dX1_init_1 : decode cX1_init 1 = .ok (.invokespecial 3, 3) := by decide +kernel
theorem dX1_init_4 : decode cX1_init 4 = .ok (.aload_n 0, 1) := by decide +kernel
theorem dX1_init_5 : decode cX1_init 5 = .ok (.new 9, 3) := by decide +kernel
theorem dX1_init_8 : decode cX1_init 8 = .ok (.dup, 1) := by decide +kernel
theorem dX1_init_9 : decode cX1_init 9 = .ok (.bipush 60, 2) := by decide +kernel
theorem dX1_init_11 : decode cX1_init 11 = .ok (.invokespecial 11, 3) := by decide +kernel
theorem dX1_init_14 : decode cX1_init 14 = .ok (.putfield 14, 3) := by decide +kernel
theorem dX1_init_17 : decode cX1_init 17 = .ok (.return_, 1) := by decide +kernel
theorem dX1_size_0 : decode cX1_size 0 = .ok (.aload_n 0, 1) := by decide +kernel
theorem dX1_size_1 : decode cX1_size 1 = .ok (.getfield 20, 3) := by decide +kernel
theorem dX1_size_4 : decode cX1_size 4 = .ok (.ireturn, 1) := by decide +kernel
set_option maxRecDepth 20000 in
theorem ggX1_frame_X4_read : GoodIn wsX1_frame wsX4_read := goodIn_r _ [6, 7, 10] (by decide +kernel) (by decide +kernel)
set_option maxRecDepth 20000 in
theorem gX1_frame_X4_read : GoodIn wsX1_frame (wsV RX1 24 RX4 yX4_read wsX4_read) := goodIn_app (goodIn_of _ (by decide +kernel)) ggX1_frame_X4_read
theorem dX1_frame_0 : decode cX1_frame 0 = .ok (.aload_n 0, 1) := by decide +kernel
theorem dX1_frame_1 : decode cX1_frame 1 = .ok (.getfield 14, 3) := by decide +kernel
theorem dX1_frame_4 : decode cX1_frame 4 = .ok (.iload_n 1, 1) := by decide +kernel
theorem dX1_frame_5 : decode cX1_frame 5 = .ok (.invokevirtual 24, 3) := by decide +kernel
theorem dX1_frame_8 : decode cX1_frame 8 = .ok (.ireturn, 1) := by decide +kernel
set_option maxRecDepth 20000 in
theorem ggX1_append_X4_write : GoodIn wsX1_append wsX4_write := goodIn_r _ [7, 8, 11] (by decide +kernel) (by decide +kernel)
set_option maxRecDepth 20000 in
theorem gX1_append_X4_write : GoodIn wsX1_append (wsV RX1 28 RX4 yX4_write wsX4_write) := goodIn_app (goodIn_of _ (by decide +kernel)) ggX1_append_X4_write
theorem dX1_append_0 : decode cX1_append 0 = .ok (.aload_n 0, 1) := by decide +kernel
theorem dX1_append_1 : decode cX1_append 1 = .ok (.getfield 20, 3) := by decide +kernel
theorem dX1_append_4 : decode cX1_append 4 = .ok (.bipush 60, 2) := by decide +kernel
theorem dX1_append_6 : decode cX1_append 6 = .ok (.if_icmp .ge 25, 3) := by decide +kernel
theorem dX1_append_9 : decode cX1_append 9 = .ok (.aload_n 0, 1) := by decide +kernel
theorem dX1_append_10 : decode cX1_append 10 = .ok (.getfield 14, 3) := by decide +kernel
theorem dX1_append_13 : decode cX1_append 13 = .ok (.aload_n 0, 1) := by decide +kernel
theorem dX1_append_14 : decode cX1_append 14 = .ok (.getfield 20, 3) := by decide +kernel
theorem dX1_append_17 : decode cX1_append 17 = .ok (.iload_n 1, 1) := by decide +kernel
theorem dX1_append_18 : decode cX1_append 18 = .ok (.invokevirtual 28, 3) := by decide +kernel
theorem dX1_append_21 : decode cX1_append 21 = .ok (.aload_n 0, 1) := by decide +kernel
theorem dX1_append_22 : decode cX1_append 22 = .ok (.dup, 1) := by decide +kernel
theorem dX1_append_23 : decode cX1_append 23 = .ok (.getfield 20, 3) := by decide +kernel
theorem dX1_append_26 : decode cX1_append 26 = .ok (.iconst 1, 1) := by decide +kernel
theorem dX1_append_27 : decode cX1_append 27 = .ok (.iadd, 1) := by decide +kernel
theorem dX1_append_28 : decode cX1_append 28 = .ok (.putfield 20, 3) := by decide +kernel
theorem dX1_append_31 : decode cX1_append 31 = .ok (.return_, 1) := by decide +kernel
theorem dX1_cutTo_0 : decode cX1_cutTo 0 = .ok (.iload_n 1, 1) := by decide +kernel
theorem dX1_cutTo_1 : decode cX1_cutTo 1 = .ok (.ifCond .lt 16, 3) := by decide +kernel
theorem dX1_cutTo_4 : decode cX1_cutTo 4 = .ok (.iload_n 1, 1) := by decide +kernel
theorem dX1_cutTo_5 : decode cX1_cutTo 5 = .ok (.aload_n 0, 1) := by decide +kernel
theorem dX1_cutTo_6 : decode cX1_cutTo 6 = .ok (.getfield 20, 3) := by decide +kernel
theorem dX1_cutTo_9 : decode cX1_cutTo 9 = .ok (.if_icmp .ge 8, 3) := by decide +kernel
theorem dX1_cutTo_12 : decode cX1_cutTo 12 = .ok (.aload_n 0, 1) := by decide +kernel
theorem dX1_cutTo_13 : decode cX1_cutTo 13 = .ok (.iload_n 1, 1) := by decide +kernel
theorem dX1_cutTo_14 : decode cX1_cutTo 14 = .ok (.putfield 20, 3) := by decide +kernel
theorem dX1_cutTo_17 : decode cX1_cutTo 17 = .ok (.return_, 1) := by decide +kernel
theorem dX2_init_0 : decode cX2_init 0 = .ok (.aload_n 0, 1) := by decide +kernel
theorem dX2_init_1 : decode cX2_init 1 = .ok (.invokespecial 3, 3) := by decide +kernel
theorem dX2_init_4 : decode cX2_init 4 = .ok (.return_, 1) := by decide +kernel
set_option maxRecDepth 20000 in
theorem ggX2_reset_X2_makeAccess : GoodIn wsX2_reset wsX2_makeAccess := goodIn_r _ [9, 2, 10, 11, 12, 8, 13, 3, 4, 14, 15, 16, 17, 18, 19, 20, 21, 22] (by decide +kernel) (by decide +kernel)
set_option maxRecDepth 20000 in
theorem gX2_reset_X2_makeAccess : GoodIn wsX2_reset (wsV RX2 24 RX2 yX2_makeAccess wsX2_makeAccess) := goodIn_app (goodIn_of _ (by decide +kernel)) ggX2_reset_X2_makeAccess
theorem dX2_reset_0 : decode cX2_reset 0 = .ok (.aload_n 0, 1) := by decide +kernel
theorem dX2_reset_1 : decode cX2_reset 1 = .ok (.iload_n 1, 1) := by decide +kernel
theorem dX2_reset_2 : decode cX2_reset 2 = .ok (.putfield 9, 3) := by decide +kernel
theorem dX2_reset_5 : decode cX2_reset 5 = .ok (.aload_n 0, 1) := by decide +kernel
theorem dX2_reset_6 : decode cX2_reset 6 = .ok (.iconst 0, 1) := by decide +kernel
theorem dX2_reset_7 : decode cX2_reset 7 = .ok (.putfield 15, 3) := by decide +kernel
theorem dX2_reset_10 : decode cX2_reset 10 = .ok (.aload_n 0, 1) := by decide +kernel
theorem dX2_reset_11 : decode cX2_reset 11 = .ok (.iconst 0, 1) := by decide +kernel
theorem dX2_reset_12 : decode cX2_reset 12 = .ok (.putfield 18, 3) := by decide +kernel
theorem dX2_reset_15 : decode cX2_reset 15 = .ok (.aload_n 0, 1) := by decide +kernel
theorem dX2_reset_16 : decode cX2_reset 16 = .ok (.iconst 0, 1) := by decide +kernel
theorem dX2_reset_17 : decode cX2_reset 17 = .ok (.putfield 21, 3) := by decide +kernel
theorem dX2_reset_20 : decode cX2_reset 20 = .ok (.iconst 0, 1) := by decide +kernel
theorem dX2_reset_21 : decode cX2_reset 21 = .ok (.istore_n 2, 1) := by decide +kernel
theorem dX2_reset_22 : decode cX2_reset 22 = .ok (.iload_n 2, 1) := by decide +kernel
theorem dX2_reset_23 : decode cX2_reset 23 = .ok (.iload_n 1, 1) := by decide +kernel
theorem dX2_reset_24 : decode cX2_reset 24 = .ok (.if_icmp .ge 15, 3) := by decide +kernel
theorem dX2_reset_27 : decode cX2_reset 27 = .ok (.aload_n 0, 1) := by decide +kernel
theorem dX2_reset_28 : decode cX2_reset 28 = .ok (.iload_n 2, 1) := by decide +kernel
theorem dX2_reset_29 : decode cX2_reset 29 = .ok (.iconst 1, 1) := by decide +kernel
theorem dX2_reset_30 : decode cX2_reset 30 = .ok (.invokevirtual 24, 3) := by decide +kernel
theorem dX2_reset_33 : decode cX2_reset 33 = .ok (.iinc 2 1, 3) := by decide +kernel
theorem dX2_reset_36 : decode cX2_reset 36 = .ok (.goto (-14), 3) := by decide +kernel
theorem dX2_reset_39 : decode cX2_reset 39 = .ok (.return_, 1) := by decide +kernel
theorem dX2_portCount_0 : decode cX2_portCount 0 = .ok (.aload_n 0, 1) := by decide +kernel
theorem dX2_portCount_1 : decode cX2_portCount 1 = .ok (.getfield 9, 3) := by decide +kernel
theorem dX2_portCount_4 : decode cX2_portCount 4 = .ok (.ireturn, 1) := by decide +kernel
theorem dX2_accessPorts_0 : decode cX2_accessPorts 0 = .ok (.aload_n 0, 1) := by decide +kernel
theorem dX2_accessPorts_1 : decode cX2_accessPorts 1 = .ok (.getfield 15, 3) := by decide +kernel
theorem dX2_accessPorts_4 : decode cX2_accessPorts 4 = .ok (.ireturn, 1) := by decide +kernel
theorem dX2_members_0 : decode cX2_members 0 = .ok (.aload_n 0, 1) := by decide +kernel
theorem dX2_members_1 : decode cX2_members 1 = .ok (.getfield 18, 3) := by decide +kernel
theorem dX2_members_4 : decode cX2_members 4 = .ok (.ireturn, 1) := by decide +kernel
theorem dX2_natives_0 : decode cX2_natives 0 = .ok (.aload_n 0, 1) := by decide +kernel
theorem dX2_natives_1 : decode cX2_natives 1 = .ok (.getfield 21, 3) := by decide +kernel
theorem dX2_natives_4 : decode cX2_natives 4 = .ok (.ireturn, 1) := by decide +kernel
set_option maxRecDepth 20000 in
theorem ggX2_makeAccess_X2_makeTrunk : GoodIn wsX2_makeAccess wsX2_makeTrunk := goodIn_r _ [6, 1, 7, 8, 9, 10, 11, 12, 13, 14, 15, 16, 17] (by decide +kernel) (by decide +kernel)
set_option maxRecDepth 20000 in
theorem gX2_makeAccess_X2_makeTrunk : GoodIn wsX2_makeAccess (wsV RX2 28 RX2 yX2_makeTrunk wsX2_makeTrunk) := goodIn_app (goodIn_of _ (by decide +kernel)) ggX2_makeAccess_X2_makeTrunk
theorem dX2_makeAccess_0 : decode cX2_makeAccess 0 = .ok (.aload_n 0, 1) := by decide +kernel
theorem dX2_makeAccess_1 : decode cX2_makeAccess 1 = .ok (.iload_n 1, 1) := by decide +kernel
theorem dX2_makeAccess_2 : decode cX2_makeAccess 2 = .ok (.iconst 1, 1) := by decide +kernel
theorem dX2_makeAccess_3 : decode cX2_makeAccess 3 = .ok (.iload_n 2, 1) := by decide +kernel
theorem dX2_makeAccess_4 : decode cX2_makeAccess 4 = .ok (.iconst 1, 1) := by decide +kernel
theorem dX2_makeAccess_5 : decode cX2_makeAccess 5 = .ok (.isub, 1) := by decide +kernel
theorem dX2_makeAccess_6 : decode cX2_makeAccess 6 = .ok (.ishl, 1) := by decide +kernel
theorem dX2_makeAccess_7 : decode cX2_makeAccess 7 = .ok (.iload_n 2, 1) := by decide +kernel
theorem dX2_makeAccess_8 : decode cX2_makeAccess 8 = .ok (.invokevirtual 28, 3) := by decide +kernel
theorem dX2_makeAccess_11 : decode cX2_makeAccess 11 = .ok (.aload_n 0, 1) := by decide +kernel
theorem dX2_makeAccess_12 : decode cX2_makeAccess 12 = .ok (.dup, 1) := by decide +kernel
theorem dX2_makeAccess_13 : decode cX2_makeAccess 13 = .ok (.getfield 15, 3) := by decide +kernel
theorem dX2_makeAccess_16 : decode cX2_makeAccess 16 = .ok (.iconst 1, 1) := by decide +kernel
theorem dX2_makeAccess_17 : decode cX2_makeAccess 17 = .ok (.iload_n 1, 1) := by decide +kernel
theorem dX2_makeAccess_18 : decode cX2_makeAccess 18 = .ok (.ishl, 1) := by decide +kernel
theorem dX2_makeAccess_19 : decode cX2_makeAccess 19 = .ok (.ior, 1) := by decide +kernel
theorem dX2_makeAccess_20 : decode cX2_makeAccess 20 = .ok (.putfield 15, 3) := by decide +kernel
theorem dX2_makeAccess_23 : decode cX2_makeAccess 23 = .ok (.return_, 1) := by decide +kernel
set_option maxRecDepth 20000 in
theorem ggX2_makeTrunk_X7_cellOf : GoodIn wsX2_makeTrunk wsX7_cellOf := goodIn_r _ [6] (by decide +kernel) (by decide +kernel)
set_option maxRecDepth 20000 in
theorem gX2_makeTrunk_X7_cellOf_n32 : GoodIn wsX2_makeTrunk (wsX7_cellOf) := ggX2_makeTrunk_X7_cellOf
set_option maxRecDepth 20000 in
theorem ggX2_makeTrunk_X7_hasNetwork : GoodIn wsX2_makeTrunk wsX7_hasNetwork := goodIn_r _ [8] (by decide +kernel) (by decide +kernel)
set_option maxRecDepth 20000 in
theorem gX2_makeTrunk_X7_hasNetwork_n36 : GoodIn wsX2_makeTrunk (wsX7_hasNetwork) := ggX2_makeTrunk_X7_hasNetwork
theorem dX2_makeTrunk_0 : decode cX2_makeTrunk 0 = .ok (.aload_n 0, 1) := by decide +kernel
theorem dX2_makeTrunk_1 : decode cX2_makeTrunk 1 = .ok (.dup, 1) := by decide +kernel
theorem dX2_makeTrunk_2 : decode cX2_makeTrunk 2 = .ok (.getfield 15, 3) := by decide +kernel
theorem dX2_makeTrunk_5 : decode cX2_makeTrunk 5 = .ok (.iconst 1, 1) := by decide +kernel
theorem dX2_makeTrunk_6 : decode cX2_makeTrunk 6 = .ok (.iload_n 1, 1) := by decide +kernel
theorem dX2_makeTrunk_7 : decode cX2_makeTrunk 7 = .ok (.ishl, 1) := by decide +kernel
theorem dX2_makeTrunk_8 : decode cX2_makeTrunk 8 = .ok (.iconst (-1), 1) := by decide +kernel
theorem dX2_makeTrunk_9 : decode cX2_makeTrunk 9 = .ok (.ixor, 1) := by decide +kernel
theorem dX2_makeTrunk_10 : decode cX2_makeTrunk 10 = .ok (.iand, 1) := by decide +kernel
theorem dX2_makeTrunk_11 : decode cX2_makeTrunk 11 = .ok (.putfield 15, 3) := by decide +kernel
theorem dX2_makeTrunk_14 : decode cX2_makeTrunk 14 = .ok (.iconst 1, 1) := by decide +kernel
theorem dX2_makeTrunk_15 : decode cX2_makeTrunk 15 = .ok (.istore 4, 2) := by decide +kernel
theorem dX2_makeTrunk_17 : decode cX2_makeTrunk 17 = .ok (.iload 4, 2) := by decide +kernel
theorem dX2_makeTrunk_19 : decode cX2_makeTrunk 19 = .ok (.iconst 4, 1) := by decide +kernel
theorem dX2_makeTrunk_20 : decode cX2_makeTrunk 20 = .ok (.if_icmp .gt 78, 3) := by decide +kernel
theorem dX2_makeTrunk_23 : decode cX2_makeTrunk 23 = .ok (.iload 4, 2) := by decide +kernel
theorem dX2_makeTrunk_25 : decode cX2_makeTrunk 25 = .ok (.iload_n 1, 1) := by decide +kernel
theorem dX2_makeTrunk_26 : decode cX2_makeTrunk 26 = .ok (.invokestatic 32, 3) := by decide +kernel
theorem dX2_makeTrunk_29 : decode cX2_makeTrunk 29 = .ok (.istore 5, 2) := by decide +kernel
theorem dX2_makeTrunk_31 : decode cX2_makeTrunk 31 = .ok (.aload_n 0, 1) := by decide +kernel
theorem dX2_makeTrunk_32 : decode cX2_makeTrunk 32 = .ok (.iload_n 2, 1) := by decide +kernel
theorem dX2_makeTrunk_33 : decode cX2_makeTrunk 33 = .ok (.iload 4, 2) := by decide +kernel
theorem dX2_makeTrunk_35 : decode cX2_makeTrunk 35 = .ok (.invokestatic 36, 3) := by decide +kernel
theorem dX2_makeTrunk_38 : decode cX2_makeTrunk 38 = .ok (.ifCond .eq 13, 3) := by decide +kernel
theorem dX2_makeTrunk_41 : decode cX2_makeTrunk 41 = .ok (.aload_n 0, 1) := by decide +kernel
theorem dX2_makeTrunk_42 : decode cX2_makeTrunk 42 = .ok (.getfield 18, 3) := by decide +kernel
theorem dX2_makeTrunk_45 : decode cX2_makeTrunk 45 = .ok (.iload 5, 2) := by decide +kernel
theorem dX2_makeTrunk_47 : decode cX2_makeTrunk 47 = .ok (.ior, 1) := by decide +kernel
theorem dX2_makeTrunk_48 : decode cX2_makeTrunk 48 = .ok (.goto 12, 3) := by decide +kernel
theorem dX2_makeTrunk_51 : decode cX2_makeTrunk 51 = .ok (.aload_n 0, 1) := by decide +kernel
theorem dX2_makeTrunk_52 : decode cX2_makeTrunk 52 = .ok (.getfield 18, 3) := by decide +kernel
theorem dX2_makeTrunk_55 : decode cX2_makeTrunk 55 = .ok (.iload 5, 2) := by decide +kernel
theorem dX2_makeTrunk_57 : decode cX2_makeTrunk 57 = .ok (.iconst (-1), 1) := by decide +kernel
theorem dX2_makeTrunk_58 : decode cX2_makeTrunk 58 = .ok (.ixor, 1) := by decide +kernel
theorem dX2_makeTrunk_59 : decode cX2_makeTrunk 59 = .ok (.iand, 1) := by decide +kernel
theorem dX2_makeTrunk_60 : decode cX2_makeTrunk 60 = .ok (.putfield 18, 3) := by decide +kernel
theorem dX2_makeTrunk_63 : decode cX2_makeTrunk 63 = .ok (.aload_n 0, 1) := by decide +kernel
theorem dX2_makeTrunk_64 : decode cX2_makeTrunk 64 = .ok (.iload 4, 2) := by decide +kernel
theorem dX2_makeTrunk_66 : decode cX2_makeTrunk 66 = .ok (.iload_n 3, 1) := by decide +kernel
theorem dX2_makeTrunk_67 : decode cX2_makeTrunk 67 = .ok (.if_icmp .ne 13, 3) := by decide +kernel
theorem dX2_makeTrunk_70 : decode cX2_makeTrunk 70 = .ok (.aload_n 0, 1) := by decide +kernel
theorem dX2_makeTrunk_71 : decode cX2_makeTrunk 71 = .ok (.getfield 21, 3) := by decide +kernel
theorem dX2_makeTrunk_74 : decode cX2_makeTrunk 74 = .ok (.iload 5, 2) := by decide +kernel
theorem dX2_makeTrunk_76 : decode cX2_makeTrunk 76 = .ok (.ior, 1) := by decide +kernel
theorem dX2_makeTrunk_77 : decode cX2_makeTrunk 77 = .ok (.goto 12, 3) := by decide +kernel
theorem dX2_makeTrunk_80 : decode cX2_makeTrunk 80 = .ok (.aload_n 0, 1) := by decide +kernel
theorem dX2_makeTrunk_81 : decode cX2_makeTrunk 81 = .ok (.getfield 21, 3) := by decide +kernel
theorem dX2_makeTrunk_84 : decode cX2_makeTrunk 84 = .ok (.iload 5, 2) := by decide +kernel
theorem dX2_makeTrunk_86 : decode cX2_makeTrunk 86 = .ok (.iconst (-1), 1) := by decide +kernel
theorem dX2_makeTrunk_87 : decode cX2_makeTrunk 87 = .ok (.ixor, 1) := by decide +kernel
theorem dX2_makeTrunk_88 : decode cX2_makeTrunk 88 = .ok (.iand, 1) := by decide +kernel
theorem dX2_makeTrunk_89 : decode cX2_makeTrunk 89 = .ok (.putfield 21, 3) := by decide +kernel
theorem dX2_makeTrunk_92 : decode cX2_makeTrunk 92 = .ok (.iinc 4 1, 3) := by decide +kernel
theorem dX2_makeTrunk_95 : decode cX2_makeTrunk 95 = .ok (.goto (-78), 3) := by decide +kernel
theorem dX2_makeTrunk_98 : decode cX2_makeTrunk 98 = .ok (.return_, 1) := by decide +kernel
theorem dX2_nativeOf_0 : decode cX2_nativeOf 0 = .ok (.iconst 1, 1) := by decide +kernel
theorem dX2_nativeOf_1 : decode cX2_nativeOf 1 = .ok (.istore_n 2, 1) := by decide +kernel
theorem dX2_nativeOf_2 : decode cX2_nativeOf 2 = .ok (.iload_n 2, 1) := by decide +kernel
theorem dX2_nativeOf_3 : decode cX2_nativeOf 3 = .ok (.iconst 4, 1) := by decide +kernel
theorem dX2_nativeOf_4 : decode cX2_nativeOf 4 = .ok (.if_icmp .gt 27, 3) := by decide +kernel
theorem dX2_nativeOf_7 : decode cX2_nativeOf 7 = .ok (.aload_n 0, 1) := by decide +kernel
theorem dX2_nativeOf_8 : decode cX2_nativeOf 8 = .ok (.getfield 21, 3) := by decide +kernel
theorem dX2_nativeOf_11 : decode cX2_nativeOf 11 = .ok (.bipush 6, 2) := by decide +kernel
theorem dX2_nativeOf_13 : decode cX2_nativeOf 13 = .ok (.iload_n 2, 1) := by decide +kernel
theorem dX2_nativeOf_14 : decode cX2_nativeOf 14 = .ok (.imul, 1) := by decide +kernel
theorem dX2_nativeOf_15 : decode cX2_nativeOf 15 = .ok (.iload_n 1, 1) := by decide +kernel
theorem dX2_nativeOf_16 : decode cX2_nativeOf 16 = .ok (.iadd, 1) := by decide +kernel
theorem dX2_nativeOf_17 : decode cX2_nativeOf 17 = .ok (.ishr, 1) := by decide +kernel
theorem dX2_nativeOf_18 : decode cX2_nativeOf 18 = .ok (.iconst 1, 1) := by decide +kernel
theorem dX2_nativeOf_19 : decode cX2_nativeOf 19 = .ok (.iand, 1) := by decide +kernel
theorem dX2_nativeOf_20 : decode cX2_nativeOf 20 = .ok (.ifCond .eq 5, 3) := by decide +kernel
theorem dX2_nativeOf_23 : decode cX2_nativeOf 23 = .ok (.iload_n 2, 1) := by decide +kernel
theorem dX2_nativeOf_24 : decode cX2_nativeOf 24 = .ok (.ireturn, 1) := by decide +kernel
theorem dX2_nativeOf_25 : decode cX2_nativeOf 25 = .ok (.iinc 2 1, 3) := by decide +kernel
theorem dX2_nativeOf_28 : decode cX2_nativeOf 28 = .ok (.goto (-26), 3) := by decide +kernel
theorem dX2_nativeOf_31 : decode cX2_nativeOf 31 = .ok (.iconst 0, 1) := by decide +kernel
theorem dX2_nativeOf_32 : decode cX2_nativeOf 32 = .ok (.ireturn, 1) := by decide +kernel
set_option maxRecDepth 20000 in
theorem ggX3_init_X4_init : GoodIn wsX3_init wsX4_init := goodIn_r _ [10, 11, 2, 3, 12, 13, 14] (by decide +kernel) (by decide +kernel)
set_option maxRecDepth 20000 in
theorem gX3_init_X4_init : GoodIn wsX3_init (wsX4_init) := ggX3_init_X4_init
theorem dX3_init_0 : decode cX3_init 0 = .ok (.aload_n 0, 1) := by decide +kernel
theorem dX3_init_1 : decode cX3_init 1 = .ok (.invokespecial 5, 3) := by decide +kernel
theorem dX3_init_4 : decode cX3_init 4 = .ok (.aload_n 0, 1) := by decide +kernel
theorem dX3_init_5 : decode cX3_init 5 = .ok (.new 11, 3) := by decide +kernel
theorem dX3_init_8 : decode cX3_init 8 = .ok (.dup, 1) := by decide +kernel
theorem dX3_init_9 : decode cX3_init 9 = .ok (.bipush 18, 2) := by decide +kernel
theorem dX3_init_11 : decode cX3_init 11 = .ok (.invokespecial 13, 3) := by decide +kernel
theorem dX3_init_14 : decode cX3_init 14 = .ok (.putfield 16, 3) := by decide +kernel
theorem dX3_init_17 : decode cX3_init 17 = .ok (.return_, 1) := by decide +kernel
theorem dX3_countAll_0 : decode cX3_countAll 0 = .ok (.iload_n 1, 1) := by decide +kernel
theorem dX3_countAll_1 : decode cX3_countAll 1 = .ok (.bipush 12, 2) := by decide +kernel
theorem dX3_countAll_3 : decode cX3_countAll 3 = .ok (.imul, 1) := by decide +kernel
theorem dX3_countAll_4 : decode cX3_countAll 4 = .ok (.bipush 35, 2) := by decide +kernel
theorem dX3_countAll_6 : decode cX3_countAll 6 = .ok (.iadd, 1) := by decide +kernel
theorem dX3_countAll_7 : decode cX3_countAll 7 = .ok (.bipush 12, 2) := by decide +kernel
theorem dX3_countAll_9 : decode cX3_countAll 9 = .ok (.iadd, 1) := by decide +kernel
theorem dX3_countAll_10 : decode cX3_countAll 10 = .ok (.ireturn, 1) := by decide +kernel
set_option maxRecDepth 20000 in
theorem ggX3_countMet_X4_read : GoodIn wsX3_countMet wsX4_read := goodIn_r _ [6, 7, 16] (by decide +kernel) (by decide +kernel)
set_option maxRecDepth 20000 in
theorem gX3_countMet_X4_read : GoodIn wsX3_countMet (wsV RX3 20 RX4 yX4_read wsX4_read) := goodIn_app (goodIn_of _ (by decide +kernel)) ggX3_countMet_X4_read
set_option maxRecDepth 20000 in
theorem ggX3_countMet_J6_bitCount_0f7a4 : GoodIn wsX3_countMet wsJ6_bitCount_0f7a4 := goodIn_r _ [11, 12, 13, 14] (by decide +kernel) (by decide +kernel)
set_option maxRecDepth 20000 in
theorem gX3_countMet_J6_bitCount_0f7a4 : GoodIn wsX3_countMet (va_wsS RX3 24 yJ6_bitCount_0f7a4 wsJ6_bitCount_0f7a4) := goodIn_app (goodIn_of _ (by decide +kernel)) ggX3_countMet_J6_bitCount_0f7a4
theorem dX3_countMet_0 : decode cX3_countMet 0 = .ok (.iconst 0, 1) := by decide +kernel
theorem dX3_countMet_1 : decode cX3_countMet 1 = .ok (.istore_n 1, 1) := by decide +kernel
theorem dX3_countMet_2 : decode cX3_countMet 2 = .ok (.iconst 0, 1) := by decide +kernel
theorem dX3_countMet_3 : decode cX3_countMet 3 = .ok (.istore_n 2, 1) := by decide +kernel
theorem dX3_countMet_4 : decode cX3_countMet 4 = .ok (.iload_n 2, 1) := by decide +kernel
theorem dX3_countMet_5 : decode cX3_countMet 5 = .ok (.bipush 18, 2) := by decide +kernel
theorem dX3_countMet_7 : decode cX3_countMet 7 = .ok (.if_icmp .ge 23, 3) := by decide +kernel
theorem dX3_countMet_10 : decode cX3_countMet 10 = .ok (.iload_n 1, 1) := by decide +kernel
theorem dX3_countMet_11 : decode cX3_countMet 11 = .ok (.aload_n 0, 1) := by decide +kernel
theorem dX3_countMet_12 : decode cX3_countMet 12 = .ok (.getfield 16, 3) := by decide +kernel
theorem dX3_countMet_15 : decode cX3_countMet 15 = .ok (.iload_n 2, 1) := by decide +kernel
theorem dX3_countMet_16 : decode cX3_countMet 16 = .ok (.invokevirtual 20, 3) := by decide +kernel
theorem dX3_countMet_19 : decode cX3_countMet 19 = .ok (.invokestatic 24, 3) := by decide +kernel
theorem dX3_countMet_22 : decode cX3_countMet 22 = .ok (.iadd, 1) := by decide +kernel
theorem dX3_countMet_23 : decode cX3_countMet 23 = .ok (.istore_n 1, 1) := by decide +kernel
theorem dX3_countMet_24 : decode cX3_countMet 24 = .ok (.iinc 2 1, 3) := by decide +kernel
theorem dX3_countMet_27 : decode cX3_countMet 27 = .ok (.goto (-23), 3) := by decide +kernel
theorem dX3_countMet_30 : decode cX3_countMet 30 = .ok (.iload_n 1, 1) := by decide +kernel
theorem dX3_countMet_31 : decode cX3_countMet 31 = .ok (.ireturn, 1) := by decide +kernel
set_option maxRecDepth 20000 in
theorem ggX3_meetAll_X4_fill : GoodIn wsX3_meetAll wsX4_fill := goodIn_r _ [6, 7, 8, 9, 10, 11, 53] (by decide +kernel) (by decide +kernel)
set_option maxRecDepth 20000 in
theorem gX3_meetAll_X4_fill : GoodIn wsX3_meetAll (wsV RX3 29 RX4 yX4_fill wsX4_fill) := goodIn_app (goodIn_of _ (by decide +kernel)) ggX3_meetAll_X4_fill
set_option maxRecDepth 20000 in
theorem ggX3_meetAll_X1_size : GoodIn wsX3_meetAll wsX1_size := goodIn_r _ [16, 17, 54, 55] (by decide +kernel) (by decide +kernel)
set_option maxRecDepth 20000 in
theorem gX3_meetAll_X1_size : GoodIn wsX3_meetAll (wsV RX3 32 RX1 yX1_size wsX1_size) := goodIn_app (goodIn_of _ (by decide +kernel)) ggX3_meetAll_X1_size
set_option maxRecDepth 20000 in
theorem ggX3_meetAll_X1_frame : GoodIn wsX3_meetAll wsX1_frame := goodIn_r _ [21, 22, 23, 24, 25, 5, 26, 7, 54, 55, 53] (by decide +kernel) (by decide +kernel)
set_option maxRecDepth 20000 in
theorem gX3_meetAll_X1_frame : GoodIn wsX3_meetAll (wsV RX3 38 RX1 yX1_frame wsX1_frame) := goodIn_app (goodIn_of _ (by decide +kernel)) ggX3_meetAll_X1_frame
set_option maxRecDepth 20000 in
theorem ggX3_meetAll_X3_meet : GoodIn wsX3_meetAll wsX3_meet := goodIn_r _ [31, 1, 32, 33, 30, 34, 35, 36, 37, 38, 39, 40, 41, 42, 43, 44, 24, 25, 5, 26, 7, 45, 46, 47, 48, 49, 50, 51, 52, 53] (by decide +kernel) (by decide +kernel)
set_option maxRecDepth 20000 in
theorem gX3_meetAll_X3_meet : GoodIn wsX3_meetAll (wsV RX3 41 RX3 yX3_meet wsX3_meet) := goodIn_app (goodIn_of _ (by decide +kernel)) ggX3_meetAll_X3_meet
theorem dX3_meetAll_0 : decode cX3_meetAll 0 = .ok (.aload_n 0, 1) := by decide +kernel
theorem dX3_meetAll_1 : decode cX3_meetAll 1 = .ok (.getfield 16, 3) := by decide +kernel
theorem dX3_meetAll_4 : decode cX3_meetAll 4 = .ok (.iconst 0, 1) := by decide +kernel
theorem dX3_meetAll_5 : decode cX3_meetAll 5 = .ok (.invokevirtual 29, 3) := by decide +kernel
theorem dX3_meetAll_8 : decode cX3_meetAll 8 = .ok (.iconst 0, 1) := by decide +kernel
theorem dX3_meetAll_9 : decode cX3_meetAll 9 = .ok (.istore_n 2, 1) := by decide +kernel
theorem dX3_meetAll_10 : decode cX3_meetAll 10 = .ok (.iload_n 2, 1) := by decide +kernel
theorem dX3_meetAll_11 : decode cX3_meetAll 11 = .ok (.aload_n 1, 1) := by decide +kernel
theorem dX3_meetAll_12 : decode cX3_meetAll 12 = .ok (.invokevirtual 32, 3) := by decide +kernel
theorem dX3_meetAll_15 : decode cX3_meetAll 15 = .ok (.if_icmp .ge 18, 3) := by decide +kernel
theorem dX3_meetAll_18 : decode cX3_meetAll 18 = .ok (.aload_n 0, 1) := by decide +kernel
theorem dX3_meetAll_19 : decode cX3_meetAll 19 = .ok (.aload_n 1, 1) := by decide +kernel
theorem dX3_meetAll_20 : decode cX3_meetAll 20 = .ok (.iload_n 2, 1) := by decide +kernel
theorem dX3_meetAll_21 : decode cX3_meetAll 21 = .ok (.invokevirtual 38, 3) := by decide +kernel
theorem dX3_meetAll_24 : decode cX3_meetAll 24 = .ok (.invokevirtual 41, 3) := by decide +kernel
theorem dX3_meetAll_27 : decode cX3_meetAll 27 = .ok (.iinc 2 1, 3) := by decide +kernel
theorem dX3_meetAll_30 : decode cX3_meetAll 30 = .ok (.goto (-20), 3) := by decide +kernel
theorem dX3_meetAll_33 : decode cX3_meetAll 33 = .ok (.return_, 1) := by decide +kernel
set_option maxRecDepth 20000 in
theorem ggX3_meet_X3_valuesOf : GoodIn wsX3_meet wsX3_valuesOf := goodIn_r _ [5, 6, 7, 8, 9, 10, 11, 12, 13, 14] (by decide +kernel) (by decide +kernel)
set_option maxRecDepth 20000 in
theorem gX3_meet_X3_valuesOf : GoodIn wsX3_meet (va_wsS RX3 44 yX3_valuesOf wsX3_valuesOf) := goodIn_app (goodIn_of _ (by decide +kernel)) ggX3_meet_X3_valuesOf
set_option maxRecDepth 20000 in
theorem ggX3_meet_X4_read : GoodIn wsX3_meet wsX4_read := goodIn_r _ [19, 20, 29] (by decide +kernel) (by decide +kernel)
set_option maxRecDepth 20000 in
theorem gX3_meet_X4_read : GoodIn wsX3_meet (wsV RX3 20 RX4 yX4_read wsX4_read) := goodIn_app (goodIn_of _ (by decide +kernel)) ggX3_meet_X4_read
set_option maxRecDepth 20000 in
theorem ggX3_meet_X3_partnersOf : GoodIn wsX3_meet wsX3_partnersOf := goodIn_r _ [23] (by decide +kernel) (by decide +kernel)
set_option maxRecDepth 20000 in
theorem gX3_meet_X3_partnersOf : GoodIn wsX3_meet (va_wsS RX3 47 yX3_partnersOf wsX3_partnersOf) := goodIn_app (goodIn_of _ (by decide +kernel)) ggX3_meet_X3_partnersOf
set_option maxRecDepth 20000 in
theorem ggX3_meet_X4_write : GoodIn wsX3_meet wsX4_write := goodIn_r _ [27, 20, 29] (by decide +kernel) (by decide +kernel)
set_option maxRecDepth 20000 in
theorem gX3_meet_X4_write : GoodIn wsX3_meet (wsV RX3 51 RX4 yX4_write wsX4_write) := goodIn_app (goodIn_of _ (by decide +kernel)) ggX3_meet_X4_write
theorem dX3_meet_0 : decode cX3_meet 0 = .ok (.iload_n 1, 1) := by decide +kernel
theorem dX3_meet_1 : decode cX3_meet 1 = .ok (.invokestatic 44, 3) := by decide +kernel
theorem dX3_meet_4 : decode cX3_meet 4 = .ok (.istore_n 2, 1) := by decide +kernel
theorem dX3_meet_5 : decode cX3_meet 5 = .ok (.iconst 0, 1) := by decide +kernel
theorem dX3_meet_6 : decode cX3_meet 6 = .ok (.istore_n 3, 1) := by decide +kernel
theorem dX3_meet_7 : decode cX3_meet 7 = .ok (.iload_n 3, 1) := by decide +kernel
theorem dX3_meet_8 : decode cX3_meet 8 = .ok (.bipush 18, 2) := by decide +kernel
theorem dX3_meet_10 : decode cX3_meet 10 = .ok (.if_icmp .ge 31, 3) := by decide +kernel
theorem dX3_meet_13 : decode cX3_meet 13 = .ok (.aload_n 0, 1) := by decide +kernel
theorem dX3_meet_14 : decode cX3_meet 14 = .ok (.getfield 16, 3) := by decide +kernel
theorem dX3_meet_17 : decode cX3_meet 17 = .ok (.iload_n 3, 1) := by decide +kernel
theorem dX3_meet_18 : decode cX3_meet 18 = .ok (.aload_n 0, 1) := by decide +kernel
theorem dX3_meet_19 : decode cX3_meet 19 = .ok (.getfield 16, 3) := by decide +kernel
theorem dX3_meet_22 : decode cX3_meet 22 = .ok (.iload_n 3, 1) := by decide +kernel
theorem dX3_meet_23 : decode cX3_meet 23 = .ok (.invokevirtual 20, 3) := by decide +kernel
theorem dX3_meet_26 : decode cX3_meet 26 = .ok (.iload_n 3, 1) := by decide +kernel
theorem dX3_meet_27 : decode cX3_meet 27 = .ok (.iload_n 2, 1) := by decide +kernel
theorem dX3_meet_28 : decode cX3_meet 28 = .ok (.invokestatic 47, 3) := by decide +kernel
theorem dX3_meet_31 : decode cX3_meet 31 = .ok (.ior, 1) := by decide +kernel
theorem dX3_meet_32 : decode cX3_meet 32 = .ok (.invokevirtual 51, 3) := by decide +kernel
theorem dX3_meet_35 : decode cX3_meet 35 = .ok (.iinc 3 1, 3) := by decide +kernel
theorem dX3_meet_38 : decode cX3_meet 38 = .ok (.goto (-31), 3) := by decide +kernel
theorem dX3_meet_41 : decode cX3_meet 41 = .ok (.return_, 1) := by decide +kernel
set_option maxRecDepth 20000 in
theorem ggX3_valuesOf_X7_portOf : GoodIn wsX3_valuesOf wsX7_portOf := goodIn_r _ [3] (by decide +kernel) (by decide +kernel)
set_option maxRecDepth 20000 in
theorem gX3_valuesOf_X7_portOf_n65 : GoodIn wsX3_valuesOf (wsX7_portOf) := ggX3_valuesOf_X7_portOf
set_option maxRecDepth 20000 in
theorem ggX3_valuesOf_X7_tagOf : GoodIn wsX3_valuesOf wsX7_tagOf := goodIn_r _ [5] (by decide +kernel) (by decide +kernel)
set_option maxRecDepth 20000 in
theorem gX3_valuesOf_X7_tagOf_n68 : GoodIn wsX3_valuesOf (wsX7_tagOf) := ggX3_valuesOf_X7_tagOf
set_option maxRecDepth 20000 in
theorem ggX3_valuesOf_X7_sourceOf : GoodIn wsX3_valuesOf wsX7_sourceOf := goodIn_r _ [7] (by decide +kernel) (by decide +kernel)
set_option maxRecDepth 20000 in
theorem gX3_valuesOf_X7_sourceOf_n71 : GoodIn wsX3_valuesOf (wsX7_sourceOf) := ggX3_valuesOf_X7_sourceOf
set_option maxRecDepth 20000 in
theorem ggX3_valuesOf_X7_destinationOf : GoodIn wsX3_valuesOf wsX7_destinationOf := goodIn_r _ [9] (by decide +kernel) (by decide +kernel)
set_option maxRecDepth 20000 in
theorem gX3_valuesOf_X7_destinationOf_n74 : GoodIn wsX3_valuesOf (wsX7_destinationOf) := ggX3_valuesOf_X7_destinationOf
theorem dX3_valuesOf_0 : decode cX3_valuesOf 0 = .ok (.iconst 1, 1) := by decide +kernel
theorem dX3_valuesOf_1 : decode cX3_valuesOf 1 = .ok (.iload_n 0, 1) := by decide +kernel
theorem dX3_valuesOf_2 : decode cX3_valuesOf 2 = .ok (.invokestatic 65, 3) := by decide +kernel
theorem dX3_valuesOf_5 : decode cX3_valuesOf 5 = .ok (.ishl, 1) := by decide +kernel
theorem dX3_valuesOf_6 : decode cX3_valuesOf 6 = .ok (.iconst 1, 1) := by decide +kernel
theorem dX3_valuesOf_7 : decode cX3_valuesOf 7 = .ok (.bipush 6, 2) := by decide +kernel
theorem dX3_valuesOf_9 : decode cX3_valuesOf 9 = .ok (.iload_n 0, 1) := by decide +kernel
theorem dX3_valuesOf_10 : decode cX3_valuesOf 10 = .ok (.invokestatic 68, 3) := by decide +kernel
theorem dX3_valuesOf_13 : decode cX3_valuesOf 13 = .ok (.iadd, 1) := by decide +kernel
theorem dX3_valuesOf_14 : decode cX3_valuesOf 14 = .ok (.ishl, 1) := by decide +kernel
theorem dX3_valuesOf_15 : decode cX3_valuesOf 15 = .ok (.ior, 1) := by decide +kernel
theorem dX3_valuesOf_16 : decode cX3_valuesOf 16 = .ok (.iconst 1, 1) := by decide +kernel
