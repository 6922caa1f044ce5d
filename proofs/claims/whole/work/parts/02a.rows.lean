set_option maxRecDepth 20000 in
theorem ggX0_init_X4_init : GoodIn wsX0_init wsX4_init := goodIn_r _ [10, 11, 2, 3, 12, 13, 14] (by decide +kernel) (by decide +kernel)
set_option maxRecDepth 20000 in
theorem gX0_init_X4_init : GoodIn wsX0_init (wsX4_init) := ggX0_init_X4_init
theorem dX0_init_0 : decode cX0_init 0 = .ok (.aload_n 0, 1) := by decide +kernel
theorem dX0_init_1 : decode cX0_init 1 = .ok (.invokespecial 3, 3) := by decide +kernel
theorem dX0_init_4 : decode cX0_init 4 = .ok (.aload_n 0, 1) := by decide +kernel
theorem dX0_init_5 : decode cX0_init 5 = .ok (.new 9, 3) := by decide +kernel
theorem dX0_init_8 : decode cX0_init 8 = .ok (.dup, 1) := by decide +kernel
theorem dX0_init_9 : decode cX0_init 9 = .ok (.bipush 12, 2) := by decide +kernel
theorem dX0_init_11 : decode cX0_init 11 = .ok (.invokespecial 11, 3) := by decide +kernel
theorem dX0_init_14 : decode cX0_init 14 = .ok (.putfield 14, 3) := by decide +kernel
theorem dX0_init_17 : decode cX0_init 17 = .ok (.return_, 1) := by decide +kernel
set_option maxRecDepth 20000 in
theorem ggX0_restart_X4_fill : GoodIn wsX0_restart wsX4_fill := goodIn_r _ [7, 8, 9, 10, 11, 12, 18] (by decide +kernel) (by decide +kernel)
set_option maxRecDepth 20000 in
theorem gX0_restart_X4_fill : GoodIn wsX0_restart (wsV RX0 24 RX4 yX4_fill wsX4_fill) := goodIn_app (goodIn_of _ (by decide +kernel)) ggX0_restart_X4_fill
theorem dX0_restart_0 : decode cX0_restart 0 = .ok (.aload_n 0, 1) := by decide +kernel
theorem dX0_restart_1 : decode cX0_restart 1 = .ok (.iload_n 1, 1) := by decide +kernel
theorem dX0_restart_2 : decode cX0_restart 2 = .ok (.putfield 20, 3) := by decide +kernel
theorem dX0_restart_5 : decode cX0_restart 5 = .ok (.aload_n 0, 1) := by decide +kernel
theorem dX0_restart_6 : decode cX0_restart 6 = .ok (.getfield 14, 3) := by decide +kernel
theorem dX0_restart_9 : decode cX0_restart 9 = .ok (.iconst (-1), 1) := by decide +kernel
theorem dX0_restart_10 : decode cX0_restart 10 = .ok (.invokevirtual 24, 3) := by decide +kernel
theorem dX0_restart_13 : decode cX0_restart 13 = .ok (.return_, 1) := by decide +kernel
theorem dX0_exits_0 : decode cX0_exits 0 = .ok (.aload_n 0, 1) := by decide +kernel
theorem dX0_exits_1 : decode cX0_exits 1 = .ok (.getfield 27, 3) := by decide +kernel
theorem dX0_exits_4 : decode cX0_exits 4 = .ok (.ireturn, 1) := by decide +kernel
theorem dX0_taggedExits_0 : decode cX0_taggedExits 0 = .ok (.aload_n 0, 1) := by decide +kernel
theorem dX0_taggedExits_1 : decode cX0_taggedExits 1 = .ok (.getfield 30, 3) := by decide +kernel
theorem dX0_taggedExits_4 : decode cX0_taggedExits 4 = .ok (.ireturn, 1) := by decide +kernel
theorem dX0_why_0 : decode cX0_why 0 = .ok (.aload_n 0, 1) := by decide +kernel
theorem dX0_why_1 : decode cX0_why 1 = .ok (.getfield 33, 3) := by decide +kernel
theorem dX0_why_4 : decode cX0_why 4 = .ok (.ireturn, 1) := by decide +kernel
set_option maxRecDepth 20000 in
theorem ggX0_placeOf_X0_slotOf : GoodIn wsX0_placeOf wsX0_slotOf := goodIn_r _ [5] (by decide +kernel) (by decide +kernel)
set_option maxRecDepth 20000 in
theorem gX0_placeOf_X0_slotOf : GoodIn wsX0_placeOf (va_wsS RX0 36 yX0_slotOf wsX0_slotOf) := goodIn_app (goodIn_of _ (by decide +kernel)) ggX0_placeOf_X0_slotOf
set_option maxRecDepth 20000 in
theorem ggX0_placeOf_X4_read : GoodIn wsX0_placeOf wsX4_read := goodIn_r _ [10, 11, 17] (by decide +kernel) (by decide +kernel)
set_option maxRecDepth 20000 in
theorem gX0_placeOf_X4_read : GoodIn wsX0_placeOf (wsV RX0 40 RX4 yX4_read wsX4_read) := goodIn_app (goodIn_of _ (by decide +kernel)) ggX0_placeOf_X4_read
theorem dX0_placeOf_0 : decode cX0_placeOf 0 = .ok (.aload_n 0, 1) := by decide +kernel
theorem dX0_placeOf_1 : decode cX0_placeOf 1 = .ok (.getfield 14, 3) := by decide +kernel
theorem dX0_placeOf_4 : decode cX0_placeOf 4 = .ok (.iload_n 1, 1) := by decide +kernel
theorem dX0_placeOf_5 : decode cX0_placeOf 5 = .ok (.iload_n 2, 1) := by decide +kernel
theorem dX0_placeOf_6 : decode cX0_placeOf 6 = .ok (.invokestatic 36, 3) := by decide +kernel
theorem dX0_placeOf_9 : decode cX0_placeOf 9 = .ok (.invokevirtual 40, 3) := by decide +kernel
theorem dX0_placeOf_12 : decode cX0_placeOf 12 = .ok (.ireturn, 1) := by decide +kernel
set_option maxRecDepth 20000 in
theorem ggX0_send_X0_isLostAtEntry : GoodIn wsX0_send wsX0_isLostAtEntry := goodIn_r _ [9, 10, 11, 12, 13, 14, 15, 8, 16, 17, 18, 19, 69, 70, 71, 72, 73] (by decide +kernel) (by decide +kernel)
set_option maxRecDepth 20000 in
theorem gX0_send_X0_isLostAtEntry : GoodIn wsX0_send (wsV RX0 44 RX0 yX0_isLostAtEntry wsX0_isLostAtEntry) := goodIn_app (goodIn_of _ (by decide +kernel)) ggX0_send_X0_isLostAtEntry
set_option maxRecDepth 20000 in
theorem ggX0_send_X0_refusal : GoodIn wsX0_send wsX0_refusal := goodIn_r _ [23, 10, 11, 12, 18, 19, 24, 25, 26, 27, 28, 29, 13, 14, 15, 8, 16, 17, 30, 31, 32, 33, 34, 35, 36, 37, 38, 39, 40, 41, 74, 75, 76, 77, 69, 70, 71, 72, 73] (by decide +kernel) (by decide +kernel)
set_option maxRecDepth 20000 in
theorem gX0_send_X0_refusal : GoodIn wsX0_send (wsV RX0 48 RX0 yX0_refusal wsX0_refusal) := goodIn_app (goodIn_of _ (by decide +kernel)) ggX0_send_X0_refusal
set_option maxRecDepth 20000 in
theorem ggX0_send_X7_portOf : GoodIn wsX0_send wsX7_portOf := goodIn_r _ [12] (by decide +kernel) (by decide +kernel)
set_option maxRecDepth 20000 in
theorem gX0_send_X7_portOf_n52 : GoodIn wsX0_send (wsX7_portOf) := ggX0_send_X7_portOf
set_option maxRecDepth 20000 in
theorem ggX0_send_X7_tagOf : GoodIn wsX0_send wsX7_tagOf := goodIn_r _ [19] (by decide +kernel) (by decide +kernel)
set_option maxRecDepth 20000 in
theorem gX0_send_X7_tagOf_n55 : GoodIn wsX0_send (wsX7_tagOf) := ggX0_send_X7_tagOf
set_option maxRecDepth 20000 in
theorem ggX0_send_X2_nativeOf : GoodIn wsX0_send wsX2_nativeOf := goodIn_r _ [28, 29, 74, 75, 76, 77] (by decide +kernel) (by decide +kernel)
set_option maxRecDepth 20000 in
theorem gX0_send_X2_nativeOf : GoodIn wsX0_send (wsV RX0 58 RX2 yX2_nativeOf wsX2_nativeOf) := goodIn_app (goodIn_of _ (by decide +kernel)) ggX0_send_X2_nativeOf
set_option maxRecDepth 20000 in
theorem ggX0_send_X0_has : GoodIn wsX0_send wsX0_has := goodIn_r _ [16, 17, 69, 70, 71, 72, 73] (by decide +kernel) (by decide +kernel)
set_option maxRecDepth 20000 in
theorem gX0_send_X0_has : GoodIn wsX0_send (wsV RX0 63 RX0 yX0_has wsX0_has) := goodIn_app (goodIn_of _ (by decide +kernel)) ggX0_send_X0_has
set_option maxRecDepth 20000 in
theorem ggX0_send_X7_sourceOf : GoodIn wsX0_send wsX7_sourceOf := goodIn_r _ [43] (by decide +kernel) (by decide +kernel)
set_option maxRecDepth 20000 in
theorem gX0_send_X7_sourceOf_n67 : GoodIn wsX0_send (wsX7_sourceOf) := ggX0_send_X7_sourceOf
set_option maxRecDepth 20000 in
theorem ggX0_send_X0_slotOf : GoodIn wsX0_send wsX0_slotOf := goodIn_r _ [46] (by decide +kernel) (by decide +kernel)
set_option maxRecDepth 20000 in
theorem gX0_send_X0_slotOf : GoodIn wsX0_send (va_wsS RX0 36 yX0_slotOf wsX0_slotOf) := goodIn_app (goodIn_of _ (by decide +kernel)) ggX0_send_X0_slotOf
set_option maxRecDepth 20000 in
theorem ggX0_send_X4_write : GoodIn wsX0_send wsX4_write := goodIn_r _ [51, 52, 78] (by decide +kernel) (by decide +kernel)
set_option maxRecDepth 20000 in
theorem gX0_send_X4_write : GoodIn wsX0_send (wsV RX0 70 RX4 yX4_write wsX4_write) := goodIn_app (goodIn_of _ (by decide +kernel)) ggX0_send_X4_write
set_option maxRecDepth 20000 in
theorem ggX0_send_X7_destinationOf : GoodIn wsX0_send wsX7_destinationOf := goodIn_r _ [54] (by decide +kernel) (by decide +kernel)
set_option maxRecDepth 20000 in
theorem gX0_send_X7_destinationOf_n74 : GoodIn wsX0_send (wsX7_destinationOf) := ggX0_send_X7_destinationOf
set_option maxRecDepth 20000 in
theorem ggX0_send_X0_forward : GoodIn wsX0_send wsX0_forward := goodIn_r _ [58, 4, 3, 17, 1, 2, 44, 45, 8, 46, 59, 60, 61, 50, 62, 52, 35, 36, 37, 27, 38, 39, 63, 11, 64, 30, 31, 32, 33, 34, 65, 66, 67, 68, 29, 69, 70, 71, 72, 73, 78, 74, 75, 76, 77] (by decide +kernel) (by decide +kernel)
set_option maxRecDepth 20000 in
theorem gX0_send_X0_forward : GoodIn wsX0_send (wsV RX0 77 RX0 yX0_forward wsX0_forward) := goodIn_app (goodIn_of _ (by decide +kernel)) ggX0_send_X0_forward
theorem dX0_send_0 : decode cX0_send 0 = .ok (.aload_n 0, 1) := by decide +kernel
theorem dX0_send_1 : decode cX0_send 1 = .ok (.iconst 0, 1) := by decide +kernel
theorem dX0_send_2 : decode cX0_send 2 = .ok (.putfield 27, 3) := by decide +kernel
theorem dX0_send_5 : decode cX0_send 5 = .ok (.aload_n 0, 1) := by decide +kernel
theorem dX0_send_6 : decode cX0_send 6 = .ok (.iconst 0, 1) := by decide +kernel
theorem dX0_send_7 : decode cX0_send 7 = .ok (.putfield 30, 3) := by decide +kernel
theorem dX0_send_10 : decode cX0_send 10 = .ok (.aload_n 0, 1) := by decide +kernel
theorem dX0_send_11 : decode cX0_send 11 = .ok (.iconst 0, 1) := by decide +kernel
theorem dX0_send_12 : decode cX0_send 12 = .ok (.putfield 33, 3) := by decide +kernel
theorem dX0_send_15 : decode cX0_send 15 = .ok (.aload_n 0, 1) := by decide +kernel
theorem dX0_send_16 : decode cX0_send 16 = .ok (.iload_n 2, 1) := by decide +kernel
theorem dX0_send_17 : decode cX0_send 17 = .ok (.invokevirtual 44, 3) := by decide +kernel
theorem dX0_send_20 : decode cX0_send 20 = .ok (.ifCond .eq 4, 3) := by decide +kernel
theorem dX0_send_23 : decode cX0_send 23 = .ok (.return_, 1) := by decide +kernel
theorem dX0_send_24 : decode cX0_send 24 = .ok (.aload_n 0, 1) := by decide +kernel
theorem dX0_send_25 : decode cX0_send 25 = .ok (.aload_n 0, 1) := by decide +kernel
theorem dX0_send_26 : decode cX0_send 26 = .ok (.aload_n 1, 1) := by decide +kernel
theorem dX0_send_27 : decode cX0_send 27 = .ok (.iload_n 2, 1) := by decide +kernel
theorem dX0_send_28 : decode cX0_send 28 = .ok (.invokevirtual 48, 3) := by decide +kernel
theorem dX0_send_31 : decode cX0_send 31 = .ok (.putfield 33, 3) := by decide +kernel
theorem dX0_send_34 : decode cX0_send 34 = .ok (.aload_n 0, 1) := by decide +kernel
theorem dX0_send_35 : decode cX0_send 35 = .ok (.getfield 33, 3) := by decide +kernel
theorem dX0_send_38 : decode cX0_send 38 = .ok (.ifCond .eq 4, 3) := by decide +kernel
theorem dX0_send_41 : decode cX0_send 41 = .ok (.return_, 1) := by decide +kernel
theorem dX0_send_42 : decode cX0_send 42 = .ok (.iload_n 2, 1) := by decide +kernel
theorem dX0_send_43 : decode cX0_send 43 = .ok (.invokestatic 52, 3) := by decide +kernel
theorem dX0_send_46 : decode cX0_send 46 = .ok (.istore_n 3, 1) := by decide +kernel
theorem dX0_send_47 : decode cX0_send 47 = .ok (.iload_n 2, 1) := by decide +kernel
theorem dX0_send_48 : decode cX0_send 48 = .ok (.invokestatic 55, 3) := by decide +kernel
theorem dX0_send_51 : decode cX0_send 51 = .ok (.ifCond .ne 11, 3) := by decide +kernel
theorem dX0_send_54 : decode cX0_send 54 = .ok (.aload_n 1, 1) := by decide +kernel
theorem dX0_send_55 : decode cX0_send 55 = .ok (.iload_n 3, 1) := by decide +kernel
theorem dX0_send_56 : decode cX0_send 56 = .ok (.invokevirtual 58, 3) := by decide +kernel
theorem dX0_send_59 : decode cX0_send 59 = .ok (.goto 7, 3) := by decide +kernel
theorem dX0_send_62 : decode cX0_send 62 = .ok (.iload_n 2, 1) := by decide +kernel
theorem dX0_send_63 : decode cX0_send 63 = .ok (.invokestatic 55, 3) := by decide +kernel
theorem dX0_send_66 : decode cX0_send 66 = .ok (.istore 4, 2) := by decide +kernel
theorem dX0_send_68 : decode cX0_send 68 = .ok (.aload_n 0, 1) := by decide +kernel
theorem dX0_send_69 : decode cX0_send 69 = .ok (.iconst 1, 1) := by decide +kernel
theorem dX0_send_70 : decode cX0_send 70 = .ok (.iload_n 3, 1) := by decide +kernel
theorem dX0_send_71 : decode cX0_send 71 = .ok (.invokevirtual 63, 3) := by decide +kernel
theorem dX0_send_74 : decode cX0_send 74 = .ok (.ifCond .ne 20, 3) := by decide +kernel
theorem dX0_send_77 : decode cX0_send 77 = .ok (.aload_n 0, 1) := by decide +kernel
theorem dX0_send_78 : decode cX0_send 78 = .ok (.getfield 14, 3) := by decide +kernel
theorem dX0_send_81 : decode cX0_send 81 = .ok (.iload 4, 2) := by decide +kernel
theorem dX0_send_83 : decode cX0_send 83 = .ok (.iload_n 2, 1) := by decide +kernel
theorem dX0_send_84 : decode cX0_send 84 = .ok (.invokestatic 67, 3) := by decide +kernel
theorem dX0_send_87 : decode cX0_send 87 = .ok (.invokestatic 36, 3) := by decide +kernel
theorem dX0_send_90 : decode cX0_send 90 = .ok (.iload_n 3, 1) := by decide +kernel
theorem dX0_send_91 : decode cX0_send 91 = .ok (.invokevirtual 70, 3) := by decide +kernel
theorem dX0_send_94 : decode cX0_send 94 = .ok (.aload_n 0, 1) := by decide +kernel
theorem dX0_send_95 : decode cX0_send 95 = .ok (.aload_n 1, 1) := by decide +kernel
theorem dX0_send_96 : decode cX0_send 96 = .ok (.iload_n 3, 1) := by decide +kernel
theorem dX0_send_97 : decode cX0_send 97 = .ok (.iload 4, 2) := by decide +kernel
theorem dX0_send_99 : decode cX0_send 99 = .ok (.iload_n 2, 1) := by decide +kernel
theorem dX0_send_100 : decode cX0_send 100 = .ok (.invokestatic 74, 3) := by decide +kernel
theorem dX0_send_103 : decode cX0_send 103 = .ok (.invokevirtual 77, 3) := by decide +kernel
theorem dX0_send_106 : decode cX0_send 106 = .ok (.return_, 1) := by decide +kernel
set_option maxRecDepth 20000 in
theorem ggX0_isLostAtEntry_X7_portOf : GoodIn wsX0_isLostAtEntry wsX7_portOf := goodIn_r _ [3] (by decide +kernel) (by decide +kernel)
set_option maxRecDepth 20000 in
theorem gX0_isLostAtEntry_X7_portOf_n52 : GoodIn wsX0_isLostAtEntry (wsX7_portOf) := ggX0_isLostAtEntry_X7_portOf
set_option maxRecDepth 20000 in
theorem ggX0_isLostAtEntry_X0_has : GoodIn wsX0_isLostAtEntry wsX0_has := goodIn_r _ [8, 9, 12, 13, 14, 15, 16] (by decide +kernel) (by decide +kernel)
set_option maxRecDepth 20000 in
theorem gX0_isLostAtEntry_X0_has : GoodIn wsX0_isLostAtEntry (wsV RX0 63 RX0 yX0_has wsX0_has) := goodIn_app (goodIn_of _ (by decide +kernel)) ggX0_isLostAtEntry_X0_has
set_option maxRecDepth 20000 in
theorem ggX0_isLostAtEntry_X7_tagOf : GoodIn wsX0_isLostAtEntry wsX7_tagOf := goodIn_r _ [11] (by decide +kernel) (by decide +kernel)
set_option maxRecDepth 20000 in
theorem gX0_isLostAtEntry_X7_tagOf_n55 : GoodIn wsX0_isLostAtEntry (wsX7_tagOf) := ggX0_isLostAtEntry_X7_tagOf
theorem dX0_isLostAtEntry_0 : decode cX0_isLostAtEntry 0 = .ok (.iload_n 1, 1) := by decide +kernel
theorem dX0_isLostAtEntry_1 : decode cX0_isLostAtEntry 1 = .ok (.invokestatic 52, 3) := by decide +kernel
theorem dX0_isLostAtEntry_4 : decode cX0_isLostAtEntry 4 = .ok (.istore_n 2, 1) := by decide +kernel
theorem dX0_isLostAtEntry_5 : decode cX0_isLostAtEntry 5 = .ok (.aload_n 0, 1) := by decide +kernel
theorem dX0_isLostAtEntry_6 : decode cX0_isLostAtEntry 6 = .ok (.iconst 0, 1) := by decide +kernel
theorem dX0_isLostAtEntry_7 : decode cX0_isLostAtEntry 7 = .ok (.iload_n 2, 1) := by decide +kernel
theorem dX0_isLostAtEntry_8 : decode cX0_isLostAtEntry 8 = .ok (.invokevirtual 63, 3) := by decide +kernel
theorem dX0_isLostAtEntry_11 : decode cX0_isLostAtEntry 11 = .ok (.ifCond .ne 19, 3) := by decide +kernel
theorem dX0_isLostAtEntry_14 : decode cX0_isLostAtEntry 14 = .ok (.aload_n 0, 1) := by decide +kernel
theorem dX0_isLostAtEntry_15 : decode cX0_isLostAtEntry 15 = .ok (.iconst 3, 1) := by decide +kernel
theorem dX0_isLostAtEntry_16 : decode cX0_isLostAtEntry 16 = .ok (.iload_n 2, 1) := by decide +kernel
theorem dX0_isLostAtEntry_17 : decode cX0_isLostAtEntry 17 = .ok (.invokevirtual 63, 3) := by decide +kernel
theorem dX0_isLostAtEntry_20 : decode cX0_isLostAtEntry 20 = .ok (.ifCond .eq 14, 3) := by decide +kernel
theorem dX0_isLostAtEntry_23 : decode cX0_isLostAtEntry 23 = .ok (.iload_n 1, 1) := by decide +kernel
theorem dX0_isLostAtEntry_24 : decode cX0_isLostAtEntry 24 = .ok (.invokestatic 55, 3) := by decide +kernel
theorem dX0_isLostAtEntry_27 : decode cX0_isLostAtEntry 27 = .ok (.ifCond .ne 7, 3) := by decide +kernel
theorem dX0_isLostAtEntry_30 : decode cX0_isLostAtEntry 30 = .ok (.iconst 1, 1) := by decide +kernel
theorem dX0_isLostAtEntry_31 : decode cX0_isLostAtEntry 31 = .ok (.goto 4, 3) := by decide +kernel
theorem dX0_isLostAtEntry_34 : decode cX0_isLostAtEntry 34 = .ok (.iconst 0, 1) := by decide +kernel
theorem dX0_isLostAtEntry_35 : decode cX0_isLostAtEntry 35 = .ok (.ireturn, 1) := by decide +kernel
set_option maxRecDepth 20000 in
theorem ggX0_refusal_X7_portOf : GoodIn wsX0_refusal wsX7_portOf := goodIn_r _ [3] (by decide +kernel) (by decide +kernel)
set_option maxRecDepth 20000 in
theorem gX0_refusal_X7_portOf_n52 : GoodIn wsX0_refusal (wsX7_portOf) := ggX0_refusal_X7_portOf
set_option maxRecDepth 20000 in
theorem ggX0_refusal_X7_tagOf : GoodIn wsX0_refusal wsX7_tagOf := goodIn_r _ [5] (by decide +kernel) (by decide +kernel)
set_option maxRecDepth 20000 in
theorem gX0_refusal_X7_tagOf_n55 : GoodIn wsX0_refusal (wsX7_tagOf) := ggX0_refusal_X7_tagOf
set_option maxRecDepth 20000 in
theorem ggX0_refusal_X2_nativeOf : GoodIn wsX0_refusal wsX2_nativeOf := goodIn_r _ [10, 11, 30, 31, 32, 33] (by decide +kernel) (by decide +kernel)
set_option maxRecDepth 20000 in
theorem gX0_refusal_X2_nativeOf : GoodIn wsX0_refusal (wsV RX0 58 RX2 yX2_nativeOf wsX2_nativeOf) := goodIn_app (goodIn_of _ (by decide +kernel)) ggX0_refusal_X2_nativeOf
set_option maxRecDepth 20000 in
theorem ggX0_refusal_X0_has : GoodIn wsX0_refusal wsX0_has := goodIn_r _ [16, 17, 34, 35, 36, 37, 38] (by decide +kernel) (by decide +kernel)
set_option maxRecDepth 20000 in
theorem gX0_refusal_X0_has : GoodIn wsX0_refusal (wsV RX0 63 RX0 yX0_has wsX0_has) := goodIn_app (goodIn_of _ (by decide +kernel)) ggX0_refusal_X0_has
set_option maxRecDepth 20000 in
theorem ggX0_refusal_X2_accessPorts : GoodIn wsX0_refusal wsX2_accessPorts := goodIn_r _ [21, 22, 30, 31, 32, 33] (by decide +kernel) (by decide +kernel)
set_option maxRecDepth 20000 in
theorem gX0_refusal_X2_accessPorts : GoodIn wsX0_refusal (wsV RX0 81 RX2 yX2_accessPorts wsX2_accessPorts) := goodIn_app (goodIn_of _ (by decide +kernel)) ggX0_refusal_X2_accessPorts
set_option maxRecDepth 20000 in
theorem ggX0_refusal_X2_members : GoodIn wsX0_refusal wsX2_members := goodIn_r _ [26, 27, 30, 31, 32, 33] (by decide +kernel) (by decide +kernel)
set_option maxRecDepth 20000 in
theorem gX0_refusal_X2_members : GoodIn wsX0_refusal (wsV RX0 85 RX2 yX2_members wsX2_members) := goodIn_app (goodIn_of _ (by decide +kernel)) ggX0_refusal_X2_members
set_option maxRecDepth 20000 in
theorem ggX0_refusal_X7_cellOf : GoodIn wsX0_refusal wsX7_cellOf := goodIn_r _ [29] (by decide +kernel) (by decide +kernel)
set_option maxRecDepth 20000 in
theorem gX0_refusal_X7_cellOf_n88 : GoodIn wsX0_refusal (wsX7_cellOf) := ggX0_refusal_X7_cellOf
theorem dX0_refusal_0 : decode cX0_refusal 0 = .ok (.iload_n 2, 1) := by decide +kernel
theorem dX0_refusal_1 : decode cX0_refusal 1 = .ok (.invokestatic 52, 3) := by decide +kernel
theorem dX0_refusal_4 : decode cX0_refusal 4 = .ok (.istore_n 3, 1) := by decide +kernel
theorem dX0_refusal_5 : decode cX0_refusal 5 = .ok (.iload_n 2, 1) := by decide +kernel
theorem dX0_refusal_6 : decode cX0_refusal 6 = .ok (.invokestatic 55, 3) := by decide +kernel
theorem dX0_refusal_9 : decode cX0_refusal 9 = .ok (.istore 4, 2) := by decide +kernel
theorem dX0_refusal_11 : decode cX0_refusal 11 = .ok (.iload 4, 2) := by decide +kernel
theorem dX0_refusal_13 : decode cX0_refusal 13 = .ok (.ifCond .ne 17, 3) := by decide +kernel
theorem dX0_refusal_16 : decode cX0_refusal 16 = .ok (.aload_n 1, 1) := by decide +kernel
theorem dX0_refusal_17 : decode cX0_refusal 17 = .ok (.iload_n 3, 1) := by decide +kernel
theorem dX0_refusal_18 : decode cX0_refusal 18 = .ok (.invokevirtual 58, 3) := by decide +kernel
theorem dX0_refusal_21 : decode cX0_refusal 21 = .ok (.ifCond .ne 7, 3) := by decide +kernel
theorem dX0_refusal_24 : decode cX0_refusal 24 = .ok (.iconst 2, 1) := by decide +kernel
theorem dX0_refusal_25 : decode cX0_refusal 25 = .ok (.goto 4, 3) := by decide +kernel
theorem dX0_refusal_28 : decode cX0_refusal 28 = .ok (.iconst 0, 1) := by decide +kernel
theorem dX0_refusal_29 : decode cX0_refusal 29 = .ok (.ireturn, 1) := by decide +kernel
theorem dX0_refusal_30 : decode cX0_refusal 30 = .ok (.aload_n 0, 1) := by decide +kernel
theorem dX0_refusal_31 : decode cX0_refusal 31 = .ok (.iconst 4, 1) := by decide +kernel
theorem dX0_refusal_32 : decode cX0_refusal 32 = .ok (.iload_n 3, 1) := by decide +kernel
theorem dX0_refusal_33 : decode cX0_refusal 33 = .ok (.invokevirtual 63, 3) := by decide +kernel
theorem dX0_refusal_36 : decode cX0_refusal 36 = .ok (.ifCond .eq 5, 3) := by decide +kernel
theorem dX0_refusal_39 : decode cX0_refusal 39 = .ok (.iconst 0, 1) := by decide +kernel
theorem dX0_refusal_40 : decode cX0_refusal 40 = .ok (.ireturn, 1) := by decide +kernel
theorem dX0_refusal_41 : decode cX0_refusal 41 = .ok (.aload_n 1, 1) := by decide +kernel
theorem dX0_refusal_42 : decode cX0_refusal 42 = .ok (.invokevirtual 81, 3) := by decide +kernel
theorem dX0_refusal_45 : decode cX0_refusal 45 = .ok (.iload_n 3, 1) := by decide +kernel
theorem dX0_refusal_46 : decode cX0_refusal 46 = .ok (.ishr, 1) := by decide +kernel
theorem dX0_refusal_47 : decode cX0_refusal 47 = .ok (.iconst 1, 1) := by decide +kernel
theorem dX0_refusal_48 : decode cX0_refusal 48 = .ok (.iand, 1) := by decide +kernel
theorem dX0_refusal_49 : decode cX0_refusal 49 = .ok (.ifCond .eq 5, 3) := by decide +kernel
theorem dX0_refusal_52 : decode cX0_refusal 52 = .ok (.iconst 1, 1) := by decide +kernel
theorem dX0_refusal_53 : decode cX0_refusal 53 = .ok (.ireturn, 1) := by decide +kernel
theorem dX0_refusal_54 : decode cX0_refusal 54 = .ok (.aload_n 1, 1) := by decide +kernel
theorem dX0_refusal_55 : decode cX0_refusal 55 = .ok (.invokevirtual 85, 3) := by decide +kernel
theorem dX0_refusal_58 : decode cX0_refusal 58 = .ok (.iload 4, 2) := by decide +kernel
theorem dX0_refusal_60 : decode cX0_refusal 60 = .ok (.iload_n 3, 1) := by decide +kernel
theorem dX0_refusal_61 : decode cX0_refusal 61 = .ok (.invokestatic 88, 3) := by decide +kernel
theorem dX0_refusal_64 : decode cX0_refusal 64 = .ok (.iand, 1) := by decide +kernel
theorem dX0_refusal_65 : decode cX0_refusal 65 = .ok (.ifCond .ne 7, 3) := by decide +kernel
theorem dX0_refusal_68 : decode cX0_refusal 68 = .ok (.iconst 3, 1) := by decide +kernel
theorem dX0_refusal_69 : decode cX0_refusal 69 = .ok (.goto 4, 3) := by decide +kernel
theorem dX0_refusal_72 : decode cX0_refusal 72 = .ok (.iconst 0, 1) := by decide +kernel
theorem dX0_refusal_73 : decode cX0_refusal 73 = .ok (.ireturn, 1) := by decide +kernel
set_option maxRecDepth 20000 in
theorem ggX0_forward_X0_slotOf : GoodIn wsX0_forward wsX0_slotOf := goodIn_r _ [9] (by decide +kernel) (by decide +kernel)
set_option maxRecDepth 20000 in
theorem gX0_forward_X0_slotOf : GoodIn wsX0_forward (va_wsS RX0 36 yX0_slotOf wsX0_slotOf) := goodIn_app (goodIn_of _ (by decide +kernel)) ggX0_forward_X0_slotOf
set_option maxRecDepth 20000 in
theorem ggX0_forward_X4_read : GoodIn wsX0_forward wsX4_read := goodIn_r _ [14, 15, 40] (by decide +kernel) (by decide +kernel)
set_option maxRecDepth 20000 in
theorem gX0_forward_X4_read : GoodIn wsX0_forward (wsV RX0 40 RX4 yX4_read wsX4_read) := goodIn_app (goodIn_of _ (by decide +kernel)) ggX0_forward_X4_read
set_option maxRecDepth 20000 in
theorem ggX0_forward_X2_members : GoodIn wsX0_forward wsX2_members := goodIn_r _ [20, 21, 41, 42, 43, 44] (by decide +kernel) (by decide +kernel)
set_option maxRecDepth 20000 in
theorem gX0_forward_X2_members : GoodIn wsX0_forward (wsV RX0 85 RX2 yX2_members wsX2_members) := goodIn_app (goodIn_of _ (by decide +kernel)) ggX0_forward_X2_members
set_option maxRecDepth 20000 in
theorem ggX0_forward_X7_portsIn : GoodIn wsX0_forward wsX7_portsIn := goodIn_r _ [24] (by decide +kernel) (by decide +kernel)
set_option maxRecDepth 20000 in
theorem gX0_forward_X7_portsIn_n91 : GoodIn wsX0_forward (wsX7_portsIn) := ggX0_forward_X7_portsIn
set_option maxRecDepth 20000 in
theorem ggX0_forward_X2_accessPorts : GoodIn wsX0_forward wsX2_accessPorts := goodIn_r _ [28, 29, 41, 42, 43, 44] (by decide +kernel) (by decide +kernel)
set_option maxRecDepth 20000 in
theorem gX0_forward_X2_accessPorts : GoodIn wsX0_forward (wsV RX0 81 RX2 yX2_accessPorts wsX2_accessPorts) := goodIn_app (goodIn_of _ (by decide +kernel)) ggX0_forward_X2_accessPorts
set_option maxRecDepth 20000 in
theorem ggX0_forward_X2_natives : GoodIn wsX0_forward wsX2_natives := goodIn_r _ [33, 34, 41, 42, 43, 44] (by decide +kernel) (by decide +kernel)
set_option maxRecDepth 20000 in
theorem gX0_forward_X2_natives : GoodIn wsX0_forward (wsV RX0 94 RX2 yX2_natives wsX2_natives) := goodIn_app (goodIn_of _ (by decide +kernel)) ggX0_forward_X2_natives
theorem dX0_forward_0 : decode cX0_forward 0 = .ok (.iload 4, 2) := by decide +kernel
theorem dX0_forward_2 : decode cX0_forward 2 = .ok (.iconst 3, 1) := by decide +kernel
theorem dX0_forward_3 : decode cX0_forward 3 = .ok (.if_icmp .ne 7, 3) := by decide +kernel
theorem dX0_forward_6 : decode cX0_forward 6 = .ok (.iconst (-1), 1) := by decide +kernel
theorem dX0_forward_7 : decode cX0_forward 7 = .ok (.goto 16, 3) := by decide +kernel
theorem dX0_forward_10 : decode cX0_forward 10 = .ok (.aload_n 0, 1) := by decide +kernel
theorem dX0_forward_11 : decode cX0_forward 11 = .ok (.getfield 14, 3) := by decide +kernel
theorem dX0_forward_14 : decode cX0_forward 14 = .ok (.iload_n 3, 1) := by decide +kernel
theorem dX0_forward_15 : decode cX0_forward 15 = .ok (.iload 4, 2) := by decide +kernel
theorem dX0_forward_17 : decode cX0_forward 17 = .ok (.invokestatic 36, 3) := by decide +kernel
theorem dX0_forward_20 : decode cX0_forward 20 = .ok (.invokevirtual 40, 3) := by decide +kernel
theorem dX0_forward_23 : decode cX0_forward 23 = .ok (.istore 5, 2) := by decide +kernel
theorem dX0_forward_25 : decode cX0_forward 25 = .ok (.iload 5, 2) := by decide +kernel
theorem dX0_forward_27 : decode cX0_forward 27 = .ok (.iload_n 2, 1) := by decide +kernel
theorem dX0_forward_28 : decode cX0_forward 28 = .ok (.if_icmp .ne 9, 3) := by decide +kernel
theorem dX0_forward_31 : decode cX0_forward 31 = .ok (.aload_n 0, 1) := by decide +kernel
theorem dX0_forward_32 : decode cX0_forward 32 = .ok (.iconst 4, 1) := by decide +kernel
theorem dX0_forward_33 : decode cX0_forward 33 = .ok (.putfield 33, 3) := by decide +kernel
theorem dX0_forward_36 : decode cX0_forward 36 = .ok (.return_, 1) := by decide +kernel
theorem dX0_forward_37 : decode cX0_forward 37 = .ok (.iload 5, 2) := by decide +kernel
theorem dX0_forward_39 : decode cX0_forward 39 = .ok (.iconst (-1), 1) := by decide +kernel
theorem dX0_forward_40 : decode cX0_forward 40 = .ok (.if_icmp .ne 20, 3) := by decide +kernel
theorem dX0_forward_43 : decode cX0_forward 43 = .ok (.aload_n 1, 1) := by decide +kernel
theorem dX0_forward_44 : decode cX0_forward 44 = .ok (.invokevirtual 85, 3) := by decide +kernel
theorem dX0_forward_47 : decode cX0_forward 47 = .ok (.iload_n 3, 1) := by decide +kernel
theorem dX0_forward_48 : decode cX0_forward 48 = .ok (.invokestatic 91, 3) := by decide +kernel
theorem dX0_forward_51 : decode cX0_forward 51 = .ok (.iconst 1, 1) := by decide +kernel
theorem dX0_forward_52 : decode cX0_forward 52 = .ok (.iload_n 2, 1) := by decide +kernel
theorem dX0_forward_53 : decode cX0_forward 53 = .ok (.ishl, 1) := by decide +kernel
theorem dX0_forward_54 : decode cX0_forward 54 = .ok (.iconst (-1), 1) := by decide +kernel
theorem dX0_forward_55 : decode cX0_forward 55 = .ok (.ixor, 1) := by decide +kernel
theorem dX0_forward_56 : decode cX0_forward 56 = .ok (.iand, 1) := by decide +kernel
theorem dX0_forward_57 : decode cX0_forward 57 = .ok (.goto 7, 3) := by decide +kernel
theorem dX0_forward_60 : decode cX0_forward 60 = .ok (.iconst 1, 1) := by decide +kernel
theorem dX0_forward_61 : decode cX0_forward 61 = .ok (.iload 5, 2) := by decide +kernel
theorem dX0_forward_63 : decode cX0_forward 63 = .ok (.ishl, 1) := by decide +kernel
theorem dX0_forward_64 : decode cX0_forward 64 = .ok (.istore 6, 2) := by decide +kernel
theorem dX0_forward_66 : decode cX0_forward 66 = .ok (.iload 6, 2) := by decide +kernel
theorem dX0_forward_68 : decode cX0_forward 68 = .ok (.ifCond .ne 9, 3) := by decide +kernel
theorem dX0_forward_71 : decode cX0_forward 71 = .ok (.aload_n 0, 1) := by decide +kernel
theorem dX0_forward_72 : decode cX0_forward 72 = .ok (.iconst 5, 1) := by decide +kernel
theorem dX0_forward_73 : decode cX0_forward 73 = .ok (.putfield 33, 3) := by decide +kernel
theorem dX0_forward_76 : decode cX0_forward 76 = .ok (.return_, 1) := by decide +kernel
theorem dX0_forward_77 : decode cX0_forward 77 = .ok (.aload_n 0, 1) := by decide +kernel
theorem dX0_forward_78 : decode cX0_forward 78 = .ok (.iload 6, 2) := by decide +kernel
theorem dX0_forward_80 : decode cX0_forward 80 = .ok (.aload_n 0, 1) := by decide +kernel
theorem dX0_forward_81 : decode cX0_forward 81 = .ok (.getfield 20, 3) := by decide +kernel
theorem dX0_forward_84 : decode cX0_forward 84 = .ok (.iconst 0, 1) := by decide +kernel
theorem dX0_forward_85 : decode cX0_forward 85 = .ok (.invokestatic 91, 3) := by decide +kernel
theorem dX0_forward_88 : decode cX0_forward 88 = .ok (.iconst (-1), 1) := by decide +kernel
theorem dX0_forward_89 : decode cX0_forward 89 = .ok (.ixor, 1) := by decide +kernel
theorem dX0_forward_90 : decode cX0_forward 90 = .ok (.iand, 1) := by decide +kernel
theorem dX0_forward_91 : decode cX0_forward 91 = .ok (.putfield 27, 3) := by decide +kernel
theorem dX0_forward_94 : decode cX0_forward 94 = .ok (.aload_n 1, 1) := by decide +kernel
theorem dX0_forward_95 : decode cX0_forward 95 = .ok (.invokevirtual 81, 3) := by decide +kernel
theorem dX0_forward_98 : decode cX0_forward 98 = .ok (.aload_n 1, 1) := by decide +kernel
theorem dX0_forward_99 : decode cX0_forward 99 = .ok (.invokevirtual 94, 3) := by decide +kernel
theorem dX0_forward_102 : decode cX0_forward 102 = .ok (.iload_n 3, 1) := by decide +kernel
theorem dX0_forward_103 : decode cX0_forward 103 = .ok (.invokestatic 91, 3) := by decide +kernel
theorem dX0_forward_106 : decode cX0_forward 106 = .ok (.ior, 1) := by decide +kernel
theorem dX0_forward_107 : decode cX0_forward 107 = .ok (.aload_n 0, 1) := by decide +kernel
theorem dX0_forward_108 : decode cX0_forward 108 = .ok (.getfield 20, 3) := by decide +kernel
theorem dX0_forward_111 : decode cX0_forward 111 = .ok (.iconst 2, 1) := by decide +kernel
theorem dX0_forward_112 : decode cX0_forward 112 = .ok (.invokestatic 91, 3) := by decide +kernel
theorem dX0_forward_115 : decode cX0_forward 115 = .ok (.ior, 1) := by decide +kernel
theorem dX0_forward_116 : decode cX0_forward 116 = .ok (.istore 7, 2) := by decide +kernel
theorem dX0_forward_118 : decode cX0_forward 118 = .ok (.aload_n 0, 1) := by decide +kernel
theorem dX0_forward_119 : decode cX0_forward 119 = .ok (.aload_n 0, 1) := by decide +kernel
theorem dX0_forward_120 : decode cX0_forward 120 = .ok (.getfield 27, 3) := by decide +kernel
theorem dX0_forward_123 : decode cX0_forward 123 = .ok (.iload 7, 2) := by decide +kernel
theorem dX0_forward_125 : decode cX0_forward 125 = .ok (.iconst (-1), 1) := by decide +kernel
theorem dX0_forward_126 : decode cX0_forward 126 = .ok (.ixor, 1) := by decide +kernel
theorem dX0_forward_127 : decode cX0_forward 127 = .ok (.iand, 1) := by decide +kernel
theorem dX0_forward_128 : decode cX0_forward 128 = .ok (.putfield 30, 3) := by decide +kernel
theorem dX0_forward_131 : decode cX0_forward 131 = .ok (.return_, 1) := by decide +kernel
theorem dX0_has_0 : decode cX0_has 0 = .ok (.aload_n 0, 1) := by decide +kernel
theorem dX0_has_1 : decode cX0_has 1 = .ok (.getfield 20, 3) := by decide +kernel
theorem dX0_has_4 : decode cX0_has 4 = .ok (.bipush 6, 2) := by decide +kernel
theorem dX0_has_6 : decode cX0_has 6 = .ok (.iload_n 1, 1) := by decide +kernel
theorem dX0_has_7 : decode cX0_has 7 = .ok (.imul, 1) := by decide +kernel
theorem dX0_has_8 : decode cX0_has 8 = .ok (.iload_n 2, 1) := by decide +kernel
theorem dX0_has_9 : decode cX0_has 9 = .ok (.iadd, 1) := by decide +kernel
theorem dX0_has_10 : decode cX0_has 10 = .ok (.ishr, 1) := by decide +kernel
theorem dX0_has_11 : decode cX0_has 11 = .ok (.iconst 1, 1) := by decide +kernel
theorem dX0_has_12 : decode cX0_has 12 = .ok (.iand, 1) := by decide +kernel
theorem dX0_has_13 : decode cX0_has 13 = .ok (.ifCond .eq 7, 3) := by decide +kernel
theorem dX0_has_16 : decode cX0_has 16 = .ok (.iconst 1, 1) := by decide +kernel
theorem dX0_has_17 : decode cX0_has 17 = .ok (.goto 4, 3) := by decide +kernel
theorem dX0_has_20 : decode cX0_has 20 = .ok (.iconst 0, 1) := by decide +kernel
theorem dX0_has_21 : decode cX0_has 21 = .ok (.ireturn, 1) := by decide +kernel
theorem dX0_slotOf_0 : decode cX0_slotOf 0 = .ok (.iload_n 0, 1) := by decide +kernel
theorem dX0_slotOf_1 : decode cX0_slotOf 1 = .ok (.iconst 1, 1) := by decide +kernel
theorem dX0_slotOf_2 : decode cX0_slotOf 2 = .ok (.isub, 1) := by decide +kernel
theorem dX0_slotOf_3 : decode cX0_slotOf 3 = .ok (.iconst 3, 1) := by decide +kernel
theorem dX0_slotOf_4 : decode cX0_slotOf 4 = .ok (.imul, 1) := by decide +kernel
theorem dX0_slotOf_5 : decode cX0_slotOf 5 = .ok (.iload_n 1, 1) := by decide +kernel
theorem dX0_slotOf_6 : decode cX0_slotOf 6 = .ok (.iadd, 1) := by decide +kernel
theorem dX0_slotOf_7 : decode cX0_slotOf 7 = .ok (.ireturn, 1) := by decide +kernel
set_option maxRecDepth 20000 in
theorem ggX1_init_X4_init : GoodIn wsX1_init wsX4_init := goodIn_r _ [10, 11, 2, 3, 12, 13, 14] (by decide +kernel) (by decide +kernel)
set_option maxRecDepth 20000 in
theorem gX1_init_X4_init : GoodIn wsX1_init (wsX4_init) := ggX1_init_X4_init
theorem dX1_init_0 : decode cX1_init 0 = .ok (.aload_n 0, 1) := by decide +kernel
theorem dX1_init_1 : decode cX1_init 1 = .ok (.invokespecial 3, 3) := by decide +kernel
theorem dX1_init_4 : decode cX1_init 4 = .ok (.aload_n 0, 1) := by decide +kernel
theorem dX1_init_5 : decode cX1_init 5 = .ok (.new 9, 3) := by decide +kernel
theorem dX1_init_8 : decode cX1_init 8 = .ok (.dup, 1) := by decide +kernel
theorem dX1_init_9 : decode cX1_init 9 = .ok (.bipush 60, 2) := by decide +kernel
theorem dX1_init_11 : decode cX1_init 11 = .ok (.invokespecial 11, 3) := by decide +kernel
theorem dX1_init_14 : decode cX1_init 14 = .ok (.putfield 14, 3) := by decide +kernel
theorem dX1_init_17 : decode cX1_init 17 = .ok (.return_, 1) := by decide +kernel
theorem dX1_size_0 : decode cX1_size 0 = .ok (.aload_n 0, 1) := by decide +kernel
theorem dX1_size_1 : decode cX1_size 1 = .ok (.getfield 20, 3) := by decide +kernel
theorem dX1_size_4 : decode cX1_size 4 = .ok (.ireturn, 1) := by decide +kernel
set_option maxRecDepth 20000 in
theorem ggX1_frame_X4_read : GoodIn wsX1_frame wsX4_read := goodIn_r _ [6, 7, 10] (by decide +kernel) (by decide +kernel)
set_option maxRecDepth 20000 in
theorem gX1_frame_X4_read : GoodIn wsX1_frame (wsV RX1 24 RX4 yX4_read wsX4_read) := goodIn_app (goodIn_of _ (by decide +kernel)) ggX1_frame_X4_read
theorem dX1_frame_0 : decode cX1_frame 0 = .ok (.aload_n 0, 1) := by decide +kernel
theorem dX1_frame_1 : decode cX1_frame 1 = .ok (.getfield 14, 3) := by decide +kernel
theorem dX1_frame_4 : decode cX1_frame 4 = .ok (.iload_n 1, 1) := by decide +kernel
theorem dX1_frame_5 : decode cX1_frame 5 = .ok (.invokevirtual 24, 3) := by decide +kernel
theorem dX1_frame_8 : decode cX1_frame 8 = .ok (.ireturn, 1) := by decide +kernel
set_option maxRecDepth 20000 in
theorem ggX1_append_X4_write : GoodIn wsX1_append wsX4_write := goodIn_r _ [7, 8, 11] (by decide +kernel) (by decide +kernel)
set_option maxRecDepth 20000 in
theorem gX1_append_X4_write : GoodIn wsX1_append (wsV RX1 28 RX4 yX4_write wsX4_write) := goodIn_app (goodIn_of _ (by decide +kernel)) ggX1_append_X4_write
theorem dX1_append_0 : decode cX1_append 0 = .ok (.aload_n 0, 1) := by decide +kernel
theorem dX1_append_1 : decode cX1_append 1 = .ok (.getfield 20, 3) := by decide +kernel
theorem dX1_append_4 : decode cX1_append 4 = .ok (.bipush 60, 2) := by decide +kernel
theorem dX1_append_6 : decode cX1_append 6 = .ok (.if_icmp .ge 25, 3) := by decide +kernel
theorem dX1_append_9 : decode cX1_append 9 = .ok (.aload_n 0, 1) := by decide +kernel
theorem dX1_append_10 : decode cX1_append 10 = .ok (.getfield 14, 3) := by decide +kernel
theorem dX1_append_13 : decode cX1_append 13 = .ok (.aload_n 0, 1) := by decide +kernel
theorem dX1_append_14 : decode cX1_append 14 = .ok (.getfield 20, 3) := by decide +kernel
theorem dX1_append_17 : decode cX1_append 17 = .ok (.iload_n 1, 1) := by decide +kernel
theorem dX1_append_18 : decode cX1_append 18 = .ok (.invokevirtual 28, 3) := by decide +kernel
theorem dX1_append_21 : decode cX1_append 21 = .ok (.aload_n 0, 1) := by decide +kernel
theorem dX1_append_22 : decode cX1_append 22 = .ok (.dup, 1) := by decide +kernel
theorem dX1_append_23 : decode cX1_append 23 = .ok (.getfield 20, 3) := by decide +kernel
theorem dX1_append_26 : decode cX1_append 26 = .ok (.iconst 1, 1) := by decide +kernel
theorem dX1_append_27 : decode cX1_append 27 = .ok (.iadd, 1) := by decide +kernel
theorem dX1_append_28 : decode cX1_append 28 = .ok (.putfield 20, 3) := by decide +kernel
theorem dX1_append_31 : decode cX1_append 31 = .ok (.return_, 1) := by decide +kernel
theorem dX1_cutTo_0 : decode cX1_cutTo 0 = .ok (.iload_n 1, 1) := by decide +kernel
theorem dX1_cutTo_1 : decode cX1_cutTo 1 = .ok (.ifCond .lt 16, 3) := by decide +kernel
theorem dX1_cutTo_4 : decode cX1_cutTo 4 = .ok (.iload_n 1, 1) := by decide +kernel
theorem dX1_cutTo_5 : decode cX1_cutTo 5 = .ok (.aload_n 0, 1) := by decide +kernel
theorem dX1_cutTo_6 : decode cX1_cutTo 6 = .ok (.getfield 20, 3) := by decide +kernel
theorem dX1_cutTo_9 : decode cX1_cutTo 9 = .ok (.if_icmp .ge 8, 3) := by decide +kernel
theorem dX1_cutTo_12 : decode cX1_cutTo 12 = .ok (.aload_n 0, 1) := by decide +kernel
theorem dX1_cutTo_13 : decode cX1_cutTo 13 = .ok (.iload_n 1, 1) := by decide +kernel
theorem dX1_cutTo_14 : decode cX1_cutTo 14 = .ok (.putfield 20, 3) := by decide +kernel
theorem dX1_cutTo_17 : decode cX1_cutTo 17 = .ok (.return_, 1) := by decide +kernel
theorem dX2_init_0 : decode cX2_init 0 = .ok (.aload_n 0, 1) := by decide +kernel
theorem dX2_init_1 : decode cX2_init 1 = .ok (.invokespecial 3, 3) := by decide +kernel
theorem dX2_init_4 : decode cX2_init 4 = .ok (.return_, 1) := by decide +kernel
set_option maxRecDepth 20000 in
theorem ggX2_reset_X2_makeAccess : GoodIn wsX2_reset wsX2_makeAccess := goodIn_r _ [9, 2, 10, 11, 12, 8, 13, 3, 4, 14, 15, 16, 17, 18, 19, 20, 21, 22] (by decide +kernel) (by decide +kernel)
set_option maxRecDepth 20000 in
theorem gX2_reset_X2_makeAccess : GoodIn wsX2_reset (wsV RX2 24 RX2 yX2_makeAccess wsX2_makeAccess) := goodIn_app (goodIn_of _ (by decide +kernel)) ggX2_reset_X2_makeAccess
theorem dX2_reset_0 : decode cX2_reset 0 = .ok (.aload_n 0, 1) := by decide +kernel
theorem dX2_reset_1 : decode cX2_reset 1 = .ok (.iload_n 1, 1) := by decide +kernel
theorem dX2_reset_2 : decode cX2_reset 2 = .ok (.putfield 9, 3) := by decide +kernel
theorem dX2_reset_5 : decode cX2_reset 5 = .ok (.aload_n 0, 1) := by decide +kernel
theorem dX2_reset_6 : decode cX2_reset 6 = .ok (.iconst 0, 1) := by decide +kernel
theorem dX2_reset_7 : decode cX2_reset 7 = .ok (.putfield 15, 3) := by decide +kernel
theorem dX2_reset_10 : decode cX2_reset 10 = .ok (.aload_n 0, 1) := by decide +kernel
theorem dX2_reset_11 : decode cX2_reset 11 = .ok (.iconst 0, 1) := by decide +kernel
theorem dX2_reset_12 : decode cX2_reset 12 = .ok (.putfield 18, 3) := by decide +kernel
theorem dX2_reset_15 : decode cX2_reset 15 = .ok (.aload_n 0, 1) := by decide +kernel
theorem dX2_reset_16 : decode cX2_reset 16 = .ok (.iconst 0, 1) := by decide +kernel
theorem dX2_reset_17 : decode cX2_reset 17 = .ok (.putfield 21, 3) := by decide +kernel
theorem dX2_reset_20 : decode cX2_reset 20 = .ok (.iconst 0, 1) := by decide +kernel
theorem dX2_reset_21 : decode cX2_reset 21 = .ok (.istore_n 2, 1) := by decide +kernel
theorem dX2_reset_22 : decode cX2_reset 22 = .ok (.iload_n 2, 1) := by decide +kernel
theorem dX2_reset_23 : decode cX2_reset 23 = .ok (.iload_n 1, 1) := by decide +kernel
theorem dX2_reset_24 : decode cX2_reset 24 = .ok (.if_icmp .ge 15, 3) := by decide +kernel
theorem dX2_reset_27 : decode cX2_reset 27 = .ok (.aload_n 0, 1) := by decide +kernel
theorem dX2_reset_28 : decode cX2_reset 28 = .ok (.iload_n 2, 1) := by decide +kernel
theorem dX2_reset_29 : decode cX2_reset 29 = .ok (.iconst 1, 1) := by decide +kernel
theorem dX2_reset_30 : decode cX2_reset 30 = .ok (.invokevirtual 24, 3) := by decide +kernel
theorem dX2_reset_33 : decode cX2_reset 33 = .ok (.iinc 2 1, 3) := by decide +kernel
theorem dX2_reset_36 : decode cX2_reset 36 = .ok (.goto (-14), 3) := by decide +kernel
theorem dX2_reset_39 : decode cX2_reset 39 = .ok (.return_, 1) := by decide +kernel
theorem dX2_portCount_0 : decode cX2_portCount 0 = .ok (.aload_n 0, 1) := by decide +kernel
theorem dX2_portCount_1 : decode cX2_portCount 1 = .ok (.getfield 9, 3) := by decide +kernel
theorem dX2_portCount_4 : decode cX2_portCount 4 = .ok (.ireturn, 1) := by decide +kernel
theorem dX2_accessPorts_0 : decode cX2_accessPorts 0 = .ok (.aload_n 0, 1) := by decide +kernel
theorem dX2_accessPorts_1 : decode cX2_accessPorts 1 = .ok (.getfield 15, 3) := by decide +kernel
theorem dX2_accessPorts_4 : decode cX2_accessPorts 4 = .ok (.ireturn, 1) := by decide +kernel
theorem dX2_members_0 : decode cX2_members 0 = .ok (.aload_n 0, 1) := by decide +kernel
theorem dX2_members_1 : decode cX2_members 1 = .ok (.getfield 18, 3) := by decide +kernel
theorem dX2_members_4 : decode cX2_members 4 = .ok (.ireturn, 1) := by decide +kernel
theorem dX2_natives_0 : decode cX2_natives 0 = .ok (.aload_n 0, 1) := by decide +kernel
theorem dX2_natives_1 : decode cX2_natives 1 = .ok (.getfield 21, 3) := by decide +kernel
theorem dX2_natives_4 : decode cX2_natives 4 = .ok (.ireturn, 1) := by decide +kernel
set_option maxRecDepth 20000 in
theorem ggX2_makeAccess_X2_makeTrunk : GoodIn wsX2_makeAccess wsX2_makeTrunk := goodIn_r _ [6, 1, 7, 8, 9, 10, 11, 12, 13, 14, 15, 16, 17] (by decide +kernel) (by decide +kernel)
set_option maxRecDepth 20000 in
theorem gX2_makeAccess_X2_makeTrunk : GoodIn wsX2_makeAccess (wsV RX2 28 RX2 yX2_makeTrunk wsX2_makeTrunk) := goodIn_app (goodIn_of _ (by decide +kernel)) ggX2_makeAccess_X2_makeTrunk
theorem dX2_makeAccess_0 : decode cX2_makeAccess 0 = .ok (.aload_n 0, 1) := by decide +kernel
theorem dX2_makeAccess_1 : decode cX2_makeAccess 1 = .ok (.iload_n 1, 1) := by decide +kernel
theorem dX2_makeAccess_2 : decode cX2_makeAccess 2 = .ok (.iconst 1, 1) := by decide +kernel
theorem dX2_makeAccess_3 : decode cX2_makeAccess 3 = .ok (.iload_n 2, 1) := by decide +kernel
theorem dX2_makeAccess_4 : decode cX2_makeAccess 4 = .ok (.iconst 1, 1) := by decide +kernel
theorem dX2_makeAccess_5 : decode cX2_makeAccess 5 = .ok (.isub, 1) := by decide +kernel
theorem dX2_makeAccess_6 : decode cX2_makeAccess 6 = .ok (.ishl, 1) := by decide +kernel
theorem dX2_makeAccess_7 : decode cX2_makeAccess 7 = .ok (.iload_n 2, 1) := by decide +kernel
theorem dX2_makeAccess_8 : decode cX2_makeAccess 8 = .ok (.invokevirtual 28, 3) := by decide +kernel
theorem dX2_makeAccess_11 : decode cX2_makeAccess 11 = .ok (.aload_n 0, 1) := by decide +kernel
theorem dX2_makeAccess_12 : decode cX2_makeAccess 12 = .ok (.dup, 1) := by decide +kernel
theorem dX2_makeAccess_13 : decode cX2_makeAccess 13 = .ok (.getfield 15, 3) := by decide +kernel
theorem dX2_makeAccess_16 : decode cX2_makeAccess 16 = .ok (.iconst 1, 1) := by decide +kernel
theorem dX2_makeAccess_17 : decode cX2_makeAccess 17 = .ok (.iload_n 1, 1) := by decide +kernel
theorem dX2_makeAccess_18 : decode cX2_makeAccess 18 = .ok (.ishl, 1) := by decide +kernel
theorem dX2_makeAccess_19 : decode cX2_makeAccess 19 = .ok (.ior, 1) := by decide +kernel
theorem dX2_makeAccess_20 : decode cX2_makeAccess 20 = .ok (.putfield 15, 3) := by decide +kernel
theorem dX2_makeAccess_23 : decode cX2_makeAccess 23 = .ok (.return_, 1) := by decide +kernel
set_option maxRecDepth 20000 in
theorem ggX2_makeTrunk_X7_cellOf : GoodIn wsX2_makeTrunk wsX7_cellOf := goodIn_r _ [6] (by decide +kernel) (by decide +kernel)
set_option maxRecDepth 20000 in
theorem gX2_makeTrunk_X7_cellOf_n32 : GoodIn wsX2_makeTrunk (wsX7_cellOf) := ggX2_makeTrunk_X7_cellOf
set_option maxRecDepth 20000 in
theorem ggX2_makeTrunk_X7_hasNetwork : GoodIn wsX2_makeTrunk wsX7_hasNetwork := goodIn_r _ [8] (by decide +kernel) (by decide +kernel)
set_option maxRecDepth 20000 in
theorem gX2_makeTrunk_X7_hasNetwork_n36 : GoodIn wsX2_makeTrunk (wsX7_hasNetwork) := ggX2_makeTrunk_X7_hasNetwork
theorem dX2_makeTrunk_0 : decode cX2_makeTrunk 0 = .ok (.aload_n 0, 1) := by decide +kernel
theorem dX2_makeTrunk_1 : decode cX2_makeTrunk 1 = .ok (.dup, 1) := by decide +kernel
theorem dX2_makeTrunk_2 : decode cX2_makeTrunk 2 = .ok (.getfield 15, 3) := by decide +kernel
theorem dX2_makeTrunk_5 : decode cX2_makeTrunk 5 = .ok (.iconst 1, 1) := by decide +kernel
theorem dX2_makeTrunk_6 : decode cX2_makeTrunk 6 = .ok (.iload_n 1, 1) := by decide +kernel
theorem dX2_makeTrunk_7 : decode cX2_makeTrunk 7 = .ok (.ishl, 1) := by decide +kernel
theorem dX2_makeTrunk_8 : decode cX2_makeTrunk 8 = .ok (.iconst (-1), 1) := by decide +kernel
theorem dX2_makeTrunk_9 : decode cX2_makeTrunk 9 = .ok (.ixor, 1) := by decide +kernel
theorem dX2_makeTrunk_10 : decode cX2_makeTrunk 10 = .ok (.iand, 1) := by decide +kernel
theorem dX2_makeTrunk_11 : decode cX2_makeTrunk 11 = .ok (.putfield 15, 3) := by decide +kernel
theorem dX2_makeTrunk_14 : decode cX2_makeTrunk 14 = .ok (.iconst 1, 1) := by decide +kernel
theorem dX2_makeTrunk_15 : decode cX2_makeTrunk 15 = .ok (.istore 4, 2) := by decide +kernel
theorem dX2_makeTrunk_17 : decode cX2_makeTrunk 17 = .ok (.iload 4, 2) := by decide +kernel
theorem dX2_makeTrunk_19 : decode cX2_makeTrunk 19 = .ok (.iconst 4, 1) := by decide +kernel
theorem dX2_makeTrunk_20 : decode cX2_makeTrunk 20 = .ok (.if_icmp .gt 78, 3) := by decide +kernel
theorem dX2_makeTrunk_23 : decode cX2_makeTrunk 23 = .ok (.iload 4, 2) := by decide +kernel
theorem dX2_makeTrunk_25 : decode cX2_makeTrunk 25 = .ok (.iload_n 1, 1) := by decide +kernel
theorem dX2_makeTrunk_26 : decode cX2_makeTrunk 26 = .ok (.invokestatic 32, 3) := by decide +kernel
theorem dX2_makeTrunk_29 : decode cX2_makeTrunk 29 = .ok (.istore 5, 2) := by decide +kernel
theorem dX2_makeTrunk_31 : decode cX2_makeTrunk 31 = .ok (.aload_n 0, 1) := by decide +kernel
theorem dX2_makeTrunk_32 : decode cX2_makeTrunk 32 = .ok (.iload_n 2, 1) := by decide +kernel
theorem dX2_makeTrunk_33 : decode cX2_makeTrunk 33 = .ok (.iload 4, 2) := by decide +kernel
theorem dX2_makeTrunk_35 : decode cX2_makeTrunk 35 = .ok (.invokestatic 36, 3) := by decide +kernel
theorem dX2_makeTrunk_38 : decode cX2_makeTrunk 38 = .ok (.ifCond .eq 13, 3) := by decide +kernel
theorem dX2_makeTrunk_41 : decode cX2_makeTrunk 41 = .ok (.aload_n 0, 1) := by decide +kernel
theorem dX2_makeTrunk_42 : decode cX2_makeTrunk 42 = .ok (.getfield 18, 3) := by decide +kernel
theorem dX2_makeTrunk_45 : decode cX2_makeTrunk 45 = .ok (.iload 5, 2) := by decide +kernel
theorem dX2_makeTrunk_47 : decode cX2_makeTrunk 47 = .ok (.ior, 1) := by decide +kernel
theorem dX2_makeTrunk_48 : decode cX2_makeTrunk 48 = .ok (.goto 12, 3) := by decide +kernel
theorem dX2_makeTrunk_51 : decode cX2_makeTrunk 51 = .ok (.aload_n 0, 1) := by decide +kernel
theorem dX2_makeTrunk_52 : decode cX2_makeTrunk 52 = .ok (.getfield 18, 3) := by decide +kernel
theorem dX2_makeTrunk_55 : decode cX2_makeTrunk 55 = .ok (.iload 5, 2) := by decide +kernel
theorem dX2_makeTrunk_57 : decode cX2_makeTrunk 57 = .ok (.iconst (-1), 1) := by decide +kernel
theorem dX2_makeTrunk_58 : decode cX2_makeTrunk 58 = .ok (.ixor, 1) := by decide +kernel
theorem dX2_makeTrunk_59 : decode cX2_makeTrunk 59 = .ok (.iand, 1) := by decide +kernel
theorem dX2_makeTrunk_60 : decode cX2_makeTrunk 60 = .ok (.putfield 18, 3) := by decide +kernel
theorem dX2_makeTrunk_63 : decode cX2_makeTrunk 63 = .ok (.aload_n 0, 1) := by decide +kernel
theorem dX2_makeTrunk_64 : decode cX2_makeTrunk 64 = .ok (.iload 4, 2) := by decide +kernel
theorem dX2_makeTrunk_66 : decode cX2_makeTrunk 66 = .ok (.iload_n 3, 1) := by decide +kernel
theorem dX2_makeTrunk_67 : decode cX2_makeTrunk 67 = .ok (.if_icmp .ne 13, 3) := by decide +kernel
theorem dX2_makeTrunk_70 : decode cX2_makeTrunk 70 = .ok (.aload_n 0, 1) := by decide +kernel
theorem dX2_makeTrunk_71 : decode cX2_makeTrunk 71 = .ok (.getfield 21, 3) := by decide +kernel
theorem dX2_makeTrunk_74 : decode cX2_makeTrunk 74 = .ok (.iload 5, 2) := by decide +kernel
theorem dX2_makeTrunk_76 : decode cX2_makeTrunk 76 = .ok (.ior, 1) := by decide +kernel
theorem dX2_makeTrunk_77 : decode cX2_makeTrunk 77 = .ok (.goto 12, 3) := by decide +kernel
theorem dX2_makeTrunk_80 : decode cX2_makeTrunk 80 = .ok (.aload_n 0, 1) := by decide +kernel
theorem dX2_makeTrunk_81 : decode cX2_makeTrunk 81 = .ok (.getfield 21, 3) := by decide +kernel
theorem dX2_makeTrunk_84 : decode cX2_makeTrunk 84 = .ok (.iload 5, 2) := by decide +kernel
theorem dX2_makeTrunk_86 : decode cX2_makeTrunk 86 = .ok (.iconst (-1), 1) := by decide +kernel
theorem dX2_makeTrunk_87 : decode cX2_makeTrunk 87 = .ok (.ixor, 1) := by decide +kernel
theorem dX2_makeTrunk_88 : decode cX2_makeTrunk 88 = .ok (.iand, 1) := by decide +kernel
theorem dX2_makeTrunk_89 : decode cX2_makeTrunk 89 = .ok (.putfield 21, 3) := by decide +kernel
theorem dX2_makeTrunk_92 : decode cX2_makeTrunk 92 = .ok (.iinc 4 1, 3) := by decide +kernel
theorem dX2_makeTrunk_95 : decode cX2_makeTrunk 95 = .ok (.goto (-78), 3) := by decide +kernel
theorem dX2_makeTrunk_98 : decode cX2_makeTrunk 98 = .ok (.return_, 1) := by decide +kernel
theorem dX2_nativeOf_0 : decode cX2_nativeOf 0 = .ok (.iconst 1, 1) := by decide +kernel
theorem dX2_nativeOf_1 : decode cX2_nativeOf 1 = .ok (.istore_n 2, 1) := by decide +kernel
theorem dX2_nativeOf_2 : decode cX2_nativeOf 2 = .ok (.iload_n 2, 1) := by decide +kernel
theorem dX2_nativeOf_3 : decode cX2_nativeOf 3 = .ok (.iconst 4, 1) := by decide +kernel
theorem dX2_nativeOf_4 : decode cX2_nativeOf 4 = .ok (.if_icmp .gt 27, 3) := by decide +kernel
theorem dX2_nativeOf_7 : decode cX2_nativeOf 7 = .ok (.aload_n 0, 1) := by decide +kernel
theorem dX2_nativeOf_8 : decode cX2_nativeOf 8 = .ok (.getfield 21, 3) := by decide +kernel
theorem dX2_nativeOf_11 : decode cX2_nativeOf 11 = .ok (.bipush 6, 2) := by decide +kernel
theorem dX2_nativeOf_13 : decode cX2_nativeOf 13 = .ok (.iload_n 2, 1) := by decide +kernel
theorem dX2_nativeOf_14 : decode cX2_nativeOf 14 = .ok (.imul, 1) := by decide +kernel
theorem dX2_nativeOf_15 : decode cX2_nativeOf 15 = .ok (.iload_n 1, 1) := by decide +kernel
theorem dX2_nativeOf_16 : decode cX2_nativeOf 16 = .ok (.iadd, 1) := by decide +kernel
theorem dX2_nativeOf_17 : decode cX2_nativeOf 17 = .ok (.ishr, 1) := by decide +kernel
theorem dX2_nativeOf_18 : decode cX2_nativeOf 18 = .ok (.iconst 1, 1) := by decide +kernel
theorem dX2_nativeOf_19 : decode cX2_nativeOf 19 = .ok (.iand, 1) := by decide +kernel
theorem dX2_nativeOf_20 : decode cX2_nativeOf 20 = .ok (.ifCond .eq 5, 3) := by decide +kernel
theorem dX2_nativeOf_23 : decode cX2_nativeOf 23 = .ok (.iload_n 2, 1) := by decide +kernel
theorem dX2_nativeOf_24 : decode cX2_nativeOf 24 = .ok (.ireturn, 1) := by decide +kernel
theorem dX2_nativeOf_25 : decode cX2_nativeOf 25 = .ok (.iinc 2 1, 3) := by decide +kernel
theorem dX2_nativeOf_28 : decode cX2_nativeOf 28 = .ok (.goto (-26), 3) := by decide +kernel
theorem dX2_nativeOf_31 : decode cX2_nativeOf 31 = .ok (.iconst 0, 1) := by decide +kernel
theorem dX2_nativeOf_32 : decode cX2_nativeOf 32 = .ok (.ireturn, 1) := by decide +kernel
set_option maxRecDepth 20000 in
theorem ggX3_init_X4_init : GoodIn wsX3_init wsX4_init := goodIn_r _ [10, 11, 2, 3, 12, 13, 14] (by decide +kernel) (by decide +kernel)
set_option maxRecDepth 20000 in
theorem gX3_init_X4_init : GoodIn wsX3_init (wsX4_init) := ggX3_init_X4_init
theorem dX3_init_0 : decode cX3_init 0 = .ok (.aload_n 0, 1) := by decide +kernel
theorem dX3_init_1 : decode cX3_init 1 = .ok (.invokespecial 5, 3) := by decide +kernel
theorem dX3_init_4 : decode cX3_init 4 = .ok (.aload_n 0, 1) := by decide +kernel
theorem dX3_init_5 : decode cX3_init 5 = .ok (.new 11, 3) := by decide +kernel
theorem dX3_init_8 : decode cX3_init 8 = .ok (.dup, 1) := by decide +kernel
theorem dX3_init_9 : decode cX3_init 9 = .ok (.bipush 18, 2) := by decide +kernel
theorem dX3_init_11 : decode cX3_init 11 = .ok (.invokespecial 13, 3) := by decide +kernel
theorem dX3_init_14 : decode cX3_init 14 = .ok (.putfield 16, 3) := by decide +kernel
theorem dX3_init_17 : decode cX3_init 17 = .ok (.return_, 1) := by decide +kernel
theorem dX3_countAll_0 : decode cX3_countAll 0 = .ok (.iload_n 1, 1) := by decide +kernel
theorem dX3_countAll_1 : decode cX3_countAll 1 = .ok (.bipush 12, 2) := by decide +kernel
theorem dX3_countAll_3 : decode cX3_countAll 3 = .ok (.imul, 1) := by decide +kernel
theorem dX3_countAll_4 : decode cX3_countAll 4 = .ok (.bipush 35, 2) := by decide +kernel
theorem dX3_countAll_6 : decode cX3_countAll 6 = .ok (.iadd, 1) := by decide +kernel
theorem dX3_countAll_7 : decode cX3_countAll 7 = .ok (.bipush 12, 2) := by decide +kernel
theorem dX3_countAll_9 : decode cX3_countAll 9 = .ok (.iadd, 1) := by decide +kernel
theorem dX3_countAll_10 : decode cX3_countAll 10 = .ok (.ireturn, 1) := by decide +kernel
set_option maxRecDepth 20000 in
theorem ggX3_countMet_X4_read : GoodIn wsX3_countMet wsX4_read := goodIn_r _ [6, 7, 16] (by decide +kernel) (by decide +kernel)
set_option maxRecDepth 20000 in
theorem gX3_countMet_X4_read : GoodIn wsX3_countMet (wsV RX3 20 RX4 yX4_read wsX4_read) := goodIn_app (goodIn_of _ (by decide +kernel)) ggX3_countMet_X4_read
set_option maxRecDepth 20000 in
theorem ggX3_countMet_J6_bitCount_0f7a4 : GoodIn wsX3_countMet wsJ6_bitCount_0f7a4 := goodIn_r _ [11, 12, 13, 14] (by decide +kernel) (by decide +kernel)
set_option maxRecDepth 20000 in
theorem gX3_countMet_J6_bitCount_0f7a4 : GoodIn wsX3_countMet (va_wsS RX3 24 yJ6_bitCount_0f7a4 wsJ6_bitCount_0f7a4) := goodIn_app (goodIn_of _ (by decide +kernel)) ggX3_countMet_J6_bitCount_0f7a4
theorem dX3_countMet_0 : decode cX3_countMet 0 = .ok (.iconst 0, 1) := by decide +kernel
theorem dX3_countMet_1 : decode cX3_countMet 1 = .ok (.istore_n 1, 1) := by decide +kernel
theorem dX3_countMet_2 : decode cX3_countMet 2 = .ok (.iconst 0, 1) := by decide +kernel
theorem dX3_countMet_3 : decode cX3_countMet 3 = .ok (.istore_n 2, 1) := by decide +kernel
theorem dX3_countMet_4 : decode cX3_countMet 4 = .ok (.iload_n 2, 1) := by decide +kernel
theorem dX3_countMet_5 : decode cX3_countMet 5 = .ok (.bipush 18, 2) := by decide +kernel
theorem dX3_countMet_7 : decode cX3_countMet 7 = .ok (.if_icmp .ge 23, 3) := by decide +kernel
theorem dX3_countMet_10 : decode cX3_countMet 10 = .ok (.iload_n 1, 1) := by decide +kernel
theorem dX3_countMet_11 : decode cX3_countMet 11 = .ok (.aload_n 0, 1) := by decide +kernel
theorem dX3_countMet_12 : decode cX3_countMet 12 = .ok (.getfield 16, 3) := by decide +kernel
theorem dX3_countMet_15 : decode cX3_countMet 15 = .ok (.iload_n 2, 1) := by decide +kernel
theorem dX3_countMet_16 : decode cX3_countMet 16 = .ok (.invokevirtual 20, 3) := by decide +kernel
theorem dX3_countMet_19 : decode cX3_countMet 19 = .ok (.invokestatic 24, 3) := by decide +kernel
theorem dX3_countMet_22 : decode cX3_countMet 22 = .ok (.iadd, 1) := by decide +kernel
theorem dX3_countMet_23 : decode cX3_countMet 23 = .ok (.istore_n 1, 1) := by decide +kernel
theorem dX3_countMet_24 : decode cX3_countMet 24 = .ok (.iinc 2 1, 3) := by decide +kernel
theorem dX3_countMet_27 : decode cX3_countMet 27 = .ok (.goto (-23), 3) := by decide +kernel
theorem dX3_countMet_30 : decode cX3_countMet 30 = .ok (.iload_n 1, 1) := by decide +kernel
theorem dX3_countMet_31 : decode cX3_countMet 31 = .ok (.ireturn, 1) := by decide +kernel
set_option maxRecDepth 20000 in
theorem ggX3_meetAll_X4_fill : GoodIn wsX3_meetAll wsX4_fill := goodIn_r _ [6, 7, 8, 9, 10, 11, 53] (by decide +kernel) (by decide +kernel)
set_option maxRecDepth 20000 in
theorem gX3_meetAll_X4_fill : GoodIn wsX3_meetAll (wsV RX3 29 RX4 yX4_fill wsX4_fill) := goodIn_app (goodIn_of _ (by decide +kernel)) ggX3_meetAll_X4_fill
set_option maxRecDepth 20000 in
theorem ggX3_meetAll_X1_size : GoodIn wsX3_meetAll wsX1_size := goodIn_r _ [16, 17, 54, 55] (by decide +kernel) (by decide +kernel)
set_option maxRecDepth 20000 in
theorem gX3_meetAll_X1_size : GoodIn wsX3_meetAll (wsV RX3 32 RX1 yX1_size wsX1_size) := goodIn_app (goodIn_of _ (by decide +kernel)) ggX3_meetAll_X1_size
set_option maxRecDepth 20000 in
theorem ggX3_meetAll_X1_frame : GoodIn wsX3_meetAll wsX1_frame := goodIn_r _ [21, 22, 23, 24, 25, 5, 26, 7, 54, 55, 53] (by decide +kernel) (by decide +kernel)
set_option maxRecDepth 20000 in
theorem gX3_meetAll_X1_frame : GoodIn wsX3_meetAll (wsV RX3 38 RX1 yX1_frame wsX1_frame) := goodIn_app (goodIn_of _ (by decide +kernel)) ggX3_meetAll_X1_frame
set_option maxRecDepth 20000 in
theorem ggX3_meetAll_X3_meet : GoodIn wsX3_meetAll wsX3_meet := goodIn_r _ [31, 1, 32, 33, 30, 34, 35, 36, 37, 38, 39, 40, 41, 42, 43, 44, 24, 25, 5, 26, 7, 45, 46, 47, 48, 49, 50, 51, 52, 53] (by decide +kernel) (by decide +kernel)
set_option maxRecDepth 20000 in
theorem gX3_meetAll_X3_meet : GoodIn wsX3_meetAll (wsV RX3 41 RX3 yX3_meet wsX3_meet) := goodIn_app (goodIn_of _ (by decide +kernel)) ggX3_meetAll_X3_meet
theorem dX3_meetAll_0 : decode cX3_meetAll 0 = .ok (.aload_n 0, 1) := by decide +kernel
theorem dX3_meetAll_1 : decode cX3_meetAll 1 = .ok (.getfield 16, 3) := by decide +kernel
theorem dX3_meetAll_4 : decode cX3_meetAll 4 = .ok (.iconst 0, 1) := by decide +kernel
theorem dX3_meetAll_5 : decode cX3_meetAll 5 = .ok (.invokevirtual 29, 3) := by decide +kernel
theorem dX3_meetAll_8 : decode cX3_meetAll 8 = .ok (.iconst 0, 1) := by decide +kernel
theorem dX3_meetAll_9 : decode cX3_meetAll 9 = .ok (.istore_n 2, 1) := by decide +kernel
theorem dX3_meetAll_10 : decode cX3_meetAll 10 = .ok (.iload_n 2, 1) := by decide +kernel
theorem dX3_meetAll_11 : decode cX3_meetAll 11 = .ok (.aload_n 1, 1) := by decide +kernel
theorem dX3_meetAll_12 : decode cX3_meetAll 12 = .ok (.invokevirtual 32, 3) := by decide +kernel
theorem dX3_meetAll_15 : decode cX3_meetAll 15 = .ok (.if_icmp .ge 18, 3) := by decide +kernel
theorem dX3_meetAll_18 : decode cX3_meetAll 18 = .ok (.aload_n 0, 1) := by decide +kernel
theorem dX3_meetAll_19 : decode cX3_meetAll 19 = .ok (.aload_n 1, 1) := by decide +kernel
theorem dX3_meetAll_20 : decode cX3_meetAll 20 = .ok (.iload_n 2, 1) := by decide +kernel
theorem dX3_meetAll_21 : decode cX3_meetAll 21 = .ok (.invokevirtual 38, 3) := by decide +kernel
theorem dX3_meetAll_24 : decode cX3_meetAll 24 = .ok (.invokevirtual 41, 3) := by decide +kernel
theorem dX3_meetAll_27 : decode cX3_meetAll 27 = .ok (.iinc 2 1, 3) := by decide +kernel
theorem dX3_meetAll_30 : decode cX3_meetAll 30 = .ok (.goto (-20), 3) := by decide +kernel
theorem dX3_meetAll_33 : decode cX3_meetAll 33 = .ok (.return_, 1) := by decide +kernel
set_option maxRecDepth 20000 in
theorem ggX3_meet_X3_valuesOf : GoodIn wsX3_meet wsX3_valuesOf := goodIn_r _ [5, 6, 7, 8, 9, 10, 11, 12, 13, 14] (by decide +kernel) (by decide +kernel)
set_option maxRecDepth 20000 in
theorem gX3_meet_X3_valuesOf : GoodIn wsX3_meet (va_wsS RX3 44 yX3_valuesOf wsX3_valuesOf) := goodIn_app (goodIn_of _ (by decide +kernel)) ggX3_meet_X3_valuesOf
set_option maxRecDepth 20000 in
theorem ggX3_meet_X4_read : GoodIn wsX3_meet wsX4_read := goodIn_r _ [19, 20, 29] (by decide +kernel) (by decide +kernel)
set_option maxRecDepth 20000 in
theorem gX3_meet_X4_read : GoodIn wsX3_meet (wsV RX3 20 RX4 yX4_read wsX4_read) := goodIn_app (goodIn_of _ (by decide +kernel)) ggX3_meet_X4_read
set_option maxRecDepth 20000 in
theorem ggX3_meet_X3_partnersOf : GoodIn wsX3_meet wsX3_partnersOf := goodIn_r _ [23] (by decide +kernel) (by decide +kernel)
set_option maxRecDepth 20000 in
theorem gX3_meet_X3_partnersOf : GoodIn wsX3_meet (va_wsS RX3 47 yX3_partnersOf wsX3_partnersOf) := goodIn_app (goodIn_of _ (by decide +kernel)) ggX3_meet_X3_partnersOf
set_option maxRecDepth 20000 in
theorem ggX3_meet_X4_write : GoodIn wsX3_meet wsX4_write := goodIn_r _ [27, 20, 29] (by decide +kernel) (by decide +kernel)
set_option maxRecDepth 20000 in
theorem gX3_meet_X4_write : GoodIn wsX3_meet (wsV RX3 51 RX4 yX4_write wsX4_write) := goodIn_app (goodIn_of _ (by decide +kernel)) ggX3_meet_X4_write
theorem dX3_meet_0 : decode cX3_meet 0 = .ok (.iload_n 1, 1) := by decide +kernel
theorem dX3_meet_1 : decode cX3_meet 1 = .ok (.invokestatic 44, 3) := by decide +kernel
theorem dX3_meet_4 : decode cX3_meet 4 = .ok (.istore_n 2, 1) := by decide +kernel
theorem dX3_meet_5 : decode cX3_meet 5 = .ok (.iconst 0, 1) := by decide +kernel
theorem dX3_meet_6 : decode cX3_meet 6 = .ok (.istore_n 3, 1) := by decide +kernel
theorem dX3_meet_7 : decode cX3_meet 7 = .ok (.iload_n 3, 1) := by decide +kernel
theorem dX3_meet_8 : decode cX3_meet 8 = .ok (.bipush 18, 2) := by decide +kernel
theorem dX3_meet_10 : decode cX3_meet 10 = .ok (.if_icmp .ge 31, 3) := by decide +kernel
theorem dX3_meet_13 : decode cX3_meet 13 = .ok (.aload_n 0, 1) := by decide +kernel
theorem dX3_meet_14 : decode cX3_meet 14 = .ok (.getfield 16, 3) := by decide +kernel
theorem dX3_meet_17 : decode cX3_meet 17 = .ok (.iload_n 3, 1) := by decide +kernel
theorem dX3_meet_18 : decode cX3_meet 18 = .ok (.aload_n 0, 1) := by decide +kernel
theorem dX3_meet_19 : decode cX3_meet 19 = .ok (.getfield 16, 3) := by decide +kernel
theorem dX3_meet_22 : decode cX3_meet 22 = .ok (.iload_n 3, 1) := by decide +kernel
theorem dX3_meet_23 : decode cX3_meet 23 = .ok (.invokevirtual 20, 3) := by decide +kernel
theorem dX3_meet_26 : decode cX3_meet 26 = .ok (.iload_n 3, 1) := by decide +kernel
theorem dX3_meet_27 : decode cX3_meet 27 = .ok (.iload_n 2, 1) := by decide +kernel
theorem dX3_meet_28 : decode cX3_meet 28 = .ok (.invokestatic 47, 3) := by decide +kernel
theorem dX3_meet_31 : decode cX3_meet 31 = .ok (.ior, 1) := by decide +kernel
theorem dX3_meet_32 : decode cX3_meet 32 = .ok (.invokevirtual 51, 3) := by decide +kernel
theorem dX3_meet_35 : decode cX3_meet 35 = .ok (.iinc 3 1, 3) := by decide +kernel
theorem dX3_meet_38 : decode cX3_meet 38 = .ok (.goto (-31), 3) := by decide +kernel
theorem dX3_meet_41 : decode cX3_meet 41 = .ok (.return_, 1) := by decide +kernel
set_option maxRecDepth 20000 in
theorem ggX3_bestFrame_X3_bestFrameAt : GoodIn wsX3_bestFrame wsX3_bestFrameAt := goodIn_r _ [5, 6, 7, 8, 9, 10, 11, 4, 12, 13, 14, 15, 16, 17, 18, 19, 20, 21, 22, 23, 24, 25, 26, 27, 28, 29, 30, 31, 32, 33, 34, 35, 36, 37, 38, 39, 40, 41, 42] (by decide +kernel) (by decide +kernel)
set_option maxRecDepth 20000 in
theorem gX3_bestFrame_X3_bestFrameAt : GoodIn wsX3_bestFrame (wsV RX3 55 RX3 yX3_bestFrameAt wsX3_bestFrameAt) := goodIn_app (goodIn_of _ (by decide +kernel)) ggX3_bestFrame_X3_bestFrameAt
set_option maxRecDepth 20000 in
theorem ggX3_bestFrame_X3_gainOf : GoodIn wsX3_bestFrame wsX3_gainOf := goodIn_r _ [12, 13, 14, 15, 4, 16, 17, 7, 18, 19, 20, 21, 22, 23, 24, 25, 26, 27, 28, 29, 30, 31, 32, 33, 34, 35, 36, 37, 38, 39, 40, 41, 42] (by decide +kernel) (by decide +kernel)
set_option maxRecDepth 20000 in
theorem gX3_bestFrame_X3_gainOf : GoodIn wsX3_bestFrame (wsV RX3 58 RX3 yX3_gainOf wsX3_gainOf) := goodIn_app (goodIn_of _ (by decide +kernel)) ggX3_bestFrame_X3_gainOf
theorem dX3_bestFrame_0 : decode cX3_bestFrame 0 = .ok (.iconst 0, 1) := by decide +kernel
theorem dX3_bestFrame_1 : decode cX3_bestFrame 1 = .ok (.istore_n 2, 1) := by decide +kernel
theorem dX3_bestFrame_2 : decode cX3_bestFrame 2 = .ok (.iconst (-1), 1) := by decide +kernel
theorem dX3_bestFrame_3 : decode cX3_bestFrame 3 = .ok (.istore_n 3, 1) := by decide +kernel
theorem dX3_bestFrame_4 : decode cX3_bestFrame 4 = .ok (.iconst 0, 1) := by decide +kernel
theorem dX3_bestFrame_5 : decode cX3_bestFrame 5 = .ok (.istore 4, 2) := by decide +kernel
theorem dX3_bestFrame_7 : decode cX3_bestFrame 7 = .ok (.iload 4, 2) := by decide +kernel
theorem dX3_bestFrame_9 : decode cX3_bestFrame 9 = .ok (.iload_n 1, 1) := by decide +kernel
theorem dX3_bestFrame_10 : decode cX3_bestFrame 10 = .ok (.if_icmp .ge 54, 3) := by decide +kernel
theorem dX3_bestFrame_13 : decode cX3_bestFrame 13 = .ok (.iconst 0, 1) := by decide +kernel
theorem dX3_bestFrame_14 : decode cX3_bestFrame 14 = .ok (.istore 5, 2) := by decide +kernel
theorem dX3_bestFrame_16 : decode cX3_bestFrame 16 = .ok (.iload 5, 2) := by decide +kernel
theorem dX3_bestFrame_18 : decode cX3_bestFrame 18 = .ok (.iconst 5, 1) := by decide +kernel
theorem dX3_bestFrame_19 : decode cX3_bestFrame 19 = .ok (.if_icmp .ge 39, 3) := by decide +kernel
theorem dX3_bestFrame_22 : decode cX3_bestFrame 22 = .ok (.aload_n 0, 1) := by decide +kernel
theorem dX3_bestFrame_23 : decode cX3_bestFrame 23 = .ok (.iload 4, 2) := by decide +kernel
theorem dX3_bestFrame_25 : decode cX3_bestFrame 25 = .ok (.iload 5, 2) := by decide +kernel
theorem dX3_bestFrame_27 : decode cX3_bestFrame 27 = .ok (.invokevirtual 55, 3) := by decide +kernel
theorem dX3_bestFrame_30 : decode cX3_bestFrame 30 = .ok (.istore 6, 2) := by decide +kernel
theorem dX3_bestFrame_32 : decode cX3_bestFrame 32 = .ok (.aload_n 0, 1) := by decide +kernel
theorem dX3_bestFrame_33 : decode cX3_bestFrame 33 = .ok (.iload 6, 2) := by decide +kernel
theorem dX3_bestFrame_35 : decode cX3_bestFrame 35 = .ok (.invokevirtual 58, 3) := by decide +kernel
theorem dX3_bestFrame_38 : decode cX3_bestFrame 38 = .ok (.istore 7, 2) := by decide +kernel
theorem dX3_bestFrame_40 : decode cX3_bestFrame 40 = .ok (.iload 7, 2) := by decide +kernel
theorem dX3_bestFrame_42 : decode cX3_bestFrame 42 = .ok (.iload_n 3, 1) := by decide +kernel
theorem dX3_bestFrame_43 : decode cX3_bestFrame 43 = .ok (.if_icmp .le 9, 3) := by decide +kernel
theorem dX3_bestFrame_46 : decode cX3_bestFrame 46 = .ok (.iload 7, 2) := by decide +kernel
theorem dX3_bestFrame_48 : decode cX3_bestFrame 48 = .ok (.istore_n 3, 1) := by decide +kernel
theorem dX3_bestFrame_49 : decode cX3_bestFrame 49 = .ok (.iload 6, 2) := by decide +kernel
theorem dX3_bestFrame_51 : decode cX3_bestFrame 51 = .ok (.istore_n 2, 1) := by decide +kernel
theorem dX3_bestFrame_52 : decode cX3_bestFrame 52 = .ok (.iinc 5 1, 3) := by decide +kernel
theorem dX3_bestFrame_55 : decode cX3_bestFrame 55 = .ok (.goto (-39), 3) := by decide +kernel
theorem dX3_bestFrame_58 : decode cX3_bestFrame 58 = .ok (.iinc 4 1, 3) := by decide +kernel
theorem dX3_bestFrame_61 : decode cX3_bestFrame 61 = .ok (.goto (-54), 3) := by decide +kernel
theorem dX3_bestFrame_64 : decode cX3_bestFrame 64 = .ok (.iload_n 2, 1) := by decide +kernel
theorem dX3_bestFrame_65 : decode cX3_bestFrame 65 = .ok (.ireturn, 1) := by decide +kernel
set_option maxRecDepth 20000 in
theorem ggX3_bestFrameAt_X7_frameOf : GoodIn wsX3_bestFrameAt wsX7_frameOf := goodIn_r _ [3] (by decide +kernel) (by decide +kernel)
set_option maxRecDepth 20000 in
theorem gX3_bestFrameAt_X7_frameOf_n61 : GoodIn wsX3_bestFrameAt (wsX7_frameOf) := ggX3_bestFrameAt_X7_frameOf
set_option maxRecDepth 20000 in
theorem ggX3_bestFrameAt_X3_gainOf : GoodIn wsX3_bestFrameAt wsX3_gainOf := goodIn_r _ [8, 9, 10, 11, 7, 12, 13, 2, 14, 15, 16, 17, 18, 19, 20, 21, 22, 23, 24, 25, 26, 27, 28, 29, 30, 31, 32, 33, 34, 35, 36, 37, 38] (by decide +kernel) (by decide +kernel)
set_option maxRecDepth 20000 in
theorem gX3_bestFrameAt_X3_gainOf : GoodIn wsX3_bestFrameAt (wsV RX3 58 RX3 yX3_gainOf wsX3_gainOf) := goodIn_app (goodIn_of _ (by decide +kernel)) ggX3_bestFrameAt_X3_gainOf
theorem dX3_bestFrameAt_0 : decode cX3_bestFrameAt 0 = .ok (.iconst 0, 1) := by decide +kernel
theorem dX3_bestFrameAt_1 : decode cX3_bestFrameAt 1 = .ok (.istore_n 3, 1) := by decide +kernel
theorem dX3_bestFrameAt_2 : decode cX3_bestFrameAt 2 = .ok (.iconst (-1), 1) := by decide +kernel
theorem dX3_bestFrameAt_3 : decode cX3_bestFrameAt 3 = .ok (.istore 4, 2) := by decide +kernel
theorem dX3_bestFrameAt_5 : decode cX3_bestFrameAt 5 = .ok (.iconst 0, 1) := by decide +kernel
theorem dX3_bestFrameAt_6 : decode cX3_bestFrameAt 6 = .ok (.istore 5, 2) := by decide +kernel
theorem dX3_bestFrameAt_8 : decode cX3_bestFrameAt 8 = .ok (.iload 5, 2) := by decide +kernel
theorem dX3_bestFrameAt_10 : decode cX3_bestFrameAt 10 = .ok (.iconst 3, 1) := by decide +kernel
theorem dX3_bestFrameAt_11 : decode cX3_bestFrameAt 11 = .ok (.if_icmp .ge 57, 3) := by decide +kernel
theorem dX3_bestFrameAt_14 : decode cX3_bestFrameAt 14 = .ok (.iconst 0, 1) := by decide +kernel
theorem dX3_bestFrameAt_15 : decode cX3_bestFrameAt 15 = .ok (.istore 6, 2) := by decide +kernel
theorem dX3_bestFrameAt_17 : decode cX3_bestFrameAt 17 = .ok (.iload 6, 2) := by decide +kernel
theorem dX3_bestFrameAt_19 : decode cX3_bestFrameAt 19 = .ok (.iconst 4, 1) := by decide +kernel
theorem dX3_bestFrameAt_20 : decode cX3_bestFrameAt 20 = .ok (.if_icmp .ge 42, 3) := by decide +kernel
theorem dX3_bestFrameAt_23 : decode cX3_bestFrameAt 23 = .ok (.iload_n 1, 1) := by decide +kernel
theorem dX3_bestFrameAt_24 : decode cX3_bestFrameAt 24 = .ok (.iload_n 2, 1) := by decide +kernel
theorem dX3_bestFrameAt_25 : decode cX3_bestFrameAt 25 = .ok (.iload 5, 2) := by decide +kernel
theorem dX3_bestFrameAt_27 : decode cX3_bestFrameAt 27 = .ok (.iload 6, 2) := by decide +kernel
theorem dX3_bestFrameAt_29 : decode cX3_bestFrameAt 29 = .ok (.invokestatic 61, 3) := by decide +kernel
theorem dX3_bestFrameAt_32 : decode cX3_bestFrameAt 32 = .ok (.istore 7, 2) := by decide +kernel
theorem dX3_bestFrameAt_34 : decode cX3_bestFrameAt 34 = .ok (.aload_n 0, 1) := by decide +kernel
theorem dX3_bestFrameAt_35 : decode cX3_bestFrameAt 35 = .ok (.iload 7, 2) := by decide +kernel
theorem dX3_bestFrameAt_37 : decode cX3_bestFrameAt 37 = .ok (.invokevirtual 58, 3) := by decide +kernel
theorem dX3_bestFrameAt_40 : decode cX3_bestFrameAt 40 = .ok (.istore 8, 2) := by decide +kernel
theorem dX3_bestFrameAt_42 : decode cX3_bestFrameAt 42 = .ok (.iload 8, 2) := by decide +kernel
theorem dX3_bestFrameAt_44 : decode cX3_bestFrameAt 44 = .ok (.iload 4, 2) := by decide +kernel
theorem dX3_bestFrameAt_46 : decode cX3_bestFrameAt 46 = .ok (.if_icmp .le 10, 3) := by decide +kernel
theorem dX3_bestFrameAt_49 : decode cX3_bestFrameAt 49 = .ok (.iload 8, 2) := by decide +kernel
theorem dX3_bestFrameAt_51 : decode cX3_bestFrameAt 51 = .ok (.istore 4, 2) := by decide +kernel
theorem dX3_bestFrameAt_53 : decode cX3_bestFrameAt 53 = .ok (.iload 7, 2) := by decide +kernel
theorem dX3_bestFrameAt_55 : decode cX3_bestFrameAt 55 = .ok (.istore_n 3, 1) := by decide +kernel
theorem dX3_bestFrameAt_56 : decode cX3_bestFrameAt 56 = .ok (.iinc 6 1, 3) := by decide +kernel
theorem dX3_bestFrameAt_59 : decode cX3_bestFrameAt 59 = .ok (.goto (-42), 3) := by decide +kernel
theorem dX3_bestFrameAt_62 : decode cX3_bestFrameAt 62 = .ok (.iinc 5 1, 3) := by decide +kernel
theorem dX3_bestFrameAt_65 : decode cX3_bestFrameAt 65 = .ok (.goto (-57), 3) := by decide +kernel
theorem dX3_bestFrameAt_68 : decode cX3_bestFrameAt 68 = .ok (.iload_n 3, 1) := by decide +kernel
theorem dX3_bestFrameAt_69 : decode cX3_bestFrameAt 69 = .ok (.ireturn, 1) := by decide +kernel
set_option maxRecDepth 20000 in
theorem ggX3_gainOf_X3_valuesOf : GoodIn wsX3_gainOf wsX3_valuesOf := goodIn_r _ [5, 6, 7, 8, 9, 10, 11, 12, 13, 14] (by decide +kernel) (by decide +kernel)
set_option maxRecDepth 20000 in
theorem gX3_gainOf_X3_valuesOf : GoodIn wsX3_gainOf (va_wsS RX3 44 yX3_valuesOf wsX3_valuesOf) := goodIn_app (goodIn_of _ (by decide +kernel)) ggX3_gainOf_X3_valuesOf
set_option maxRecDepth 20000 in
theorem ggX3_gainOf_X3_partnersOf : GoodIn wsX3_gainOf wsX3_partnersOf := goodIn_r _ [17] (by decide +kernel) (by decide +kernel)
set_option maxRecDepth 20000 in
theorem gX3_gainOf_X3_partnersOf : GoodIn wsX3_gainOf (va_wsS RX3 47 yX3_partnersOf wsX3_partnersOf) := goodIn_app (goodIn_of _ (by decide +kernel)) ggX3_gainOf_X3_partnersOf
set_option maxRecDepth 20000 in
theorem ggX3_gainOf_X4_read : GoodIn wsX3_gainOf wsX4_read := goodIn_r _ [22, 23, 32] (by decide +kernel) (by decide +kernel)
set_option maxRecDepth 20000 in
theorem gX3_gainOf_X4_read : GoodIn wsX3_gainOf (wsV RX3 20 RX4 yX4_read wsX4_read) := goodIn_app (goodIn_of _ (by decide +kernel)) ggX3_gainOf_X4_read
set_option maxRecDepth 20000 in
theorem ggX3_gainOf_J6_bitCount_0f7a4 : GoodIn wsX3_gainOf wsJ6_bitCount_0f7a4 := goodIn_r _ [27, 28, 29, 30] (by decide +kernel) (by decide +kernel)
set_option maxRecDepth 20000 in
theorem gX3_gainOf_J6_bitCount_0f7a4 : GoodIn wsX3_gainOf (va_wsS RX3 24 yJ6_bitCount_0f7a4 wsJ6_bitCount_0f7a4) := goodIn_app (goodIn_of _ (by decide +kernel)) ggX3_gainOf_J6_bitCount_0f7a4
theorem dX3_gainOf_0 : decode cX3_gainOf 0 = .ok (.iload_n 1, 1) := by decide +kernel
theorem dX3_gainOf_1 : decode cX3_gainOf 1 = .ok (.invokestatic 44, 3) := by decide +kernel
theorem dX3_gainOf_4 : decode cX3_gainOf 4 = .ok (.istore_n 2, 1) := by decide +kernel
theorem dX3_gainOf_5 : decode cX3_gainOf 5 = .ok (.iconst 0, 1) := by decide +kernel
theorem dX3_gainOf_6 : decode cX3_gainOf 6 = .ok (.istore_n 3, 1) := by decide +kernel
theorem dX3_gainOf_7 : decode cX3_gainOf 7 = .ok (.iconst 0, 1) := by decide +kernel
theorem dX3_gainOf_8 : decode cX3_gainOf 8 = .ok (.istore 4, 2) := by decide +kernel
theorem dX3_gainOf_10 : decode cX3_gainOf 10 = .ok (.iload 4, 2) := by decide +kernel
theorem dX3_gainOf_12 : decode cX3_gainOf 12 = .ok (.bipush 18, 2) := by decide +kernel
theorem dX3_gainOf_14 : decode cX3_gainOf 14 = .ok (.if_icmp .ge 33, 3) := by decide +kernel
theorem dX3_gainOf_17 : decode cX3_gainOf 17 = .ok (.iload_n 3, 1) := by decide +kernel
theorem dX3_gainOf_18 : decode cX3_gainOf 18 = .ok (.iload 4, 2) := by decide +kernel
theorem dX3_gainOf_20 : decode cX3_gainOf 20 = .ok (.iload_n 2, 1) := by decide +kernel
theorem dX3_gainOf_21 : decode cX3_gainOf 21 = .ok (.invokestatic 47, 3) := by decide +kernel
theorem dX3_gainOf_24 : decode cX3_gainOf 24 = .ok (.aload_n 0, 1) := by decide +kernel
theorem dX3_gainOf_25 : decode cX3_gainOf 25 = .ok (.getfield 16, 3) := by decide +kernel
theorem dX3_gainOf_28 : decode cX3_gainOf 28 = .ok (.iload 4, 2) := by decide +kernel
theorem dX3_gainOf_30 : decode cX3_gainOf 30 = .ok (.invokevirtual 20, 3) := by decide +kernel
theorem dX3_gainOf_33 : decode cX3_gainOf 33 = .ok (.iconst (-1), 1) := by decide +kernel
theorem dX3_gainOf_34 : decode cX3_gainOf 34 = .ok (.ixor, 1) := by decide +kernel
theorem dX3_gainOf_35 : decode cX3_gainOf 35 = .ok (.iand, 1) := by decide +kernel
theorem dX3_gainOf_36 : decode cX3_gainOf 36 = .ok (.invokestatic 24, 3) := by decide +kernel
theorem dX3_gainOf_39 : decode cX3_gainOf 39 = .ok (.iadd, 1) := by decide +kernel
theorem dX3_gainOf_40 : decode cX3_gainOf 40 = .ok (.istore_n 3, 1) := by decide +kernel
theorem dX3_gainOf_41 : decode cX3_gainOf 41 = .ok (.iinc 4 1, 3) := by decide +kernel
theorem dX3_gainOf_44 : decode cX3_gainOf 44 = .ok (.goto (-34), 3) := by decide +kernel
theorem dX3_gainOf_47 : decode cX3_gainOf 47 = .ok (.iload_n 3, 1) := by decide +kernel
theorem dX3_gainOf_48 : decode cX3_gainOf 48 = .ok (.ireturn, 1) := by decide +kernel
set_option maxRecDepth 20000 in
theorem ggX3_valuesOf_X7_portOf : GoodIn wsX3_valuesOf wsX7_portOf := goodIn_r _ [3] (by decide +kernel) (by decide +kernel)
set_option maxRecDepth 20000 in
theorem gX3_valuesOf_X7_portOf_n65 : GoodIn wsX3_valuesOf (wsX7_portOf) := ggX3_valuesOf_X7_portOf
set_option maxRecDepth 20000 in
theorem ggX3_valuesOf_X7_tagOf : GoodIn wsX3_valuesOf wsX7_tagOf := goodIn_r _ [5] (by decide +kernel) (by decide +kernel)
set_option maxRecDepth 20000 in
theorem gX3_valuesOf_X7_tagOf_n68 : GoodIn wsX3_valuesOf (wsX7_tagOf) := ggX3_valuesOf_X7_tagOf
set_option maxRecDepth 20000 in
theorem ggX3_valuesOf_X7_sourceOf : GoodIn wsX3_valuesOf wsX7_sourceOf := goodIn_r _ [7] (by decide +kernel) (by decide +kernel)
set_option maxRecDepth 20000 in
theorem gX3_valuesOf_X7_sourceOf_n71 : GoodIn wsX3_valuesOf (wsX7_sourceOf) := ggX3_valuesOf_X7_sourceOf
set_option maxRecDepth 20000 in
theorem ggX3_valuesOf_X7_destinationOf : GoodIn wsX3_valuesOf wsX7_destinationOf := goodIn_r _ [9] (by decide +kernel) (by decide +kernel)
set_option maxRecDepth 20000 in
theorem gX3_valuesOf_X7_destinationOf_n74 : GoodIn wsX3_valuesOf (wsX7_destinationOf) := ggX3_valuesOf_X7_destinationOf
theorem dX3_valuesOf_0 : decode cX3_valuesOf 0 = .ok (.iconst 1, 1) := by decide +kernel
theorem dX3_valuesOf_1 : decode cX3_valuesOf 1 = .ok (.iload_n 0, 1) := by decide +kernel
theorem dX3_valuesOf_2 : decode cX3_valuesOf 2 = .ok (.invokestatic 65, 3) := by decide +kernel
theorem dX3_valuesOf_5 : decode cX3_valuesOf 5 = .ok (.ishl, 1) := by decide +kernel
theorem dX3_valuesOf_6 : decode cX3_valuesOf 6 = .ok (.iconst 1, 1) := by decide +kernel
theorem dX3_valuesOf_7 : decode cX3_valuesOf 7 = .ok (.bipush 6, 2) := by decide +kernel
theorem dX3_valuesOf_9 : decode cX3_valuesOf 9 = .ok (.iload_n 0, 1) := by decide +kernel
theorem dX3_valuesOf_10 : decode cX3_valuesOf 10 = .ok (.invokestatic 68, 3) := by decide +kernel
theorem dX3_valuesOf_13 : decode cX3_valuesOf 13 = .ok (.iadd, 1) := by decide +kernel
theorem dX3_valuesOf_14 : decode cX3_valuesOf 14 = .ok (.ishl, 1) := by decide +kernel
theorem dX3_valuesOf_15 : decode cX3_valuesOf 15 = .ok (.ior, 1) := by decide +kernel
theorem dX3_valuesOf_16 : decode cX3_valuesOf 16 = .ok (.iconst 1, 1) := by decide +kernel
theorem dX3_valuesOf_17 : decode cX3_valuesOf 17 = .ok (.bipush 11, 2) := by decide +kernel
theorem dX3_valuesOf_19 : decode cX3_valuesOf 19 = .ok (.iload_n 0, 1) := by decide +kernel
theorem dX3_valuesOf_20 : decode cX3_valuesOf 20 = .ok (.invokestatic 71, 3) := by decide +kernel
theorem dX3_valuesOf_23 : decode cX3_valuesOf 23 = .ok (.iadd, 1) := by decide +kernel
theorem dX3_valuesOf_24 : decode cX3_valuesOf 24 = .ok (.ishl, 1) := by decide +kernel
theorem dX3_valuesOf_25 : decode cX3_valuesOf 25 = .ok (.ior, 1) := by decide +kernel
theorem dX3_valuesOf_26 : decode cX3_valuesOf 26 = .ok (.iconst 1, 1) := by decide +kernel
theorem dX3_valuesOf_27 : decode cX3_valuesOf 27 = .ok (.bipush 14, 2) := by decide +kernel
theorem dX3_valuesOf_29 : decode cX3_valuesOf 29 = .ok (.iload_n 0, 1) := by decide +kernel
theorem dX3_valuesOf_30 : decode cX3_valuesOf 30 = .ok (.invokestatic 74, 3) := by decide +kernel
theorem dX3_valuesOf_33 : decode cX3_valuesOf 33 = .ok (.iadd, 1) := by decide +kernel
theorem dX3_valuesOf_34 : decode cX3_valuesOf 34 = .ok (.ishl, 1) := by decide +kernel
theorem dX3_valuesOf_35 : decode cX3_valuesOf 35 = .ok (.ior, 1) := by decide +kernel
theorem dX3_valuesOf_36 : decode cX3_valuesOf 36 = .ok (.ireturn, 1) := by decide +kernel
theorem dX3_partnersOf_0 : decode cX3_partnersOf 0 = .ok (.iload_n 1, 1) := by decide +kernel
theorem dX3_partnersOf_1 : decode cX3_partnersOf 1 = .ok (.iload_n 0, 1) := by decide +kernel
theorem dX3_partnersOf_2 : decode cX3_partnersOf 2 = .ok (.ishr, 1) := by decide +kernel
theorem dX3_partnersOf_3 : decode cX3_partnersOf 3 = .ok (.iconst 1, 1) := by decide +kernel
theorem dX3_partnersOf_4 : decode cX3_partnersOf 4 = .ok (.iand, 1) := by decide +kernel
theorem dX3_partnersOf_5 : decode cX3_partnersOf 5 = .ok (.ifCond .eq 12, 3) := by decide +kernel
theorem dX3_partnersOf_8 : decode cX3_partnersOf 8 = .ok (.iload_n 1, 1) := by decide +kernel
theorem dX3_partnersOf_9 : decode cX3_partnersOf 9 = .ok (.bipush (-2), 2) := by decide +kernel
theorem dX3_partnersOf_11 : decode cX3_partnersOf 11 = .ok (.iload_n 0, 1) := by decide +kernel
theorem dX3_partnersOf_12 : decode cX3_partnersOf 12 = .ok (.ishl, 1) := by decide +kernel
theorem dX3_partnersOf_13 : decode cX3_partnersOf 13 = .ok (.iand, 1) := by decide +kernel
theorem dX3_partnersOf_14 : decode cX3_partnersOf 14 = .ok (.goto 4, 3) := by decide +kernel
theorem dX3_partnersOf_17 : decode cX3_partnersOf 17 = .ok (.iconst 0, 1) := by decide +kernel
theorem dX3_partnersOf_18 : decode cX3_partnersOf 18 = .ok (.ireturn, 1) := by decide +kernel
theorem dX4_init_0 : decode cX4_init 0 = .ok (.aload_n 0, 1) := by decide +kernel
theorem dX4_init_1 : decode cX4_init 1 = .ok (.invokespecial 1, 3) := by decide +kernel
theorem dX4_init_4 : decode cX4_init 4 = .ok (.aload_n 0, 1) := by decide +kernel
theorem dX4_init_5 : decode cX4_init 5 = .ok (.iload_n 1, 1) := by decide +kernel
theorem dX4_init_6 : decode cX4_init 6 = .ok (.ifCond .ge 7, 3) := by decide +kernel
theorem dX4_init_9 : decode cX4_init 9 = .ok (.iconst 0, 1) := by decide +kernel
theorem dX4_init_10 : decode cX4_init 10 = .ok (.goto 4, 3) := by decide +kernel
theorem dX4_init_13 : decode cX4_init 13 = .ok (.iload_n 1, 1) := by decide +kernel
theorem dX4_init_14 : decode cX4_init 14 = .ok (.newarray .int, 2) := by decide +kernel
theorem dX4_init_16 : decode cX4_init 16 = .ok (.putfield 7, 3) := by decide +kernel
theorem dX4_init_19 : decode cX4_init 19 = .ok (.return_, 1) := by decide +kernel
theorem dX4_read_0 : decode cX4_read 0 = .ok (.iload_n 1, 1) := by decide +kernel
theorem dX4_read_1 : decode cX4_read 1 = .ok (.ifCond .lt 21, 3) := by decide +kernel
theorem dX4_read_4 : decode cX4_read 4 = .ok (.iload_n 1, 1) := by decide +kernel
theorem dX4_read_5 : decode cX4_read 5 = .ok (.aload_n 0, 1) := by decide +kernel
theorem dX4_read_6 : decode cX4_read 6 = .ok (.getfield 7, 3) := by decide +kernel
theorem dX4_read_9 : decode cX4_read 9 = .ok (.arraylength, 1) := by decide +kernel
theorem dX4_read_10 : decode cX4_read 10 = .ok (.if_icmp .ge 12, 3) := by decide +kernel
theorem dX4_read_13 : decode cX4_read 13 = .ok (.aload_n 0, 1) := by decide +kernel
theorem dX4_read_14 : decode cX4_read 14 = .ok (.getfield 7, 3) := by decide +kernel
theorem dX4_read_17 : decode cX4_read 17 = .ok (.iload_n 1, 1) := by decide +kernel
theorem dX4_read_18 : decode cX4_read 18 = .ok (.iaload, 1) := by decide +kernel
theorem dX4_read_19 : decode cX4_read 19 = .ok (.goto 4, 3) := by decide +kernel
theorem dX4_read_22 : decode cX4_read 22 = .ok (.iconst 0, 1) := by decide +kernel
theorem dX4_read_23 : decode cX4_read 23 = .ok (.ireturn, 1) := by decide +kernel
theorem dX4_write_0 : decode cX4_write 0 = .ok (.iload_n 1, 1) := by decide +kernel
theorem dX4_write_1 : decode cX4_write 1 = .ok (.ifCond .lt 19, 3) := by decide +kernel
theorem dX4_write_4 : decode cX4_write 4 = .ok (.iload_n 1, 1) := by decide +kernel
theorem dX4_write_5 : decode cX4_write 5 = .ok (.aload_n 0, 1) := by decide +kernel
theorem dX4_write_6 : decode cX4_write 6 = .ok (.getfield 7, 3) := by decide +kernel
theorem dX4_write_9 : decode cX4_write 9 = .ok (.arraylength, 1) := by decide +kernel
theorem dX4_write_10 : decode cX4_write 10 = .ok (.if_icmp .ge 10, 3) := by decide +kernel
theorem dX4_write_13 : decode cX4_write 13 = .ok (.aload_n 0, 1) := by decide +kernel
theorem dX4_write_14 : decode cX4_write 14 = .ok (.getfield 7, 3) := by decide +kernel
theorem dX4_write_17 : decode cX4_write 17 = .ok (.iload_n 1, 1) := by decide +kernel
theorem dX4_write_18 : decode cX4_write 18 = .ok (.iload_n 2, 1) := by decide +kernel
theorem dX4_write_19 : decode cX4_write 19 = .ok (.iastore, 1) := by decide +kernel
theorem dX4_write_20 : decode cX4_write 20 = .ok (.return_, 1) := by decide +kernel
set_option maxRecDepth 20000 in
theorem ggX4_fill_J7_fill_53178 : GoodIn wsX4_fill wsJ7_fill_53178 := goodIn_r _ [5] (by decide +kernel) (by decide +kernel)
set_option maxRecDepth 20000 in
theorem gX4_fill_J7_fill_53178 : GoodIn wsX4_fill (va_wsS RX4 13 yJ7_fill_53178 wsJ7_fill_53178) := goodIn_app (goodIn_of _ (by decide +kernel)) ggX4_fill_J7_fill_53178
theorem dX4_fill_0 : decode cX4_fill 0 = .ok (.aload_n 0, 1) := by decide +kernel
theorem dX4_fill_1 : decode cX4_fill 1 = .ok (.getfield 7, 3) := by decide +kernel
theorem dX4_fill_4 : decode cX4_fill 4 = .ok (.iload_n 1, 1) := by decide +kernel
theorem dX4_fill_5 : decode cX4_fill 5 = .ok (.invokestatic 13, 3) := by decide +kernel
theorem dX4_fill_8 : decode cX4_fill 8 = .ok (.return_, 1) := by decide +kernel
set_option maxRecDepth 20000 in
theorem ggX5_init_X0_init : GoodIn wsX5_init wsX0_init := goodIn_r _ [15, 16, 2, 3, 17, 9, 10, 18, 19, 20, 21, 22, 23, 24, 35, 26, 27, 28, 29, 30] (by decide +kernel) (by decide +kernel)
set_option maxRecDepth 20000 in
theorem gX5_init_X0_init_n11 : GoodIn wsX5_init (wsX0_init) := ggX5_init_X0_init
set_option maxRecDepth 20000 in
theorem ggX5_init_X4_init : GoodIn wsX5_init wsX4_init := goodIn_r _ [21, 22, 2, 3, 23, 24, 35] (by decide +kernel) (by decide +kernel)
set_option maxRecDepth 20000 in
theorem gX5_init_X4_init : GoodIn wsX5_init (wsX4_init) := ggX5_init_X4_init
theorem dX5_init_0 : decode cX5_init 0 = .ok (.aload_n 0, 1) := by decide +kernel
theorem dX5_init_1 : decode cX5_init 1 = .ok (.invokespecial 3, 3) := by decide +kernel
theorem dX5_init_4 : decode cX5_init 4 = .ok (.aload_n 0, 1) := by decide +kernel
theorem dX5_init_5 : decode cX5_init 5 = .ok (.new 9, 3) := by decide +kernel
theorem dX5_init_8 : decode cX5_init 8 = .ok (.dup, 1) := by decide +kernel
theorem dX5_init_9 : decode cX5_init 9 = .ok (.invokespecial 11, 3) := by decide +kernel
theorem dX5_init_12 : decode cX5_init 12 = .ok (.putfield 12, 3) := by decide +kernel
theorem dX5_init_15 : decode cX5_init 15 = .ok (.aload_n 0, 1) := by decide +kernel
theorem dX5_init_16 : decode cX5_init 16 = .ok (.new 18, 3) := by decide +kernel
theorem dX5_init_19 : decode cX5_init 19 = .ok (.dup, 1) := by decide +kernel
theorem dX5_init_20 : decode cX5_init 20 = .ok (.bipush 60, 2) := by decide +kernel
theorem dX5_init_22 : decode cX5_init 22 = .ok (.invokespecial 20, 3) := by decide +kernel
theorem dX5_init_25 : decode cX5_init 25 = .ok (.putfield 23, 3) := by decide +kernel
theorem dX5_init_28 : decode cX5_init 28 = .ok (.aload_n 0, 1) := by decide +kernel
theorem dX5_init_29 : decode cX5_init 29 = .ok (.new 18, 3) := by decide +kernel
theorem dX5_init_32 : decode cX5_init 32 = .ok (.dup, 1) := by decide +kernel
theorem dX5_init_33 : decode cX5_init 33 = .ok (.bipush 60, 2) := by decide +kernel
theorem dX5_init_35 : decode cX5_init 35 = .ok (.invokespecial 20, 3) := by decide +kernel
theorem dX5_init_38 : decode cX5_init 38 = .ok (.putfield 27, 3) := by decide +kernel
theorem dX5_init_41 : decode cX5_init 41 = .ok (.aload_n 0, 1) := by decide +kernel
theorem dX5_init_42 : decode cX5_init 42 = .ok (.new 18, 3) := by decide +kernel
theorem dX5_init_45 : decode cX5_init 45 = .ok (.dup, 1) := by decide +kernel
theorem dX5_init_46 : decode cX5_init 46 = .ok (.bipush 60, 2) := by decide +kernel
theorem dX5_init_48 : decode cX5_init 48 = .ok (.invokespecial 20, 3) := by decide +kernel
theorem dX5_init_51 : decode cX5_init 51 = .ok (.putfield 30, 3) := by decide +kernel
theorem dX5_init_54 : decode cX5_init 54 = .ok (.return_, 1) := by decide +kernel
set_option maxRecDepth 20000 in
theorem ggX5_runAll_X0_restart : GoodIn wsX5_runAll wsX0_restart := goodIn_r _ [9, 10, 11, 12, 13, 14, 15, 16, 17, 18, 19, 20, 21, 118, 119, 120, 121, 122, 123] (by decide +kernel) (by decide +kernel)
set_option maxRecDepth 20000 in
theorem gX5_runAll_X0_restart : GoodIn wsX5_runAll (wsV RX5 33 RX0 yX0_restart wsX0_restart) := goodIn_app (goodIn_of _ (by decide +kernel)) ggX5_runAll_X0_restart
set_option maxRecDepth 20000 in
theorem ggX5_runAll_X1_size : GoodIn wsX5_runAll wsX1_size := goodIn_r _ [26, 27, 124, 125] (by decide +kernel) (by decide +kernel)
set_option maxRecDepth 20000 in
theorem gX5_runAll_X1_size : GoodIn wsX5_runAll (wsV RX5 36 RX1 yX1_size wsX1_size) := goodIn_app (goodIn_of _ (by decide +kernel)) ggX5_runAll_X1_size
set_option maxRecDepth 20000 in
theorem ggX5_runAll_X1_frame : GoodIn wsX5_runAll wsX1_frame := goodIn_r _ [31, 32, 33, 34, 35, 15, 36, 17, 124, 125, 123] (by decide +kernel) (by decide +kernel)
set_option maxRecDepth 20000 in
theorem gX5_runAll_X1_frame : GoodIn wsX5_runAll (wsV RX5 42 RX1 yX1_frame wsX1_frame) := goodIn_app (goodIn_of _ (by decide +kernel)) ggX5_runAll_X1_frame
set_option maxRecDepth 20000 in
theorem ggX5_runAll_X0_send : GoodIn wsX5_runAll wsX0_send := goodIn_r _ [40, 41, 42, 43, 11, 44, 45, 46, 8, 47, 48, 49, 50, 51, 52, 53, 54, 10, 55, 56, 57, 58, 59, 60, 61, 62, 63, 64, 65, 66, 67, 68, 69, 70, 71, 72, 73, 74, 75, 76, 77, 78, 79, 80, 81, 82, 83, 84, 85, 86, 15, 87, 17, 88, 89, 90, 91, 92, 93, 94, 34, 35, 36, 95, 96, 97, 98, 99, 100, 118, 119, 120, 121, 122, 126, 127, 128, 129, 123] (by decide +kernel) (by decide +kernel)
set_option maxRecDepth 20000 in
theorem gX5_runAll_X0_send : GoodIn wsX5_runAll (wsV RX5 46 RX0 yX0_send wsX0_send) := goodIn_app (goodIn_of _ (by decide +kernel)) ggX5_runAll_X0_send
set_option maxRecDepth 20000 in
theorem ggX5_runAll_X0_exits : GoodIn wsX5_runAll wsX0_exits := goodIn_r _ [104, 41, 118, 119, 120, 121, 122] (by decide +kernel) (by decide +kernel)
set_option maxRecDepth 20000 in
theorem gX5_runAll_X0_exits : GoodIn wsX5_runAll (wsV RX5 50 RX0 yX0_exits wsX0_exits) := goodIn_app (goodIn_of _ (by decide +kernel)) ggX5_runAll_X0_exits
set_option maxRecDepth 20000 in
theorem ggX5_runAll_X4_write : GoodIn wsX5_runAll wsX4_write := goodIn_r _ [87, 17, 123] (by decide +kernel) (by decide +kernel)
set_option maxRecDepth 20000 in
theorem gX5_runAll_X4_write : GoodIn wsX5_runAll (wsV RX5 52 RX4 yX4_write wsX4_write) := goodIn_app (goodIn_of _ (by decide +kernel)) ggX5_runAll_X4_write
set_option maxRecDepth 20000 in
theorem ggX5_runAll_X0_taggedExits : GoodIn wsX5_runAll wsX0_taggedExits := goodIn_r _ [109, 42, 118, 119, 120, 121, 122] (by decide +kernel) (by decide +kernel)
set_option maxRecDepth 20000 in
theorem gX5_runAll_X0_taggedExits : GoodIn wsX5_runAll (wsV RX5 56 RX0 yX0_taggedExits wsX0_taggedExits) := goodIn_app (goodIn_of _ (by decide +kernel)) ggX5_runAll_X0_taggedExits
set_option maxRecDepth 20000 in
theorem ggX5_runAll_X0_why : GoodIn wsX5_runAll wsX0_why := goodIn_r _ [113, 43, 118, 119, 120, 121, 122] (by decide +kernel) (by decide +kernel)
set_option maxRecDepth 20000 in
theorem gX5_runAll_X0_why : GoodIn wsX5_runAll (wsV RX5 58 RX0 yX0_why wsX0_why) := goodIn_app (goodIn_of _ (by decide +kernel)) ggX5_runAll_X0_why
theorem dX5_runAll_0 : decode cX5_runAll 0 = .ok (.aload_n 0, 1) := by decide +kernel
theorem dX5_runAll_1 : decode cX5_runAll 1 = .ok (.getfield 12, 3) := by decide +kernel
theorem dX5_runAll_4 : decode cX5_runAll 4 = .ok (.iload_n 3, 1) := by decide +kernel
theorem dX5_runAll_5 : decode cX5_runAll 5 = .ok (.invokevirtual 33, 3) := by decide +kernel
theorem dX5_runAll_8 : decode cX5_runAll 8 = .ok (.iconst 0, 1) := by decide +kernel
theorem dX5_runAll_9 : decode cX5_runAll 9 = .ok (.istore 4, 2) := by decide +kernel
theorem dX5_runAll_11 : decode cX5_runAll 11 = .ok (.iload 4, 2) := by decide +kernel
theorem dX5_runAll_13 : decode cX5_runAll 13 = .ok (.aload_n 2, 1) := by decide +kernel
theorem dX5_runAll_14 : decode cX5_runAll 14 = .ok (.invokevirtual 36, 3) := by decide +kernel
theorem dX5_runAll_17 : decode cX5_runAll 17 = .ok (.if_icmp .ge 71, 3) := by decide +kernel
theorem dX5_runAll_20 : decode cX5_runAll 20 = .ok (.aload_n 0, 1) := by decide +kernel
theorem dX5_runAll_21 : decode cX5_runAll 21 = .ok (.getfield 12, 3) := by decide +kernel
theorem dX5_runAll_24 : decode cX5_runAll 24 = .ok (.aload_n 1, 1) := by decide +kernel
theorem dX5_runAll_25 : decode cX5_runAll 25 = .ok (.aload_n 2, 1) := by decide +kernel
theorem dX5_runAll_26 : decode cX5_runAll 26 = .ok (.iload 4, 2) := by decide +kernel
theorem dX5_runAll_28 : decode cX5_runAll 28 = .ok (.invokevirtual 42, 3) := by decide +kernel
theorem dX5_runAll_31 : decode cX5_runAll 31 = .ok (.invokevirtual 46, 3) := by decide +kernel
theorem dX5_runAll_34 : decode cX5_runAll 34 = .ok (.aload_n 0, 1) := by decide +kernel
theorem dX5_runAll_35 : decode cX5_runAll 35 = .ok (.getfield 23, 3) := by decide +kernel
theorem dX5_runAll_38 : decode cX5_runAll 38 = .ok (.iload 4, 2) := by decide +kernel
theorem dX5_runAll_40 : decode cX5_runAll 40 = .ok (.aload_n 0, 1) := by decide +kernel
theorem dX5_runAll_41 : decode cX5_runAll 41 = .ok (.getfield 12, 3) := by decide +kernel
theorem dX5_runAll_44 : decode cX5_runAll 44 = .ok (.invokevirtual 50, 3) := by decide +kernel
theorem dX5_runAll_47 : decode cX5_runAll 47 = .ok (.invokevirtual 52, 3) := by decide +kernel
theorem dX5_runAll_50 : decode cX5_runAll 50 = .ok (.aload_n 0, 1) := by decide +kernel
theorem dX5_runAll_51 : decode cX5_runAll 51 = .ok (.getfield 27, 3) := by decide +kernel
theorem dX5_runAll_54 : decode cX5_runAll 54 = .ok (.iload 4, 2) := by decide +kernel
theorem dX5_runAll_56 : decode cX5_runAll 56 = .ok (.aload_n 0, 1) := by decide +kernel
theorem dX5_runAll_57 : decode cX5_runAll 57 = .ok (.getfield 12, 3) := by decide +kernel
theorem dX5_runAll_60 : decode cX5_runAll 60 = .ok (.invokevirtual 56, 3) := by decide +kernel
theorem dX5_runAll_63 : decode cX5_runAll 63 = .ok (.invokevirtual 52, 3) := by decide +kernel
theorem dX5_runAll_66 : decode cX5_runAll 66 = .ok (.aload_n 0, 1) := by decide +kernel
theorem dX5_runAll_67 : decode cX5_runAll 67 = .ok (.getfield 30, 3) := by decide +kernel
theorem dX5_runAll_70 : decode cX5_runAll 70 = .ok (.iload 4, 2) := by decide +kernel
theorem dX5_runAll_72 : decode cX5_runAll 72 = .ok (.aload_n 0, 1) := by decide +kernel
theorem dX5_runAll_73 : decode cX5_runAll 73 = .ok (.getfield 12, 3) := by decide +kernel
theorem dX5_runAll_76 : decode cX5_runAll 76 = .ok (.invokevirtual 58, 3) := by decide +kernel
theorem dX5_runAll_79 : decode cX5_runAll 79 = .ok (.invokevirtual 52, 3) := by decide +kernel
theorem dX5_runAll_82 : decode cX5_runAll 82 = .ok (.iinc 4 1, 3) := by decide +kernel
theorem dX5_runAll_85 : decode cX5_runAll 85 = .ok (.goto (-74), 3) := by decide +kernel
theorem dX5_runAll_88 : decode cX5_runAll 88 = .ok (.return_, 1) := by decide +kernel
set_option maxRecDepth 20000 in
theorem ggX5_exitsOf_X4_read : GoodIn wsX5_exitsOf wsX4_read := goodIn_r _ [6, 7, 12] (by decide +kernel) (by decide +kernel)
set_option maxRecDepth 20000 in
theorem gX5_exitsOf_X4_read : GoodIn wsX5_exitsOf (wsV RX5 61 RX4 yX4_read wsX4_read) := goodIn_app (goodIn_of _ (by decide +kernel)) ggX5_exitsOf_X4_read
theorem dX5_exitsOf_0 : decode cX5_exitsOf 0 = .ok (.aload_n 0, 1) := by decide +kernel
theorem dX5_exitsOf_1 : decode cX5_exitsOf 1 = .ok (.getfield 23, 3) := by decide +kernel
theorem dX5_exitsOf_4 : decode cX5_exitsOf 4 = .ok (.iload_n 1, 1) := by decide +kernel
theorem dX5_exitsOf_5 : decode cX5_exitsOf 5 = .ok (.invokevirtual 61, 3) := by decide +kernel
theorem dX5_exitsOf_8 : decode cX5_exitsOf 8 = .ok (.ireturn, 1) := by decide +kernel
set_option maxRecDepth 20000 in
theorem ggX5_taggedOf_X4_read : GoodIn wsX5_taggedOf wsX4_read := goodIn_r _ [6, 7, 12] (by decide +kernel) (by decide +kernel)
set_option maxRecDepth 20000 in
theorem gX5_taggedOf_X4_read : GoodIn wsX5_taggedOf (wsV RX5 61 RX4 yX4_read wsX4_read) := goodIn_app (goodIn_of _ (by decide +kernel)) ggX5_taggedOf_X4_read
theorem dX5_taggedOf_0 : decode cX5_taggedOf 0 = .ok (.aload_n 0, 1) := by decide +kernel
theorem dX5_taggedOf_1 : decode cX5_taggedOf 1 = .ok (.getfield 27, 3) := by decide +kernel
theorem dX5_taggedOf_4 : decode cX5_taggedOf 4 = .ok (.iload_n 1, 1) := by decide +kernel
theorem dX5_taggedOf_5 : decode cX5_taggedOf 5 = .ok (.invokevirtual 61, 3) := by decide +kernel
theorem dX5_taggedOf_8 : decode cX5_taggedOf 8 = .ok (.ireturn, 1) := by decide +kernel
set_option maxRecDepth 20000 in
theorem ggX5_reasonOf_X4_read : GoodIn wsX5_reasonOf wsX4_read := goodIn_r _ [6, 7, 12] (by decide +kernel) (by decide +kernel)
set_option maxRecDepth 20000 in
theorem gX5_reasonOf_X4_read : GoodIn wsX5_reasonOf (wsV RX5 61 RX4 yX4_read wsX4_read) := goodIn_app (goodIn_of _ (by decide +kernel)) ggX5_reasonOf_X4_read
theorem dX5_reasonOf_0 : decode cX5_reasonOf 0 = .ok (.aload_n 0, 1) := by decide +kernel
theorem dX5_reasonOf_1 : decode cX5_reasonOf 1 = .ok (.getfield 30, 3) := by decide +kernel
theorem dX5_reasonOf_4 : decode cX5_reasonOf 4 = .ok (.iload_n 1, 1) := by decide +kernel
theorem dX5_reasonOf_5 : decode cX5_reasonOf 5 = .ok (.invokevirtual 61, 3) := by decide +kernel
theorem dX5_reasonOf_8 : decode cX5_reasonOf 8 = .ok (.ireturn, 1) := by decide +kernel
set_option maxRecDepth 20000 in
theorem ggX5_placeOf_X0_placeOf : GoodIn wsX5_placeOf wsX0_placeOf := goodIn_r _ [6, 7, 8, 9, 5, 10, 11, 12, 13, 14, 15, 16, 21, 22, 23, 24, 25, 26] (by decide +kernel) (by decide +kernel)
set_option maxRecDepth 20000 in
theorem gX5_placeOf_X0_placeOf : GoodIn wsX5_placeOf (wsV RX5 64 RX0 yX0_placeOf wsX0_placeOf) := goodIn_app (goodIn_of _ (by decide +kernel)) ggX5_placeOf_X0_placeOf
theorem dX5_placeOf_0 : decode cX5_placeOf 0 = .ok (.aload_n 0, 1) := by decide +kernel
theorem dX5_placeOf_1 : decode cX5_placeOf 1 = .ok (.getfield 12, 3) := by decide +kernel
theorem dX5_placeOf_4 : decode cX5_placeOf 4 = .ok (.iload_n 1, 1) := by decide +kernel
theorem dX5_placeOf_5 : decode cX5_placeOf 5 = .ok (.iload_n 2, 1) := by decide +kernel
theorem dX5_placeOf_6 : decode cX5_placeOf 6 = .ok (.invokevirtual 64, 3) := by decide +kernel
theorem dX5_placeOf_9 : decode cX5_placeOf 9 = .ok (.ireturn, 1) := by decide +kernel
set_option maxRecDepth 20000 in
theorem ggX6_init_X0_init : GoodIn wsX6_init wsX0_init := goodIn_r _ [9, 10, 2, 3, 11, 12, 13, 14, 15, 16, 17, 18, 19, 20, 32, 21, 22, 23, 24, 25] (by decide +kernel) (by decide +kernel)
set_option maxRecDepth 20000 in
theorem gX6_init_X0_init_n11 : GoodIn wsX6_init (wsX0_init) := ggX6_init_X0_init
theorem dX6_init_0 : decode cX6_init 0 = .ok (.aload_n 0, 1) := by decide +kernel
theorem dX6_init_1 : decode cX6_init 1 = .ok (.invokespecial 3, 3) := by decide +kernel
theorem dX6_init_4 : decode cX6_init 4 = .ok (.aload_n 0, 1) := by decide +kernel
theorem dX6_init_5 : decode cX6_init 5 = .ok (.new 9, 3) := by decide +kernel
theorem dX6_init_8 : decode cX6_init 8 = .ok (.dup, 1) := by decide +kernel
theorem dX6_init_9 : decode cX6_init 9 = .ok (.invokespecial 11, 3) := by decide +kernel
theorem dX6_init_12 : decode cX6_init 12 = .ok (.putfield 12, 3) := by decide +kernel
theorem dX6_init_15 : decode cX6_init 15 = .ok (.return_, 1) := by decide +kernel
theorem dX6_forget_0 : decode cX6_forget 0 = .ok (.aload_n 0, 1) := by decide +kernel
theorem dX6_forget_1 : decode cX6_forget 1 = .ok (.iconst 0, 1) := by decide +kernel
theorem dX6_forget_2 : decode cX6_forget 2 = .ok (.putfield 18, 3) := by decide +kernel
theorem dX6_forget_5 : decode cX6_forget 5 = .ok (.return_, 1) := by decide +kernel
theorem dX6_fewest_0 : decode cX6_fewest 0 = .ok (.aload_n 0, 1) := by decide +kernel
theorem dX6_fewest_1 : decode cX6_fewest 1 = .ok (.getfield 22, 3) := by decide +kernel
theorem dX6_fewest_4 : decode cX6_fewest 4 = .ok (.ireturn, 1) := by decide +kernel
theorem dX6_count_0 : decode cX6_count 0 = .ok (.aload_n 0, 1) := by decide +kernel
theorem dX6_count_1 : decode cX6_count 1 = .ok (.getfield 26, 3) := by decide +kernel
theorem dX6_count_4 : decode cX6_count 4 = .ok (.ireturn, 1) := by decide +kernel
set_option maxRecDepth 20000 in
theorem ggX6_culprit_X6_numberOf : GoodIn wsX6_culprit wsX6_numberOf := goodIn_r _ [6] (by decide +kernel) (by decide +kernel)
set_option maxRecDepth 20000 in
theorem gX6_culprit_X6_numberOf : GoodIn wsX6_culprit (va_wsS RX6 35 yX6_numberOf wsX6_numberOf) := goodIn_app (goodIn_of _ (by decide +kernel)) ggX6_culprit_X6_numberOf
theorem dX6_culprit_0 : decode cX6_culprit 0 = .ok (.iload_n 1, 1) := by decide +kernel
theorem dX6_culprit_1 : decode cX6_culprit 1 = .ok (.ifCond .ne 10, 3) := by decide +kernel
theorem dX6_culprit_4 : decode cX6_culprit 4 = .ok (.aload_n 0, 1) := by decide +kernel
theorem dX6_culprit_5 : decode cX6_culprit 5 = .ok (.getfield 29, 3) := by decide +kernel
theorem dX6_culprit_8 : decode cX6_culprit 8 = .ok (.goto 7, 3) := by decide +kernel
theorem dX6_culprit_11 : decode cX6_culprit 11 = .ok (.aload_n 0, 1) := by decide +kernel
theorem dX6_culprit_12 : decode cX6_culprit 12 = .ok (.getfield 32, 3) := by decide +kernel
theorem dX6_culprit_15 : decode cX6_culprit 15 = .ok (.invokestatic 35, 3) := by decide +kernel
theorem dX6_culprit_18 : decode cX6_culprit 18 = .ok (.ireturn, 1) := by decide +kernel
set_option maxRecDepth 20000 in
theorem ggX6_findFewest_X6_tryNone : GoodIn wsX6_findFewest wsX6_tryNone := goodIn_r _ [8, 9, 10, 11, 7, 12, 13, 14, 15, 16, 17, 18, 19, 20, 21, 22, 23, 24, 25, 26, 27, 28, 29, 30, 31, 32, 33, 34, 35, 36, 37, 38, 39, 40, 41, 42, 43, 44, 45, 46, 47, 48, 49, 50, 51, 52, 53, 54, 55, 56, 57, 58, 59, 60, 61, 62, 63, 64, 65, 66, 67, 68, 69, 70, 71, 72, 73, 74, 75, 76, 77, 78, 79, 80, 81, 82, 83, 84, 85, 86, 87, 88, 89, 90, 91, 92, 93, 94, 95, 96, 97, 98, 99, 100, 101, 102, 103, 104, 105, 106, 107, 108, 109, 110, 111, 112, 113, 114, 115, 116, 117, 118, 119, 120, 121, 122, 123, 124, 125, 126, 127, 128, 129, 130, 131, 132, 133, 2, 3, 134, 135, 152, 153, 154, 155, 156, 157, 158, 159, 160, 161, 162, 163, 164, 165, 166, 167, 168, 169, 170, 171, 172, 173] (by decide +kernel) (by decide +kernel)
set_option maxRecDepth 20000 in
theorem gX6_findFewest_X6_tryNone : GoodIn wsX6_findFewest (wsV RX6 39 RX6 yX6_tryNone wsX6_tryNone) := goodIn_app (goodIn_of _ (by decide +kernel)) ggX6_findFewest_X6_tryNone
set_option maxRecDepth 20000 in
theorem ggX6_findFewest_X6_tryOnes : GoodIn wsX6_findFewest wsX6_tryOnes := goodIn_r _ [139, 140, 141, 142, 73, 143, 144, 145, 146, 7, 147, 86, 58, 87, 9, 10, 11, 12, 13, 14, 15, 16, 17, 18, 19, 20, 21, 22, 23, 24, 25, 26, 27, 28, 29, 30, 31, 32, 33, 34, 35, 36, 37, 38, 39, 40, 41, 42, 43, 44, 45, 46, 47, 48, 49, 50, 51, 52, 53, 54, 55, 56, 57, 59, 60, 61, 62, 63, 64, 65, 66, 67, 68, 69, 70, 71, 72, 74, 75, 76, 77, 78, 79, 80, 81, 82, 83, 84, 85, 88, 89, 90, 91, 92, 93, 94, 95, 96, 97, 98, 99, 100, 101, 102, 103, 104, 105, 106, 107, 108, 109, 110, 111, 112, 113, 114, 115, 116, 117, 118, 119, 120, 121, 122, 123, 124, 125, 126, 127, 128, 129, 130, 131, 132, 133, 2, 3, 134, 135, 166, 167, 168, 169, 152, 153, 154, 155, 156, 157, 158, 159, 160, 161, 162, 163, 164, 165, 170, 171, 172, 173] (by decide +kernel) (by decide +kernel)
set_option maxRecDepth 20000 in
theorem gX6_findFewest_X6_tryOnes : GoodIn wsX6_findFewest (wsV RX6 43 RX6 yX6_tryOnes wsX6_tryOnes) := goodIn_app (goodIn_of _ (by decide +kernel)) ggX6_findFewest_X6_tryOnes
set_option maxRecDepth 20000 in
theorem ggX6_findFewest_X6_tryTwos : GoodIn wsX6_findFewest wsX6_tryTwos := goodIn_r _ [151, 140, 141, 142, 73, 143, 144, 145, 146, 7, 147, 86, 58, 87, 9, 10, 11, 12, 13, 14, 15, 16, 17, 18, 19, 20, 21, 22, 23, 24, 25, 26, 27, 28, 29, 30, 31, 32, 33, 34, 35, 36, 37, 38, 39, 40, 41, 42, 43, 44, 45, 46, 47, 48, 49, 50, 51, 52, 53, 54, 55, 56, 57, 59, 60, 61, 62, 63, 64, 65, 66, 67, 68, 69, 70, 71, 72, 74, 75, 76, 77, 78, 79, 80, 81, 82, 83, 84, 85, 88, 89, 90, 91, 92, 93, 94, 95, 96, 97, 98, 99, 100, 101, 102, 103, 104, 105, 106, 107, 108, 109, 110, 111, 112, 113, 114, 115, 116, 117, 118, 119, 120, 121, 122, 123, 124, 125, 126, 127, 128, 129, 130, 131, 132, 133, 2, 3, 134, 135, 166, 167, 168, 169, 152, 153, 154, 155, 156, 157, 158, 159, 160, 161, 162, 163, 164, 165, 170, 171, 172, 173] (by decide +kernel) (by decide +kernel)
set_option maxRecDepth 20000 in
theorem gX6_findFewest_X6_tryTwos : GoodIn wsX6_findFewest (wsV RX6 46 RX6 yX6_tryTwos wsX6_tryTwos) := goodIn_app (goodIn_of _ (by decide +kernel)) ggX6_findFewest_X6_tryTwos
theorem dX6_findFewest_0 : decode cX6_findFewest 0 = .ok (.aload_n 0, 1) := by decide +kernel
theorem dX6_findFewest_1 : decode cX6_findFewest 1 = .ok (.getfield 18, 3) := by decide +kernel
theorem dX6_findFewest_4 : decode cX6_findFewest 4 = .ok (.ifCond .eq 4, 3) := by decide +kernel
theorem dX6_findFewest_7 : decode cX6_findFewest 7 = .ok (.return_, 1) := by decide +kernel
theorem dX6_findFewest_8 : decode cX6_findFewest 8 = .ok (.aload_n 0, 1) := by decide +kernel
theorem dX6_findFewest_9 : decode cX6_findFewest 9 = .ok (.iconst 1, 1) := by decide +kernel
theorem dX6_findFewest_10 : decode cX6_findFewest 10 = .ok (.putfield 18, 3) := by decide +kernel
theorem dX6_findFewest_13 : decode cX6_findFewest 13 = .ok (.aload_n 0, 1) := by decide +kernel
theorem dX6_findFewest_14 : decode cX6_findFewest 14 = .ok (.iconst 0, 1) := by decide +kernel
theorem dX6_findFewest_15 : decode cX6_findFewest 15 = .ok (.putfield 26, 3) := by decide +kernel
theorem dX6_findFewest_18 : decode cX6_findFewest 18 = .ok (.aload_n 0, 1) := by decide +kernel
theorem dX6_findFewest_19 : decode cX6_findFewest 19 = .ok (.aload_n 1, 1) := by decide +kernel
theorem dX6_findFewest_20 : decode cX6_findFewest 20 = .ok (.aload_n 2, 1) := by decide +kernel
theorem dX6_findFewest_21 : decode cX6_findFewest 21 = .ok (.aload_n 3, 1) := by decide +kernel
theorem dX6_findFewest_22 : decode cX6_findFewest 22 = .ok (.invokevirtual 39, 3) := by decide +kernel
theorem dX6_findFewest_25 : decode cX6_findFewest 25 = .ok (.aload_n 0, 1) := by decide +kernel
theorem dX6_findFewest_26 : decode cX6_findFewest 26 = .ok (.getfield 26, 3) := by decide +kernel
theorem dX6_findFewest_29 : decode cX6_findFewest 29 = .ok (.ifCond .ne 10, 3) := by decide +kernel
theorem dX6_findFewest_32 : decode cX6_findFewest 32 = .ok (.aload_n 0, 1) := by decide +kernel
theorem dX6_findFewest_33 : decode cX6_findFewest 33 = .ok (.aload_n 1, 1) := by decide +kernel
theorem dX6_findFewest_34 : decode cX6_findFewest 34 = .ok (.aload_n 2, 1) := by decide +kernel
theorem dX6_findFewest_35 : decode cX6_findFewest 35 = .ok (.aload_n 3, 1) := by decide +kernel
theorem dX6_findFewest_36 : decode cX6_findFewest 36 = .ok (.invokevirtual 43, 3) := by decide +kernel
theorem dX6_findFewest_39 : decode cX6_findFewest 39 = .ok (.aload_n 0, 1) := by decide +kernel
theorem dX6_findFewest_40 : decode cX6_findFewest 40 = .ok (.getfield 26, 3) := by decide +kernel
theorem dX6_findFewest_43 : decode cX6_findFewest 43 = .ok (.ifCond .ne 10, 3) := by decide +kernel
theorem dX6_findFewest_46 : decode cX6_findFewest 46 = .ok (.aload_n 0, 1) := by decide +kernel
theorem dX6_findFewest_47 : decode cX6_findFewest 47 = .ok (.aload_n 1, 1) := by decide +kernel
theorem dX6_findFewest_48 : decode cX6_findFewest 48 = .ok (.aload_n 2, 1) := by decide +kernel
theorem dX6_findFewest_49 : decode cX6_findFewest 49 = .ok (.aload_n 3, 1) := by decide +kernel
theorem dX6_findFewest_50 : decode cX6_findFewest 50 = .ok (.invokevirtual 46, 3) := by decide +kernel
theorem dX6_findFewest_53 : decode cX6_findFewest 53 = .ok (.aload_n 0, 1) := by decide +kernel
theorem dX6_findFewest_54 : decode cX6_findFewest 54 = .ok (.getfield 26, 3) := by decide +kernel
theorem dX6_findFewest_57 : decode cX6_findFewest 57 = .ok (.ifCond .ne 8, 3) := by decide +kernel
theorem dX6_findFewest_60 : decode cX6_findFewest 60 = .ok (.aload_n 0, 1) := by decide +kernel
theorem dX6_findFewest_61 : decode cX6_findFewest 61 = .ok (.iconst (-1), 1) := by decide +kernel
theorem dX6_findFewest_62 : decode cX6_findFewest 62 = .ok (.putfield 22, 3) := by decide +kernel
theorem dX6_findFewest_65 : decode cX6_findFewest 65 = .ok (.return_, 1) := by decide +kernel
set_option maxRecDepth 20000 in
theorem ggX6_tryNone_X6_fits : GoodIn wsX6_tryNone wsX6_fits := goodIn_r _ [5, 6, 7, 8, 9, 10, 11, 12, 13, 14, 15, 16, 17, 18, 19, 20, 21, 22, 23, 24, 25, 26, 27, 28, 29, 30, 31, 32, 33, 34, 35, 36, 37, 38, 39, 40, 41, 42, 43, 44, 45, 46, 47, 48, 49, 50, 51, 52, 53, 54, 55, 56, 57, 58, 59, 60, 61, 62, 63, 64, 65, 66, 67, 68, 69, 70, 71, 72, 73, 74, 75, 76, 77, 78, 79, 80, 81, 82, 83, 84, 85, 86, 87, 88, 89, 90, 91, 92, 93, 94, 95, 96, 97, 98, 99, 100, 101, 102, 103, 104, 105, 106, 107, 108, 109, 110, 111, 112, 113, 114, 115, 116, 117, 118, 119, 120, 121, 122, 131, 132, 133, 134, 135, 136, 137, 138, 139, 140, 141, 142, 143, 144, 145, 146, 147, 148, 149, 150, 151, 152] (by decide +kernel) (by decide +kernel)
set_option maxRecDepth 20000 in
theorem gX6_tryNone_X6_fits : GoodIn wsX6_tryNone (wsV RX6 49 RX6 yX6_fits wsX6_fits) := goodIn_app (goodIn_of _ (by decide +kernel)) ggX6_tryNone_X6_fits
set_option maxRecDepth 20000 in
theorem ggX6_tryNone_X6_note : GoodIn wsX6_tryNone wsX6_note := goodIn_r _ [126, 127, 128, 129, 130, 131, 132, 133, 134, 135, 136] (by decide +kernel) (by decide +kernel)
set_option maxRecDepth 20000 in
theorem gX6_tryNone_X6_note : GoodIn wsX6_tryNone (wsV RX6 53 RX6 yX6_note wsX6_note) := goodIn_app (goodIn_of _ (by decide +kernel)) ggX6_tryNone_X6_note
theorem dX6_tryNone_0 : decode cX6_tryNone 0 = .ok (.aload_n 0, 1) := by decide +kernel
theorem dX6_tryNone_1 : decode cX6_tryNone 1 = .ok (.aload_n 1, 1) := by decide +kernel
theorem dX6_tryNone_2 : decode cX6_tryNone 2 = .ok (.aload_n 2, 1) := by decide +kernel
theorem dX6_tryNone_3 : decode cX6_tryNone 3 = .ok (.aload_n 3, 1) := by decide +kernel
theorem dX6_tryNone_4 : decode cX6_tryNone 4 = .ok (.iconst 0, 1) := by decide +kernel
theorem dX6_tryNone_5 : decode cX6_tryNone 5 = .ok (.invokevirtual 49, 3) := by decide +kernel
theorem dX6_tryNone_8 : decode cX6_tryNone 8 = .ok (.ifCond .eq 10, 3) := by decide +kernel
theorem dX6_tryNone_11 : decode cX6_tryNone 11 = .ok (.aload_n 0, 1) := by decide +kernel
theorem dX6_tryNone_12 : decode cX6_tryNone 12 = .ok (.iconst 0, 1) := by decide +kernel
theorem dX6_tryNone_13 : decode cX6_tryNone 13 = .ok (.iconst 0, 1) := by decide +kernel
theorem dX6_tryNone_14 : decode cX6_tryNone 14 = .ok (.iconst 0, 1) := by decide +kernel
theorem dX6_tryNone_15 : decode cX6_tryNone 15 = .ok (.invokevirtual 53, 3) := by decide +kernel
theorem dX6_tryNone_18 : decode cX6_tryNone 18 = .ok (.return_, 1) := by decide +kernel
set_option maxRecDepth 20000 in
theorem ggX6_tryOnes_X2_portCount : GoodIn wsX6_tryOnes wsX2_portCount := goodIn_r _ [5, 6, 139, 140, 141, 142] (by decide +kernel) (by decide +kernel)
set_option maxRecDepth 20000 in
theorem gX6_tryOnes_X2_portCount : GoodIn wsX6_tryOnes (wsV RX6 57 RX2 yX2_portCount wsX2_portCount) := goodIn_app (goodIn_of _ (by decide +kernel)) ggX6_tryOnes_X2_portCount
set_option maxRecDepth 20000 in
theorem ggX6_tryOnes_X6_bitOf : GoodIn wsX6_tryOnes wsX6_bitOf := goodIn_r _ [10, 11, 12, 13] (by decide +kernel) (by decide +kernel)
set_option maxRecDepth 20000 in
theorem gX6_tryOnes_X6_bitOf : GoodIn wsX6_tryOnes (va_wsS RX6 63 yX6_bitOf wsX6_bitOf) := goodIn_app (goodIn_of _ (by decide +kernel)) ggX6_tryOnes_X6_bitOf
set_option maxRecDepth 20000 in
theorem ggX6_tryOnes_X6_fits : GoodIn wsX6_tryOnes wsX6_fits := goodIn_r _ [17, 18, 19, 20, 21, 22, 23, 24, 25, 26, 27, 28, 29, 30, 31, 32, 33, 34, 35, 36, 37, 38, 39, 40, 41, 42, 43, 44, 45, 46, 47, 48, 49, 50, 51, 52, 53, 54, 55, 56, 57, 58, 59, 60, 61, 62, 12, 63, 64, 65, 66, 67, 68, 69, 70, 71, 72, 73, 74, 75, 76, 4, 77, 78, 79, 80, 81, 82, 83, 84, 85, 86, 87, 88, 11, 13, 89, 90, 91, 92, 93, 94, 95, 96, 97, 98, 99, 100, 101, 102, 103, 104, 105, 106, 107, 108, 109, 110, 111, 112, 113, 114, 115, 116, 117, 118, 119, 120, 121, 122, 123, 124, 125, 126, 127, 128, 129, 130, 143, 144, 145, 146, 147, 148, 149, 150, 151, 152, 153, 154, 155, 156, 139, 140, 141, 142, 157, 158, 159, 160] (by decide +kernel) (by decide +kernel)
set_option maxRecDepth 20000 in
theorem gX6_tryOnes_X6_fits : GoodIn wsX6_tryOnes (wsV RX6 49 RX6 yX6_fits wsX6_fits) := goodIn_app (goodIn_of _ (by decide +kernel)) ggX6_tryOnes_X6_fits
set_option maxRecDepth 20000 in
theorem ggX6_tryOnes_X6_note : GoodIn wsX6_tryOnes wsX6_note := goodIn_r _ [134, 135, 136, 137, 138, 143, 144, 145, 146, 147, 148] (by decide +kernel) (by decide +kernel)
set_option maxRecDepth 20000 in
theorem gX6_tryOnes_X6_note : GoodIn wsX6_tryOnes (wsV RX6 53 RX6 yX6_note wsX6_note) := goodIn_app (goodIn_of _ (by decide +kernel)) ggX6_tryOnes_X6_note
theorem dX6_tryOnes_0 : decode cX6_tryOnes 0 = .ok (.iconst 5, 1) := by decide +kernel
theorem dX6_tryOnes_1 : decode cX6_tryOnes 1 = .ok (.aload_n 1, 1) := by decide +kernel
theorem dX6_tryOnes_2 : decode cX6_tryOnes 2 = .ok (.invokevirtual 57, 3) := by decide +kernel
theorem dX6_tryOnes_5 : decode cX6_tryOnes 5 = .ok (.imul, 1) := by decide +kernel
theorem dX6_tryOnes_6 : decode cX6_tryOnes 6 = .ok (.istore 4, 2) := by decide +kernel
theorem dX6_tryOnes_8 : decode cX6_tryOnes 8 = .ok (.iconst 0, 1) := by decide +kernel
theorem dX6_tryOnes_9 : decode cX6_tryOnes 9 = .ok (.istore 5, 2) := by decide +kernel
theorem dX6_tryOnes_11 : decode cX6_tryOnes 11 = .ok (.iload 5, 2) := by decide +kernel
theorem dX6_tryOnes_13 : decode cX6_tryOnes 13 = .ok (.iload 4, 2) := by decide +kernel
theorem dX6_tryOnes_15 : decode cX6_tryOnes 15 = .ok (.if_icmp .ge 33, 3) := by decide +kernel
theorem dX6_tryOnes_18 : decode cX6_tryOnes 18 = .ok (.aload_n 0, 1) := by decide +kernel
theorem dX6_tryOnes_19 : decode cX6_tryOnes 19 = .ok (.aload_n 1, 1) := by decide +kernel
theorem dX6_tryOnes_20 : decode cX6_tryOnes 20 = .ok (.aload_n 2, 1) := by decide +kernel
theorem dX6_tryOnes_21 : decode cX6_tryOnes 21 = .ok (.aload_n 3, 1) := by decide +kernel
theorem dX6_tryOnes_22 : decode cX6_tryOnes 22 = .ok (.iload 5, 2) := by decide +kernel
theorem dX6_tryOnes_24 : decode cX6_tryOnes 24 = .ok (.invokestatic 63, 3) := by decide +kernel
theorem dX6_tryOnes_27 : decode cX6_tryOnes 27 = .ok (.invokevirtual 49, 3) := by decide +kernel
theorem dX6_tryOnes_30 : decode cX6_tryOnes 30 = .ok (.ifCond .eq 12, 3) := by decide +kernel
theorem dX6_tryOnes_33 : decode cX6_tryOnes 33 = .ok (.aload_n 0, 1) := by decide +kernel
theorem dX6_tryOnes_34 : decode cX6_tryOnes 34 = .ok (.iconst 1, 1) := by decide +kernel
theorem dX6_tryOnes_35 : decode cX6_tryOnes 35 = .ok (.iload 5, 2) := by decide +kernel
theorem dX6_tryOnes_37 : decode cX6_tryOnes 37 = .ok (.iload 5, 2) := by decide +kernel
theorem dX6_tryOnes_39 : decode cX6_tryOnes 39 = .ok (.invokevirtual 53, 3) := by decide +kernel
theorem dX6_tryOnes_42 : decode cX6_tryOnes 42 = .ok (.iinc 5 1, 3) := by decide +kernel
theorem dX6_tryOnes_45 : decode cX6_tryOnes 45 = .ok (.goto (-34), 3) := by decide +kernel
theorem dX6_tryOnes_48 : decode cX6_tryOnes 48 = .ok (.return_, 1) := by decide +kernel
set_option maxRecDepth 20000 in
theorem ggX6_tryTwos_X2_portCount : GoodIn wsX6_tryTwos wsX2_portCount := goodIn_r _ [5, 6, 139, 140, 141, 142] (by decide +kernel) (by decide +kernel)
set_option maxRecDepth 20000 in
theorem gX6_tryTwos_X2_portCount : GoodIn wsX6_tryTwos (wsV RX6 57 RX2 yX2_portCount wsX2_portCount) := goodIn_app (goodIn_of _ (by decide +kernel)) ggX6_tryTwos_X2_portCount
set_option maxRecDepth 20000 in
theorem ggX6_tryTwos_X6_bitOf : GoodIn wsX6_tryTwos wsX6_bitOf := goodIn_r _ [10, 11, 12, 13] (by decide +kernel) (by decide +kernel)
set_option maxRecDepth 20000 in
theorem gX6_tryTwos_X6_bitOf : GoodIn wsX6_tryTwos (va_wsS RX6 63 yX6_bitOf wsX6_bitOf) := goodIn_app (goodIn_of _ (by decide +kernel)) ggX6_tryTwos_X6_bitOf
set_option maxRecDepth 20000 in
theorem ggX6_tryTwos_X6_fits : GoodIn wsX6_tryTwos wsX6_fits := goodIn_r _ [17, 18, 19, 20, 21, 22, 23, 24, 25, 26, 27, 28, 29, 30, 31, 32, 33, 34, 35, 36, 37, 38, 39, 40, 41, 42, 43, 44, 45, 46, 47, 48, 49, 50, 51, 52, 53, 54, 55, 56, 57, 58, 59, 60, 61, 62, 12, 63, 64, 65, 66, 67, 68, 69, 70, 71, 72, 73, 74, 75, 76, 4, 77, 78, 79, 80, 81, 82, 83, 84, 85, 86, 87, 88, 11, 13, 89, 90, 91, 92, 93, 94, 95, 96, 97, 98, 99, 100, 101, 102, 103, 104, 105, 106, 107, 108, 109, 110, 111, 112, 113, 114, 115, 116, 117, 118, 119, 120, 121, 122, 123, 124, 125, 126, 127, 128, 129, 130, 143, 144, 145, 146, 147, 148, 149, 150, 151, 152, 153, 154, 155, 156, 139, 140, 141, 142, 157, 158, 159, 160] (by decide +kernel) (by decide +kernel)
set_option maxRecDepth 20000 in
theorem gX6_tryTwos_X6_fits : GoodIn wsX6_tryTwos (wsV RX6 49 RX6 yX6_fits wsX6_fits) := goodIn_app (goodIn_of _ (by decide +kernel)) ggX6_tryTwos_X6_fits
set_option maxRecDepth 20000 in
theorem ggX6_tryTwos_X6_note : GoodIn wsX6_tryTwos wsX6_note := goodIn_r _ [134, 135, 136, 137, 138, 143, 144, 145, 146, 147, 148] (by decide +kernel) (by decide +kernel)
set_option maxRecDepth 20000 in
theorem gX6_tryTwos_X6_note : GoodIn wsX6_tryTwos (wsV RX6 53 RX6 yX6_note wsX6_note) := goodIn_app (goodIn_of _ (by decide +kernel)) ggX6_tryTwos_X6_note
theorem dX6_tryTwos_0 : decode cX6_tryTwos 0 = .ok (.iconst 5, 1) := by decide +kernel
theorem dX6_tryTwos_1 : decode cX6_tryTwos 1 = .ok (.aload_n 1, 1) := by decide +kernel
theorem dX6_tryTwos_2 : decode cX6_tryTwos 2 = .ok (.invokevirtual 57, 3) := by decide +kernel
theorem dX6_tryTwos_5 : decode cX6_tryTwos 5 = .ok (.imul, 1) := by decide +kernel
theorem dX6_tryTwos_6 : decode cX6_tryTwos 6 = .ok (.istore 4, 2) := by decide +kernel
theorem dX6_tryTwos_8 : decode cX6_tryTwos 8 = .ok (.iconst 0, 1) := by decide +kernel
theorem dX6_tryTwos_9 : decode cX6_tryTwos 9 = .ok (.istore 5, 2) := by decide +kernel
theorem dX6_tryTwos_11 : decode cX6_tryTwos 11 = .ok (.iload 5, 2) := by decide +kernel
theorem dX6_tryTwos_13 : decode cX6_tryTwos 13 = .ok (.iload 4, 2) := by decide +kernel
theorem dX6_tryTwos_15 : decode cX6_tryTwos 15 = .ok (.if_icmp .ge 58, 3) := by decide +kernel
theorem dX6_tryTwos_18 : decode cX6_tryTwos 18 = .ok (.iload 5, 2) := by decide +kernel
theorem dX6_tryTwos_20 : decode cX6_tryTwos 20 = .ok (.iconst 1, 1) := by decide +kernel
theorem dX6_tryTwos_21 : decode cX6_tryTwos 21 = .ok (.iadd, 1) := by decide +kernel
theorem dX6_tryTwos_22 : decode cX6_tryTwos 22 = .ok (.istore 6, 2) := by decide +kernel
theorem dX6_tryTwos_24 : decode cX6_tryTwos 24 = .ok (.iload 6, 2) := by decide +kernel
theorem dX6_tryTwos_26 : decode cX6_tryTwos 26 = .ok (.iload 4, 2) := by decide +kernel
theorem dX6_tryTwos_28 : decode cX6_tryTwos 28 = .ok (.if_icmp .ge 39, 3) := by decide +kernel
theorem dX6_tryTwos_31 : decode cX6_tryTwos 31 = .ok (.aload_n 0, 1) := by decide +kernel
theorem dX6_tryTwos_32 : decode cX6_tryTwos 32 = .ok (.aload_n 1, 1) := by decide +kernel
theorem dX6_tryTwos_33 : decode cX6_tryTwos 33 = .ok (.aload_n 2, 1) := by decide +kernel
theorem dX6_tryTwos_34 : decode cX6_tryTwos 34 = .ok (.aload_n 3, 1) := by decide +kernel
theorem dX6_tryTwos_35 : decode cX6_tryTwos 35 = .ok (.iload 5, 2) := by decide +kernel
theorem dX6_tryTwos_37 : decode cX6_tryTwos 37 = .ok (.invokestatic 63, 3) := by decide +kernel
theorem dX6_tryTwos_40 : decode cX6_tryTwos 40 = .ok (.iload 6, 2) := by decide +kernel
theorem dX6_tryTwos_42 : decode cX6_tryTwos 42 = .ok (.invokestatic 63, 3) := by decide +kernel
theorem dX6_tryTwos_45 : decode cX6_tryTwos 45 = .ok (.ior, 1) := by decide +kernel
theorem dX6_tryTwos_46 : decode cX6_tryTwos 46 = .ok (.invokevirtual 49, 3) := by decide +kernel
theorem dX6_tryTwos_49 : decode cX6_tryTwos 49 = .ok (.ifCond .eq 12, 3) := by decide +kernel
theorem dX6_tryTwos_52 : decode cX6_tryTwos 52 = .ok (.aload_n 0, 1) := by decide +kernel
theorem dX6_tryTwos_53 : decode cX6_tryTwos 53 = .ok (.iconst 2, 1) := by decide +kernel
theorem dX6_tryTwos_54 : decode cX6_tryTwos 54 = .ok (.iload 5, 2) := by decide +kernel
theorem dX6_tryTwos_56 : decode cX6_tryTwos 56 = .ok (.iload 6, 2) := by decide +kernel
theorem dX6_tryTwos_58 : decode cX6_tryTwos 58 = .ok (.invokevirtual 53, 3) := by decide +kernel
theorem dX6_tryTwos_61 : decode cX6_tryTwos 61 = .ok (.iinc 6 1, 3) := by decide +kernel
theorem dX6_tryTwos_64 : decode cX6_tryTwos 64 = .ok (.goto (-40), 3) := by decide +kernel
theorem dX6_tryTwos_67 : decode cX6_tryTwos 67 = .ok (.iinc 5 1, 3) := by decide +kernel
theorem dX6_tryTwos_70 : decode cX6_tryTwos 70 = .ok (.goto (-59), 3) := by decide +kernel
theorem dX6_tryTwos_73 : decode cX6_tryTwos 73 = .ok (.return_, 1) := by decide +kernel
theorem dX6_note_0 : decode cX6_note 0 = .ok (.aload_n 0, 1) := by decide +kernel
theorem dX6_note_1 : decode cX6_note 1 = .ok (.getfield 26, 3) := by decide +kernel
theorem dX6_note_4 : decode cX6_note 4 = .ok (.ifCond .ne 18, 3) := by decide +kernel
theorem dX6_note_7 : decode cX6_note 7 = .ok (.aload_n 0, 1) := by decide +kernel
theorem dX6_note_8 : decode cX6_note 8 = .ok (.iload_n 1, 1) := by decide +kernel
theorem dX6_note_9 : decode cX6_note 9 = .ok (.putfield 22, 3) := by decide +kernel
theorem dX6_note_12 : decode cX6_note 12 = .ok (.aload_n 0, 1) := by decide +kernel
theorem dX6_note_13 : decode cX6_note 13 = .ok (.iload_n 2, 1) := by decide +kernel
theorem dX6_note_14 : decode cX6_note 14 = .ok (.putfield 29, 3) := by decide +kernel
theorem dX6_note_17 : decode cX6_note 17 = .ok (.aload_n 0, 1) := by decide +kernel
theorem dX6_note_18 : decode cX6_note 18 = .ok (.iload_n 3, 1) := by decide +kernel
theorem dX6_note_19 : decode cX6_note 19 = .ok (.putfield 32, 3) := by decide +kernel
theorem dX6_note_22 : decode cX6_note 22 = .ok (.aload_n 0, 1) := by decide +kernel
theorem dX6_note_23 : decode cX6_note 23 = .ok (.dup, 1) := by decide +kernel
theorem dX6_note_24 : decode cX6_note 24 = .ok (.getfield 26, 3) := by decide +kernel
theorem dX6_note_27 : decode cX6_note 27 = .ok (.iconst 1, 1) := by decide +kernel
theorem dX6_note_28 : decode cX6_note 28 = .ok (.iadd, 1) := by decide +kernel
theorem dX6_note_29 : decode cX6_note 29 = .ok (.putfield 26, 3) := by decide +kernel
theorem dX6_note_32 : decode cX6_note 32 = .ok (.return_, 1) := by decide +kernel
set_option maxRecDepth 20000 in
theorem ggX6_fits_X0_restart : GoodIn wsX6_fits wsX0_restart := goodIn_r _ [6, 7, 8, 9, 10, 11, 12, 13, 14, 15, 16, 17, 18, 124, 125, 126, 127, 128, 129] (by decide +kernel) (by decide +kernel)
set_option maxRecDepth 20000 in
theorem gX6_fits_X0_restart : GoodIn wsX6_fits (wsV RX6 66 RX0 yX0_restart wsX0_restart) := goodIn_app (goodIn_of _ (by decide +kernel)) ggX6_fits_X0_restart
set_option maxRecDepth 20000 in
theorem ggX6_fits_X1_size : GoodIn wsX6_fits wsX1_size := goodIn_r _ [23, 24, 130, 131] (by decide +kernel) (by decide +kernel)
set_option maxRecDepth 20000 in
theorem gX6_fits_X1_size : GoodIn wsX6_fits (wsV RX6 70 RX1 yX1_size wsX1_size) := goodIn_app (goodIn_of _ (by decide +kernel)) ggX6_fits_X1_size
set_option maxRecDepth 20000 in
theorem ggX6_fits_X1_frame : GoodIn wsX6_fits wsX1_frame := goodIn_r _ [28, 29, 30, 31, 32, 12, 33, 14, 130, 131, 129] (by decide +kernel) (by decide +kernel)
set_option maxRecDepth 20000 in
theorem gX6_fits_X1_frame : GoodIn wsX6_fits (wsV RX6 75 RX1 yX1_frame wsX1_frame) := goodIn_app (goodIn_of _ (by decide +kernel)) ggX6_fits_X1_frame
set_option maxRecDepth 20000 in
theorem ggX6_fits_X0_send : GoodIn wsX6_fits wsX0_send := goodIn_r _ [37, 38, 39, 40, 8, 41, 42, 43, 5, 44, 45, 46, 47, 48, 49, 50, 51, 7, 52, 53, 54, 55, 56, 57, 58, 59, 60, 61, 62, 63, 64, 65, 66, 67, 68, 69, 70, 71, 72, 73, 74, 75, 76, 77, 78, 79, 80, 81, 82, 83, 12, 84, 14, 85, 86, 87, 88, 89, 90, 91, 31, 32, 33, 92, 93, 94, 95, 96, 97, 124, 125, 126, 127, 128, 132, 133, 134, 135, 129] (by decide +kernel) (by decide +kernel)
set_option maxRecDepth 20000 in
theorem gX6_fits_X0_send : GoodIn wsX6_fits (wsV RX6 78 RX0 yX0_send wsX0_send) := goodIn_app (goodIn_of _ (by decide +kernel)) ggX6_fits_X0_send
set_option maxRecDepth 20000 in
theorem ggX6_fits_X0_exits : GoodIn wsX6_fits wsX0_exits := goodIn_r _ [101, 38, 124, 125, 126, 127, 128] (by decide +kernel) (by decide +kernel)
set_option maxRecDepth 20000 in
theorem gX6_fits_X0_exits : GoodIn wsX6_fits (wsV RX6 82 RX0 yX0_exits wsX0_exits) := goodIn_app (goodIn_of _ (by decide +kernel)) ggX6_fits_X0_exits
set_option maxRecDepth 20000 in
theorem ggX6_fits_X5_exitsOf : GoodIn wsX6_fits wsX5_exitsOf := goodIn_r _ [106, 107, 108, 31, 32, 12, 33, 14, 136, 137, 138, 139, 129] (by decide +kernel) (by decide +kernel)
set_option maxRecDepth 20000 in
theorem gX6_fits_X5_exitsOf : GoodIn wsX6_fits (wsV RX6 85 RX5 yX5_exitsOf wsX5_exitsOf) := goodIn_app (goodIn_of _ (by decide +kernel)) ggX6_fits_X5_exitsOf
set_option maxRecDepth 20000 in
theorem ggX6_fits_X0_taggedExits : GoodIn wsX6_fits wsX0_taggedExits := goodIn_r _ [112, 39, 124, 125, 126, 127, 128] (by decide +kernel) (by decide +kernel)
set_option maxRecDepth 20000 in
theorem gX6_fits_X0_taggedExits : GoodIn wsX6_fits (wsV RX6 90 RX0 yX0_taggedExits wsX0_taggedExits) := goodIn_app (goodIn_of _ (by decide +kernel)) ggX6_fits_X0_taggedExits
set_option maxRecDepth 20000 in
theorem ggX6_fits_X5_taggedOf : GoodIn wsX6_fits wsX5_taggedOf := goodIn_r _ [116, 117, 108, 31, 32, 12, 33, 14, 136, 137, 138, 139, 129] (by decide +kernel) (by decide +kernel)
set_option maxRecDepth 20000 in
theorem gX6_fits_X5_taggedOf : GoodIn wsX6_fits (wsV RX6 93 RX5 yX5_taggedOf wsX5_taggedOf) := goodIn_app (goodIn_of _ (by decide +kernel)) ggX6_fits_X5_taggedOf
theorem dX6_fits_0 : decode cX6_fits 0 = .ok (.aload_n 0, 1) := by decide +kernel
theorem dX6_fits_1 : decode cX6_fits 1 = .ok (.getfield 12, 3) := by decide +kernel
theorem dX6_fits_4 : decode cX6_fits 4 = .ok (.iload 4, 2) := by decide +kernel
theorem dX6_fits_6 : decode cX6_fits 6 = .ok (.invokevirtual 66, 3) := by decide +kernel
theorem dX6_fits_9 : decode cX6_fits 9 = .ok (.iconst 0, 1) := by decide +kernel
theorem dX6_fits_10 : decode cX6_fits 10 = .ok (.istore 5, 2) := by decide +kernel
theorem dX6_fits_12 : decode cX6_fits 12 = .ok (.iload 5, 2) := by decide +kernel
theorem dX6_fits_14 : decode cX6_fits 14 = .ok (.aload_n 2, 1) := by decide +kernel
theorem dX6_fits_15 : decode cX6_fits 15 = .ok (.invokevirtual 70, 3) := by decide +kernel
theorem dX6_fits_18 : decode cX6_fits 18 = .ok (.if_icmp .ge 57, 3) := by decide +kernel
theorem dX6_fits_21 : decode cX6_fits 21 = .ok (.aload_n 0, 1) := by decide +kernel
theorem dX6_fits_22 : decode cX6_fits 22 = .ok (.getfield 12, 3) := by decide +kernel
theorem dX6_fits_25 : decode cX6_fits 25 = .ok (.aload_n 1, 1) := by decide +kernel
theorem dX6_fits_26 : decode cX6_fits 26 = .ok (.aload_n 2, 1) := by decide +kernel
theorem dX6_fits_27 : decode cX6_fits 27 = .ok (.iload 5, 2) := by decide +kernel
theorem dX6_fits_29 : decode cX6_fits 29 = .ok (.invokevirtual 75, 3) := by decide +kernel
theorem dX6_fits_32 : decode cX6_fits 32 = .ok (.invokevirtual 78, 3) := by decide +kernel
theorem dX6_fits_35 : decode cX6_fits 35 = .ok (.aload_n 0, 1) := by decide +kernel
theorem dX6_fits_36 : decode cX6_fits 36 = .ok (.getfield 12, 3) := by decide +kernel
theorem dX6_fits_39 : decode cX6_fits 39 = .ok (.invokevirtual 82, 3) := by decide +kernel
theorem dX6_fits_42 : decode cX6_fits 42 = .ok (.aload_n 3, 1) := by decide +kernel
theorem dX6_fits_43 : decode cX6_fits 43 = .ok (.iload 5, 2) := by decide +kernel
theorem dX6_fits_45 : decode cX6_fits 45 = .ok (.invokevirtual 85, 3) := by decide +kernel
theorem dX6_fits_48 : decode cX6_fits 48 = .ok (.if_icmp .ne 19, 3) := by decide +kernel
theorem dX6_fits_51 : decode cX6_fits 51 = .ok (.aload_n 0, 1) := by decide +kernel
theorem dX6_fits_52 : decode cX6_fits 52 = .ok (.getfield 12, 3) := by decide +kernel
theorem dX6_fits_55 : decode cX6_fits 55 = .ok (.invokevirtual 90, 3) := by decide +kernel
theorem dX6_fits_58 : decode cX6_fits 58 = .ok (.aload_n 3, 1) := by decide +kernel
theorem dX6_fits_59 : decode cX6_fits 59 = .ok (.iload 5, 2) := by decide +kernel
theorem dX6_fits_61 : decode cX6_fits 61 = .ok (.invokevirtual 93, 3) := by decide +kernel
theorem dX6_fits_64 : decode cX6_fits 64 = .ok (.if_icmp .eq 5, 3) := by decide +kernel
theorem dX6_fits_67 : decode cX6_fits 67 = .ok (.iconst 0, 1) := by decide +kernel
theorem dX6_fits_68 : decode cX6_fits 68 = .ok (.ireturn, 1) := by decide +kernel
theorem dX6_fits_69 : decode cX6_fits 69 = .ok (.iinc 5 1, 3) := by decide +kernel
theorem dX6_fits_72 : decode cX6_fits 72 = .ok (.goto (-60), 3) := by decide +kernel
theorem dX6_fits_75 : decode cX6_fits 75 = .ok (.iconst 1, 1) := by decide +kernel
theorem dX6_fits_76 : decode cX6_fits 76 = .ok (.ireturn, 1) := by decide +kernel
set_option maxRecDepth 20000 in
theorem ggX6_bitOf_X7_cellOf : GoodIn wsX6_bitOf wsX7_cellOf := goodIn_r _ [3] (by decide +kernel) (by decide +kernel)
set_option maxRecDepth 20000 in
theorem gX6_bitOf_X7_cellOf_n96 : GoodIn wsX6_bitOf (wsX7_cellOf) := ggX6_bitOf_X7_cellOf
theorem dX6_bitOf_0 : decode cX6_bitOf 0 = .ok (.iload_n 0, 1) := by decide +kernel
theorem dX6_bitOf_1 : decode cX6_bitOf 1 = .ok (.iconst 5, 1) := by decide +kernel
theorem dX6_bitOf_2 : decode cX6_bitOf 2 = .ok (.irem, 1) := by decide +kernel
theorem dX6_bitOf_3 : decode cX6_bitOf 3 = .ok (.iload_n 0, 1) := by decide +kernel
theorem dX6_bitOf_4 : decode cX6_bitOf 4 = .ok (.iconst 5, 1) := by decide +kernel
theorem dX6_bitOf_5 : decode cX6_bitOf 5 = .ok (.idiv, 1) := by decide +kernel
theorem dX6_bitOf_6 : decode cX6_bitOf 6 = .ok (.invokestatic 96, 3) := by decide +kernel
theorem dX6_bitOf_9 : decode cX6_bitOf 9 = .ok (.ireturn, 1) := by decide +kernel
theorem dX6_numberOf_0 : decode cX6_numberOf 0 = .ok (.bipush 10, 2) := by decide +kernel
theorem dX6_numberOf_2 : decode cX6_numberOf 2 = .ok (.iload_n 0, 1) := by decide +kernel
theorem dX6_numberOf_3 : decode cX6_numberOf 3 = .ok (.iconst 5, 1) := by decide +kernel
theorem dX6_numberOf_4 : decode cX6_numberOf 4 = .ok (.idiv, 1) := by decide +kernel
theorem dX6_numberOf_5 : decode cX6_numberOf 5 = .ok (.imul, 1) := by decide +kernel
theorem dX6_numberOf_6 : decode cX6_numberOf 6 = .ok (.iload_n 0, 1) := by decide +kernel
theorem dX6_numberOf_7 : decode cX6_numberOf 7 = .ok (.iconst 5, 1) := by decide +kernel
theorem dX6_numberOf_8 : decode cX6_numberOf 8 = .ok (.irem, 1) := by decide +kernel
theorem dX6_numberOf_9 : decode cX6_numberOf 9 = .ok (.iadd, 1) := by decide +kernel
theorem dX6_numberOf_10 : decode cX6_numberOf 10 = .ok (.ireturn, 1) := by decide +kernel
set_option maxRecDepth 20000 in
theorem ggX7_init_X2_init : GoodIn wsX7_init wsX2_init := goodIn_r _ [27, 28, 2, 3] (by decide +kernel) (by decide +kernel)
set_option maxRecDepth 20000 in
theorem gX7_init_X2_init_n11 : GoodIn wsX7_init (wsX2_init) := ggX7_init_X2_init
set_option maxRecDepth 20000 in
theorem ggX7_init_X1_init : GoodIn wsX7_init wsX1_init := goodIn_r _ [30, 31, 2, 3, 32, 33, 34, 35, 36, 37, 38, 39, 40, 41, 117, 104, 105] (by decide +kernel) (by decide +kernel)
set_option maxRecDepth 20000 in
theorem gX7_init_X1_init_n18 : GoodIn wsX7_init (wsX1_init) := ggX7_init_X1_init
set_option maxRecDepth 20000 in
theorem ggX7_init_X3_init : GoodIn wsX7_init wsX3_init := goodIn_r _ [43, 44, 2, 3, 45, 33, 34, 46, 47, 37, 38, 39, 40, 41, 117, 106] (by decide +kernel) (by decide +kernel)
set_option maxRecDepth 20000 in
theorem gX7_init_X3_init_n25 : GoodIn wsX7_init (wsX3_init) := ggX7_init_X3_init
set_option maxRecDepth 20000 in
theorem ggX7_init_X5_init : GoodIn wsX7_init wsX5_init := goodIn_r _ [49, 50, 2, 3, 51, 52, 53, 54, 55, 33, 34, 56, 57, 58, 59, 60, 61, 62, 63, 64, 37, 38, 39, 40, 41, 65, 118, 119, 120, 121, 122, 107, 108, 109, 110, 117] (by decide +kernel) (by decide +kernel)
set_option maxRecDepth 20000 in
theorem gX7_init_X5_init_n32 : GoodIn wsX7_init (wsX5_init) := ggX7_init_X5_init
set_option maxRecDepth 20000 in
theorem ggX7_init_X6_init : GoodIn wsX7_init wsX6_init := goodIn_r _ [67, 68, 2, 3, 69, 52, 53, 70, 59, 60, 61, 62, 33, 34, 63, 64, 37, 38, 39, 40, 41, 118, 119, 120, 121, 122, 111, 112, 113, 114, 115, 116, 117] (by decide +kernel) (by decide +kernel)
set_option maxRecDepth 20000 in
theorem gX7_init_X6_init_n42 : GoodIn wsX7_init (wsX6_init) := ggX7_init_X6_init
set_option maxRecDepth 20000 in
theorem ggX7_init_X2_reset : GoodIn wsX7_init wsX2_reset := goodIn_r _ [74, 75, 76, 77, 78, 79, 80, 81, 6, 82, 83, 84, 85, 86, 87, 88, 89, 90, 91, 92, 93, 94, 95] (by decide +kernel) (by decide +kernel)
set_option maxRecDepth 20000 in
theorem gX7_init_X2_reset : GoodIn wsX7_init (wsV RX7 47 RX2 yX2_reset wsX2_reset) := goodIn_app (goodIn_of _ (by decide +kernel)) ggX7_init_X2_reset
