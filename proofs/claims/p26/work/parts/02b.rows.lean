theorem dX3_valuesOf_17 : decode cX3_valuesOf 17 = .ok (.bipush 11, 2) := by decide +kernel
theorem dX3_valuesOf_19 : decode cX3_valuesOf 19 = .ok (.iload_n 0, 1) := by decide +kernel
theorem dX3_valuesOf_20 : decode cX3_valuesOf 20 = .ok (.invokestatic 71, 3) := by decide +kernel
theorem dX3_valuesOf_23 : decode cX3_valuesOf 23 = .ok (.iadd, 1) := by decide +kernel
theorem dX3_valuesOf_24 : decode cX3_valuesOf 24 = .ok (.ishl, 1) := by decide +kernel
theorem dX3_valuesOf_25 : decode cX3_valuesOf 25 = .ok (.ior, 1) := by decide +kernel
theorem dX3_valuesOf_26 : decode cX3_valuesOf 26 = .ok (.iconst 1, 1) := by decide +kernel
theorem dX3_valuesOf_27 : decode cX3_valuesOf 27 = .ok (.bipush 14, 2) := by decide +kernel
theorem dX3_valuesOf_29 : decode cX3_valuesOf 29 = .ok (.iload_n 0, 1) := by decide +kernel
theorem dX3_valuesOf_30 : decode cX3_valuesOf 30 = .ok (.invokestatic 74, 3) := by decide +kernel
theorem dX3_valuesOf_33 : decode cX3_valuesOf 33 = .ok (.iadd, 1) := by decide +kernel
theorem dX3_valuesOf_34 : decode cX3_valuesOf 34 = .ok (.ishl, 1) := by decide +kernel
theorem dX3_valuesOf_35 : decode cX3_valuesOf 35 = .ok (.ior, 1) := by decide +kernel
theorem dX3_valuesOf_36 : decode cX3_valuesOf 36 = .ok (.ireturn, 1) := by decide +kernel
theorem dX3_partnersOf_0 : decode cX3_partnersOf 0 = .ok (.iload_n 1, 1) := by decide +kernel
theorem dX3_partnersOf_1 : decode cX3_partnersOf 1 = .ok (.iload_n 0, 1) := by decide +kernel
theorem dX3_partnersOf_2 : decode cX3_partnersOf 2 = .ok (.ishr, 1) := by decide +kernel
theorem dX3_partnersOf_3 : decode cX3_partnersOf 3 = .ok (.iconst 1, 1) := by decide +kernel
theorem dX3_partnersOf_4 : decode cX3_partnersOf 4 = .ok (.iand, 1) := by decide +kernel
theorem dX3_partnersOf_5 : decode cX3_partnersOf 5 = .ok (.ifCond .eq 12, 3) := by decide +kernel
theorem dX3_partnersOf_8 : decode cX3_partnersOf 8 = .ok (.iload_n 1, 1) := by decide +kernel
theorem dX3_partnersOf_9 : decode cX3_partnersOf 9 = .ok (.bipush (-2), 2) := by decide +kernel
theorem dX3_partnersOf_11 : decode cX3_partnersOf 11 = .ok (.iload_n 0, 1) := by decide +kernel
theorem dX3_partnersOf_12 : decode cX3_partnersOf 12 = .ok (.ishl, 1) := by decide +kernel
theorem dX3_partnersOf_13 : decode cX3_partnersOf 13 = .ok (.iand, 1) := by decide +kernel
theorem dX3_partnersOf_14 : decode cX3_partnersOf 14 = .ok (.goto 4, 3) := by decide +kernel
theorem dX3_partnersOf_17 : decode cX3_partnersOf 17 = .ok (.iconst 0, 1) := by decide +kernel
theorem dX3_partnersOf_18 : decode cX3_partnersOf 18 = .ok (.ireturn, 1) := by decide +kernel
theorem dX4_init_0 : decode cX4_init 0 = .ok (.aload_n 0, 1) := by decide +kernel
theorem dX4_init_1 : decode cX4_init 1 = .ok (.invokespecial 1, 3) := by decide +kernel
theorem dX4_init_4 : decode cX4_init 4 = .ok (.aload_n 0, 1) := by decide +kernel
theorem dX4_init_5 : decode cX4_init 5 = .ok (.iload_n 1, 1) := by decide +kernel
theorem dX4_init_6 : decode cX4_init 6 = .ok (.ifCond .ge 7, 3) := by decide +kernel
theorem dX4_init_9 : decode cX4_init 9 = .ok (.iconst 0, 1) := by decide +kernel
theorem dX4_init_10 : decode cX4_init 10 = .ok (.goto 4, 3) := by decide +kernel
theorem dX4_init_13 : decode cX4_init 13 = .ok (.iload_n 1, 1) := by decide +kernel
theorem dX4_init_14 : decode cX4_init 14 = .ok (.newarray .int, 2) := by decide +kernel
theorem dX4_init_16 : decode cX4_init 16 = .ok (.putfield 7, 3) := by decide +kernel
theorem dX4_init_19 : decode cX4_init 19 = .ok (.return_, 1) := by decide +kernel
theorem dX4_read_0 : decode cX4_read 0 = .ok (.iload_n 1, 1) := by decide +kernel
theorem dX4_read_1 : decode cX4_read 1 = .ok (.ifCond .lt 21, 3) := by decide +kernel
theorem dX4_read_4 : decode cX4_read 4 = .ok (.iload_n 1, 1) := by decide +kernel
theorem dX4_read_5 : decode cX4_read 5 = .ok (.aload_n 0, 1) := by decide +kernel
theorem dX4_read_6 : decode cX4_read 6 = .ok (.getfield 7, 3) := by decide +kernel
theorem dX4_read_9 : decode cX4_read 9 = .ok (.arraylength, 1) := by decide +kernel
theorem dX4_read_10 : decode cX4_read 10 = .ok (.if_icmp .ge 12, 3) := by decide +kernel
theorem dX4_read_13 : decode cX4_read 13 = .ok (.aload_n 0, 1) := by decide +kernel
theorem dX4_read_14 : decode cX4_read 14 = .ok (.getfield 7, 3) := by decide +kernel
theorem dX4_read_17 : decode cX4_read 17 = .ok (.iload_n 1, 1) := by decide +kernel
theorem dX4_read_18 : decode cX4_read 18 = .ok (.iaload, 1) := by decide +kernel
theorem dX4_read_19 : decode cX4_read 19 = .ok (.goto 4, 3) := by decide +kernel
theorem dX4_read_22 : decode cX4_read 22 = .ok (.iconst 0, 1) := by decide +kernel
theorem dX4_read_23 : decode cX4_read 23 = .ok (.ireturn, 1) := by decide +kernel
theorem dX4_write_0 : decode cX4_write 0 = .ok (.iload_n 1, 1) := by decide +kernel
theorem dX4_write_1 : decode cX4_write 1 = .ok (.ifCond .lt 19, 3) := by decide +kernel
theorem dX4_write_4 : decode cX4_write 4 = .ok (.iload_n 1, 1) := by decide +kernel
theorem dX4_write_5 : decode cX4_write 5 = .ok (.aload_n 0, 1) := by decide +kernel
theorem dX4_write_6 : decode cX4_write 6 = .ok (.getfield 7, 3) := by decide +kernel
theorem dX4_write_9 : decode cX4_write 9 = .ok (.arraylength, 1) := by decide +kernel
theorem dX4_write_10 : decode cX4_write 10 = .ok (.if_icmp .ge 10, 3) := by decide +kernel
theorem dX4_write_13 : decode cX4_write 13 = .ok (.aload_n 0, 1) := by decide +kernel
theorem dX4_write_14 : decode cX4_write 14 = .ok (.getfield 7, 3) := by decide +kernel
theorem dX4_write_17 : decode cX4_write 17 = .ok (.iload_n 1, 1) := by decide +kernel
theorem dX4_write_18 : decode cX4_write 18 = .ok (.iload_n 2, 1) := by decide +kernel
theorem dX4_write_19 : decode cX4_write 19 = .ok (.iastore, 1) := by decide +kernel
theorem dX4_write_20 : decode cX4_write 20 = .ok (.return_, 1) := by decide +kernel
set_option maxRecDepth 20000 in
theorem ggX4_fill_J7_fill_53178 : GoodIn wsX4_fill wsJ7_fill_53178 := goodIn_r _ [5] (by decide +kernel) (by decide +kernel)
set_option maxRecDepth 20000 in
theorem gX4_fill_J7_fill_53178 : GoodIn wsX4_fill (va_wsS RX4 13 yJ7_fill_53178 wsJ7_fill_53178) := goodIn_app (goodIn_of _ (by decide +kernel)) ggX4_fill_J7_fill_53178
theorem dX4_fill_0 : decode cX4_fill 0 = .ok (.aload_n 0, 1) := by decide +kernel
theorem dX4_fill_1 : decode cX4_fill 1 = .ok (.getfield 7, 3) := by decide +kernel
theorem dX4_fill_4 : decode cX4_fill 4 = .ok (.iload_n 1, 1) := by decide +kernel
theorem dX4_fill_5 : decode cX4_fill 5 = .ok (.invokestatic 13, 3) := by decide +kernel
theorem dX4_fill_8 : decode cX4_fill 8 = .ok (.return_, 1) := by decide +kernel
set_option maxRecDepth 20000 in
theorem ggX5_init_X0_init : GoodIn wsX5_init wsX0_init := goodIn_r _ [15, 16, 2, 3, 17, 9, 10, 18, 19, 20, 21, 22, 23, 24, 35, 26, 27, 28, 29, 30] (by decide +kernel) (by decide +kernel)
set_option maxRecDepth 20000 in
theorem gX5_init_X0_init_n11 : GoodIn wsX5_init (wsX0_init) := ggX5_init_X0_init
set_option maxRecDepth 20000 in
theorem ggX5_init_X4_init : GoodIn wsX5_init wsX4_init := goodIn_r _ [21, 22, 2, 3, 23, 24, 35] (by decide +kernel) (by decide +kernel)
set_option maxRecDepth 20000 in
theorem gX5_init_X4_init : GoodIn wsX5_init (wsX4_init) := ggX5_init_X4_init
theorem dX5_init_0 : decode cX5_init 0 = .ok (.aload_n 0, 1) := by decide +kernel
theorem dX5_init_1 : decode cX5_init 1 = .ok (.invokespecial 3, 3) := by decide +kernel
theorem dX5_init_4 : decode cX5_init 4 = .ok (.aload_n 0, 1) := by decide +kernel
theorem dX5_init_5 : decode cX5_init 5 = .ok (.new 9, 3) := by decide +kernel
theorem dX5_init_8 : decode cX5_init 8 = .ok (.dup, 1) := by decide +kernel
theorem dX5_init_9 : decode cX5_init 9 = .ok (.invokespecial 11, 3) := by decide +kernel
theorem dX5_init_12 : decode cX5_init 12 = .ok (.putfield 12, 3) := by decide +kernel
theorem dX5_init_15 : decode cX5_init 15 = .ok (.aload_n 0, 1) := by decide +kernel
theorem dX5_init_16 : decode cX5_init 16 = .ok (.new 18, 3) := by decide +kernel
theorem dX5_init_19 : decode cX5_init 19 = .ok (.dup, 1) := by decide +kernel
theorem dX5_init_20 : decode cX5_init 20 = .ok (.bipush 60, 2) := by decide +kernel
theorem dX5_init_22 : decode cX5_init 22 = .ok (.invokespecial 20, 3) := by decide +kernel
theorem dX5_init_25 : decode cX5_init 25 = .ok (.putfield 23, 3) := by decide +kernel
theorem dX5_init_28 : decode cX5_init 28 = .ok (.aload_n 0, 1) := by decide +kernel
theorem dX5_init_29 : decode cX5_init 29 = .ok (.new 18, 3) := by decide +kernel
theorem dX5_init_32 : decode cX5_init 32 = .ok (.dup, 1) := by decide +kernel
theorem dX5_init_33 : decode cX5_init 33 = .ok (.bipush 60, 2) := by decide +kernel
theorem dX5_init_35 : decode cX5_init 35 = .ok (.invokespecial 20, 3) := by decide +kernel
theorem dX5_init_38 : decode cX5_init 38 = .ok (.putfield 27, 3) := by decide +kernel
theorem dX5_init_41 : decode cX5_init 41 = .ok (.aload_n 0, 1) := by decide +kernel
theorem dX5_init_42 : decode cX5_init 42 = .ok (.new 18, 3) := by decide +kernel
theorem dX5_init_45 : decode cX5_init 45 = .ok (.dup, 1) := by decide +kernel
theorem dX5_init_46 : decode cX5_init 46 = .ok (.bipush 60, 2) := by decide +kernel
theorem dX5_init_48 : decode cX5_init 48 = .ok (.invokespecial 20, 3) := by decide +kernel
theorem dX5_init_51 : decode cX5_init 51 = .ok (.putfield 30, 3) := by decide +kernel
theorem dX5_init_54 : decode cX5_init 54 = .ok (.return_, 1) := by decide +kernel
set_option maxRecDepth 20000 in
theorem ggX5_runAll_X0_restart : GoodIn wsX5_runAll wsX0_restart := goodIn_r _ [9, 10, 11, 12, 13, 14, 15, 16, 17, 18, 19, 20, 21, 118, 119, 120, 121, 122, 123] (by decide +kernel) (by decide +kernel)
set_option maxRecDepth 20000 in
theorem gX5_runAll_X0_restart : GoodIn wsX5_runAll (wsV RX5 33 RX0 yX0_restart wsX0_restart) := goodIn_app (goodIn_of _ (by decide +kernel)) ggX5_runAll_X0_restart
set_option maxRecDepth 20000 in
theorem ggX5_runAll_X1_size : GoodIn wsX5_runAll wsX1_size := goodIn_r _ [26, 27, 124, 125] (by decide +kernel) (by decide +kernel)
set_option maxRecDepth 20000 in
theorem gX5_runAll_X1_size : GoodIn wsX5_runAll (wsV RX5 36 RX1 yX1_size wsX1_size) := goodIn_app (goodIn_of _ (by decide +kernel)) ggX5_runAll_X1_size
set_option maxRecDepth 20000 in
theorem ggX5_runAll_X1_frame : GoodIn wsX5_runAll wsX1_frame := goodIn_r _ [31, 32, 33, 34, 35, 15, 36, 17, 124, 125, 123] (by decide +kernel) (by decide +kernel)
set_option maxRecDepth 20000 in
theorem gX5_runAll_X1_frame : GoodIn wsX5_runAll (wsV RX5 42 RX1 yX1_frame wsX1_frame) := goodIn_app (goodIn_of _ (by decide +kernel)) ggX5_runAll_X1_frame
set_option maxRecDepth 20000 in
theorem ggX5_runAll_X0_send : GoodIn wsX5_runAll wsX0_send := goodIn_r _ [40, 41, 42, 43, 11, 44, 45, 46, 8, 47, 48, 49, 50, 51, 52, 53, 54, 10, 55, 56, 57, 58, 59, 60, 61, 62, 63, 64, 65, 66, 67, 68, 69, 70, 71, 72, 73, 74, 75, 76, 77, 78, 79, 80, 81, 82, 83, 84, 85, 86, 15, 87, 17, 88, 89, 90, 91, 92, 93, 94, 34, 35, 36, 95, 96, 97, 98, 99, 100, 118, 119, 120, 121, 122, 126, 127, 128, 129, 123] (by decide +kernel) (by decide +kernel)
set_option maxRecDepth 20000 in
theorem gX5_runAll_X0_send : GoodIn wsX5_runAll (wsV RX5 46 RX0 yX0_send wsX0_send) := goodIn_app (goodIn_of _ (by decide +kernel)) ggX5_runAll_X0_send
set_option maxRecDepth 20000 in
theorem ggX5_runAll_X0_exits : GoodIn wsX5_runAll wsX0_exits := goodIn_r _ [104, 41, 118, 119, 120, 121, 122] (by decide +kernel) (by decide +kernel)
set_option maxRecDepth 20000 in
theorem gX5_runAll_X0_exits : GoodIn wsX5_runAll (wsV RX5 50 RX0 yX0_exits wsX0_exits) := goodIn_app (goodIn_of _ (by decide +kernel)) ggX5_runAll_X0_exits
set_option maxRecDepth 20000 in
theorem ggX5_runAll_X4_write : GoodIn wsX5_runAll wsX4_write := goodIn_r _ [87, 17, 123] (by decide +kernel) (by decide +kernel)
set_option maxRecDepth 20000 in
theorem gX5_runAll_X4_write : GoodIn wsX5_runAll (wsV RX5 52 RX4 yX4_write wsX4_write) := goodIn_app (goodIn_of _ (by decide +kernel)) ggX5_runAll_X4_write
set_option maxRecDepth 20000 in
theorem ggX5_runAll_X0_taggedExits : GoodIn wsX5_runAll wsX0_taggedExits := goodIn_r _ [109, 42, 118, 119, 120, 121, 122] (by decide +kernel) (by decide +kernel)
set_option maxRecDepth 20000 in
theorem gX5_runAll_X0_taggedExits : GoodIn wsX5_runAll (wsV RX5 56 RX0 yX0_taggedExits wsX0_taggedExits) := goodIn_app (goodIn_of _ (by decide +kernel)) ggX5_runAll_X0_taggedExits
set_option maxRecDepth 20000 in
theorem ggX5_runAll_X0_why : GoodIn wsX5_runAll wsX0_why := goodIn_r _ [113, 43, 118, 119, 120, 121, 122] (by decide +kernel) (by decide +kernel)
set_option maxRecDepth 20000 in
theorem gX5_runAll_X0_why : GoodIn wsX5_runAll (wsV RX5 58 RX0 yX0_why wsX0_why) := goodIn_app (goodIn_of _ (by decide +kernel)) ggX5_runAll_X0_why
theorem dX5_runAll_0 : decode cX5_runAll 0 = .ok (.aload_n 0, 1) := by decide +kernel
theorem dX5_runAll_1 : decode cX5_runAll 1 = .ok (.getfield 12, 3) := by decide +kernel
theorem dX5_runAll_4 : decode cX5_runAll 4 = .ok (.iload_n 3, 1) := by decide +kernel
theorem dX5_runAll_5 : decode cX5_runAll 5 = .ok (.invokevirtual 33, 3) := by decide +kernel
theorem dX5_runAll_8 : decode cX5_runAll 8 = .ok (.iconst 0, 1) := by decide +kernel
theorem dX5_runAll_9 : decode cX5_runAll 9 = .ok (.istore 4, 2) := by decide +kernel
theorem dX5_runAll_11 : decode cX5_runAll 11 = .ok (.iload 4, 2) := by decide +kernel
theorem dX5_runAll_13 : decode cX5_runAll 13 = .ok (.aload_n 2, 1) := by decide +kernel
theorem dX5_runAll_14 : decode cX5_runAll 14 = .ok (.invokevirtual 36, 3) := by decide +kernel
theorem dX5_runAll_17 : decode cX5_runAll 17 = .ok (.if_icmp .ge 71, 3) := by decide +kernel
theorem dX5_runAll_20 : decode cX5_runAll 20 = .ok (.aload_n 0, 1) := by decide +kernel
theorem dX5_runAll_21 : decode cX5_runAll 21 = .ok (.getfield 12, 3) := by decide +kernel
theorem dX5_runAll_24 : decode cX5_runAll 24 = .ok (.aload_n 1, 1) := by decide +kernel
theorem dX5_runAll_25 : decode cX5_runAll 25 = .ok (.aload_n 2, 1) := by decide +kernel
theorem dX5_runAll_26 : decode cX5_runAll 26 = .ok (.iload 4, 2) := by decide +kernel
theorem dX5_runAll_28 : decode cX5_runAll 28 = .ok (.invokevirtual 42, 3) := by decide +kernel
theorem dX5_runAll_31 : decode cX5_runAll 31 = .ok (.invokevirtual 46, 3) := by decide +kernel
theorem dX5_runAll_34 : decode cX5_runAll 34 = .ok (.aload_n 0, 1) := by decide +kernel
theorem dX5_runAll_35 : decode cX5_runAll 35 = .ok (.getfield 23, 3) := by decide +kernel
theorem dX5_runAll_38 : decode cX5_runAll 38 = .ok (.iload 4, 2) := by decide +kernel
theorem dX5_runAll_40 : decode cX5_runAll 40 = .ok (.aload_n 0, 1) := by decide +kernel
theorem dX5_runAll_41 : decode cX5_runAll 41 = .ok (.getfield 12, 3) := by decide +kernel
theorem dX5_runAll_44 : decode cX5_runAll 44 = .ok (.invokevirtual 50, 3) := by decide +kernel
theorem dX5_runAll_47 : decode cX5_runAll 47 = .ok (.invokevirtual 52, 3) := by decide +kernel
theorem dX5_runAll_50 : decode cX5_runAll 50 = .ok (.aload_n 0, 1) := by decide +kernel
theorem dX5_runAll_51 : decode cX5_runAll 51 = .ok (.getfield 27, 3) := by decide +kernel
theorem dX5_runAll_54 : decode cX5_runAll 54 = .ok (.iload 4, 2) := by decide +kernel
theorem dX5_runAll_56 : decode cX5_runAll 56 = .ok (.aload_n 0, 1) := by decide +kernel
theorem dX5_runAll_57 : decode cX5_runAll 57 = .ok (.getfield 12, 3) := by decide +kernel
theorem dX5_runAll_60 : decode cX5_runAll 60 = .ok (.invokevirtual 56, 3) := by decide +kernel
theorem dX5_runAll_63 : decode cX5_runAll 63 = .ok (.invokevirtual 52, 3) := by decide +kernel
theorem dX5_runAll_66 : decode cX5_runAll 66 = .ok (.aload_n 0, 1) := by decide +kernel
theorem dX5_runAll_67 : decode cX5_runAll 67 = .ok (.getfield 30, 3) := by decide +kernel
theorem dX5_runAll_70 : decode cX5_runAll 70 = .ok (.iload 4, 2) := by decide +kernel
theorem dX5_runAll_72 : decode cX5_runAll 72 = .ok (.aload_n 0, 1) := by decide +kernel
theorem dX5_runAll_73 : decode cX5_runAll 73 = .ok (.getfield 12, 3) := by decide +kernel
theorem dX5_runAll_76 : decode cX5_runAll 76 = .ok (.invokevirtual 58, 3) := by decide +kernel
theorem dX5_runAll_79 : decode cX5_runAll 79 = .ok (.invokevirtual 52, 3) := by decide +kernel
theorem dX5_runAll_82 : decode cX5_runAll 82 = .ok (.iinc 4 1, 3) := by decide +kernel
theorem dX5_runAll_85 : decode cX5_runAll 85 = .ok (.goto (-74), 3) := by decide +kernel
theorem dX5_runAll_88 : decode cX5_runAll 88 = .ok (.return_, 1) := by decide +kernel
set_option maxRecDepth 20000 in
theorem ggX5_exitsOf_X4_read : GoodIn wsX5_exitsOf wsX4_read := goodIn_r _ [6, 7, 12] (by decide +kernel) (by decide +kernel)
set_option maxRecDepth 20000 in
theorem gX5_exitsOf_X4_read : GoodIn wsX5_exitsOf (wsV RX5 61 RX4 yX4_read wsX4_read) := goodIn_app (goodIn_of _ (by decide +kernel)) ggX5_exitsOf_X4_read
theorem dX5_exitsOf_0 : decode cX5_exitsOf 0 = .ok (.aload_n 0, 1) := by decide +kernel
theorem dX5_exitsOf_1 : decode cX5_exitsOf 1 = .ok (.getfield 23, 3) := by decide +kernel
theorem dX5_exitsOf_4 : decode cX5_exitsOf 4 = .ok (.iload_n 1, 1) := by decide +kernel
theorem dX5_exitsOf_5 : decode cX5_exitsOf 5 = .ok (.invokevirtual 61, 3) := by decide +kernel
theorem dX5_exitsOf_8 : decode cX5_exitsOf 8 = .ok (.ireturn, 1) := by decide +kernel
set_option maxRecDepth 20000 in
theorem ggX5_taggedOf_X4_read : GoodIn wsX5_taggedOf wsX4_read := goodIn_r _ [6, 7, 12] (by decide +kernel) (by decide +kernel)
set_option maxRecDepth 20000 in
theorem gX5_taggedOf_X4_read : GoodIn wsX5_taggedOf (wsV RX5 61 RX4 yX4_read wsX4_read) := goodIn_app (goodIn_of _ (by decide +kernel)) ggX5_taggedOf_X4_read
theorem dX5_taggedOf_0 : decode cX5_taggedOf 0 = .ok (.aload_n 0, 1) := by decide +kernel
theorem dX5_taggedOf_1 : decode cX5_taggedOf 1 = .ok (.getfield 27, 3) := by decide +kernel
theorem dX5_taggedOf_4 : decode cX5_taggedOf 4 = .ok (.iload_n 1, 1) := by decide +kernel
theorem dX5_taggedOf_5 : decode cX5_taggedOf 5 = .ok (.invokevirtual 61, 3) := by decide +kernel
theorem dX5_taggedOf_8 : decode cX5_taggedOf 8 = .ok (.ireturn, 1) := by decide +kernel
set_option maxRecDepth 20000 in
theorem ggX5_reasonOf_X4_read : GoodIn wsX5_reasonOf wsX4_read := goodIn_r _ [6, 7, 12] (by decide +kernel) (by decide +kernel)
set_option maxRecDepth 20000 in
theorem gX5_reasonOf_X4_read : GoodIn wsX5_reasonOf (wsV RX5 61 RX4 yX4_read wsX4_read) := goodIn_app (goodIn_of _ (by decide +kernel)) ggX5_reasonOf_X4_read
theorem dX5_reasonOf_0 : decode cX5_reasonOf 0 = .ok (.aload_n 0, 1) := by decide +kernel
theorem dX5_reasonOf_1 : decode cX5_reasonOf 1 = .ok (.getfield 30, 3) := by decide +kernel
theorem dX5_reasonOf_4 : decode cX5_reasonOf 4 = .ok (.iload_n 1, 1) := by decide +kernel
theorem dX5_reasonOf_5 : decode cX5_reasonOf 5 = .ok (.invokevirtual 61, 3) := by decide +kernel
theorem dX5_reasonOf_8 : decode cX5_reasonOf 8 = .ok (.ireturn, 1) := by decide +kernel
set_option maxRecDepth 20000 in
theorem ggX5_placeOf_X0_placeOf : GoodIn wsX5_placeOf wsX0_placeOf := goodIn_r _ [6, 7, 8, 9, 5, 10, 11, 12, 13, 14, 15, 16, 21, 22, 23, 24, 25, 26] (by decide +kernel) (by decide +kernel)
set_option maxRecDepth 20000 in
theorem gX5_placeOf_X0_placeOf : GoodIn wsX5_placeOf (wsV RX5 64 RX0 yX0_placeOf wsX0_placeOf) := goodIn_app (goodIn_of _ (by decide +kernel)) ggX5_placeOf_X0_placeOf
theorem dX5_placeOf_0 : decode cX5_placeOf 0 = .ok (.aload_n 0, 1) := by decide +kernel
theorem dX5_placeOf_1 : decode cX5_placeOf 1 = .ok (.getfield 12, 3) := by decide +kernel
theorem dX5_placeOf_4 : decode cX5_placeOf 4 = .ok (.iload_n 1, 1) := by decide +kernel
theorem dX5_placeOf_5 : decode cX5_placeOf 5 = .ok (.iload_n 2, 1) := by decide +kernel
theorem dX5_placeOf_6 : decode cX5_placeOf 6 = .ok (.invokevirtual 64, 3) := by decide +kernel
theorem dX5_placeOf_9 : decode cX5_placeOf 9 = .ok (.ireturn, 1) := by decide +kernel
set_option maxRecDepth 20000 in
theorem ggX6_init_X0_init : GoodIn wsX6_init wsX0_init := goodIn_r _ [9, 10, 2, 3, 11, 12, 13, 14, 15, 16, 17, 18, 19, 20, 32, 21, 22, 23, 24, 25] (by decide +kernel) (by decide +kernel)
set_option maxRecDepth 20000 in
theorem gX6_init_X0_init_n11 : GoodIn wsX6_init (wsX0_init) := ggX6_init_X0_init
theorem dX6_init_0 : decode cX6_init 0 = .ok (.aload_n 0, 1) := by decide +kernel
theorem dX6_init_1 : decode cX6_init 1 = .ok (.invokespecial 3, 3) := by decide +kernel
theorem dX6_init_4 : decode cX6_init 4 = .ok (.aload_n 0, 1) := by decide +kernel
theorem dX6_init_5 : decode cX6_init 5 = .ok (.new 9, 3) := by decide +kernel
theorem dX6_init_8 : decode cX6_init 8 = .ok (.dup, 1) := by decide +kernel
theorem dX6_init_9 : decode cX6_init 9 = .ok (.invokespecial 11, 3) := by decide +kernel
theorem dX6_init_12 : decode cX6_init 12 = .ok (.putfield 12, 3) := by decide +kernel
theorem dX6_init_15 : decode cX6_init 15 = .ok (.return_, 1) := by decide +kernel
theorem dX6_forget_0 : decode cX6_forget 0 = .ok (.aload_n 0, 1) := by decide +kernel
theorem dX6_forget_1 : decode cX6_forget 1 = .ok (.iconst 0, 1) := by decide +kernel
theorem dX6_forget_2 : decode cX6_forget 2 = .ok (.putfield 18, 3) := by decide +kernel
theorem dX6_forget_5 : decode cX6_forget 5 = .ok (.return_, 1) := by decide +kernel
theorem dX6_fewest_0 : decode cX6_fewest 0 = .ok (.aload_n 0, 1) := by decide +kernel
theorem dX6_fewest_1 : decode cX6_fewest 1 = .ok (.getfield 22, 3) := by decide +kernel
theorem dX6_fewest_4 : decode cX6_fewest 4 = .ok (.ireturn, 1) := by decide +kernel
theorem dX6_count_0 : decode cX6_count 0 = .ok (.aload_n 0, 1) := by decide +kernel
theorem dX6_count_1 : decode cX6_count 1 = .ok (.getfield 26, 3) := by decide +kernel
theorem dX6_count_4 : decode cX6_count 4 = .ok (.ireturn, 1) := by decide +kernel
set_option maxRecDepth 20000 in
theorem ggX6_culprit_X6_numberOf : GoodIn wsX6_culprit wsX6_numberOf := goodIn_r _ [6] (by decide +kernel) (by decide +kernel)
set_option maxRecDepth 20000 in
theorem gX6_culprit_X6_numberOf : GoodIn wsX6_culprit (va_wsS RX6 35 yX6_numberOf wsX6_numberOf) := goodIn_app (goodIn_of _ (by decide +kernel)) ggX6_culprit_X6_numberOf
theorem dX6_culprit_0 : decode cX6_culprit 0 = .ok (.iload_n 1, 1) := by decide +kernel
theorem dX6_culprit_1 : decode cX6_culprit 1 = .ok (.ifCond .ne 10, 3) := by decide +kernel
theorem dX6_culprit_4 : decode cX6_culprit 4 = .ok (.aload_n 0, 1) := by decide +kernel
theorem dX6_culprit_5 : decode cX6_culprit 5 = .ok (.getfield 29, 3) := by decide +kernel
theorem dX6_culprit_8 : decode cX6_culprit 8 = .ok (.goto 7, 3) := by decide +kernel
theorem dX6_culprit_11 : decode cX6_culprit 11 = .ok (.aload_n 0, 1) := by decide +kernel
theorem dX6_culprit_12 : decode cX6_culprit 12 = .ok (.getfield 32, 3) := by decide +kernel
theorem dX6_culprit_15 : decode cX6_culprit 15 = .ok (.invokestatic 35, 3) := by decide +kernel
theorem dX6_culprit_18 : decode cX6_culprit 18 = .ok (.ireturn, 1) := by decide +kernel
set_option maxRecDepth 20000 in
theorem ggX6_findFewest_X6_tryNone : GoodIn wsX6_findFewest wsX6_tryNone := goodIn_r _ [8, 9, 10, 11, 7, 12, 13, 14, 15, 16, 17, 18, 19, 20, 21, 22, 23, 24, 25, 26, 27, 28, 29, 30, 31, 32, 33, 34, 35, 36, 37, 38, 39, 40, 41, 42, 43, 44, 45, 46, 47, 48, 49, 50, 51, 52, 53, 54, 55, 56, 57, 58, 59, 60, 61, 62, 63, 64, 65, 66, 67, 68, 69, 70, 71, 72, 73, 74, 75, 76, 77, 78, 79, 80, 81, 82, 83, 84, 85, 86, 87, 88, 89, 90, 91, 92, 93, 94, 95, 96, 97, 98, 99, 100, 101, 102, 103, 104, 105, 106, 107, 108, 109, 110, 111, 112, 113, 114, 115, 116, 117, 118, 119, 120, 121, 122, 123, 124, 125, 126, 127, 128, 129, 130, 131, 132, 133, 2, 3, 134, 135, 152, 153, 154, 155, 156, 157, 158, 159, 160, 161, 162, 163, 164, 165, 166, 167, 168, 169, 170, 171, 172, 173] (by decide +kernel) (by decide +kernel)
set_option maxRecDepth 20000 in
theorem gX6_findFewest_X6_tryNone : GoodIn wsX6_findFewest (wsV RX6 39 RX6 yX6_tryNone wsX6_tryNone) := goodIn_app (goodIn_of _ (by decide +kernel)) ggX6_findFewest_X6_tryNone
set_option maxRecDepth 20000 in
theorem ggX6_findFewest_X6_tryOnes : GoodIn wsX6_findFewest wsX6_tryOnes := goodIn_r _ [139, 140, 141, 142, 73, 143, 144, 145, 146, 7, 147, 86, 58, 87, 9, 10, 11, 12, 13, 14, 15, 16, 17, 18, 19, 20, 21, 22, 23, 24, 25, 26, 27, 28, 29, 30, 31, 32, 33, 34, 35, 36, 37, 38, 39, 40, 41, 42, 43, 44, 45, 46, 47, 48, 49, 50, 51, 52, 53, 54, 55, 56, 57, 59, 60, 61, 62, 63, 64, 65, 66, 67, 68, 69, 70, 71, 72, 74, 75, 76, 77, 78, 79, 80, 81, 82, 83, 84, 85, 88, 89, 90, 91, 92, 93, 94, 95, 96, 97, 98, 99, 100, 101, 102, 103, 104, 105, 106, 107, 108, 109, 110, 111, 112, 113, 114, 115, 116, 117, 118, 119, 120, 121, 122, 123, 124, 125, 126, 127, 128, 129, 130, 131, 132, 133, 2, 3, 134, 135, 166, 167, 168, 169, 152, 153, 154, 155, 156, 157, 158, 159, 160, 161, 162, 163, 164, 165, 170, 171, 172, 173] (by decide +kernel) (by decide +kernel)
set_option maxRecDepth 20000 in
theorem gX6_findFewest_X6_tryOnes : GoodIn wsX6_findFewest (wsV RX6 43 RX6 yX6_tryOnes wsX6_tryOnes) := goodIn_app (goodIn_of _ (by decide +kernel)) ggX6_findFewest_X6_tryOnes
set_option maxRecDepth 20000 in
theorem ggX6_findFewest_X6_tryTwos : GoodIn wsX6_findFewest wsX6_tryTwos := goodIn_r _ [151, 140, 141, 142, 73, 143, 144, 145, 146, 7, 147, 86, 58, 87, 9, 10, 11, 12, 13, 14, 15, 16, 17, 18, 19, 20, 21, 22, 23, 24, 25, 26, 27, 28, 29, 30, 31, 32, 33, 34, 35, 36, 37, 38, 39, 40, 41, 42, 43, 44, 45, 46, 47, 48, 49, 50, 51, 52, 53, 54, 55, 56, 57, 59, 60, 61, 62, 63, 64, 65, 66, 67, 68, 69, 70, 71, 72, 74, 75, 76, 77, 78, 79, 80, 81, 82, 83, 84, 85, 88, 89, 90, 91, 92, 93, 94, 95, 96, 97, 98, 99, 100, 101, 102, 103, 104, 105, 106, 107, 108, 109, 110, 111, 112, 113, 114, 115, 116, 117, 118, 119, 120, 121, 122, 123, 124, 125, 126, 127, 128, 129, 130, 131, 132, 133, 2, 3, 134, 135, 166, 167, 168, 169, 152, 153, 154, 155, 156, 157, 158, 159, 160, 161, 162, 163, 164, 165, 170, 171, 172, 173] (by decide +kernel) (by decide +kernel)
set_option maxRecDepth 20000 in
theorem gX6_findFewest_X6_tryTwos : GoodIn wsX6_findFewest (wsV RX6 46 RX6 yX6_tryTwos wsX6_tryTwos) := goodIn_app (goodIn_of _ (by decide +kernel)) ggX6_findFewest_X6_tryTwos
theorem dX6_findFewest_0 : decode cX6_findFewest 0 = .ok (.aload_n 0, 1) := by decide +kernel
theorem dX6_findFewest_1 : decode cX6_findFewest 1 = .ok (.getfield 18, 3) := by decide +kernel
theorem dX6_findFewest_4 : decode cX6_findFewest 4 = .ok (.ifCond .eq 4, 3) := by decide +kernel
theorem dX6_findFewest_7 : decode cX6_findFewest 7 = .ok (.return_, 1) := by decide +kernel
theorem dX6_findFewest_8 : decode cX6_findFewest 8 = .ok (.aload_n 0, 1) := by decide +kernel
theorem dX6_findFewest_9 : decode cX6_findFewest 9 = .ok (.iconst 1, 1) := by decide +kernel
theorem dX6_findFewest_10 : decode cX6_findFewest 10 = .ok (.putfield 18, 3) := by decide +kernel
theorem dX6_findFewest_13 : decode cX6_findFewest 13 = .ok (.aload_n 0, 1) := by decide +kernel
theorem dX6_findFewest_14 : decode cX6_findFewest 14 = .ok (.iconst 0, 1) := by decide +kernel
theorem dX6_findFewest_15 : decode cX6_findFewest 15 = .ok (.putfield 26, 3) := by decide +kernel
theorem dX6_findFewest_18 : decode cX6_findFewest 18 = .ok (.aload_n 0, 1) := by decide +kernel
theorem dX6_findFewest_19 : decode cX6_findFewest 19 = .ok (.aload_n 1, 1) := by decide +kernel
theorem dX6_findFewest_20 : decode cX6_findFewest 20 = .ok (.aload_n 2, 1) := by decide +kernel
theorem dX6_findFewest_21 : decode cX6_findFewest 21 = .ok (.aload_n 3, 1) := by decide +kernel
theorem dX6_findFewest_22 : decode cX6_findFewest 22 = .ok (.invokevirtual 39, 3) := by decide +kernel
theorem dX6_findFewest_25 : decode cX6_findFewest 25 = .ok (.aload_n 0, 1) := by decide +kernel
theorem dX6_findFewest_26 : decode cX6_findFewest 26 = .ok (.getfield 26, 3) := by decide +kernel
theorem dX6_findFewest_29 : decode cX6_findFewest 29 = .ok (.ifCond .ne 10, 3) := by decide +kernel
theorem dX6_findFewest_32 : decode cX6_findFewest 32 = .ok (.aload_n 0, 1) := by decide +kernel
theorem dX6_findFewest_33 : decode cX6_findFewest 33 = .ok (.aload_n 1, 1) := by decide +kernel
theorem dX6_findFewest_34 : decode cX6_findFewest 34 = .ok (.aload_n 2, 1) := by decide +kernel
theorem dX6_findFewest_35 : decode cX6_findFewest 35 = .ok (.aload_n 3, 1) := by decide +kernel
theorem dX6_findFewest_36 : decode cX6_findFewest 36 = .ok (.invokevirtual 43, 3) := by decide +kernel
theorem dX6_findFewest_39 : decode cX6_findFewest 39 = .ok (.aload_n 0, 1) := by decide +kernel
theorem dX6_findFewest_40 : decode cX6_findFewest 40 = .ok (.getfield 26, 3) := by decide +kernel
theorem dX6_findFewest_43 : decode cX6_findFewest 43 = .ok (.ifCond .ne 10, 3) := by decide +kernel
theorem dX6_findFewest_46 : decode cX6_findFewest 46 = .ok (.aload_n 0, 1) := by decide +kernel
theorem dX6_findFewest_47 : decode cX6_findFewest 47 = .ok (.aload_n 1, 1) := by decide +kernel
theorem dX6_findFewest_48 : decode cX6_findFewest 48 = .ok (.aload_n 2, 1) := by decide +kernel
theorem dX6_findFewest_49 : decode cX6_findFewest 49 = .ok (.aload_n 3, 1) := by decide +kernel
theorem dX6_findFewest_50 : decode cX6_findFewest 50 = .ok (.invokevirtual 46, 3) := by decide +kernel
theorem dX6_findFewest_53 : decode cX6_findFewest 53 = .ok (.aload_n 0, 1) := by decide +kernel
theorem dX6_findFewest_54 : decode cX6_findFewest 54 = .ok (.getfield 26, 3) := by decide +kernel
theorem dX6_findFewest_57 : decode cX6_findFewest 57 = .ok (.ifCond .ne 8, 3) := by decide +kernel
theorem dX6_findFewest_60 : decode cX6_findFewest 60 = .ok (.aload_n 0, 1) := by decide +kernel
theorem dX6_findFewest_61 : decode cX6_findFewest 61 = .ok (.iconst (-1), 1) := by decide +kernel
theorem dX6_findFewest_62 : decode cX6_findFewest 62 = .ok (.putfield 22, 3) := by decide +kernel
theorem dX6_findFewest_65 : decode cX6_findFewest 65 = .ok (.return_, 1) := by decide +kernel
set_option maxRecDepth 20000 in
theorem ggX6_tryNone_X6_fits : GoodIn wsX6_tryNone wsX6_fits := goodIn_r _ [5, 6, 7, 8, 9, 10, 11, 12, 13, 14, 15, 16, 17, 18, 19, 20, 21, 22, 23, 24, 25, 26, 27, 28, 29, 30, 31, 32, 33, 34, 35, 36, 37, 38, 39, 40, 41, 42, 43, 44, 45, 46, 47, 48, 49, 50, 51, 52, 53, 54, 55, 56, 57, 58, 59, 60, 61, 62, 63, 64, 65, 66, 67, 68, 69, 70, 71, 72, 73, 74, 75, 76, 77, 78, 79, 80, 81, 82, 83, 84, 85, 86, 87, 88, 89, 90, 91, 92, 93, 94, 95, 96, 97, 98, 99, 100, 101, 102, 103, 104, 105, 106, 107, 108, 109, 110, 111, 112, 113, 114, 115, 116, 117, 118, 119, 120, 121, 122, 131, 132, 133, 134, 135, 136, 137, 138, 139, 140, 141, 142, 143, 144, 145, 146, 147, 148, 149, 150, 151, 152] (by decide +kernel) (by decide +kernel)
set_option maxRecDepth 20000 in
theorem gX6_tryNone_X6_fits : GoodIn wsX6_tryNone (wsV RX6 49 RX6 yX6_fits wsX6_fits) := goodIn_app (goodIn_of _ (by decide +kernel)) ggX6_tryNone_X6_fits
set_option maxRecDepth 20000 in
theorem ggX6_tryNone_X6_note : GoodIn wsX6_tryNone wsX6_note := goodIn_r _ [126, 127, 128, 129, 130, 131, 132, 133, 134, 135, 136] (by decide +kernel) (by decide +kernel)
set_option maxRecDepth 20000 in
theorem gX6_tryNone_X6_note : GoodIn wsX6_tryNone (wsV RX6 53 RX6 yX6_note wsX6_note) := goodIn_app (goodIn_of _ (by decide +kernel)) ggX6_tryNone_X6_note
theorem dX6_tryNone_0 : decode cX6_tryNone 0 = .ok (.aload_n 0, 1) := by decide +kernel
theorem dX6_tryNone_1 : decode cX6_tryNone 1 = .ok (.aload_n 1, 1) := by decide +kernel
theorem dX6_tryNone_2 : decode cX6_tryNone 2 = .ok (.aload_n 2, 1) := by decide +kernel
theorem dX6_tryNone_3 : decode cX6_tryNone 3 = .ok (.aload_n 3, 1) := by decide +kernel
theorem dX6_tryNone_4 : decode cX6_tryNone 4 = .ok (.iconst 0, 1) := by decide +kernel
theorem dX6_tryNone_5 : decode cX6_tryNone 5 = .ok (.invokevirtual 49, 3) := by decide +kernel
theorem dX6_tryNone_8 : decode cX6_tryNone 8 = .ok (.ifCond .eq 10, 3) := by decide +kernel
theorem dX6_tryNone_11 : decode cX6_tryNone 11 = .ok (.aload_n 0, 1) := by decide +kernel
theorem dX6_tryNone_12 : decode cX6_tryNone 12 = .ok (.iconst 0, 1) := by decide +kernel
theorem dX6_tryNone_13 : decode cX6_tryNone 13 = .ok (.iconst 0, 1) := by decide +kernel
theorem dX6_tryNone_14 : decode cX6_tryNone 14 = .ok (.iconst 0, 1) := by decide +kernel
theorem dX6_tryNone_15 : decode cX6_tryNone 15 = .ok (.invokevirtual 53, 3) := by decide +kernel
theorem dX6_tryNone_18 : decode cX6_tryNone 18 = .ok (.return_, 1) := by decide +kernel
set_option maxRecDepth 20000 in
theorem ggX6_tryOnes_X2_portCount : GoodIn wsX6_tryOnes wsX2_portCount := goodIn_r _ [5, 6, 139, 140, 141, 142] (by decide +kernel) (by decide +kernel)
set_option maxRecDepth 20000 in
theorem gX6_tryOnes_X2_portCount : GoodIn wsX6_tryOnes (wsV RX6 57 RX2 yX2_portCount wsX2_portCount) := goodIn_app (goodIn_of _ (by decide +kernel)) ggX6_tryOnes_X2_portCount
set_option maxRecDepth 20000 in
theorem ggX6_tryOnes_X6_bitOf : GoodIn wsX6_tryOnes wsX6_bitOf := goodIn_r _ [10, 11, 12, 13] (by decide +kernel) (by decide +kernel)
set_option maxRecDepth 20000 in
theorem gX6_tryOnes_X6_bitOf : GoodIn wsX6_tryOnes (va_wsS RX6 63 yX6_bitOf wsX6_bitOf) := goodIn_app (goodIn_of _ (by decide +kernel)) ggX6_tryOnes_X6_bitOf
set_option maxRecDepth 20000 in
theorem ggX6_tryOnes_X6_fits : GoodIn wsX6_tryOnes wsX6_fits := goodIn_r _ [17, 18, 19, 20, 21, 22, 23, 24, 25, 26, 27, 28, 29, 30, 31, 32, 33, 34, 35, 36, 37, 38, 39, 40, 41, 42, 43, 44, 45, 46, 47, 48, 49, 50, 51, 52, 53, 54, 55, 56, 57, 58, 59, 60, 61, 62, 12, 63, 64, 65, 66, 67, 68, 69, 70, 71, 72, 73, 74, 75, 76, 4, 77, 78, 79, 80, 81, 82, 83, 84, 85, 86, 87, 88, 11, 13, 89, 90, 91, 92, 93, 94, 95, 96, 97, 98, 99, 100, 101, 102, 103, 104, 105, 106, 107, 108, 109, 110, 111, 112, 113, 114, 115, 116, 117, 118, 119, 120, 121, 122, 123, 124, 125, 126, 127, 128, 129, 130, 143, 144, 145, 146, 147, 148, 149, 150, 151, 152, 153, 154, 155, 156, 139, 140, 141, 142, 157, 158, 159, 160] (by decide +kernel) (by decide +kernel)
set_option maxRecDepth 20000 in
theorem gX6_tryOnes_X6_fits : GoodIn wsX6_tryOnes (wsV RX6 49 RX6 yX6_fits wsX6_fits) := goodIn_app (goodIn_of _ (by decide +kernel)) ggX6_tryOnes_X6_fits
set_option maxRecDepth 20000 in
theorem ggX6_tryOnes_X6_note : GoodIn wsX6_tryOnes wsX6_note := goodIn_r _ [134, 135, 136, 137, 138, 143, 144, 145, 146, 147, 148] (by decide +kernel) (by decide +kernel)
set_option maxRecDepth 20000 in
theorem gX6_tryOnes_X6_note : GoodIn wsX6_tryOnes (wsV RX6 53 RX6 yX6_note wsX6_note) := goodIn_app (goodIn_of _ (by decide +kernel)) ggX6_tryOnes_X6_note
theorem dX6_tryOnes_0 : decode cX6_tryOnes 0 = .ok (.iconst 5, 1) := by decide +kernel
theorem dX6_tryOnes_1 : decode cX6_tryOnes 1 = .ok (.aload_n 1, 1) := by decide +kernel
theorem dX6_tryOnes_2 : decode cX6_tryOnes 2 = .ok (.invokevirtual 57, 3) := by decide +kernel
theorem dX6_tryOnes_5 : decode cX6_tryOnes 5 = .ok (.imul, 1) := by decide +kernel
theorem dX6_tryOnes_6 : decode cX6_tryOnes 6 = .ok (.istore 4, 2) := by decide +kernel
theorem dX6_tryOnes_8 : decode cX6_tryOnes 8 = .ok (.iconst 0, 1) := by decide +kernel
theorem dX6_tryOnes_9 : decode cX6_tryOnes 9 = .ok (.istore 5, 2) := by decide +kernel
theorem dX6_tryOnes_11 : decode cX6_tryOnes 11 = .ok (.iload 5, 2) := by decide +kernel
theorem dX6_tryOnes_13 : decode cX6_tryOnes 13 = .ok (.iload 4, 2) := by decide +kernel
theorem dX6_tryOnes_15 : decode cX6_tryOnes 15 = .ok (.if_icmp .ge 33, 3) := by decide +kernel
theorem dX6_tryOnes_18 : decode cX6_tryOnes 18 = .ok (.aload_n 0, 1) := by decide +kernel
theorem dX6_tryOnes_19 : decode cX6_tryOnes 19 = .ok (.aload_n 1, 1) := by decide +kernel
theorem dX6_tryOnes_20 : decode cX6_tryOnes 20 = .ok (.aload_n 2, 1) := by decide +kernel
theorem dX6_tryOnes_21 : decode cX6_tryOnes 21 = .ok (.aload_n 3, 1) := by decide +kernel
theorem dX6_tryOnes_22 : decode cX6_tryOnes 22 = .ok (.iload 5, 2) := by decide +kernel
theorem dX6_tryOnes_24 : decode cX6_tryOnes 24 = .ok (.invokestatic 63, 3) := by decide +kernel
theorem dX6_tryOnes_27 : decode cX6_tryOnes 27 = .ok (.invokevirtual 49, 3) := by decide +kernel
theorem dX6_tryOnes_30 : decode cX6_tryOnes 30 = .ok (.ifCond .eq 12, 3) := by decide +kernel
theorem dX6_tryOnes_33 : decode cX6_tryOnes 33 = .ok (.aload_n 0, 1) := by decide +kernel
theorem dX6_tryOnes_34 : decode cX6_tryOnes 34 = .ok (.iconst 1, 1) := by decide +kernel
theorem dX6_tryOnes_35 : decode cX6_tryOnes 35 = .ok (.iload 5, 2) := by decide +kernel
theorem dX6_tryOnes_37 : decode cX6_tryOnes 37 = .ok (.iload 5, 2) := by decide +kernel
theorem dX6_tryOnes_39 : decode cX6_tryOnes 39 = .ok (.invokevirtual 53, 3) := by decide +kernel
theorem dX6_tryOnes_42 : decode cX6_tryOnes 42 = .ok (.iinc 5 1, 3) := by decide +kernel
theorem dX6_tryOnes_45 : decode cX6_tryOnes 45 = .ok (.goto (-34), 3) := by decide +kernel
theorem dX6_tryOnes_48 : decode cX6_tryOnes 48 = .ok (.return_, 1) := by decide +kernel
set_option maxRecDepth 20000 in
theorem ggX6_tryTwos_X2_portCount : GoodIn wsX6_tryTwos wsX2_portCount := goodIn_r _ [5, 6, 139, 140, 141, 142] (by decide +kernel) (by decide +kernel)
set_option maxRecDepth 20000 in
theorem gX6_tryTwos_X2_portCount : GoodIn wsX6_tryTwos (wsV RX6 57 RX2 yX2_portCount wsX2_portCount) := goodIn_app (goodIn_of _ (by decide +kernel)) ggX6_tryTwos_X2_portCount
set_option maxRecDepth 20000 in
theorem ggX6_tryTwos_X6_bitOf : GoodIn wsX6_tryTwos wsX6_bitOf := goodIn_r _ [10, 11, 12, 13] (by decide +kernel) (by decide +kernel)
set_option maxRecDepth 20000 in
theorem gX6_tryTwos_X6_bitOf : GoodIn wsX6_tryTwos (va_wsS RX6 63 yX6_bitOf wsX6_bitOf) := goodIn_app (goodIn_of _ (by decide +kernel)) ggX6_tryTwos_X6_bitOf
set_option maxRecDepth 20000 in
theorem ggX6_tryTwos_X6_fits : GoodIn wsX6_tryTwos wsX6_fits := goodIn_r _ [17, 18, 19, 20, 21, 22, 23, 24, 25, 26, 27, 28, 29, 30, 31, 32, 33, 34, 35, 36, 37, 38, 39, 40, 41, 42, 43, 44, 45, 46, 47, 48, 49, 50, 51, 52, 53, 54, 55, 56, 57, 58, 59, 60, 61, 62, 12, 63, 64, 65, 66, 67, 68, 69, 70, 71, 72, 73, 74, 75, 76, 4, 77, 78, 79, 80, 81, 82, 83, 84, 85, 86, 87, 88, 11, 13, 89, 90, 91, 92, 93, 94, 95, 96, 97, 98, 99, 100, 101, 102, 103, 104, 105, 106, 107, 108, 109, 110, 111, 112, 113, 114, 115, 116, 117, 118, 119, 120, 121, 122, 123, 124, 125, 126, 127, 128, 129, 130, 143, 144, 145, 146, 147, 148, 149, 150, 151, 152, 153, 154, 155, 156, 139, 140, 141, 142, 157, 158, 159, 160] (by decide +kernel) (by decide +kernel)
set_option maxRecDepth 20000 in
theorem gX6_tryTwos_X6_fits : GoodIn wsX6_tryTwos (wsV RX6 49 RX6 yX6_fits wsX6_fits) := goodIn_app (goodIn_of _ (by decide +kernel)) ggX6_tryTwos_X6_fits
set_option maxRecDepth 20000 in
theorem ggX6_tryTwos_X6_note : GoodIn wsX6_tryTwos wsX6_note := goodIn_r _ [134, 135, 136, 137, 138, 143, 144, 145, 146, 147, 148] (by decide +kernel) (by decide +kernel)
set_option maxRecDepth 20000 in
theorem gX6_tryTwos_X6_note : GoodIn wsX6_tryTwos (wsV RX6 53 RX6 yX6_note wsX6_note) := goodIn_app (goodIn_of _ (by decide +kernel)) ggX6_tryTwos_X6_note
theorem dX6_tryTwos_0 : decode cX6_tryTwos 0 = .ok (.iconst 5, 1) := by decide +kernel
theorem dX6_tryTwos_1 : decode cX6_tryTwos 1 = .ok (.aload_n 1, 1) := by decide +kernel
theorem dX6_tryTwos_2 : decode cX6_tryTwos 2 = .ok (.invokevirtual 57, 3) := by decide +kernel
theorem dX6_tryTwos_5 : decode cX6_tryTwos 5 = .ok (.imul, 1) := by decide +kernel
theorem dX6_tryTwos_6 : decode cX6_tryTwos 6 = .ok (.istore 4, 2) := by decide +kernel
theorem dX6_tryTwos_8 : decode cX6_tryTwos 8 = .ok (.iconst 0, 1) := by decide +kernel
theorem dX6_tryTwos_9 : decode cX6_tryTwos 9 = .ok (.istore 5, 2) := by decide +kernel
theorem dX6_tryTwos_11 : decode cX6_tryTwos 11 = .ok (.iload 5, 2) := by decide +kernel
theorem dX6_tryTwos_13 : decode cX6_tryTwos 13 = .ok (.iload 4, 2) := by decide +kernel
theorem dX6_tryTwos_15 : decode cX6_tryTwos 15 = .ok (.if_icmp .ge 58, 3) := by decide +kernel
theorem dX6_tryTwos_18 : decode cX6_tryTwos 18 = .ok (.iload 5, 2) := by decide +kernel
theorem dX6_tryTwos_20 : decode cX6_tryTwos 20 = .ok (.iconst 1, 1) := by decide +kernel
theorem dX6_tryTwos_21 : decode cX6_tryTwos 21 = .ok (.iadd, 1) := by decide +kernel
theorem dX6_tryTwos_22 : decode cX6_tryTwos 22 = .ok (.istore 6, 2) := by decide +kernel
theorem dX6_tryTwos_24 : decode cX6_tryTwos 24 = .ok (.iload 6, 2) := by decide +kernel
theorem dX6_tryTwos_26 : decode cX6_tryTwos 26 = .ok (.iload 4, 2) := by decide +kernel
theorem dX6_tryTwos_28 : decode cX6_tryTwos 28 = .ok (.if_icmp .ge 39, 3) := by decide +kernel
theorem dX6_tryTwos_31 : decode cX6_tryTwos 31 = .ok (.aload_n 0, 1) := by decide +kernel
theorem dX6_tryTwos_32 : decode cX6_tryTwos 32 = .ok (.aload_n 1, 1) := by decide +kernel
theorem dX6_tryTwos_33 : decode cX6_tryTwos 33 = .ok (.aload_n 2, 1) := by decide +kernel
theorem dX6_tryTwos_34 : decode cX6_tryTwos 34 = .ok (.aload_n 3, 1) := by decide +kernel
theorem dX6_tryTwos_35 : decode cX6_tryTwos 35 = .ok (.iload 5, 2) := by decide +kernel
theorem dX6_tryTwos_37 : decode cX6_tryTwos 37 = .ok (.invokestatic 63, 3) := by decide +kernel
theorem dX6_tryTwos_40 : decode cX6_tryTwos 40 = .ok (.iload 6, 2) := by decide +kernel
theorem dX6_tryTwos_42 : decode cX6_tryTwos 42 = .ok (.invokestatic 63, 3) := by decide +kernel
theorem dX6_tryTwos_45 : decode cX6_tryTwos 45 = .ok (.ior, 1) := by decide +kernel
theorem dX6_tryTwos_46 : decode cX6_tryTwos 46 = .ok (.invokevirtual 49, 3) := by decide +kernel
theorem dX6_tryTwos_49 : decode cX6_tryTwos 49 = .ok (.ifCond .eq 12, 3) := by decide +kernel
theorem dX6_tryTwos_52 : decode cX6_tryTwos 52 = .ok (.aload_n 0, 1) := by decide +kernel
theorem dX6_tryTwos_53 : decode cX6_tryTwos 53 = .ok (.iconst 2, 1) := by decide +kernel
theorem dX6_tryTwos_54 : decode cX6_tryTwos 54 = .ok (.iload 5, 2) := by decide +kernel
theorem dX6_tryTwos_56 : decode cX6_tryTwos 56 = .ok (.iload 6, 2) := by decide +kernel
theorem dX6_tryTwos_58 : decode cX6_tryTwos 58 = .ok (.invokevirtual 53, 3) := by decide +kernel
theorem dX6_tryTwos_61 : decode cX6_tryTwos 61 = .ok (.iinc 6 1, 3) := by decide +kernel
theorem dX6_tryTwos_64 : decode cX6_tryTwos 64 = .ok (.goto (-40), 3) := by decide +kernel
theorem dX6_tryTwos_67 : decode cX6_tryTwos 67 = .ok (.iinc 5 1, 3) := by decide +kernel
theorem dX6_tryTwos_70 : decode cX6_tryTwos 70 = .ok (.goto (-59), 3) := by decide +kernel
theorem dX6_tryTwos_73 : decode cX6_tryTwos 73 = .ok (.return_, 1) := by decide +kernel
theorem dX6_note_0 : decode cX6_note 0 = .ok (.aload_n 0, 1) := by decide +kernel
theorem dX6_note_1 : decode cX6_note 1 = .ok (.getfield 26, 3) := by decide +kernel
theorem dX6_note_4 : decode cX6_note 4 = .ok (.ifCond .ne 18, 3) := by decide +kernel
theorem dX6_note_7 : decode cX6_note 7 = .ok (.aload_n 0, 1) := by decide +kernel
theorem dX6_note_8 : decode cX6_note 8 = .ok (.iload_n 1, 1) := by decide +kernel
theorem dX6_note_9 : decode cX6_note 9 = .ok (.putfield 22, 3) := by decide +kernel
theorem dX6_note_12 : decode cX6_note 12 = .ok (.aload_n 0, 1) := by decide +kernel
theorem dX6_note_13 : decode cX6_note 13 = .ok (.iload_n 2, 1) := by decide +kernel
theorem dX6_note_14 : decode cX6_note 14 = .ok (.putfield 29, 3) := by decide +kernel
theorem dX6_note_17 : decode cX6_note 17 = .ok (.aload_n 0, 1) := by decide +kernel
theorem dX6_note_18 : decode cX6_note 18 = .ok (.iload_n 3, 1) := by decide +kernel
theorem dX6_note_19 : decode cX6_note 19 = .ok (.putfield 32, 3) := by decide +kernel
theorem dX6_note_22 : decode cX6_note 22 = .ok (.aload_n 0, 1) := by decide +kernel
theorem dX6_note_23 : decode cX6_note 23 = .ok (.dup, 1) := by decide +kernel
theorem dX6_note_24 : decode cX6_note 24 = .ok (.getfield 26, 3) := by decide +kernel
theorem dX6_note_27 : decode cX6_note 27 = .ok (.iconst 1, 1) := by decide +kernel
theorem dX6_note_28 : decode cX6_note 28 = .ok (.iadd, 1) := by decide +kernel
theorem dX6_note_29 : decode cX6_note 29 = .ok (.putfield 26, 3) := by decide +kernel
theorem dX6_note_32 : decode cX6_note 32 = .ok (.return_, 1) := by decide +kernel
set_option maxRecDepth 20000 in
theorem ggX6_fits_X0_restart : GoodIn wsX6_fits wsX0_restart := goodIn_r _ [6, 7, 8, 9, 10, 11, 12, 13, 14, 15, 16, 17, 18, 124, 125, 126, 127, 128, 129] (by decide +kernel) (by decide +kernel)
set_option maxRecDepth 20000 in
theorem gX6_fits_X0_restart : GoodIn wsX6_fits (wsV RX6 66 RX0 yX0_restart wsX0_restart) := goodIn_app (goodIn_of _ (by decide +kernel)) ggX6_fits_X0_restart
set_option maxRecDepth 20000 in
theorem ggX6_fits_X1_size : GoodIn wsX6_fits wsX1_size := goodIn_r _ [23, 24, 130, 131] (by decide +kernel) (by decide +kernel)
set_option maxRecDepth 20000 in
theorem gX6_fits_X1_size : GoodIn wsX6_fits (wsV RX6 70 RX1 yX1_size wsX1_size) := goodIn_app (goodIn_of _ (by decide +kernel)) ggX6_fits_X1_size
set_option maxRecDepth 20000 in
theorem ggX6_fits_X1_frame : GoodIn wsX6_fits wsX1_frame := goodIn_r _ [28, 29, 30, 31, 32, 12, 33, 14, 130, 131, 129] (by decide +kernel) (by decide +kernel)
set_option maxRecDepth 20000 in
theorem gX6_fits_X1_frame : GoodIn wsX6_fits (wsV RX6 75 RX1 yX1_frame wsX1_frame) := goodIn_app (goodIn_of _ (by decide +kernel)) ggX6_fits_X1_frame
set_option maxRecDepth 20000 in
theorem ggX6_fits_X0_send : GoodIn wsX6_fits wsX0_send := goodIn_r _ [37, 38, 39, 40, 8, 41, 42, 43, 5, 44, 45, 46, 47, 48, 49, 50, 51, 7, 52, 53, 54, 55, 56, 57, 58, 59, 60, 61, 62, 63, 64, 65, 66, 67, 68, 69, 70, 71, 72, 73, 74, 75, 76, 77, 78, 79, 80, 81, 82, 83, 12, 84, 14, 85, 86, 87, 88, 89, 90, 91, 31, 32, 33, 92, 93, 94, 95, 96, 97, 124, 125, 126, 127, 128, 132, 133, 134, 135, 129] (by decide +kernel) (by decide +kernel)
set_option maxRecDepth 20000 in
theorem gX6_fits_X0_send : GoodIn wsX6_fits (wsV RX6 78 RX0 yX0_send wsX0_send) := goodIn_app (goodIn_of _ (by decide +kernel)) ggX6_fits_X0_send
set_option maxRecDepth 20000 in
theorem ggX6_fits_X0_exits : GoodIn wsX6_fits wsX0_exits := goodIn_r _ [101, 38, 124, 125, 126, 127, 128] (by decide +kernel) (by decide +kernel)
set_option maxRecDepth 20000 in
theorem gX6_fits_X0_exits : GoodIn wsX6_fits (wsV RX6 82 RX0 yX0_exits wsX0_exits) := goodIn_app (goodIn_of _ (by decide +kernel)) ggX6_fits_X0_exits
set_option maxRecDepth 20000 in
theorem ggX6_fits_X5_exitsOf : GoodIn wsX6_fits wsX5_exitsOf := goodIn_r _ [106, 107, 108, 31, 32, 12, 33, 14, 136, 137, 138, 139, 129] (by decide +kernel) (by decide +kernel)
set_option maxRecDepth 20000 in
theorem gX6_fits_X5_exitsOf : GoodIn wsX6_fits (wsV RX6 85 RX5 yX5_exitsOf wsX5_exitsOf) := goodIn_app (goodIn_of _ (by decide +kernel)) ggX6_fits_X5_exitsOf
set_option maxRecDepth 20000 in
theorem ggX6_fits_X0_taggedExits : GoodIn wsX6_fits wsX0_taggedExits := goodIn_r _ [112, 39, 124, 125, 126, 127, 128] (by decide +kernel) (by decide +kernel)
set_option maxRecDepth 20000 in
theorem gX6_fits_X0_taggedExits : GoodIn wsX6_fits (wsV RX6 90 RX0 yX0_taggedExits wsX0_taggedExits) := goodIn_app (goodIn_of _ (by decide +kernel)) ggX6_fits_X0_taggedExits
set_option maxRecDepth 20000 in
theorem ggX6_fits_X5_taggedOf : GoodIn wsX6_fits wsX5_taggedOf := goodIn_r _ [116, 117, 108, 31, 32, 12, 33, 14, 136, 137, 138, 139, 129] (by decide +kernel) (by decide +kernel)
set_option maxRecDepth 20000 in
theorem gX6_fits_X5_taggedOf : GoodIn wsX6_fits (wsV RX6 93 RX5 yX5_taggedOf wsX5_taggedOf) := goodIn_app (goodIn_of _ (by decide +kernel)) ggX6_fits_X5_taggedOf
theorem dX6_fits_0 : decode cX6_fits 0 = .ok (.aload_n 0, 1) := by decide +kernel
theorem dX6_fits_1 : decode cX6_fits 1 = .ok (.getfield 12, 3) := by decide +kernel
theorem dX6_fits_4 : decode cX6_fits 4 = .ok (.iload 4, 2) := by decide +kernel
theorem dX6_fits_6 : decode cX6_fits 6 = .ok (.invokevirtual 66, 3) := by decide +kernel
theorem dX6_fits_9 : decode cX6_fits 9 = .ok (.iconst 0, 1) := by decide +kernel
theorem dX6_fits_10 : decode cX6_fits 10 = .ok (.istore 5, 2) := by decide +kernel
theorem dX6_fits_12 : decode cX6_fits 12 = .ok (.iload 5, 2) := by decide +kernel
theorem dX6_fits_14 : decode cX6_fits 14 = .ok (.aload_n 2, 1) := by decide +kernel
theorem dX6_fits_15 : decode cX6_fits 15 = .ok (.invokevirtual 70, 3) := by decide +kernel
theorem dX6_fits_18 : decode cX6_fits 18 = .ok (.if_icmp .ge 57, 3) := by decide +kernel
theorem dX6_fits_21 : decode cX6_fits 21 = .ok (.aload_n 0, 1) := by decide +kernel
theorem dX6_fits_22 : decode cX6_fits 22 = .ok (.getfield 12, 3) := by decide +kernel
theorem dX6_fits_25 : decode cX6_fits 25 = .ok (.aload_n 1, 1) := by decide +kernel
theorem dX6_fits_26 : decode cX6_fits 26 = .ok (.aload_n 2, 1) := by decide +kernel
theorem dX6_fits_27 : decode cX6_fits 27 = .ok (.iload 5, 2) := by decide +kernel
theorem dX6_fits_29 : decode cX6_fits 29 = .ok (.invokevirtual 75, 3) := by decide +kernel
theorem dX6_fits_32 : decode cX6_fits 32 = .ok (.invokevirtual 78, 3) := by decide +kernel
theorem dX6_fits_35 : decode cX6_fits 35 = .ok (.aload_n 0, 1) := by decide +kernel
theorem dX6_fits_36 : decode cX6_fits 36 = .ok (.getfield 12, 3) := by decide +kernel
theorem dX6_fits_39 : decode cX6_fits 39 = .ok (.invokevirtual 82, 3) := by decide +kernel
theorem dX6_fits_42 : decode cX6_fits 42 = .ok (.aload_n 3, 1) := by decide +kernel
theorem dX6_fits_43 : decode cX6_fits 43 = .ok (.iload 5, 2) := by decide +kernel
theorem dX6_fits_45 : decode cX6_fits 45 = .ok (.invokevirtual 85, 3) := by decide +kernel
theorem dX6_fits_48 : decode cX6_fits 48 = .ok (.if_icmp .ne 19, 3) := by decide +kernel
theorem dX6_fits_51 : decode cX6_fits 51 = .ok (.aload_n 0, 1) := by decide +kernel
theorem dX6_fits_52 : decode cX6_fits 52 = .ok (.getfield 12, 3) := by decide +kernel
theorem dX6_fits_55 : decode cX6_fits 55 = .ok (.invokevirtual 90, 3) := by decide +kernel
theorem dX6_fits_58 : decode cX6_fits 58 = .ok (.aload_n 3, 1) := by decide +kernel
theorem dX6_fits_59 : decode cX6_fits 59 = .ok (.iload 5, 2) := by decide +kernel
theorem dX6_fits_61 : decode cX6_fits 61 = .ok (.invokevirtual 93, 3) := by decide +kernel
theorem dX6_fits_64 : decode cX6_fits 64 = .ok (.if_icmp .eq 5, 3) := by decide +kernel
theorem dX6_fits_67 : decode cX6_fits 67 = .ok (.iconst 0, 1) := by decide +kernel
theorem dX6_fits_68 : decode cX6_fits 68 = .ok (.ireturn, 1) := by decide +kernel
theorem dX6_fits_69 : decode cX6_fits 69 = .ok (.iinc 5 1, 3) := by decide +kernel
theorem dX6_fits_72 : decode cX6_fits 72 = .ok (.goto (-60), 3) := by decide +kernel
theorem dX6_fits_75 : decode cX6_fits 75 = .ok (.iconst 1, 1) := by decide +kernel
theorem dX6_fits_76 : decode cX6_fits 76 = .ok (.ireturn, 1) := by decide +kernel
set_option maxRecDepth 20000 in
theorem ggX6_bitOf_X7_cellOf : GoodIn wsX6_bitOf wsX7_cellOf := goodIn_r _ [3] (by decide +kernel) (by decide +kernel)
set_option maxRecDepth 20000 in
theorem gX6_bitOf_X7_cellOf_n96 : GoodIn wsX6_bitOf (wsX7_cellOf) := ggX6_bitOf_X7_cellOf
theorem dX6_bitOf_0 : decode cX6_bitOf 0 = .ok (.iload_n 0, 1) := by decide +kernel
theorem dX6_bitOf_1 : decode cX6_bitOf 1 = .ok (.iconst 5, 1) := by decide +kernel
theorem dX6_bitOf_2 : decode cX6_bitOf 2 = .ok (.irem, 1) := by decide +kernel
theorem dX6_bitOf_3 : decode cX6_bitOf 3 = .ok (.iload_n 0, 1) := by decide +kernel
theorem dX6_bitOf_4 : decode cX6_bitOf 4 = .ok (.iconst 5, 1) := by decide +kernel
theorem dX6_bitOf_5 : decode cX6_bitOf 5 = .ok (.idiv, 1) := by decide +kernel
theorem dX6_bitOf_6 : decode cX6_bitOf 6 = .ok (.invokestatic 96, 3) := by decide +kernel
theorem dX6_bitOf_9 : decode cX6_bitOf 9 = .ok (.ireturn, 1) := by decide +kernel
theorem dX6_numberOf_0 : decode cX6_numberOf 0 = .ok (.bipush 10, 2) := by decide +kernel
theorem dX6_numberOf_2 : decode cX6_numberOf 2 = .ok (.iload_n 0, 1) := by decide +kernel
theorem dX6_numberOf_3 : decode cX6_numberOf 3 = .ok (.iconst 5, 1) := by decide +kernel
theorem dX6_numberOf_4 : decode cX6_numberOf 4 = .ok (.idiv, 1) := by decide +kernel
theorem dX6_numberOf_5 : decode cX6_numberOf 5 = .ok (.imul, 1) := by decide +kernel
theorem dX6_numberOf_6 : decode cX6_numberOf 6 = .ok (.iload_n 0, 1) := by decide +kernel
theorem dX6_numberOf_7 : decode cX6_numberOf 7 = .ok (.iconst 5, 1) := by decide +kernel
theorem dX6_numberOf_8 : decode cX6_numberOf 8 = .ok (.irem, 1) := by decide +kernel
theorem dX6_numberOf_9 : decode cX6_numberOf 9 = .ok (.iadd, 1) := by decide +kernel
theorem dX6_numberOf_10 : decode cX6_numberOf 10 = .ok (.ireturn, 1) := by decide +kernel
set_option maxRecDepth 20000 in
theorem ggX7_init_X2_init : GoodIn wsX7_init wsX2_init := goodIn_r _ [27, 28, 2, 3] (by decide +kernel) (by decide +kernel)
set_option maxRecDepth 20000 in
theorem gX7_init_X2_init_n11 : GoodIn wsX7_init (wsX2_init) := ggX7_init_X2_init
set_option maxRecDepth 20000 in
theorem ggX7_init_X1_init : GoodIn wsX7_init wsX1_init := goodIn_r _ [30, 31, 2, 3, 32, 33, 34, 35, 36, 37, 38, 39, 40, 41, 117, 104, 105] (by decide +kernel) (by decide +kernel)
set_option maxRecDepth 20000 in
theorem gX7_init_X1_init_n18 : GoodIn wsX7_init (wsX1_init) := ggX7_init_X1_init
set_option maxRecDepth 20000 in
theorem ggX7_init_X3_init : GoodIn wsX7_init wsX3_init := goodIn_r _ [43, 44, 2, 3, 45, 33, 34, 46, 47, 37, 38, 39, 40, 41, 117, 106] (by decide +kernel) (by decide +kernel)
set_option maxRecDepth 20000 in
theorem gX7_init_X3_init_n25 : GoodIn wsX7_init (wsX3_init) := ggX7_init_X3_init
set_option maxRecDepth 20000 in
theorem ggX7_init_X5_init : GoodIn wsX7_init wsX5_init := goodIn_r _ [49, 50, 2, 3, 51, 52, 53, 54, 55, 33, 34, 56, 57, 58, 59, 60, 61, 62, 63, 64, 37, 38, 39, 40, 41, 65, 118, 119, 120, 121, 122, 107, 108, 109, 110, 117] (by decide +kernel) (by decide +kernel)
set_option maxRecDepth 20000 in
theorem gX7_init_X5_init_n32 : GoodIn wsX7_init (wsX5_init) := ggX7_init_X5_init
set_option maxRecDepth 20000 in
theorem ggX7_init_X6_init : GoodIn wsX7_init wsX6_init := goodIn_r _ [67, 68, 2, 3, 69, 52, 53, 70, 59, 60, 61, 62, 33, 34, 63, 64, 37, 38, 39, 40, 41, 118, 119, 120, 121, 122, 111, 112, 113, 114, 115, 116, 117] (by decide +kernel) (by decide +kernel)
set_option maxRecDepth 20000 in
theorem gX7_init_X6_init_n42 : GoodIn wsX7_init (wsX6_init) := ggX7_init_X6_init
set_option maxRecDepth 20000 in
theorem ggX7_init_X2_reset : GoodIn wsX7_init wsX2_reset := goodIn_r _ [74, 75, 76, 77, 78, 79, 80, 81, 6, 82, 83, 84, 85, 86, 87, 88, 89, 90, 91, 92, 93, 94, 95] (by decide +kernel) (by decide +kernel)
set_option maxRecDepth 20000 in
theorem gX7_init_X2_reset : GoodIn wsX7_init (wsV RX7 47 RX2 yX2_reset wsX2_reset) := goodIn_app (goodIn_of _ (by decide +kernel)) ggX7_init_X2_reset
theorem dX7_init_0 : decode cX7_init 0 = .ok (.aload_n 0, 1) := by decide +kernel
theorem dX7_init_1 : decode cX7_init 1 = .ok (.invokespecial 3, 3) := by decide +kernel
theorem dX7_init_4 : decode cX7_init 4 = .ok (.aload_n 0, 1) := by decide +kernel
theorem dX7_init_5 : decode cX7_init 5 = .ok (.new 9, 3) := by decide +kernel
theorem dX7_init_8 : decode cX7_init 8 = .ok (.dup, 1) := by decide +kernel
theorem dX7_init_9 : decode cX7_init 9 = .ok (.invokespecial 11, 3) := by decide +kernel
theorem dX7_init_12 : decode cX7_init 12 = .ok (.putfield 12, 3) := by decide +kernel
theorem dX7_init_15 : decode cX7_init 15 = .ok (.aload_n 0, 1) := by decide +kernel
theorem dX7_init_16 : decode cX7_init 16 = .ok (.new 16, 3) := by decide +kernel
theorem dX7_init_19 : decode cX7_init 19 = .ok (.dup, 1) := by decide +kernel
theorem dX7_init_20 : decode cX7_init 20 = .ok (.invokespecial 18, 3) := by decide +kernel
theorem dX7_init_23 : decode cX7_init 23 = .ok (.putfield 19, 3) := by decide +kernel
theorem dX7_init_26 : decode cX7_init 26 = .ok (.aload_n 0, 1) := by decide +kernel
theorem dX7_init_27 : decode cX7_init 27 = .ok (.new 23, 3) := by decide +kernel
theorem dX7_init_30 : decode cX7_init 30 = .ok (.dup, 1) := by decide +kernel
theorem dX7_init_31 : decode cX7_init 31 = .ok (.invokespecial 25, 3) := by decide +kernel
theorem dX7_init_34 : decode cX7_init 34 = .ok (.putfield 26, 3) := by decide +kernel
theorem dX7_init_37 : decode cX7_init 37 = .ok (.aload_n 0, 1) := by decide +kernel
theorem dX7_init_38 : decode cX7_init 38 = .ok (.new 30, 3) := by decide +kernel
theorem dX7_init_41 : decode cX7_init 41 = .ok (.dup, 1) := by decide +kernel
theorem dX7_init_42 : decode cX7_init 42 = .ok (.invokespecial 32, 3) := by decide +kernel
theorem dX7_init_45 : decode cX7_init 45 = .ok (.putfield 33, 3) := by decide +kernel
theorem dX7_init_48 : decode cX7_init 48 = .ok (.aload_n 0, 1) := by decide +kernel
theorem dX7_init_49 : decode cX7_init 49 = .ok (.new 30, 3) := by decide +kernel
theorem dX7_init_52 : decode cX7_init 52 = .ok (.dup, 1) := by decide +kernel
theorem dX7_init_53 : decode cX7_init 53 = .ok (.invokespecial 32, 3) := by decide +kernel
theorem dX7_init_56 : decode cX7_init 56 = .ok (.putfield 37, 3) := by decide +kernel
theorem dX7_init_59 : decode cX7_init 59 = .ok (.aload_n 0, 1) := by decide +kernel
theorem dX7_init_60 : decode cX7_init 60 = .ok (.new 40, 3) := by decide +kernel
theorem dX7_init_63 : decode cX7_init 63 = .ok (.dup, 1) := by decide +kernel
theorem dX7_init_64 : decode cX7_init 64 = .ok (.invokespecial 42, 3) := by decide +kernel
theorem dX7_init_67 : decode cX7_init 67 = .ok (.putfield 43, 3) := by decide +kernel
theorem dX7_init_70 : decode cX7_init 70 = .ok (.aload_n 0, 1) := by decide +kernel
theorem dX7_init_71 : decode cX7_init 71 = .ok (.getfield 12, 3) := by decide +kernel
theorem dX7_init_74 : decode cX7_init 74 = .ok (.iconst 4, 1) := by decide +kernel
theorem dX7_init_75 : decode cX7_init 75 = .ok (.invokevirtual 47, 3) := by decide +kernel
theorem dX7_init_78 : decode cX7_init 78 = .ok (.aload_n 0, 1) := by decide +kernel
theorem dX7_init_79 : decode cX7_init 79 = .ok (.iconst 1, 1) := by decide +kernel
theorem dX7_init_80 : decode cX7_init 80 = .ok (.putfield 51, 3) := by decide +kernel
theorem dX7_init_83 : decode cX7_init 83 = .ok (.return_, 1) := by decide +kernel
set_option maxRecDepth 20000 in
theorem ggX7_begin_X2_reset : GoodIn wsX7_begin wsX2_reset := goodIn_r _ [11, 12, 13, 14, 15, 16, 17, 18, 10, 19, 20, 21, 22, 23, 24, 25, 26, 27, 28, 43, 44, 45, 46] (by decide +kernel) (by decide +kernel)
set_option maxRecDepth 20000 in
theorem gX7_begin_X2_reset : GoodIn wsX7_begin (wsV RX7 47 RX2 yX2_reset wsX2_reset) := goodIn_app (goodIn_of _ (by decide +kernel)) ggX7_begin_X2_reset
set_option maxRecDepth 20000 in
theorem ggX7_begin_X1_cutTo : GoodIn wsX7_begin wsX1_cutTo := goodIn_r _ [33, 34, 47, 48] (by decide +kernel) (by decide +kernel)
set_option maxRecDepth 20000 in
theorem gX7_begin_X1_cutTo : GoodIn wsX7_begin (wsV RX7 62 RX1 yX1_cutTo wsX1_cutTo) := goodIn_app (goodIn_of _ (by decide +kernel)) ggX7_begin_X1_cutTo
theorem dX7_begin_0 : decode cX7_begin 0 = .ok (.iload_n 1, 1) := by decide +kernel
theorem dX7_begin_1 : decode cX7_begin 1 = .ok (.iconst 2, 1) := by decide +kernel
theorem dX7_begin_2 : decode cX7_begin 2 = .ok (.if_icmp .lt 9, 3) := by decide +kernel
theorem dX7_begin_5 : decode cX7_begin 5 = .ok (.iload_n 1, 1) := by decide +kernel
theorem dX7_begin_6 : decode cX7_begin 6 = .ok (.bipush 6, 2) := by decide +kernel
theorem dX7_begin_8 : decode cX7_begin 8 = .ok (.if_icmp .le 13, 3) := by decide +kernel
theorem dX7_begin_11 : decode cX7_begin 11 = .ok (.new 55, 3) := by decide +kernel
theorem dX7_begin_14 : decode cX7_begin 14 = .ok (.dup, 1) := by decide +kernel
theorem dX7_begin_15 : decode cX7_begin 15 = .ok (.ldc 57, 2) := by decide +kernel
theorem dX7_begin_17 : decode cX7_begin 17 = .ok (.invokespecial 59, 3) := by decide +kernel
theorem dX7_begin_20 : decode cX7_begin 20 = .ok (.athrow, 1) := by decide +kernel
theorem dX7_begin_21 : decode cX7_begin 21 = .ok (.aload_n 0, 1) := by decide +kernel
theorem dX7_begin_22 : decode cX7_begin 22 = .ok (.getfield 12, 3) := by decide +kernel
theorem dX7_begin_25 : decode cX7_begin 25 = .ok (.iload_n 1, 1) := by decide +kernel
theorem dX7_begin_26 : decode cX7_begin 26 = .ok (.invokevirtual 47, 3) := by decide +kernel
theorem dX7_begin_29 : decode cX7_begin 29 = .ok (.aload_n 0, 1) := by decide +kernel
theorem dX7_begin_30 : decode cX7_begin 30 = .ok (.getfield 19, 3) := by decide +kernel
theorem dX7_begin_33 : decode cX7_begin 33 = .ok (.iconst 0, 1) := by decide +kernel
theorem dX7_begin_34 : decode cX7_begin 34 = .ok (.invokevirtual 62, 3) := by decide +kernel
theorem dX7_begin_37 : decode cX7_begin 37 = .ok (.aload_n 0, 1) := by decide +kernel
theorem dX7_begin_38 : decode cX7_begin 38 = .ok (.iconst 0, 1) := by decide +kernel
theorem dX7_begin_39 : decode cX7_begin 39 = .ok (.putfield 65, 3) := by decide +kernel
theorem dX7_begin_42 : decode cX7_begin 42 = .ok (.aload_n 0, 1) := by decide +kernel
theorem dX7_begin_43 : decode cX7_begin 43 = .ok (.iconst 1, 1) := by decide +kernel
theorem dX7_begin_44 : decode cX7_begin 44 = .ok (.putfield 51, 3) := by decide +kernel
theorem dX7_begin_47 : decode cX7_begin 47 = .ok (.return_, 1) := by decide +kernel
set_option maxRecDepth 20000 in
theorem ggX7_ports_X2_portCount : GoodIn wsX7_ports wsX2_portCount := goodIn_r _ [6, 7, 16, 17, 18, 19] (by decide +kernel) (by decide +kernel)
set_option maxRecDepth 20000 in
theorem gX7_ports_X2_portCount : GoodIn wsX7_ports (wsV RX7 69 RX2 yX2_portCount wsX2_portCount) := goodIn_app (goodIn_of _ (by decide +kernel)) ggX7_ports_X2_portCount
theorem dX7_ports_0 : decode cX7_ports 0 = .ok (.aload_n 0, 1) := by decide +kernel
theorem dX7_ports_1 : decode cX7_ports 1 = .ok (.getfield 12, 3) := by decide +kernel
theorem dX7_ports_4 : decode cX7_ports 4 = .ok (.invokevirtual 69, 3) := by decide +kernel
theorem dX7_ports_7 : decode cX7_ports 7 = .ok (.ireturn, 1) := by decide +kernel
set_option maxRecDepth 20000 in
theorem ggX7_access_X7_needPort : GoodIn wsX7_access wsX7_needPort := goodIn_ca (goodIn_r _ [9, 10, 11, 3, 12, 13, 14, 15, 16, 17, 36, 37, 38, 39, 40, 41, 42, 43, 44, 45, 46, 47] (by decide +kernel) (by decide +kernel)) (goodIn_sub (fun _ h => List.mem_cons_of_mem _ (List.mem_append_right _ h)) (by decide +kernel))
set_option maxRecDepth 20000 in
theorem gX7_access_X7_needPort : GoodIn wsX7_access (wsV RX7 73 RX7 yX7_needPort wsX7_needPort) := goodIn_app (goodIn_of _ (by decide +kernel)) ggX7_access_X7_needPort
set_option maxRecDepth 20000 in
theorem ggX7_access_X7_isNetwork : GoodIn wsX7_access wsX7_isNetwork := goodIn_r _ [20] (by decide +kernel) (by decide +kernel)
set_option maxRecDepth 20000 in
theorem gX7_access_X7_isNetwork : GoodIn wsX7_access (va_wsS RX7 76 yX7_isNetwork wsX7_isNetwork) := goodIn_app (goodIn_of _ (by decide +kernel)) ggX7_access_X7_isNetwork
set_option maxRecDepth 20000 in
theorem ggX7_access_X2_makeAccess : GoodIn wsX7_access wsX2_makeAccess := goodIn_r _ [24, 25, 26, 27, 28, 15, 29, 30, 31, 32, 8, 33, 34, 35, 44, 45, 46, 47] (by decide +kernel) (by decide +kernel)
set_option maxRecDepth 20000 in
theorem gX7_access_X2_makeAccess : GoodIn wsX7_access (wsV RX7 82 RX2 yX2_makeAccess wsX2_makeAccess) := goodIn_app (goodIn_of _ (by decide +kernel)) ggX7_access_X2_makeAccess
theorem dX7_access_0 : decode cX7_access 0 = .ok (.aload_n 0, 1) := by decide +kernel
theorem dX7_access_1 : decode cX7_access 1 = .ok (.iload_n 1, 1) := by decide +kernel
theorem dX7_access_2 : decode cX7_access 2 = .ok (.invokevirtual 73, 3) := by decide +kernel
theorem dX7_access_5 : decode cX7_access 5 = .ok (.iload_n 2, 1) := by decide +kernel
theorem dX7_access_6 : decode cX7_access 6 = .ok (.invokestatic 76, 3) := by decide +kernel
theorem dX7_access_9 : decode cX7_access 9 = .ok (.ifCond .ne 13, 3) := by decide +kernel
theorem dX7_access_12 : decode cX7_access 12 = .ok (.new 55, 3) := by decide +kernel
theorem dX7_access_15 : decode cX7_access 15 = .ok (.dup, 1) := by decide +kernel
theorem dX7_access_16 : decode cX7_access 16 = .ok (.ldc 80, 2) := by decide +kernel
theorem dX7_access_18 : decode cX7_access 18 = .ok (.invokespecial 59, 3) := by decide +kernel
theorem dX7_access_21 : decode cX7_access 21 = .ok (.athrow, 1) := by decide +kernel
theorem dX7_access_22 : decode cX7_access 22 = .ok (.aload_n 0, 1) := by decide +kernel
theorem dX7_access_23 : decode cX7_access 23 = .ok (.getfield 12, 3) := by decide +kernel
theorem dX7_access_26 : decode cX7_access 26 = .ok (.iload_n 1, 1) := by decide +kernel
theorem dX7_access_27 : decode cX7_access 27 = .ok (.iload_n 2, 1) := by decide +kernel
theorem dX7_access_28 : decode cX7_access 28 = .ok (.invokevirtual 82, 3) := by decide +kernel
theorem dX7_access_31 : decode cX7_access 31 = .ok (.aload_n 0, 1) := by decide +kernel
theorem dX7_access_32 : decode cX7_access 32 = .ok (.iconst 1, 1) := by decide +kernel
theorem dX7_access_33 : decode cX7_access 33 = .ok (.putfield 51, 3) := by decide +kernel
theorem dX7_access_36 : decode cX7_access 36 = .ok (.return_, 1) := by decide +kernel
set_option maxRecDepth 20000 in
theorem ggX7_trunk_X7_needPort : GoodIn wsX7_trunk wsX7_needPort := goodIn_ca (goodIn_r _ [9, 10, 11, 3, 12, 13, 14, 15, 16, 17, 33, 34, 35, 36, 37, 38, 39, 40, 41, 42, 43, 44] (by decide +kernel) (by decide +kernel)) (goodIn_sub (fun _ h => List.mem_cons_of_mem _ (List.mem_append_right _ h)) (by decide +kernel))
set_option maxRecDepth 20000 in
theorem gX7_trunk_X7_needPort : GoodIn wsX7_trunk (wsV RX7 73 RX7 yX7_needPort wsX7_needPort) := goodIn_app (goodIn_of _ (by decide +kernel)) ggX7_trunk_X7_needPort
set_option maxRecDepth 20000 in
theorem ggX7_trunk_X7_isNetwork : GoodIn wsX7_trunk wsX7_isNetwork := goodIn_r _ [20] (by decide +kernel) (by decide +kernel)
set_option maxRecDepth 20000 in
theorem gX7_trunk_X7_isNetwork : GoodIn wsX7_trunk (va_wsS RX7 76 yX7_isNetwork wsX7_isNetwork) := goodIn_app (goodIn_of _ (by decide +kernel)) ggX7_trunk_X7_isNetwork
set_option maxRecDepth 20000 in
theorem ggX7_trunk_X7_hasNetwork : GoodIn wsX7_trunk wsX7_hasNetwork := goodIn_r _ [23] (by decide +kernel) (by decide +kernel)
set_option maxRecDepth 20000 in
theorem gX7_trunk_X7_hasNetwork : GoodIn wsX7_trunk (va_wsS RX7 88 yX7_hasNetwork wsX7_hasNetwork) := goodIn_app (goodIn_of _ (by decide +kernel)) ggX7_trunk_X7_hasNetwork
set_option maxRecDepth 20000 in
theorem ggX7_trunk_X2_makeTrunk : GoodIn wsX7_trunk wsX2_makeTrunk := goodIn_r _ [27, 28, 29, 30, 31, 8, 32, 22, 23, 41, 42, 43, 44] (by decide +kernel) (by decide +kernel)
set_option maxRecDepth 20000 in
theorem gX7_trunk_X2_makeTrunk : GoodIn wsX7_trunk (wsV RX7 94 RX2 yX2_makeTrunk wsX2_makeTrunk) := goodIn_app (goodIn_of _ (by decide +kernel)) ggX7_trunk_X2_makeTrunk
theorem dX7_trunk_0 : decode cX7_trunk 0 = .ok (.aload_n 0, 1) := by decide +kernel
theorem dX7_trunk_1 : decode cX7_trunk 1 = .ok (.iload_n 1, 1) := by decide +kernel
theorem dX7_trunk_2 : decode cX7_trunk 2 = .ok (.invokevirtual 73, 3) := by decide +kernel
theorem dX7_trunk_5 : decode cX7_trunk 5 = .ok (.iload_n 2, 1) := by decide +kernel
theorem dX7_trunk_6 : decode cX7_trunk 6 = .ok (.iconst 1, 1) := by decide +kernel
theorem dX7_trunk_7 : decode cX7_trunk 7 = .ok (.if_icmp .lt 9, 3) := by decide +kernel
theorem dX7_trunk_10 : decode cX7_trunk 10 = .ok (.iload_n 2, 1) := by decide +kernel
theorem dX7_trunk_11 : decode cX7_trunk 11 = .ok (.bipush 15, 2) := by decide +kernel
theorem dX7_trunk_13 : decode cX7_trunk 13 = .ok (.if_icmp .le 13, 3) := by decide +kernel
theorem dX7_trunk_16 : decode cX7_trunk 16 = .ok (.new 55, 3) := by decide +kernel
theorem dX7_trunk_19 : decode cX7_trunk 19 = .ok (.dup, 1) := by decide +kernel
theorem dX7_trunk_20 : decode cX7_trunk 20 = .ok (.ldc 86, 2) := by decide +kernel
theorem dX7_trunk_22 : decode cX7_trunk 22 = .ok (.invokespecial 59, 3) := by decide +kernel
theorem dX7_trunk_25 : decode cX7_trunk 25 = .ok (.athrow, 1) := by decide +kernel
theorem dX7_trunk_26 : decode cX7_trunk 26 = .ok (.iload_n 3, 1) := by decide +kernel
theorem dX7_trunk_27 : decode cX7_trunk 27 = .ok (.ifCond .eq 28, 3) := by decide +kernel
theorem dX7_trunk_30 : decode cX7_trunk 30 = .ok (.iload_n 3, 1) := by decide +kernel
theorem dX7_trunk_31 : decode cX7_trunk 31 = .ok (.invokestatic 76, 3) := by decide +kernel
theorem dX7_trunk_34 : decode cX7_trunk 34 = .ok (.ifCond .eq 11, 3) := by decide +kernel
theorem dX7_trunk_37 : decode cX7_trunk 37 = .ok (.iload_n 2, 1) := by decide +kernel
theorem dX7_trunk_38 : decode cX7_trunk 38 = .ok (.iload_n 3, 1) := by decide +kernel
theorem dX7_trunk_39 : decode cX7_trunk 39 = .ok (.invokestatic 88, 3) := by decide +kernel
theorem dX7_trunk_42 : decode cX7_trunk 42 = .ok (.ifCond .ne 13, 3) := by decide +kernel
theorem dX7_trunk_45 : decode cX7_trunk 45 = .ok (.new 55, 3) := by decide +kernel
theorem dX7_trunk_48 : decode cX7_trunk 48 = .ok (.dup, 1) := by decide +kernel
theorem dX7_trunk_49 : decode cX7_trunk 49 = .ok (.ldc 92, 2) := by decide +kernel
theorem dX7_trunk_51 : decode cX7_trunk 51 = .ok (.invokespecial 59, 3) := by decide +kernel
theorem dX7_trunk_54 : decode cX7_trunk 54 = .ok (.athrow, 1) := by decide +kernel
theorem dX7_trunk_55 : decode cX7_trunk 55 = .ok (.aload_n 0, 1) := by decide +kernel
theorem dX7_trunk_56 : decode cX7_trunk 56 = .ok (.getfield 12, 3) := by decide +kernel
theorem dX7_trunk_59 : decode cX7_trunk 59 = .ok (.iload_n 1, 1) := by decide +kernel
theorem dX7_trunk_60 : decode cX7_trunk 60 = .ok (.iload_n 2, 1) := by decide +kernel
theorem dX7_trunk_61 : decode cX7_trunk 61 = .ok (.iload_n 3, 1) := by decide +kernel
theorem dX7_trunk_62 : decode cX7_trunk 62 = .ok (.invokevirtual 94, 3) := by decide +kernel
theorem dX7_trunk_65 : decode cX7_trunk 65 = .ok (.aload_n 0, 1) := by decide +kernel
theorem dX7_trunk_66 : decode cX7_trunk 66 = .ok (.iconst 1, 1) := by decide +kernel
theorem dX7_trunk_67 : decode cX7_trunk 67 = .ok (.putfield 51, 3) := by decide +kernel
theorem dX7_trunk_70 : decode cX7_trunk 70 = .ok (.return_, 1) := by decide +kernel
set_option maxRecDepth 20000 in
theorem ggX7_fault_X7_needPort : GoodIn wsX7_fault wsX7_needPort := goodIn_ca (goodIn_r _ [9, 10, 11, 12, 13, 14, 15, 16, 17, 18, 22, 23, 24, 25, 26, 27, 28, 29, 30, 31, 32, 33] (by decide +kernel) (by decide +kernel)) (goodIn_sub (fun _ h => List.mem_cons_of_mem _ (List.mem_append_right _ h)) (by decide +kernel))
set_option maxRecDepth 20000 in
theorem gX7_fault_X7_needPort : GoodIn wsX7_fault (wsV RX7 73 RX7 yX7_needPort wsX7_needPort) := goodIn_app (goodIn_of _ (by decide +kernel)) ggX7_fault_X7_needPort
set_option maxRecDepth 20000 in
theorem ggX7_fault_X7_cellOf : GoodIn wsX7_fault wsX7_cellOf := goodIn_r _ [21] (by decide +kernel) (by decide +kernel)
set_option maxRecDepth 20000 in
theorem gX7_fault_X7_cellOf : GoodIn wsX7_fault (va_wsS RX7 100 yX7_cellOf wsX7_cellOf) := goodIn_app (goodIn_of _ (by decide +kernel)) ggX7_fault_X7_cellOf
