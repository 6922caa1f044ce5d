theorem dX7_init_0 : decode cX7_init 0 = .ok (.aload_n 0, 1) := by decide +kernel
theorem dX7_init_1 : decode cX7_init 1 = .ok (.invokespecial 3, 3) := by decide +kernel
theorem dX7_init_4 : decode cX7_init 4 = .ok (.aload_n 0, 1) := by decide +kernel
theorem dX7_init_5 : decode cX7_init 5 = .ok (.new 9, 3) := by decide +kernel
theorem dX7_init_8 : decode cX7_init 8 = .ok (.dup, 1) := by decide +kernel
theorem dX7_init_9 : decode cX7_init 9 = .ok (.invokespecial 11, 3) := by decide +kernel
theorem dX7_init_12 : decode cX7_init 12 = .ok (.putfield 12, 3) := by decide +kernel
theorem dX7_init_15 : decode cX7_init 15 = .ok (.aload_n 0, 1) := by decide +kernel
theorem dX7_init_16 : decode cX7_init 16 = .ok (.new 16, 3) := by decide +kernel
theorem dX7_init_19 : decode cX7_init 19 = .ok (.dup, 1) := by decide +kernel
theorem dX7_init_20 : decode cX7_init 20 = .ok (.invokespecial 18, 3) := by decide +kernel
theorem dX7_init_23 : decode cX7_init 23 = .ok (.putfield 19, 3) := by decide +kernel
theorem dX7_init_26 : decode cX7_init 26 = .ok (.aload_n 0, 1) := by decide +kernel
theorem dX7_init_27 : decode cX7_init 27 = .ok (.new 23, 3) := by decide +kernel
theorem dX7_init_30 : decode cX7_init 30 = .ok (.dup, 1) := by decide +kernel
theorem dX7_init_31 : decode cX7_init 31 = .ok (.invokespecial 25, 3) := by decide +kernel
theorem dX7_init_34 : decode cX7_init 34 = .ok (.putfield 26, 3) := by decide +kernel
theorem dX7_init_37 : decode cX7_init 37 = .ok (.aload_n 0, 1) := by decide +kernel
theorem dX7_init_38 : decode cX7_init 38 = .ok (.new 30, 3) := by decide +kernel
theorem dX7_init_41 : decode cX7_init 41 = .ok (.dup, 1) := by decide +kernel
theorem dX7_init_42 : decode cX7_init 42 = .ok (.invokespecial 32, 3) := by decide +kernel
theorem dX7_init_45 : decode cX7_init 45 = .ok (.putfield 33, 3) := by decide +kernel
theorem dX7_init_48 : decode cX7_init 48 = .ok (.aload_n 0, 1) := by decide +kernel
theorem dX7_init_49 : decode cX7_init 49 = .ok (.new 30, 3) := by decide +kernel
theorem dX7_init_52 : decode cX7_init 52 = .ok (.dup, 1) := by decide +kernel
theorem dX7_init_53 : decode cX7_init 53 = .ok (.invokespecial 32, 3) := by decide +kernel
theorem dX7_init_56 : decode cX7_init 56 = .ok (.putfield 37, 3) := by decide +kernel
theorem dX7_init_59 : decode cX7_init 59 = .ok (.aload_n 0, 1) := by decide +kernel
theorem dX7_init_60 : decode cX7_init 60 = .ok (.new 40, 3) := by decide +kernel
theorem dX7_init_63 : decode cX7_init 63 = .ok (.dup, 1) := by decide +kernel
theorem dX7_init_64 : decode cX7_init 64 = .ok (.invokespecial 42, 3) := by decide +kernel
theorem dX7_init_67 : decode cX7_init 67 = .ok (.putfield 43, 3) := by decide +kernel
theorem dX7_init_70 : decode cX7_init 70 = .ok (.aload_n 0, 1) := by decide +kernel
theorem dX7_init_71 : decode cX7_init 71 = .ok (.getfield 12, 3) := by decide +kernel
theorem dX7_init_74 : decode cX7_init 74 = .ok (.iconst 4, 1) := by decide +kernel
theorem dX7_init_75 : decode cX7_init 75 = .ok (.invokevirtual 47, 3) := by decide +kernel
theorem dX7_init_78 : decode cX7_init 78 = .ok (.aload_n 0, 1) := by decide +kernel
theorem dX7_init_79 : decode cX7_init 79 = .ok (.iconst 1, 1) := by decide +kernel
theorem dX7_init_80 : decode cX7_init 80 = .ok (.putfield 51, 3) := by decide +kernel
theorem dX7_init_83 : decode cX7_init 83 = .ok (.return_, 1) := by decide +kernel
set_option maxRecDepth 20000 in
theorem ggX7_begin_X2_reset : GoodIn wsX7_begin wsX2_reset := goodIn_r _ [11, 12, 13, 14, 15, 16, 17, 18, 10, 19, 20, 21, 22, 23, 24, 25, 26, 27, 28, 43, 44, 45, 46] (by decide +kernel) (by decide +kernel)
set_option maxRecDepth 20000 in
theorem gX7_begin_X2_reset : GoodIn wsX7_begin (wsV RX7 47 RX2 yX2_reset wsX2_reset) := goodIn_app (goodIn_of _ (by decide +kernel)) ggX7_begin_X2_reset
set_option maxRecDepth 20000 in
theorem ggX7_begin_X1_cutTo : GoodIn wsX7_begin wsX1_cutTo := goodIn_r _ [33, 34, 47, 48] (by decide +kernel) (by decide +kernel)
set_option maxRecDepth 20000 in
theorem gX7_begin_X1_cutTo : GoodIn wsX7_begin (wsV RX7 62 RX1 yX1_cutTo wsX1_cutTo) := goodIn_app (goodIn_of _ (by decide +kernel)) ggX7_begin_X1_cutTo
theorem dX7_begin_0 : decode cX7_begin 0 = .ok (.iload_n 1, 1) := by decide +kernel
theorem dX7_begin_1 : decode cX7_begin 1 = .ok (.iconst 2, 1) := by decide +kernel
theorem dX7_begin_2 : decode cX7_begin 2 = .ok (.if_icmp .lt 9, 3) := by decide +kernel
theorem dX7_begin_5 : decode cX7_begin 5 = .ok (.iload_n 1, 1) := by decide +kernel
theorem dX7_begin_6 : decode cX7_begin 6 = .ok (.bipush 6, 2) := by decide +kernel
theorem dX7_begin_8 : decode cX7_begin 8 = .ok (.if_icmp .le 13, 3) := by decide +kernel
theorem dX7_begin_11 : decode cX7_begin 11 = .ok (.new 55, 3) := by decide +kernel
theorem dX7_begin_14 : decode cX7_begin 14 = .ok (.dup, 1) := by decide +kernel
theorem dX7_begin_15 : decode cX7_begin 15 = .ok (.ldc 57, 2) := by decide +kernel
theorem dX7_begin_17 : decode cX7_begin 17 = .ok (.invokespecial 59, 3) := by decide +kernel
theorem dX7_begin_20 : decode cX7_begin 20 = .ok (.athrow, 1) := by decide +kernel
theorem dX7_begin_21 : decode cX7_begin 21 = .ok (.aload_n 0, 1) := by decide +kernel
theorem dX7_begin_22 : decode cX7_begin 22 = .ok (.getfield 12, 3) := by decide +kernel
theorem dX7_begin_25 : decode cX7_begin 25 = .ok (.iload_n 1, 1) := by decide +kernel
theorem dX7_begin_26 : decode cX7_begin 26 = .ok (.invokevirtual 47, 3) := by decide +kernel
theorem dX7_begin_29 : decode cX7_begin 29 = .ok (.aload_n 0, 1) := by decide +kernel
theorem dX7_begin_30 : decode cX7_begin 30 = .ok (.getfield 19, 3) := by decide +kernel
theorem dX7_begin_33 : decode cX7_begin 33 = .ok (.iconst 0, 1) := by decide +kernel
theorem dX7_begin_34 : decode cX7_begin 34 = .ok (.invokevirtual 62, 3) := by decide +kernel
theorem dX7_begin_37 : decode cX7_begin 37 = .ok (.aload_n 0, 1) := by decide +kernel
theorem dX7_begin_38 : decode cX7_begin 38 = .ok (.iconst 0, 1) := by decide +kernel
theorem dX7_begin_39 : decode cX7_begin 39 = .ok (.putfield 65, 3) := by decide +kernel
theorem dX7_begin_42 : decode cX7_begin 42 = .ok (.aload_n 0, 1) := by decide +kernel
theorem dX7_begin_43 : decode cX7_begin 43 = .ok (.iconst 1, 1) := by decide +kernel
theorem dX7_begin_44 : decode cX7_begin 44 = .ok (.putfield 51, 3) := by decide +kernel
theorem dX7_begin_47 : decode cX7_begin 47 = .ok (.return_, 1) := by decide +kernel
set_option maxRecDepth 20000 in
theorem ggX7_ports_X2_portCount : GoodIn wsX7_ports wsX2_portCount := goodIn_r _ [6, 7, 16, 17, 18, 19] (by decide +kernel) (by decide +kernel)
set_option maxRecDepth 20000 in
theorem gX7_ports_X2_portCount : GoodIn wsX7_ports (wsV RX7 69 RX2 yX2_portCount wsX2_portCount) := goodIn_app (goodIn_of _ (by decide +kernel)) ggX7_ports_X2_portCount
theorem dX7_ports_0 : decode cX7_ports 0 = .ok (.aload_n 0, 1) := by decide +kernel
theorem dX7_ports_1 : decode cX7_ports 1 = .ok (.getfield 12, 3) := by decide +kernel
theorem dX7_ports_4 : decode cX7_ports 4 = .ok (.invokevirtual 69, 3) := by decide +kernel
theorem dX7_ports_7 : decode cX7_ports 7 = .ok (.ireturn, 1) := by decide +kernel
set_option maxRecDepth 20000 in
theorem ggX7_access_X7_needPort : GoodIn wsX7_access wsX7_needPort := goodIn_ca (goodIn_r _ [9, 10, 11, 3, 12, 13, 14, 15, 16, 17, 36, 37, 38, 39, 40, 41, 42, 43, 44, 45, 46, 47] (by decide +kernel) (by decide +kernel)) (goodIn_sub (fun _ h => List.mem_cons_of_mem _ (List.mem_append_right _ h)) (by decide +kernel))
set_option maxRecDepth 20000 in
theorem gX7_access_X7_needPort : GoodIn wsX7_access (wsV RX7 73 RX7 yX7_needPort wsX7_needPort) := goodIn_app (goodIn_of _ (by decide +kernel)) ggX7_access_X7_needPort
set_option maxRecDepth 20000 in
theorem ggX7_access_X7_isNetwork : GoodIn wsX7_access wsX7_isNetwork := goodIn_r _ [20] (by decide +kernel) (by decide +kernel)
set_option maxRecDepth 20000 in
theorem gX7_access_X7_isNetwork : GoodIn wsX7_access (va_wsS RX7 76 yX7_isNetwork wsX7_isNetwork) := goodIn_app (goodIn_of _ (by decide +kernel)) ggX7_access_X7_isNetwork
set_option maxRecDepth 20000 in
theorem ggX7_access_X2_makeAccess : GoodIn wsX7_access wsX2_makeAccess := goodIn_r _ [24, 25, 26, 27, 28, 15, 29, 30, 31, 32, 8, 33, 34, 35, 44, 45, 46, 47] (by decide +kernel) (by decide +kernel)
set_option maxRecDepth 20000 in
theorem gX7_access_X2_makeAccess : GoodIn wsX7_access (wsV RX7 82 RX2 yX2_makeAccess wsX2_makeAccess) := goodIn_app (goodIn_of _ (by decide +kernel)) ggX7_access_X2_makeAccess
theorem dX7_access_0 : decode cX7_access 0 = .ok (.aload_n 0, 1) := by decide +kernel
theorem dX7_access_1 : decode cX7_access 1 = .ok (.iload_n 1, 1) := by decide +kernel
theorem dX7_access_2 : decode cX7_access 2 = .ok (.invokevirtual 73, 3) := by decide +kernel
theorem dX7_access_5 : decode cX7_access 5 = .ok (.iload_n 2, 1) := by decide +kernel
theorem dX7_access_6 : decode cX7_access 6 = .ok (.invokestatic 76, 3) := by decide +kernel
theorem dX7_access_9 : decode cX7_access 9 = .ok (.ifCond .ne 13, 3) := by decide +kernel
theorem dX7_access_12 : decode cX7_access 12 = .ok (.new 55, 3) := by decide +kernel
theorem dX7_access_15 : decode cX7_access 15 = .ok (.dup, 1) := by decide +kernel
theorem dX7_access_16 : decode cX7_access 16 = .ok (.ldc 80, 2) := by decide +kernel
theorem dX7_access_18 : decode cX7_access 18 = .ok (.invokespecial 59, 3) := by decide +kernel
theorem dX7_access_21 : decode cX7_access 21 = .ok (.athrow, 1) := by decide +kernel
theorem dX7_access_22 : decode cX7_access 22 = .ok (.aload_n 0, 1) := by decide +kernel
theorem dX7_access_23 : decode cX7_access 23 = .ok (.getfield 12, 3) := by decide +kernel
theorem dX7_access_26 : decode cX7_access 26 = .ok (.iload_n 1, 1) := by decide +kernel
theorem dX7_access_27 : decode cX7_access 27 = .ok (.iload_n 2, 1) := by decide +kernel
theorem dX7_access_28 : decode cX7_access 28 = .ok (.invokevirtual 82, 3) := by decide +kernel
theorem dX7_access_31 : decode cX7_access 31 = .ok (.aload_n 0, 1) := by decide +kernel
theorem dX7_access_32 : decode cX7_access 32 = .ok (.iconst 1, 1) := by decide +kernel
theorem dX7_access_33 : decode cX7_access 33 = .ok (.putfield 51, 3) := by decide +kernel
theorem dX7_access_36 : decode cX7_access 36 = .ok (.return_, 1) := by decide +kernel
set_option maxRecDepth 20000 in
theorem ggX7_trunk_X7_needPort : GoodIn wsX7_trunk wsX7_needPort := goodIn_ca (goodIn_r _ [9, 10, 11, 3, 12, 13, 14, 15, 16, 17, 33, 34, 35, 36, 37, 38, 39, 40, 41, 42, 43, 44] (by decide +kernel) (by decide +kernel)) (goodIn_sub (fun _ h => List.mem_cons_of_mem _ (List.mem_append_right _ h)) (by decide +kernel))
set_option maxRecDepth 20000 in
theorem gX7_trunk_X7_needPort : GoodIn wsX7_trunk (wsV RX7 73 RX7 yX7_needPort wsX7_needPort) := goodIn_app (goodIn_of _ (by decide +kernel)) ggX7_trunk_X7_needPort
set_option maxRecDepth 20000 in
theorem ggX7_trunk_X7_isNetwork : GoodIn wsX7_trunk wsX7_isNetwork := goodIn_r _ [20] (by decide +kernel) (by decide +kernel)
set_option maxRecDepth 20000 in
theorem gX7_trunk_X7_isNetwork : GoodIn wsX7_trunk (va_wsS RX7 76 yX7_isNetwork wsX7_isNetwork) := goodIn_app (goodIn_of _ (by decide +kernel)) ggX7_trunk_X7_isNetwork
set_option maxRecDepth 20000 in
theorem ggX7_trunk_X7_hasNetwork : GoodIn wsX7_trunk wsX7_hasNetwork := goodIn_r _ [23] (by decide +kernel) (by decide +kernel)
set_option maxRecDepth 20000 in
theorem gX7_trunk_X7_hasNetwork : GoodIn wsX7_trunk (va_wsS RX7 88 yX7_hasNetwork wsX7_hasNetwork) := goodIn_app (goodIn_of _ (by decide +kernel)) ggX7_trunk_X7_hasNetwork
set_option maxRecDepth 20000 in
theorem ggX7_trunk_X2_makeTrunk : GoodIn wsX7_trunk wsX2_makeTrunk := goodIn_r _ [27, 28, 29, 30, 31, 8, 32, 22, 23, 41, 42, 43, 44] (by decide +kernel) (by decide +kernel)
set_option maxRecDepth 20000 in
theorem gX7_trunk_X2_makeTrunk : GoodIn wsX7_trunk (wsV RX7 94 RX2 yX2_makeTrunk wsX2_makeTrunk) := goodIn_app (goodIn_of _ (by decide +kernel)) ggX7_trunk_X2_makeTrunk
theorem dX7_trunk_0 : decode cX7_trunk 0 = .ok (.aload_n 0, 1) := by decide +kernel
theorem dX7_trunk_1 : decode cX7_trunk 1 = .ok (.iload_n 1, 1) := by decide +kernel
theorem dX7_trunk_2 : decode cX7_trunk 2 = .ok (.invokevirtual 73, 3) := by decide +kernel
theorem dX7_trunk_5 : decode cX7_trunk 5 = .ok (.iload_n 2, 1) := by decide +kernel
theorem dX7_trunk_6 : decode cX7_trunk 6 = .ok (.iconst 1, 1) := by decide +kernel
theorem dX7_trunk_7 : decode cX7_trunk 7 = .ok (.if_icmp .lt 9, 3) := by decide +kernel
theorem dX7_trunk_10 : decode cX7_trunk 10 = .ok (.iload_n 2, 1) := by decide +kernel
theorem dX7_trunk_11 : decode cX7_trunk 11 = .ok (.bipush 15, 2) := by decide +kernel
theorem dX7_trunk_13 : decode cX7_trunk 13 = .ok (.if_icmp .le 13, 3) := by decide +kernel
theorem dX7_trunk_16 : decode cX7_trunk 16 = .ok (.new 55, 3) := by decide +kernel
theorem dX7_trunk_19 : decode cX7_trunk 19 = .ok (.dup, 1) := by decide +kernel
theorem dX7_trunk_20 : decode cX7_trunk 20 = .ok (.ldc 86, 2) := by decide +kernel
theorem dX7_trunk_22 : decode cX7_trunk 22 = .ok (.invokespecial 59, 3) := by decide +kernel
theorem dX7_trunk_25 : decode cX7_trunk 25 = .ok (.athrow, 1) := by decide +kernel
theorem dX7_trunk_26 : decode cX7_trunk 26 = .ok (.iload_n 3, 1) := by decide +kernel
theorem dX7_trunk_27 : decode cX7_trunk 27 = .ok (.ifCond .eq 28, 3) := by decide +kernel
theorem dX7_trunk_30 : decode cX7_trunk 30 = .ok (.iload_n 3, 1) := by decide +kernel
theorem dX7_trunk_31 : decode cX7_trunk 31 = .ok (.invokestatic 76, 3) := by decide +kernel
theorem dX7_trunk_34 : decode cX7_trunk 34 = .ok (.ifCond .eq 11, 3) := by decide +kernel
theorem dX7_trunk_37 : decode cX7_trunk 37 = .ok (.iload_n 2, 1) := by decide +kernel
theorem dX7_trunk_38 : decode cX7_trunk 38 = .ok (.iload_n 3, 1) := by decide +kernel
theorem dX7_trunk_39 : decode cX7_trunk 39 = .ok (.invokestatic 88, 3) := by decide +kernel
theorem dX7_trunk_42 : decode cX7_trunk 42 = .ok (.ifCond .ne 13, 3) := by decide +kernel
theorem dX7_trunk_45 : decode cX7_trunk 45 = .ok (.new 55, 3) := by decide +kernel
theorem dX7_trunk_48 : decode cX7_trunk 48 = .ok (.dup, 1) := by decide +kernel
theorem dX7_trunk_49 : decode cX7_trunk 49 = .ok (.ldc 92, 2) := by decide +kernel
theorem dX7_trunk_51 : decode cX7_trunk 51 = .ok (.invokespecial 59, 3) := by decide +kernel
theorem dX7_trunk_54 : decode cX7_trunk 54 = .ok (.athrow, 1) := by decide +kernel
theorem dX7_trunk_55 : decode cX7_trunk 55 = .ok (.aload_n 0, 1) := by decide +kernel
theorem dX7_trunk_56 : decode cX7_trunk 56 = .ok (.getfield 12, 3) := by decide +kernel
theorem dX7_trunk_59 : decode cX7_trunk 59 = .ok (.iload_n 1, 1) := by decide +kernel
theorem dX7_trunk_60 : decode cX7_trunk 60 = .ok (.iload_n 2, 1) := by decide +kernel
theorem dX7_trunk_61 : decode cX7_trunk 61 = .ok (.iload_n 3, 1) := by decide +kernel
theorem dX7_trunk_62 : decode cX7_trunk 62 = .ok (.invokevirtual 94, 3) := by decide +kernel
theorem dX7_trunk_65 : decode cX7_trunk 65 = .ok (.aload_n 0, 1) := by decide +kernel
theorem dX7_trunk_66 : decode cX7_trunk 66 = .ok (.iconst 1, 1) := by decide +kernel
theorem dX7_trunk_67 : decode cX7_trunk 67 = .ok (.putfield 51, 3) := by decide +kernel
theorem dX7_trunk_70 : decode cX7_trunk 70 = .ok (.return_, 1) := by decide +kernel
set_option maxRecDepth 20000 in
theorem ggX7_fault_X7_needPort : GoodIn wsX7_fault wsX7_needPort := goodIn_ca (goodIn_r _ [9, 10, 11, 12, 13, 14, 15, 16, 17, 18, 22, 23, 24, 25, 26, 27, 28, 29, 30, 31, 32, 33] (by decide +kernel) (by decide +kernel)) (goodIn_sub (fun _ h => List.mem_cons_of_mem _ (List.mem_append_right _ h)) (by decide +kernel))
set_option maxRecDepth 20000 in
theorem gX7_fault_X7_needPort : GoodIn wsX7_fault (wsV RX7 73 RX7 yX7_needPort wsX7_needPort) := goodIn_app (goodIn_of _ (by decide +kernel)) ggX7_fault_X7_needPort
set_option maxRecDepth 20000 in
theorem ggX7_fault_X7_cellOf : GoodIn wsX7_fault wsX7_cellOf := goodIn_r _ [21] (by decide +kernel) (by decide +kernel)
set_option maxRecDepth 20000 in
theorem gX7_fault_X7_cellOf : GoodIn wsX7_fault (va_wsS RX7 100 yX7_cellOf wsX7_cellOf) := goodIn_app (goodIn_of _ (by decide +kernel)) ggX7_fault_X7_cellOf
theorem dX7_fault_0 : decode cX7_fault 0 = .ok (.aload_n 0, 1) := by decide +kernel
theorem dX7_fault_1 : decode cX7_fault 1 = .ok (.iload_n 1, 1) := by decide +kernel
theorem dX7_fault_2 : decode cX7_fault 2 = .ok (.invokevirtual 73, 3) := by decide +kernel
theorem dX7_fault_5 : decode cX7_fault 5 = .ok (.iload_n 2, 1) := by decide +kernel
theorem dX7_fault_6 : decode cX7_fault 6 = .ok (.ifCond .lt 8, 3) := by decide +kernel
theorem dX7_fault_9 : decode cX7_fault 9 = .ok (.iload_n 2, 1) := by decide +kernel
theorem dX7_fault_10 : decode cX7_fault 10 = .ok (.iconst 5, 1) := by decide +kernel
theorem dX7_fault_11 : decode cX7_fault 11 = .ok (.if_icmp .lt 13, 3) := by decide +kernel
theorem dX7_fault_14 : decode cX7_fault 14 = .ok (.new 55, 3) := by decide +kernel
theorem dX7_fault_17 : decode cX7_fault 17 = .ok (.dup, 1) := by decide +kernel
theorem dX7_fault_18 : decode cX7_fault 18 = .ok (.ldc 98, 2) := by decide +kernel
theorem dX7_fault_20 : decode cX7_fault 20 = .ok (.invokespecial 59, 3) := by decide +kernel
theorem dX7_fault_23 : decode cX7_fault 23 = .ok (.athrow, 1) := by decide +kernel
theorem dX7_fault_24 : decode cX7_fault 24 = .ok (.iload_n 2, 1) := by decide +kernel
theorem dX7_fault_25 : decode cX7_fault 25 = .ok (.iload_n 1, 1) := by decide +kernel
theorem dX7_fault_26 : decode cX7_fault 26 = .ok (.invokestatic 100, 3) := by decide +kernel
theorem dX7_fault_29 : decode cX7_fault 29 = .ok (.istore_n 3, 1) := by decide +kernel
theorem dX7_fault_30 : decode cX7_fault 30 = .ok (.aload_n 0, 1) := by decide +kernel
theorem dX7_fault_31 : decode cX7_fault 31 = .ok (.dup, 1) := by decide +kernel
theorem dX7_fault_32 : decode cX7_fault 32 = .ok (.getfield 65, 3) := by decide +kernel
theorem dX7_fault_35 : decode cX7_fault 35 = .ok (.iload_n 3, 1) := by decide +kernel
theorem dX7_fault_36 : decode cX7_fault 36 = .ok (.ixor, 1) := by decide +kernel
theorem dX7_fault_37 : decode cX7_fault 37 = .ok (.putfield 65, 3) := by decide +kernel
theorem dX7_fault_40 : decode cX7_fault 40 = .ok (.aload_n 0, 1) := by decide +kernel
theorem dX7_fault_41 : decode cX7_fault 41 = .ok (.iconst 1, 1) := by decide +kernel
theorem dX7_fault_42 : decode cX7_fault 42 = .ok (.putfield 51, 3) := by decide +kernel
theorem dX7_fault_45 : decode cX7_fault 45 = .ok (.aload_n 0, 1) := by decide +kernel
theorem dX7_fault_46 : decode cX7_fault 46 = .ok (.getfield 65, 3) := by decide +kernel
theorem dX7_fault_49 : decode cX7_fault 49 = .ok (.iload_n 3, 1) := by decide +kernel
theorem dX7_fault_50 : decode cX7_fault 50 = .ok (.iand, 1) := by decide +kernel
theorem dX7_fault_51 : decode cX7_fault 51 = .ok (.ifCond .eq 7, 3) := by decide +kernel
theorem dX7_fault_54 : decode cX7_fault 54 = .ok (.iconst 1, 1) := by decide +kernel
theorem dX7_fault_55 : decode cX7_fault 55 = .ok (.goto 4, 3) := by decide +kernel
theorem dX7_fault_58 : decode cX7_fault 58 = .ok (.iconst 0, 1) := by decide +kernel
theorem dX7_fault_59 : decode cX7_fault 59 = .ok (.ireturn, 1) := by decide +kernel
set_option maxRecDepth 20000 in
theorem ggX7_add_X7_needPort : GoodIn wsX7_add wsX7_needPort := goodIn_ca (goodIn_r _ [11, 12, 13, 14, 15, 16, 17, 18, 19, 20, 41, 42, 43, 44, 45, 46, 47, 48, 49, 50, 51, 52] (by decide +kernel) (by decide +kernel)) (goodIn_sub (fun _ h => List.mem_cons_of_mem _ (List.mem_append_right _ h)) (by decide +kernel))
set_option maxRecDepth 20000 in
theorem gX7_add_X7_needPort : GoodIn wsX7_add (wsV RX7 73 RX7 yX7_needPort wsX7_needPort) := goodIn_app (goodIn_of _ (by decide +kernel)) ggX7_add_X7_needPort
set_option maxRecDepth 20000 in
theorem ggX7_add_X1_size : GoodIn wsX7_add wsX1_size := goodIn_r _ [25, 26, 53, 54] (by decide +kernel) (by decide +kernel)
set_option maxRecDepth 20000 in
theorem gX7_add_X1_size : GoodIn wsX7_add (wsV RX7 110 RX1 yX1_size wsX1_size) := goodIn_app (goodIn_of _ (by decide +kernel)) ggX7_add_X1_size
set_option maxRecDepth 20000 in
theorem ggX7_add_X7_frameOf : GoodIn wsX7_add wsX7_frameOf := goodIn_r _ [29] (by decide +kernel) (by decide +kernel)
set_option maxRecDepth 20000 in
theorem gX7_add_X7_frameOf : GoodIn wsX7_add (va_wsS RX7 118 yX7_frameOf wsX7_frameOf) := goodIn_app (goodIn_of _ (by decide +kernel)) ggX7_add_X7_frameOf
set_option maxRecDepth 20000 in
theorem ggX7_add_X1_append : GoodIn wsX7_add wsX1_append := goodIn_r _ [33, 26, 34, 35, 36, 37, 38, 39, 40, 53, 54, 55] (by decide +kernel) (by decide +kernel)
set_option maxRecDepth 20000 in
theorem gX7_add_X1_append : GoodIn wsX7_add (wsV RX7 122 RX1 yX1_append wsX1_append) := goodIn_app (goodIn_of _ (by decide +kernel)) ggX7_add_X1_append
theorem dX7_add_0 : decode cX7_add 0 = .ok (.aload_n 0, 1) := by decide +kernel
theorem dX7_add_1 : decode cX7_add 1 = .ok (.iload_n 1, 1) := by decide +kernel
theorem dX7_add_2 : decode cX7_add 2 = .ok (.invokevirtual 73, 3) := by decide +kernel
theorem dX7_add_5 : decode cX7_add 5 = .ok (.iload_n 2, 1) := by decide +kernel
theorem dX7_add_6 : decode cX7_add 6 = .ok (.ifCond .lt 8, 3) := by decide +kernel
theorem dX7_add_9 : decode cX7_add 9 = .ok (.iload_n 2, 1) := by decide +kernel
theorem dX7_add_10 : decode cX7_add 10 = .ok (.iconst 5, 1) := by decide +kernel
theorem dX7_add_11 : decode cX7_add 11 = .ok (.if_icmp .lt 13, 3) := by decide +kernel
theorem dX7_add_14 : decode cX7_add 14 = .ok (.new 55, 3) := by decide +kernel
theorem dX7_add_17 : decode cX7_add 17 = .ok (.dup, 1) := by decide +kernel
theorem dX7_add_18 : decode cX7_add 18 = .ok (.ldc 104, 2) := by decide +kernel
theorem dX7_add_20 : decode cX7_add 20 = .ok (.invokespecial 59, 3) := by decide +kernel
theorem dX7_add_23 : decode cX7_add 23 = .ok (.athrow, 1) := by decide +kernel
theorem dX7_add_24 : decode cX7_add 24 = .ok (.iload_n 3, 1) := by decide +kernel
theorem dX7_add_25 : decode cX7_add 25 = .ok (.ifCond .lt 8, 3) := by decide +kernel
theorem dX7_add_28 : decode cX7_add 28 = .ok (.iload_n 3, 1) := by decide +kernel
theorem dX7_add_29 : decode cX7_add 29 = .ok (.iconst 3, 1) := by decide +kernel
theorem dX7_add_30 : decode cX7_add 30 = .ok (.if_icmp .lt 13, 3) := by decide +kernel
theorem dX7_add_33 : decode cX7_add 33 = .ok (.new 55, 3) := by decide +kernel
theorem dX7_add_36 : decode cX7_add 36 = .ok (.dup, 1) := by decide +kernel
theorem dX7_add_37 : decode cX7_add 37 = .ok (.ldc 106, 2) := by decide +kernel
theorem dX7_add_39 : decode cX7_add 39 = .ok (.invokespecial 59, 3) := by decide +kernel
theorem dX7_add_42 : decode cX7_add 42 = .ok (.athrow, 1) := by decide +kernel
theorem dX7_add_43 : decode cX7_add 43 = .ok (.iload 4, 2) := by decide +kernel
theorem dX7_add_45 : decode cX7_add 45 = .ok (.ifCond .lt 9, 3) := by decide +kernel
theorem dX7_add_48 : decode cX7_add 48 = .ok (.iload 4, 2) := by decide +kernel
theorem dX7_add_50 : decode cX7_add 50 = .ok (.iconst 4, 1) := by decide +kernel
theorem dX7_add_51 : decode cX7_add 51 = .ok (.if_icmp .lt 13, 3) := by decide +kernel
theorem dX7_add_54 : decode cX7_add 54 = .ok (.new 55, 3) := by decide +kernel
theorem dX7_add_57 : decode cX7_add 57 = .ok (.dup, 1) := by decide +kernel
theorem dX7_add_58 : decode cX7_add 58 = .ok (.ldc 108, 2) := by decide +kernel
theorem dX7_add_60 : decode cX7_add 60 = .ok (.invokespecial 59, 3) := by decide +kernel
theorem dX7_add_63 : decode cX7_add 63 = .ok (.athrow, 1) := by decide +kernel
theorem dX7_add_64 : decode cX7_add 64 = .ok (.aload_n 0, 1) := by decide +kernel
theorem dX7_add_65 : decode cX7_add 65 = .ok (.getfield 19, 3) := by decide +kernel
theorem dX7_add_68 : decode cX7_add 68 = .ok (.invokevirtual 110, 3) := by decide +kernel
theorem dX7_add_71 : decode cX7_add 71 = .ok (.bipush 60, 2) := by decide +kernel
theorem dX7_add_73 : decode cX7_add 73 = .ok (.if_icmp .lt 13, 3) := by decide +kernel
theorem dX7_add_76 : decode cX7_add 76 = .ok (.new 113, 3) := by decide +kernel
theorem dX7_add_79 : decode cX7_add 79 = .ok (.dup, 1) := by decide +kernel
theorem dX7_add_80 : decode cX7_add 80 = .ok (.ldc 115, 2) := by decide +kernel
theorem dX7_add_82 : decode cX7_add 82 = .ok (.invokespecial 117, 3) := by decide +kernel
theorem dX7_add_85 : decode cX7_add 85 = .ok (.athrow, 1) := by decide +kernel
theorem dX7_add_86 : decode cX7_add 86 = .ok (.aload_n 0, 1) := by decide +kernel
theorem dX7_add_87 : decode cX7_add 87 = .ok (.getfield 19, 3) := by decide +kernel
theorem dX7_add_90 : decode cX7_add 90 = .ok (.iload_n 1, 1) := by decide +kernel
theorem dX7_add_91 : decode cX7_add 91 = .ok (.iload_n 2, 1) := by decide +kernel
theorem dX7_add_92 : decode cX7_add 92 = .ok (.iload_n 3, 1) := by decide +kernel
theorem dX7_add_93 : decode cX7_add 93 = .ok (.iload 4, 2) := by decide +kernel
theorem dX7_add_95 : decode cX7_add 95 = .ok (.invokestatic 118, 3) := by decide +kernel
theorem dX7_add_98 : decode cX7_add 98 = .ok (.invokevirtual 122, 3) := by decide +kernel
theorem dX7_add_101 : decode cX7_add 101 = .ok (.aload_n 0, 1) := by decide +kernel
theorem dX7_add_102 : decode cX7_add 102 = .ok (.iconst 1, 1) := by decide +kernel
theorem dX7_add_103 : decode cX7_add 103 = .ok (.putfield 51, 3) := by decide +kernel
theorem dX7_add_106 : decode cX7_add 106 = .ok (.aload_n 0, 1) := by decide +kernel
theorem dX7_add_107 : decode cX7_add 107 = .ok (.getfield 19, 3) := by decide +kernel
theorem dX7_add_110 : decode cX7_add 110 = .ok (.invokevirtual 110, 3) := by decide +kernel
theorem dX7_add_113 : decode cX7_add 113 = .ok (.iconst 1, 1) := by decide +kernel
theorem dX7_add_114 : decode cX7_add 114 = .ok (.isub, 1) := by decide +kernel
theorem dX7_add_115 : decode cX7_add 115 = .ok (.ireturn, 1) := by decide +kernel
set_option maxRecDepth 20000 in
theorem ggX7_cover_X1_size : GoodIn wsX7_cover wsX1_size := goodIn_r _ [11, 12, 116, 117] (by decide +kernel) (by decide +kernel)
set_option maxRecDepth 20000 in
theorem gX7_cover_X1_size : GoodIn wsX7_cover (wsV RX7 110 RX1 yX1_size wsX1_size) := goodIn_app (goodIn_of _ (by decide +kernel)) ggX7_cover_X1_size
set_option maxRecDepth 20000 in
theorem ggX7_cover_X3_meetAll : GoodIn wsX7_cover wsX3_meetAll := goodIn_r _ [17, 18, 19, 20, 21, 22, 23, 24, 25, 26, 27, 28, 29, 8, 9, 10, 11, 12, 30, 31, 32, 33, 34, 35, 36, 37, 38, 39, 40, 41, 16, 42, 43, 44, 45, 46, 47, 48, 49, 50, 51, 52, 53, 54, 55, 56, 57, 58, 59, 60, 61, 62, 118, 119, 116, 117] (by decide +kernel) (by decide +kernel)
set_option maxRecDepth 20000 in
theorem gX7_cover_X3_meetAll : GoodIn wsX7_cover (wsV RX7 125 RX3 yX3_meetAll wsX3_meetAll) := goodIn_app (goodIn_of _ (by decide +kernel)) ggX7_cover_X3_meetAll
set_option maxRecDepth 20000 in
theorem ggX7_cover_X2_portCount : GoodIn wsX7_cover wsX2_portCount := goodIn_r _ [67, 68, 120, 121, 122, 123] (by decide +kernel) (by decide +kernel)
set_option maxRecDepth 20000 in
theorem gX7_cover_X2_portCount : GoodIn wsX7_cover (wsV RX7 69 RX2 yX2_portCount wsX2_portCount) := goodIn_app (goodIn_of _ (by decide +kernel)) ggX7_cover_X2_portCount
set_option maxRecDepth 20000 in
theorem ggX7_cover_X3_countAll : GoodIn wsX7_cover wsX3_countAll := goodIn_r _ [72] (by decide +kernel) (by decide +kernel)
set_option maxRecDepth 20000 in
theorem gX7_cover_X3_countAll : GoodIn wsX7_cover (wsV RX7 129 RX3 yX3_countAll wsX3_countAll) := goodIn_app (goodIn_of _ (by decide +kernel)) ggX7_cover_X3_countAll
set_option maxRecDepth 20000 in
theorem ggX7_cover_X3_countMet : GoodIn wsX7_cover wsX3_countMet := goodIn_r _ [76, 18, 55, 36, 37, 22, 38, 24, 77, 78, 79, 80, 81, 82, 83, 118, 119] (by decide +kernel) (by decide +kernel)
set_option maxRecDepth 20000 in
theorem gX7_cover_X3_countMet : GoodIn wsX7_cover (wsV RX7 133 RX3 yX3_countMet wsX3_countMet) := goodIn_app (goodIn_of _ (by decide +kernel)) ggX7_cover_X3_countMet
set_option maxRecDepth 20000 in
theorem ggX7_cover_X3_bestFrame : GoodIn wsX7_cover wsX3_bestFrame := goodIn_r _ [87, 88, 89, 90, 16, 91, 92, 47, 93, 94, 95, 96, 97, 18, 43, 44, 45, 46, 48, 49, 50, 51, 52, 53, 54, 56, 57, 58, 55, 36, 37, 22, 38, 24, 77, 78, 79, 80, 81, 82, 83, 118, 119] (by decide +kernel) (by decide +kernel)
set_option maxRecDepth 20000 in
theorem gX7_cover_X3_bestFrame : GoodIn wsX7_cover (wsV RX7 136 RX3 yX3_bestFrame wsX3_bestFrame) := goodIn_app (goodIn_of _ (by decide +kernel)) ggX7_cover_X3_bestFrame
set_option maxRecDepth 20000 in
theorem ggX7_cover_X1_append : GoodIn wsX7_cover wsX1_append := goodIn_r _ [101, 12, 34, 102, 60, 61, 22, 62, 24, 116, 117, 119] (by decide +kernel) (by decide +kernel)
set_option maxRecDepth 20000 in
theorem gX7_cover_X1_append : GoodIn wsX7_cover (wsV RX7 122 RX1 yX1_append wsX1_append) := goodIn_app (goodIn_of _ (by decide +kernel)) ggX7_cover_X1_append
set_option maxRecDepth 20000 in
theorem ggX7_cover_X3_meet : GoodIn wsX7_cover wsX3_meet := goodIn_r _ [42, 18, 43, 44, 16, 45, 46, 47, 48, 49, 50, 51, 52, 53, 54, 55, 36, 37, 22, 38, 24, 56, 57, 58, 59, 60, 61, 62, 118, 119] (by decide +kernel) (by decide +kernel)
set_option maxRecDepth 20000 in
theorem gX7_cover_X3_meet : GoodIn wsX7_cover (wsV RX7 139 RX3 yX3_meet wsX3_meet) := goodIn_app (goodIn_of _ (by decide +kernel)) ggX7_cover_X3_meet
set_option maxRecDepth 20000 in
theorem ggX7_cover_X1_cutTo : GoodIn wsX7_cover wsX1_cutTo := goodIn_r _ [107, 12, 116, 117] (by decide +kernel) (by decide +kernel)
set_option maxRecDepth 20000 in
theorem gX7_cover_X1_cutTo : GoodIn wsX7_cover (wsV RX7 62 RX1 yX1_cutTo wsX1_cutTo) := goodIn_app (goodIn_of _ (by decide +kernel)) ggX7_cover_X1_cutTo
theorem dX7_cover_0 : decode cX7_cover 0 = .ok (.aload_n 0, 1) := by decide +kernel
theorem dX7_cover_1 : decode cX7_cover 1 = .ok (.getfield 19, 3) := by decide +kernel
theorem dX7_cover_4 : decode cX7_cover 4 = .ok (.invokevirtual 110, 3) := by decide +kernel
theorem dX7_cover_7 : decode cX7_cover 7 = .ok (.istore_n 1, 1) := by decide +kernel
theorem dX7_cover_8 : decode cX7_cover 8 = .ok (.aload_n 0, 1) := by decide +kernel
theorem dX7_cover_9 : decode cX7_cover 9 = .ok (.getfield 26, 3) := by decide +kernel
theorem dX7_cover_12 : decode cX7_cover 12 = .ok (.aload_n 0, 1) := by decide +kernel
theorem dX7_cover_13 : decode cX7_cover 13 = .ok (.getfield 19, 3) := by decide +kernel
theorem dX7_cover_16 : decode cX7_cover 16 = .ok (.invokevirtual 125, 3) := by decide +kernel
theorem dX7_cover_19 : decode cX7_cover 19 = .ok (.aload_n 0, 1) := by decide +kernel
theorem dX7_cover_20 : decode cX7_cover 20 = .ok (.getfield 26, 3) := by decide +kernel
theorem dX7_cover_23 : decode cX7_cover 23 = .ok (.aload_n 0, 1) := by decide +kernel
theorem dX7_cover_24 : decode cX7_cover 24 = .ok (.getfield 12, 3) := by decide +kernel
theorem dX7_cover_27 : decode cX7_cover 27 = .ok (.invokevirtual 69, 3) := by decide +kernel
theorem dX7_cover_30 : decode cX7_cover 30 = .ok (.invokevirtual 129, 3) := by decide +kernel
theorem dX7_cover_33 : decode cX7_cover 33 = .ok (.istore_n 2, 1) := by decide +kernel
theorem dX7_cover_34 : decode cX7_cover 34 = .ok (.iload_n 1, 1) := by decide +kernel
theorem dX7_cover_35 : decode cX7_cover 35 = .ok (.istore_n 3, 1) := by decide +kernel
theorem dX7_cover_36 : decode cX7_cover 36 = .ok (.iload_n 3, 1) := by decide +kernel
theorem dX7_cover_37 : decode cX7_cover 37 = .ok (.bipush 60, 2) := by decide +kernel
theorem dX7_cover_39 : decode cX7_cover 39 = .ok (.if_icmp .ge 54, 3) := by decide +kernel
theorem dX7_cover_42 : decode cX7_cover 42 = .ok (.aload_n 0, 1) := by decide +kernel
theorem dX7_cover_43 : decode cX7_cover 43 = .ok (.getfield 26, 3) := by decide +kernel
theorem dX7_cover_46 : decode cX7_cover 46 = .ok (.invokevirtual 133, 3) := by decide +kernel
theorem dX7_cover_49 : decode cX7_cover 49 = .ok (.iload_n 2, 1) := by decide +kernel
theorem dX7_cover_50 : decode cX7_cover 50 = .ok (.if_icmp .ge 43, 3) := by decide +kernel
theorem dX7_cover_53 : decode cX7_cover 53 = .ok (.aload_n 0, 1) := by decide +kernel
theorem dX7_cover_54 : decode cX7_cover 54 = .ok (.getfield 26, 3) := by decide +kernel
theorem dX7_cover_57 : decode cX7_cover 57 = .ok (.aload_n 0, 1) := by decide +kernel
theorem dX7_cover_58 : decode cX7_cover 58 = .ok (.getfield 12, 3) := by decide +kernel
theorem dX7_cover_61 : decode cX7_cover 61 = .ok (.invokevirtual 69, 3) := by decide +kernel
theorem dX7_cover_64 : decode cX7_cover 64 = .ok (.invokevirtual 136, 3) := by decide +kernel
theorem dX7_cover_67 : decode cX7_cover 67 = .ok (.istore 4, 2) := by decide +kernel
theorem dX7_cover_69 : decode cX7_cover 69 = .ok (.aload_n 0, 1) := by decide +kernel
theorem dX7_cover_70 : decode cX7_cover 70 = .ok (.getfield 19, 3) := by decide +kernel
theorem dX7_cover_73 : decode cX7_cover 73 = .ok (.iload 4, 2) := by decide +kernel
theorem dX7_cover_75 : decode cX7_cover 75 = .ok (.invokevirtual 122, 3) := by decide +kernel
theorem dX7_cover_78 : decode cX7_cover 78 = .ok (.aload_n 0, 1) := by decide +kernel
theorem dX7_cover_79 : decode cX7_cover 79 = .ok (.getfield 26, 3) := by decide +kernel
theorem dX7_cover_82 : decode cX7_cover 82 = .ok (.iload 4, 2) := by decide +kernel
theorem dX7_cover_84 : decode cX7_cover 84 = .ok (.invokevirtual 139, 3) := by decide +kernel
theorem dX7_cover_87 : decode cX7_cover 87 = .ok (.iinc 3 1, 3) := by decide +kernel
theorem dX7_cover_90 : decode cX7_cover 90 = .ok (.goto (-54), 3) := by decide +kernel
theorem dX7_cover_93 : decode cX7_cover 93 = .ok (.aload_n 0, 1) := by decide +kernel
theorem dX7_cover_94 : decode cX7_cover 94 = .ok (.getfield 26, 3) := by decide +kernel
theorem dX7_cover_97 : decode cX7_cover 97 = .ok (.invokevirtual 133, 3) := by decide +kernel
theorem dX7_cover_100 : decode cX7_cover 100 = .ok (.iload_n 2, 1) := by decide +kernel
theorem dX7_cover_101 : decode cX7_cover 101 = .ok (.if_icmp .ge 21, 3) := by decide +kernel
theorem dX7_cover_104 : decode cX7_cover 104 = .ok (.aload_n 0, 1) := by decide +kernel
theorem dX7_cover_105 : decode cX7_cover 105 = .ok (.getfield 19, 3) := by decide +kernel
theorem dX7_cover_108 : decode cX7_cover 108 = .ok (.iload_n 1, 1) := by decide +kernel
theorem dX7_cover_109 : decode cX7_cover 109 = .ok (.invokevirtual 62, 3) := by decide +kernel
theorem dX7_cover_112 : decode cX7_cover 112 = .ok (.new 113, 3) := by decide +kernel
theorem dX7_cover_115 : decode cX7_cover 115 = .ok (.dup, 1) := by decide +kernel
theorem dX7_cover_116 : decode cX7_cover 116 = .ok (.ldc 142, 2) := by decide +kernel
theorem dX7_cover_118 : decode cX7_cover 118 = .ok (.invokespecial 117, 3) := by decide +kernel
theorem dX7_cover_121 : decode cX7_cover 121 = .ok (.athrow, 1) := by decide +kernel
theorem dX7_cover_122 : decode cX7_cover 122 = .ok (.aload_n 0, 1) := by decide +kernel
theorem dX7_cover_123 : decode cX7_cover 123 = .ok (.iconst 1, 1) := by decide +kernel
theorem dX7_cover_124 : decode cX7_cover 124 = .ok (.putfield 51, 3) := by decide +kernel
theorem dX7_cover_127 : decode cX7_cover 127 = .ok (.aload_n 0, 1) := by decide +kernel
theorem dX7_cover_128 : decode cX7_cover 128 = .ok (.getfield 19, 3) := by decide +kernel
theorem dX7_cover_131 : decode cX7_cover 131 = .ok (.invokevirtual 110, 3) := by decide +kernel
theorem dX7_cover_134 : decode cX7_cover 134 = .ok (.iload_n 1, 1) := by decide +kernel
theorem dX7_cover_135 : decode cX7_cover 135 = .ok (.isub, 1) := by decide +kernel
theorem dX7_cover_136 : decode cX7_cover 136 = .ok (.ireturn, 1) := by decide +kernel
set_option maxRecDepth 20000 in
theorem ggX7_clear_X1_cutTo : GoodIn wsX7_clear wsX1_cutTo := goodIn_r _ [7, 8, 17, 18] (by decide +kernel) (by decide +kernel)
set_option maxRecDepth 20000 in
theorem gX7_clear_X1_cutTo : GoodIn wsX7_clear (wsV RX7 62 RX1 yX1_cutTo wsX1_cutTo) := goodIn_app (goodIn_of _ (by decide +kernel)) ggX7_clear_X1_cutTo
theorem dX7_clear_0 : decode cX7_clear 0 = .ok (.aload_n 0, 1) := by decide +kernel
theorem dX7_clear_1 : decode cX7_clear 1 = .ok (.getfield 19, 3) := by decide +kernel
theorem dX7_clear_4 : decode cX7_clear 4 = .ok (.iconst 0, 1) := by decide +kernel
theorem dX7_clear_5 : decode cX7_clear 5 = .ok (.invokevirtual 62, 3) := by decide +kernel
theorem dX7_clear_8 : decode cX7_clear 8 = .ok (.aload_n 0, 1) := by decide +kernel
theorem dX7_clear_9 : decode cX7_clear 9 = .ok (.iconst 1, 1) := by decide +kernel
theorem dX7_clear_10 : decode cX7_clear 10 = .ok (.putfield 51, 3) := by decide +kernel
theorem dX7_clear_13 : decode cX7_clear 13 = .ok (.return_, 1) := by decide +kernel
set_option maxRecDepth 20000 in
theorem ggX7_frames_X1_size : GoodIn wsX7_frames wsX1_size := goodIn_r _ [6, 7, 16, 17] (by decide +kernel) (by decide +kernel)
set_option maxRecDepth 20000 in
theorem gX7_frames_X1_size : GoodIn wsX7_frames (wsV RX7 110 RX1 yX1_size wsX1_size) := goodIn_app (goodIn_of _ (by decide +kernel)) ggX7_frames_X1_size
theorem dX7_frames_0 : decode cX7_frames 0 = .ok (.aload_n 0, 1) := by decide +kernel
theorem dX7_frames_1 : decode cX7_frames 1 = .ok (.getfield 19, 3) := by decide +kernel
theorem dX7_frames_4 : decode cX7_frames 4 = .ok (.invokevirtual 110, 3) := by decide +kernel
theorem dX7_frames_7 : decode cX7_frames 7 = .ok (.ireturn, 1) := by decide +kernel
set_option maxRecDepth 20000 in
theorem ggX7_frameAt_X7_needFrame : GoodIn wsX7_frameAt wsX7_needFrame := goodIn_ca (goodIn_r _ [6, 7, 8, 1, 9, 10, 11, 12, 13, 14, 26, 27, 28, 29, 30, 31, 32, 33, 34, 35] (by decide +kernel) (by decide +kernel)) (goodIn_sub (fun _ h => List.mem_cons_of_mem _ (List.mem_append_right _ h)) (by decide +kernel))
set_option maxRecDepth 20000 in
theorem gX7_frameAt_X7_needFrame : GoodIn wsX7_frameAt (wsV RX7 144 RX7 yX7_needFrame wsX7_needFrame) := goodIn_app (goodIn_of _ (by decide +kernel)) ggX7_frameAt_X7_needFrame
set_option maxRecDepth 20000 in
theorem ggX7_frameAt_X1_frame : GoodIn wsX7_frameAt wsX1_frame := goodIn_r _ [18, 19, 20, 21, 22, 23, 24, 25, 34, 35, 36] (by decide +kernel) (by decide +kernel)
set_option maxRecDepth 20000 in
theorem gX7_frameAt_X1_frame : GoodIn wsX7_frameAt (wsV RX7 147 RX1 yX1_frame wsX1_frame) := goodIn_app (goodIn_of _ (by decide +kernel)) ggX7_frameAt_X1_frame
theorem dX7_frameAt_0 : decode cX7_frameAt 0 = .ok (.aload_n 0, 1) := by decide +kernel
theorem dX7_frameAt_1 : decode cX7_frameAt 1 = .ok (.iload_n 1, 1) := by decide +kernel
theorem dX7_frameAt_2 : decode cX7_frameAt 2 = .ok (.invokevirtual 144, 3) := by decide +kernel
theorem dX7_frameAt_5 : decode cX7_frameAt 5 = .ok (.aload_n 0, 1) := by decide +kernel
theorem dX7_frameAt_6 : decode cX7_frameAt 6 = .ok (.getfield 19, 3) := by decide +kernel
theorem dX7_frameAt_9 : decode cX7_frameAt 9 = .ok (.iload_n 1, 1) := by decide +kernel
theorem dX7_frameAt_10 : decode cX7_frameAt 10 = .ok (.invokevirtual 147, 3) := by decide +kernel
theorem dX7_frameAt_13 : decode cX7_frameAt 13 = .ok (.ireturn, 1) := by decide +kernel
set_option maxRecDepth 20000 in
theorem ggX7_pairs_X2_portCount : GoodIn wsX7_pairs wsX2_portCount := goodIn_r _ [7, 8, 22, 23, 24, 25] (by decide +kernel) (by decide +kernel)
set_option maxRecDepth 20000 in
theorem gX7_pairs_X2_portCount : GoodIn wsX7_pairs (wsV RX7 69 RX2 yX2_portCount wsX2_portCount) := goodIn_app (goodIn_of _ (by decide +kernel)) ggX7_pairs_X2_portCount
set_option maxRecDepth 20000 in
theorem ggX7_pairs_X3_countAll : GoodIn wsX7_pairs wsX3_countAll := goodIn_r _ [13] (by decide +kernel) (by decide +kernel)
set_option maxRecDepth 20000 in
theorem gX7_pairs_X3_countAll : GoodIn wsX7_pairs (wsV RX7 129 RX3 yX3_countAll wsX3_countAll) := goodIn_app (goodIn_of _ (by decide +kernel)) ggX7_pairs_X3_countAll
theorem dX7_pairs_0 : decode cX7_pairs 0 = .ok (.aload_n 0, 1) := by decide +kernel
theorem dX7_pairs_1 : decode cX7_pairs 1 = .ok (.getfield 26, 3) := by decide +kernel
theorem dX7_pairs_4 : decode cX7_pairs 4 = .ok (.aload_n 0, 1) := by decide +kernel
theorem dX7_pairs_5 : decode cX7_pairs 5 = .ok (.getfield 12, 3) := by decide +kernel
theorem dX7_pairs_8 : decode cX7_pairs 8 = .ok (.invokevirtual 69, 3) := by decide +kernel
theorem dX7_pairs_11 : decode cX7_pairs 11 = .ok (.invokevirtual 129, 3) := by decide +kernel
theorem dX7_pairs_14 : decode cX7_pairs 14 = .ok (.ireturn, 1) := by decide +kernel
set_option maxRecDepth 20000 in
theorem ggX7_pairsMet_X3_meetAll : GoodIn wsX7_pairsMet wsX3_meetAll := goodIn_r _ [7, 8, 9, 10, 11, 12, 13, 14, 15, 16, 17, 18, 19, 20, 21, 22, 23, 24, 25, 26, 27, 28, 29, 30, 31, 32, 33, 34, 35, 36, 6, 37, 38, 39, 40, 41, 42, 43, 44, 45, 46, 47, 48, 49, 50, 51, 52, 53, 54, 55, 56, 57, 77, 78, 79, 80] (by decide +kernel) (by decide +kernel)
set_option maxRecDepth 20000 in
theorem gX7_pairsMet_X3_meetAll : GoodIn wsX7_pairsMet (wsV RX7 125 RX3 yX3_meetAll wsX3_meetAll) := goodIn_app (goodIn_of _ (by decide +kernel)) ggX7_pairsMet_X3_meetAll
set_option maxRecDepth 20000 in
theorem ggX7_pairsMet_X3_countMet : GoodIn wsX7_pairsMet wsX3_countMet := goodIn_r _ [61, 8, 50, 31, 32, 12, 33, 14, 62, 63, 64, 65, 66, 67, 68, 77, 78] (by decide +kernel) (by decide +kernel)
set_option maxRecDepth 20000 in
theorem gX7_pairsMet_X3_countMet : GoodIn wsX7_pairsMet (wsV RX7 133 RX3 yX3_countMet wsX3_countMet) := goodIn_app (goodIn_of _ (by decide +kernel)) ggX7_pairsMet_X3_countMet
theorem dX7_pairsMet_0 : decode cX7_pairsMet 0 = .ok (.aload_n 0, 1) := by decide +kernel
theorem dX7_pairsMet_1 : decode cX7_pairsMet 1 = .ok (.getfield 26, 3) := by decide +kernel
theorem dX7_pairsMet_4 : decode cX7_pairsMet 4 = .ok (.aload_n 0, 1) := by decide +kernel
theorem dX7_pairsMet_5 : decode cX7_pairsMet 5 = .ok (.getfield 19, 3) := by decide +kernel
theorem dX7_pairsMet_8 : decode cX7_pairsMet 8 = .ok (.invokevirtual 125, 3) := by decide +kernel
theorem dX7_pairsMet_11 : decode cX7_pairsMet 11 = .ok (.aload_n 0, 1) := by decide +kernel
theorem dX7_pairsMet_12 : decode cX7_pairsMet 12 = .ok (.getfield 26, 3) := by decide +kernel
theorem dX7_pairsMet_15 : decode cX7_pairsMet 15 = .ok (.invokevirtual 133, 3) := by decide +kernel
theorem dX7_pairsMet_18 : decode cX7_pairsMet 18 = .ok (.ireturn, 1) := by decide +kernel
set_option maxRecDepth 20000 in
theorem ggX7_expected_X7_needFrame : GoodIn wsX7_expected wsX7_needFrame := goodIn_ca (goodIn_r _ [6, 7, 8, 9, 10, 11, 12, 13, 14, 15, 148, 149, 150, 151, 152, 153, 154, 155, 156, 157] (by decide +kernel) (by decide +kernel)) (goodIn_sub (fun _ h => List.mem_cons_of_mem _ (List.mem_append_right _ h)) (by decide +kernel))
set_option maxRecDepth 20000 in
theorem gX7_expected_X7_needFrame : GoodIn wsX7_expected (wsV RX7 144 RX7 yX7_needFrame wsX7_needFrame) := goodIn_app (goodIn_of _ (by decide +kernel)) ggX7_expected_X7_needFrame
set_option maxRecDepth 20000 in
theorem ggX7_expected_X7_settle : GoodIn wsX7_expected wsX7_settle := goodIn_r _ [19, 20, 1, 21, 9, 22, 23, 24, 25, 26, 27, 28, 29, 30, 31, 32, 33, 34, 35, 36, 37, 38, 39, 40, 41, 42, 43, 44, 45, 46, 47, 48, 49, 50, 51, 11, 12, 13, 14, 15, 52, 53, 54, 55, 56, 57, 58, 59, 60, 61, 62, 63, 64, 65, 66, 67, 68, 69, 70, 71, 72, 5, 73, 74, 75, 76, 77, 78, 79, 80, 81, 82, 83, 84, 85, 86, 87, 88, 89, 90, 91, 92, 93, 94, 95, 96, 97, 98, 99, 100, 101, 102, 103, 104, 105, 106, 107, 108, 109, 110, 111, 112, 113, 114, 115, 116, 117, 118, 119, 120, 121, 122, 123, 124, 125, 126, 127, 128, 129, 130, 131, 132, 133, 134, 135, 136, 137, 138, 139, 140, 141, 142, 148, 149, 150, 151, 152, 153, 154, 155, 158, 159, 160, 161, 162, 163, 164, 165, 166, 167, 156, 157, 168, 169, 170, 171, 172, 173, 174, 175, 176, 177] (by decide +kernel) (by decide +kernel)
set_option maxRecDepth 20000 in
theorem gX7_expected_X7_settle : GoodIn wsX7_expected (wsV RX7 150 RX7 yX7_settle wsX7_settle) := goodIn_app (goodIn_of _ (by decide +kernel)) ggX7_expected_X7_settle
set_option maxRecDepth 20000 in
theorem ggX7_expected_X5_exitsOf : GoodIn wsX7_expected wsX5_exitsOf := goodIn_r _ [146, 31, 147, 58, 59, 44, 60, 46, 158, 159, 160, 161, 167] (by decide +kernel) (by decide +kernel)
set_option maxRecDepth 20000 in
theorem gX7_expected_X5_exitsOf : GoodIn wsX7_expected (wsV RX7 153 RX5 yX5_exitsOf wsX5_exitsOf) := goodIn_app (goodIn_of _ (by decide +kernel)) ggX7_expected_X5_exitsOf
theorem dX7_expected_0 : decode cX7_expected 0 = .ok (.aload_n 0, 1) := by decide +kernel
theorem dX7_expected_1 : decode cX7_expected 1 = .ok (.iload_n 1, 1) := by decide +kernel
theorem dX7_expected_2 : decode cX7_expected 2 = .ok (.invokevirtual 144, 3) := by decide +kernel
theorem dX7_expected_5 : decode cX7_expected 5 = .ok (.aload_n 0, 1) := by decide +kernel
theorem dX7_expected_6 : decode cX7_expected 6 = .ok (.invokevirtual 150, 3) := by decide +kernel
theorem dX7_expected_9 : decode cX7_expected 9 = .ok (.aload_n 0, 1) := by decide +kernel
theorem dX7_expected_10 : decode cX7_expected 10 = .ok (.getfield 33, 3) := by decide +kernel
theorem dX7_expected_13 : decode cX7_expected 13 = .ok (.iload_n 1, 1) := by decide +kernel
theorem dX7_expected_14 : decode cX7_expected 14 = .ok (.invokevirtual 153, 3) := by decide +kernel
theorem dX7_expected_17 : decode cX7_expected 17 = .ok (.ireturn, 1) := by decide +kernel
set_option maxRecDepth 20000 in
theorem ggX7_expectedTagged_X7_needFrame : GoodIn wsX7_expectedTagged wsX7_needFrame := goodIn_ca (goodIn_r _ [6, 7, 8, 9, 10, 11, 12, 13, 14, 15, 148, 149, 150, 151, 152, 153, 154, 155, 156, 157] (by decide +kernel) (by decide +kernel)) (goodIn_sub (fun _ h => List.mem_cons_of_mem _ (List.mem_append_right _ h)) (by decide +kernel))
set_option maxRecDepth 20000 in
theorem gX7_expectedTagged_X7_needFrame : GoodIn wsX7_expectedTagged (wsV RX7 144 RX7 yX7_needFrame wsX7_needFrame) := goodIn_app (goodIn_of _ (by decide +kernel)) ggX7_expectedTagged_X7_needFrame
set_option maxRecDepth 20000 in
theorem ggX7_expectedTagged_X7_settle : GoodIn wsX7_expectedTagged wsX7_settle := goodIn_r _ [19, 20, 1, 21, 9, 22, 23, 24, 25, 26, 27, 28, 29, 30, 31, 32, 33, 34, 35, 36, 37, 38, 39, 40, 41, 42, 43, 44, 45, 46, 47, 48, 49, 50, 51, 11, 12, 13, 14, 15, 52, 53, 54, 55, 56, 57, 58, 59, 60, 61, 62, 63, 64, 65, 66, 67, 68, 69, 70, 71, 72, 5, 73, 74, 75, 76, 77, 78, 79, 80, 81, 82, 83, 84, 85, 86, 87, 88, 89, 90, 91, 92, 93, 94, 95, 96, 97, 98, 99, 100, 101, 102, 103, 104, 105, 106, 107, 108, 109, 110, 111, 112, 113, 114, 115, 116, 117, 118, 119, 120, 121, 122, 123, 124, 125, 126, 127, 128, 129, 130, 131, 132, 133, 134, 135, 136, 137, 138, 139, 140, 141, 142, 148, 149, 150, 151, 152, 153, 154, 155, 158, 159, 160, 161, 162, 163, 164, 165, 166, 167, 156, 157, 168, 169, 170, 171, 172, 173, 174, 175, 176, 177] (by decide +kernel) (by decide +kernel)
set_option maxRecDepth 20000 in
theorem gX7_expectedTagged_X7_settle : GoodIn wsX7_expectedTagged (wsV RX7 150 RX7 yX7_settle wsX7_settle) := goodIn_app (goodIn_of _ (by decide +kernel)) ggX7_expectedTagged_X7_settle
set_option maxRecDepth 20000 in
theorem ggX7_expectedTagged_X5_taggedOf : GoodIn wsX7_expectedTagged wsX5_taggedOf := goodIn_r _ [146, 32, 147, 58, 59, 44, 60, 46, 158, 159, 160, 161, 167] (by decide +kernel) (by decide +kernel)
set_option maxRecDepth 20000 in
theorem gX7_expectedTagged_X5_taggedOf : GoodIn wsX7_expectedTagged (wsV RX7 156 RX5 yX5_taggedOf wsX5_taggedOf) := goodIn_app (goodIn_of _ (by decide +kernel)) ggX7_expectedTagged_X5_taggedOf
theorem dX7_expectedTagged_0 : decode cX7_expectedTagged 0 = .ok (.aload_n 0, 1) := by decide +kernel
theorem dX7_expectedTagged_1 : decode cX7_expectedTagged 1 = .ok (.iload_n 1, 1) := by decide +kernel
theorem dX7_expectedTagged_2 : decode cX7_expectedTagged 2 = .ok (.invokevirtual 144, 3) := by decide +kernel
theorem dX7_expectedTagged_5 : decode cX7_expectedTagged 5 = .ok (.aload_n 0, 1) := by decide +kernel
theorem dX7_expectedTagged_6 : decode cX7_expectedTagged 6 = .ok (.invokevirtual 150, 3) := by decide +kernel
theorem dX7_expectedTagged_9 : decode cX7_expectedTagged 9 = .ok (.aload_n 0, 1) := by decide +kernel
theorem dX7_expectedTagged_10 : decode cX7_expectedTagged 10 = .ok (.getfield 33, 3) := by decide +kernel
theorem dX7_expectedTagged_13 : decode cX7_expectedTagged 13 = .ok (.iload_n 1, 1) := by decide +kernel
theorem dX7_expectedTagged_14 : decode cX7_expectedTagged 14 = .ok (.invokevirtual 156, 3) := by decide +kernel
theorem dX7_expectedTagged_17 : decode cX7_expectedTagged 17 = .ok (.ireturn, 1) := by decide +kernel
set_option maxRecDepth 20000 in
theorem ggX7_reason_X7_needFrame : GoodIn wsX7_reason wsX7_needFrame := goodIn_ca (goodIn_r _ [6, 7, 8, 9, 10, 11, 12, 13, 14, 15, 148, 149, 150, 151, 152, 153, 154, 155, 156, 157] (by decide +kernel) (by decide +kernel)) (goodIn_sub (fun _ h => List.mem_cons_of_mem _ (List.mem_append_right _ h)) (by decide +kernel))
set_option maxRecDepth 20000 in
theorem gX7_reason_X7_needFrame : GoodIn wsX7_reason (wsV RX7 144 RX7 yX7_needFrame wsX7_needFrame) := goodIn_app (goodIn_of _ (by decide +kernel)) ggX7_reason_X7_needFrame
set_option maxRecDepth 20000 in
theorem ggX7_reason_X7_settle : GoodIn wsX7_reason wsX7_settle := goodIn_r _ [19, 20, 1, 21, 9, 22, 23, 24, 25, 26, 27, 28, 29, 30, 31, 32, 33, 34, 35, 36, 37, 38, 39, 40, 41, 42, 43, 44, 45, 46, 47, 48, 49, 50, 51, 11, 12, 13, 14, 15, 52, 53, 54, 55, 56, 57, 58, 59, 60, 61, 62, 63, 64, 65, 66, 67, 68, 69, 70, 71, 72, 5, 73, 74, 75, 76, 77, 78, 79, 80, 81, 82, 83, 84, 85, 86, 87, 88, 89, 90, 91, 92, 93, 94, 95, 96, 97, 98, 99, 100, 101, 102, 103, 104, 105, 106, 107, 108, 109, 110, 111, 112, 113, 114, 115, 116, 117, 118, 119, 120, 121, 122, 123, 124, 125, 126, 127, 128, 129, 130, 131, 132, 133, 134, 135, 136, 137, 138, 139, 140, 141, 142, 148, 149, 150, 151, 152, 153, 154, 155, 158, 159, 160, 161, 162, 163, 164, 165, 166, 167, 156, 157, 168, 169, 170, 171, 172, 173, 174, 175, 176, 177] (by decide +kernel) (by decide +kernel)
set_option maxRecDepth 20000 in
theorem gX7_reason_X7_settle : GoodIn wsX7_reason (wsV RX7 150 RX7 yX7_settle wsX7_settle) := goodIn_app (goodIn_of _ (by decide +kernel)) ggX7_reason_X7_settle
set_option maxRecDepth 20000 in
theorem ggX7_reason_X5_reasonOf : GoodIn wsX7_reason wsX5_reasonOf := goodIn_r _ [146, 33, 147, 58, 59, 44, 60, 46, 158, 159, 160, 161, 167] (by decide +kernel) (by decide +kernel)
set_option maxRecDepth 20000 in
theorem gX7_reason_X5_reasonOf : GoodIn wsX7_reason (wsV RX7 159 RX5 yX5_reasonOf wsX5_reasonOf) := goodIn_app (goodIn_of _ (by decide +kernel)) ggX7_reason_X5_reasonOf
theorem dX7_reason_0 : decode cX7_reason 0 = .ok (.aload_n 0, 1) := by decide +kernel
theorem dX7_reason_1 : decode cX7_reason 1 = .ok (.iload_n 1, 1) := by decide +kernel
theorem dX7_reason_2 : decode cX7_reason 2 = .ok (.invokevirtual 144, 3) := by decide +kernel
theorem dX7_reason_5 : decode cX7_reason 5 = .ok (.aload_n 0, 1) := by decide +kernel
theorem dX7_reason_6 : decode cX7_reason 6 = .ok (.invokevirtual 150, 3) := by decide +kernel
theorem dX7_reason_9 : decode cX7_reason 9 = .ok (.aload_n 0, 1) := by decide +kernel
theorem dX7_reason_10 : decode cX7_reason 10 = .ok (.getfield 33, 3) := by decide +kernel
theorem dX7_reason_13 : decode cX7_reason 13 = .ok (.iload_n 1, 1) := by decide +kernel
theorem dX7_reason_14 : decode cX7_reason 14 = .ok (.invokevirtual 159, 3) := by decide +kernel
theorem dX7_reason_17 : decode cX7_reason 17 = .ok (.ireturn, 1) := by decide +kernel
set_option maxRecDepth 20000 in
theorem ggX7_learned_X7_isNetwork : GoodIn wsX7_learned wsX7_isNetwork := goodIn_r _ [7] (by decide +kernel) (by decide +kernel)
set_option maxRecDepth 20000 in
theorem gX7_learned_X7_isNetwork : GoodIn wsX7_learned (va_wsS RX7 76 yX7_isNetwork wsX7_isNetwork) := goodIn_app (goodIn_of _ (by decide +kernel)) ggX7_learned_X7_isNetwork
set_option maxRecDepth 20000 in
theorem ggX7_learned_X7_settle : GoodIn wsX7_learned wsX7_settle := goodIn_r _ [11, 12, 3, 13, 14, 15, 16, 17, 18, 19, 20, 21, 22, 23, 24, 25, 26, 27, 28, 29, 30, 31, 32, 33, 34, 35, 36, 37, 38, 39, 40, 41, 42, 43, 44, 45, 46, 47, 48, 49, 50, 51, 52, 53, 54, 55, 56, 57, 58, 59, 60, 61, 62, 63, 64, 65, 66, 67, 68, 69, 70, 6, 71, 72, 73, 74, 75, 76, 77, 78, 79, 80, 81, 82, 83, 84, 85, 86, 87, 88, 89, 90, 91, 92, 93, 94, 95, 96, 97, 98, 99, 100, 101, 102, 103, 104, 105, 106, 107, 108, 109, 110, 111, 112, 113, 114, 115, 116, 117, 118, 119, 120, 121, 122, 123, 124, 125, 126, 127, 128, 129, 130, 131, 132, 133, 134, 135, 136, 137, 138, 139, 140, 149, 150, 151, 152, 153, 154, 155, 156, 157, 158, 159, 160, 161, 162, 163, 164, 165, 166, 167, 168, 169, 170, 171, 172, 173, 174, 175, 176, 177, 178] (by decide +kernel) (by decide +kernel)
set_option maxRecDepth 20000 in
theorem gX7_learned_X7_settle : GoodIn wsX7_learned (wsV RX7 150 RX7 yX7_settle wsX7_settle) := goodIn_app (goodIn_of _ (by decide +kernel)) ggX7_learned_X7_settle
set_option maxRecDepth 20000 in
theorem ggX7_learned_X5_placeOf : GoodIn wsX7_learned wsX5_placeOf := goodIn_r _ [144, 23, 145, 146, 147, 30, 148, 33, 102, 103, 104, 115, 56, 57, 37, 58, 39, 157, 158, 159, 160, 161, 162, 163, 164, 165, 166] (by decide +kernel) (by decide +kernel)
set_option maxRecDepth 20000 in
theorem gX7_learned_X5_placeOf : GoodIn wsX7_learned (wsV RX7 164 RX5 yX5_placeOf wsX5_placeOf) := goodIn_app (goodIn_of _ (by decide +kernel)) ggX7_learned_X5_placeOf
theorem dX7_learned_0 : decode cX7_learned 0 = .ok (.iload_n 1, 1) := by decide +kernel
theorem dX7_learned_1 : decode cX7_learned 1 = .ok (.invokestatic 76, 3) := by decide +kernel
theorem dX7_learned_4 : decode cX7_learned 4 = .ok (.ifCond .ne 13, 3) := by decide +kernel
theorem dX7_learned_7 : decode cX7_learned 7 = .ok (.new 55, 3) := by decide +kernel
theorem dX7_learned_10 : decode cX7_learned 10 = .ok (.dup, 1) := by decide +kernel
theorem dX7_learned_11 : decode cX7_learned 11 = .ok (.ldc 80, 2) := by decide +kernel
theorem dX7_learned_13 : decode cX7_learned 13 = .ok (.invokespecial 59, 3) := by decide +kernel
theorem dX7_learned_16 : decode cX7_learned 16 = .ok (.athrow, 1) := by decide +kernel
theorem dX7_learned_17 : decode cX7_learned 17 = .ok (.iload_n 2, 1) := by decide +kernel
theorem dX7_learned_18 : decode cX7_learned 18 = .ok (.ifCond .lt 8, 3) := by decide +kernel
theorem dX7_learned_21 : decode cX7_learned 21 = .ok (.iload_n 2, 1) := by decide +kernel
theorem dX7_learned_22 : decode cX7_learned 22 = .ok (.iconst 3, 1) := by decide +kernel
theorem dX7_learned_23 : decode cX7_learned 23 = .ok (.if_icmp .lt 13, 3) := by decide +kernel
theorem dX7_learned_26 : decode cX7_learned 26 = .ok (.new 55, 3) := by decide +kernel
theorem dX7_learned_29 : decode cX7_learned 29 = .ok (.dup, 1) := by decide +kernel
theorem dX7_learned_30 : decode cX7_learned 30 = .ok (.ldc 162, 2) := by decide +kernel
theorem dX7_learned_32 : decode cX7_learned 32 = .ok (.invokespecial 59, 3) := by decide +kernel
theorem dX7_learned_35 : decode cX7_learned 35 = .ok (.athrow, 1) := by decide +kernel
theorem dX7_learned_36 : decode cX7_learned 36 = .ok (.aload_n 0, 1) := by decide +kernel
theorem dX7_learned_37 : decode cX7_learned 37 = .ok (.invokevirtual 150, 3) := by decide +kernel
theorem dX7_learned_40 : decode cX7_learned 40 = .ok (.aload_n 0, 1) := by decide +kernel
theorem dX7_learned_41 : decode cX7_learned 41 = .ok (.getfield 33, 3) := by decide +kernel
theorem dX7_learned_44 : decode cX7_learned 44 = .ok (.iload_n 1, 1) := by decide +kernel
theorem dX7_learned_45 : decode cX7_learned 45 = .ok (.iload_n 2, 1) := by decide +kernel
theorem dX7_learned_46 : decode cX7_learned 46 = .ok (.invokevirtual 164, 3) := by decide +kernel
theorem dX7_learned_49 : decode cX7_learned 49 = .ok (.ireturn, 1) := by decide +kernel
set_option maxRecDepth 20000 in
theorem ggX7_seen_X7_needFrame : GoodIn wsX7_seen wsX7_needFrame := goodIn_ca (goodIn_r _ [6, 7, 8, 9, 10, 11, 12, 13, 14, 15, 148, 149, 150, 151, 152, 153, 154, 155, 156, 157] (by decide +kernel) (by decide +kernel)) (goodIn_sub (fun _ h => List.mem_cons_of_mem _ (List.mem_append_right _ h)) (by decide +kernel))
set_option maxRecDepth 20000 in
theorem gX7_seen_X7_needFrame : GoodIn wsX7_seen (wsV RX7 144 RX7 yX7_needFrame wsX7_needFrame) := goodIn_app (goodIn_of _ (by decide +kernel)) ggX7_seen_X7_needFrame
set_option maxRecDepth 20000 in
theorem ggX7_seen_X7_settle : GoodIn wsX7_seen wsX7_settle := goodIn_r _ [19, 20, 21, 22, 9, 1, 23, 24, 25, 26, 27, 28, 29, 30, 31, 32, 33, 34, 35, 36, 37, 38, 39, 40, 41, 42, 43, 44, 45, 46, 47, 48, 49, 50, 51, 11, 12, 13, 14, 15, 52, 53, 54, 55, 56, 57, 58, 59, 60, 61, 62, 63, 64, 65, 66, 67, 68, 69, 70, 71, 72, 5, 73, 74, 75, 76, 77, 78, 79, 80, 81, 82, 83, 84, 85, 86, 87, 88, 89, 90, 91, 92, 93, 94, 95, 96, 97, 98, 99, 100, 101, 102, 103, 104, 105, 106, 107, 108, 109, 110, 111, 112, 113, 114, 115, 116, 117, 118, 119, 120, 121, 122, 123, 124, 125, 126, 127, 128, 129, 130, 131, 132, 133, 134, 135, 136, 137, 138, 139, 140, 141, 142, 148, 149, 150, 151, 152, 153, 154, 155, 158, 159, 160, 161, 162, 163, 164, 165, 166, 167, 156, 157, 168, 169, 170, 171, 172, 173, 174, 175, 176, 177] (by decide +kernel) (by decide +kernel)
set_option maxRecDepth 20000 in
theorem gX7_seen_X7_settle : GoodIn wsX7_seen (wsV RX7 150 RX7 yX7_settle wsX7_settle) := goodIn_app (goodIn_of _ (by decide +kernel)) ggX7_seen_X7_settle
set_option maxRecDepth 20000 in
theorem ggX7_seen_X5_exitsOf : GoodIn wsX7_seen wsX5_exitsOf := goodIn_r _ [146, 31, 147, 58, 59, 44, 60, 46, 158, 159, 160, 161, 167] (by decide +kernel) (by decide +kernel)
set_option maxRecDepth 20000 in
theorem gX7_seen_X5_exitsOf : GoodIn wsX7_seen (wsV RX7 153 RX5 yX5_exitsOf wsX5_exitsOf) := goodIn_app (goodIn_of _ (by decide +kernel)) ggX7_seen_X5_exitsOf
theorem dX7_seen_0 : decode cX7_seen 0 = .ok (.aload_n 0, 1) := by decide +kernel
theorem dX7_seen_1 : decode cX7_seen 1 = .ok (.iload_n 1, 1) := by decide +kernel
theorem dX7_seen_2 : decode cX7_seen 2 = .ok (.invokevirtual 144, 3) := by decide +kernel
theorem dX7_seen_5 : decode cX7_seen 5 = .ok (.aload_n 0, 1) := by decide +kernel
theorem dX7_seen_6 : decode cX7_seen 6 = .ok (.invokevirtual 150, 3) := by decide +kernel
theorem dX7_seen_9 : decode cX7_seen 9 = .ok (.aload_n 0, 1) := by decide +kernel
theorem dX7_seen_10 : decode cX7_seen 10 = .ok (.getfield 37, 3) := by decide +kernel
theorem dX7_seen_13 : decode cX7_seen 13 = .ok (.iload_n 1, 1) := by decide +kernel
theorem dX7_seen_14 : decode cX7_seen 14 = .ok (.invokevirtual 153, 3) := by decide +kernel
theorem dX7_seen_17 : decode cX7_seen 17 = .ok (.ireturn, 1) := by decide +kernel
set_option maxRecDepth 20000 in
theorem ggX7_seenTagged_X7_needFrame : GoodIn wsX7_seenTagged wsX7_needFrame := goodIn_ca (goodIn_r _ [6, 7, 8, 9, 10, 11, 12, 13, 14, 15, 148, 149, 150, 151, 152, 153, 154, 155, 156, 157] (by decide +kernel) (by decide +kernel)) (goodIn_sub (fun _ h => List.mem_cons_of_mem _ (List.mem_append_right _ h)) (by decide +kernel))
set_option maxRecDepth 20000 in
theorem gX7_seenTagged_X7_needFrame : GoodIn wsX7_seenTagged (wsV RX7 144 RX7 yX7_needFrame wsX7_needFrame) := goodIn_app (goodIn_of _ (by decide +kernel)) ggX7_seenTagged_X7_needFrame
set_option maxRecDepth 20000 in
theorem ggX7_seenTagged_X7_settle : GoodIn wsX7_seenTagged wsX7_settle := goodIn_r _ [19, 20, 21, 22, 9, 1, 23, 24, 25, 26, 27, 28, 29, 30, 31, 32, 33, 34, 35, 36, 37, 38, 39, 40, 41, 42, 43, 44, 45, 46, 47, 48, 49, 50, 51, 11, 12, 13, 14, 15, 52, 53, 54, 55, 56, 57, 58, 59, 60, 61, 62, 63, 64, 65, 66, 67, 68, 69, 70, 71, 72, 5, 73, 74, 75, 76, 77, 78, 79, 80, 81, 82, 83, 84, 85, 86, 87, 88, 89, 90, 91, 92, 93, 94, 95, 96, 97, 98, 99, 100, 101, 102, 103, 104, 105, 106, 107, 108, 109, 110, 111, 112, 113, 114, 115, 116, 117, 118, 119, 120, 121, 122, 123, 124, 125, 126, 127, 128, 129, 130, 131, 132, 133, 134, 135, 136, 137, 138, 139, 140, 141, 142, 148, 149, 150, 151, 152, 153, 154, 155, 158, 159, 160, 161, 162, 163, 164, 165, 166, 167, 156, 157, 168, 169, 170, 171, 172, 173, 174, 175, 176, 177] (by decide +kernel) (by decide +kernel)
set_option maxRecDepth 20000 in
theorem gX7_seenTagged_X7_settle : GoodIn wsX7_seenTagged (wsV RX7 150 RX7 yX7_settle wsX7_settle) := goodIn_app (goodIn_of _ (by decide +kernel)) ggX7_seenTagged_X7_settle
set_option maxRecDepth 20000 in
theorem ggX7_seenTagged_X5_taggedOf : GoodIn wsX7_seenTagged wsX5_taggedOf := goodIn_r _ [146, 32, 147, 58, 59, 44, 60, 46, 158, 159, 160, 161, 167] (by decide +kernel) (by decide +kernel)
set_option maxRecDepth 20000 in
theorem gX7_seenTagged_X5_taggedOf : GoodIn wsX7_seenTagged (wsV RX7 156 RX5 yX5_taggedOf wsX5_taggedOf) := goodIn_app (goodIn_of _ (by decide +kernel)) ggX7_seenTagged_X5_taggedOf
theorem dX7_seenTagged_0 : decode cX7_seenTagged 0 = .ok (.aload_n 0, 1) := by decide +kernel
theorem dX7_seenTagged_1 : decode cX7_seenTagged 1 = .ok (.iload_n 1, 1) := by decide +kernel
theorem dX7_seenTagged_2 : decode cX7_seenTagged 2 = .ok (.invokevirtual 144, 3) := by decide +kernel
theorem dX7_seenTagged_5 : decode cX7_seenTagged 5 = .ok (.aload_n 0, 1) := by decide +kernel
theorem dX7_seenTagged_6 : decode cX7_seenTagged 6 = .ok (.invokevirtual 150, 3) := by decide +kernel
theorem dX7_seenTagged_9 : decode cX7_seenTagged 9 = .ok (.aload_n 0, 1) := by decide +kernel
theorem dX7_seenTagged_10 : decode cX7_seenTagged 10 = .ok (.getfield 37, 3) := by decide +kernel
theorem dX7_seenTagged_13 : decode cX7_seenTagged 13 = .ok (.iload_n 1, 1) := by decide +kernel
theorem dX7_seenTagged_14 : decode cX7_seenTagged 14 = .ok (.invokevirtual 156, 3) := by decide +kernel
theorem dX7_seenTagged_17 : decode cX7_seenTagged 17 = .ok (.ireturn, 1) := by decide +kernel
set_option maxRecDepth 20000 in
theorem ggX7_differing_X7_settle : GoodIn wsX7_differing wsX7_settle := goodIn_r _ [6, 7, 8, 9, 1, 10, 11, 12, 13, 14, 15, 16, 17, 18, 19, 20, 21, 22, 23, 24, 25, 26, 27, 28, 29, 30, 31, 32, 33, 34, 35, 36, 37, 38, 39, 40, 41, 42, 43, 44, 45, 46, 47, 48, 49, 50, 51, 52, 53, 54, 55, 56, 57, 58, 59, 60, 61, 62, 63, 64, 65, 5, 66, 67, 68, 69, 70, 71, 72, 73, 74, 75, 76, 77, 78, 79, 80, 81, 82, 83, 84, 85, 86, 87, 88, 89, 90, 91, 92, 93, 94, 95, 96, 97, 98, 99, 100, 101, 102, 103, 104, 105, 106, 107, 108, 109, 110, 111, 112, 113, 114, 115, 116, 117, 118, 119, 120, 121, 122, 123, 124, 125, 126, 127, 128, 129, 130, 131, 132, 133, 134, 135, 150, 151, 152, 153, 154, 155, 156, 157, 158, 159, 160, 161, 162, 163, 164, 165, 166, 167, 168, 169, 170, 171, 172, 173, 174, 175, 176, 177, 178, 179] (by decide +kernel) (by decide +kernel)
set_option maxRecDepth 20000 in
theorem gX7_differing_X7_settle : GoodIn wsX7_differing (wsV RX7 150 RX7 yX7_settle wsX7_settle) := goodIn_app (goodIn_of _ (by decide +kernel)) ggX7_differing_X7_settle
set_option maxRecDepth 20000 in
theorem ggX7_differing_X1_size : GoodIn wsX7_differing wsX1_size := goodIn_r _ [43, 44, 168, 169] (by decide +kernel) (by decide +kernel)
set_option maxRecDepth 20000 in
theorem gX7_differing_X1_size : GoodIn wsX7_differing (wsV RX7 110 RX1 yX1_size wsX1_size) := goodIn_app (goodIn_of _ (by decide +kernel)) ggX7_differing_X1_size
set_option maxRecDepth 20000 in
theorem ggX7_differing_X7_portsThatDiffer : GoodIn wsX7_differing wsX7_portsThatDiffer := goodIn_r _ [140, 8, 10, 141, 142, 143, 16, 144, 19, 145, 51, 52, 32, 53, 34, 146, 147, 148, 149, 20, 150, 151, 152, 153, 154, 155, 156, 157, 158, 159, 160, 161, 167] (by decide +kernel) (by decide +kernel)
set_option maxRecDepth 20000 in
theorem gX7_differing_X7_portsThatDiffer : GoodIn wsX7_differing (wsV RX7 167 RX7 yX7_portsThatDiffer wsX7_portsThatDiffer) := goodIn_app (goodIn_of _ (by decide +kernel)) ggX7_differing_X7_portsThatDiffer
theorem dX7_differing_0 : decode cX7_differing 0 = .ok (.aload_n 0, 1) := by decide +kernel
theorem dX7_differing_1 : decode cX7_differing 1 = .ok (.invokevirtual 150, 3) := by decide +kernel
theorem dX7_differing_4 : decode cX7_differing 4 = .ok (.lconst 0, 1) := by decide +kernel
theorem dX7_differing_5 : decode cX7_differing 5 = .ok (.lstore_n 1, 1) := by decide +kernel
theorem dX7_differing_6 : decode cX7_differing 6 = .ok (.iconst 0, 1) := by decide +kernel
theorem dX7_differing_7 : decode cX7_differing 7 = .ok (.istore_n 3, 1) := by decide +kernel
theorem dX7_differing_8 : decode cX7_differing 8 = .ok (.iload_n 3, 1) := by decide +kernel
theorem dX7_differing_9 : decode cX7_differing 9 = .ok (.aload_n 0, 1) := by decide +kernel
theorem dX7_differing_10 : decode cX7_differing 10 = .ok (.getfield 19, 3) := by decide +kernel
theorem dX7_differing_13 : decode cX7_differing 13 = .ok (.invokevirtual 110, 3) := by decide +kernel
theorem dX7_differing_16 : decode cX7_differing 16 = .ok (.if_icmp .ge 23, 3) := by decide +kernel
theorem dX7_differing_19 : decode cX7_differing 19 = .ok (.aload_n 0, 1) := by decide +kernel
theorem dX7_differing_20 : decode cX7_differing 20 = .ok (.iload_n 3, 1) := by decide +kernel
theorem dX7_differing_21 : decode cX7_differing 21 = .ok (.invokevirtual 167, 3) := by decide +kernel
theorem dX7_differing_24 : decode cX7_differing 24 = .ok (.ifCond .eq 9, 3) := by decide +kernel
theorem dX7_differing_27 : decode cX7_differing 27 = .ok (.lload_n 1, 1) := by decide +kernel
theorem dX7_differing_28 : decode cX7_differing 28 = .ok (.lconst 1, 1) := by decide +kernel
theorem dX7_differing_29 : decode cX7_differing 29 = .ok (.iload_n 3, 1) := by decide +kernel
theorem dX7_differing_30 : decode cX7_differing 30 = .ok (.lshl, 1) := by decide +kernel
theorem dX7_differing_31 : decode cX7_differing 31 = .ok (.lor, 1) := by decide +kernel
theorem dX7_differing_32 : decode cX7_differing 32 = .ok (.lstore_n 1, 1) := by decide +kernel
theorem dX7_differing_33 : decode cX7_differing 33 = .ok (.iinc 3 1, 3) := by decide +kernel
theorem dX7_differing_36 : decode cX7_differing 36 = .ok (.goto (-28), 3) := by decide +kernel
theorem dX7_differing_39 : decode cX7_differing 39 = .ok (.lload_n 1, 1) := by decide +kernel
theorem dX7_differing_40 : decode cX7_differing 40 = .ok (.lreturn, 1) := by decide +kernel
set_option maxRecDepth 20000 in
theorem ggX7_differencesAt_X7_needPort : GoodIn wsX7_differencesAt wsX7_needPort := goodIn_ca (goodIn_r _ [6, 7, 8, 9, 10, 11, 12, 13, 14, 15, 161, 162, 163, 164, 165, 166, 167, 168, 169, 170, 171, 172] (by decide +kernel) (by decide +kernel)) (goodIn_sub (fun _ h => List.mem_cons_of_mem _ (List.mem_append_right _ h)) (by decide +kernel))
set_option maxRecDepth 20000 in
theorem gX7_differencesAt_X7_needPort : GoodIn wsX7_differencesAt (wsV RX7 73 RX7 yX7_needPort wsX7_needPort) := goodIn_app (goodIn_of _ (by decide +kernel)) ggX7_differencesAt_X7_needPort
set_option maxRecDepth 20000 in
theorem ggX7_differencesAt_X7_settle : GoodIn wsX7_differencesAt wsX7_settle := goodIn_r _ [19, 20, 21, 9, 1, 22, 23, 24, 25, 26, 27, 28, 29, 30, 31, 32, 33, 34, 35, 36, 37, 38, 39, 40, 41, 42, 43, 44, 45, 46, 47, 48, 49, 50, 51, 52, 53, 54, 55, 56, 57, 58, 59, 60, 61, 62, 63, 64, 65, 66, 67, 68, 69, 70, 71, 72, 73, 74, 75, 76, 77, 5, 78, 79, 80, 81, 82, 83, 84, 85, 86, 87, 88, 89, 90, 91, 13, 92, 93, 94, 95, 96, 97, 98, 99, 100, 101, 102, 103, 104, 105, 106, 107, 108, 109, 110, 111, 112, 113, 114, 115, 116, 117, 118, 119, 120, 121, 122, 123, 124, 125, 126, 127, 128, 129, 130, 131, 132, 133, 134, 135, 136, 137, 138, 139, 140, 141, 142, 143, 144, 145, 146, 161, 162, 163, 164, 165, 166, 167, 168, 173, 174, 175, 176, 177, 178, 179, 180, 181, 182, 183, 184, 169, 170, 171, 172, 185, 186, 187, 188, 189, 190] (by decide +kernel) (by decide +kernel)
set_option maxRecDepth 20000 in
theorem gX7_differencesAt_X7_settle : GoodIn wsX7_differencesAt (wsV RX7 150 RX7 yX7_settle wsX7_settle) := goodIn_app (goodIn_of _ (by decide +kernel)) ggX7_differencesAt_X7_settle
set_option maxRecDepth 20000 in
theorem ggX7_differencesAt_X1_size : GoodIn wsX7_differencesAt wsX1_size := goodIn_r _ [55, 56, 183, 184] (by decide +kernel) (by decide +kernel)
set_option maxRecDepth 20000 in
theorem gX7_differencesAt_X1_size : GoodIn wsX7_differencesAt (wsV RX7 110 RX1 yX1_size wsX1_size) := goodIn_app (goodIn_of _ (by decide +kernel)) ggX7_differencesAt_X1_size
set_option maxRecDepth 20000 in
theorem ggX7_differencesAt_X7_portsThatDiffer : GoodIn wsX7_differencesAt wsX7_portsThatDiffer := goodIn_r _ [151, 21, 22, 152, 153, 154, 28, 155, 31, 156, 63, 64, 44, 65, 46, 157, 158, 159, 160, 32, 161, 162, 163, 164, 165, 166, 167, 168, 173, 174, 175, 176, 182] (by decide +kernel) (by decide +kernel)
set_option maxRecDepth 20000 in
theorem gX7_differencesAt_X7_portsThatDiffer : GoodIn wsX7_differencesAt (wsV RX7 167 RX7 yX7_portsThatDiffer wsX7_portsThatDiffer) := goodIn_app (goodIn_of _ (by decide +kernel)) ggX7_differencesAt_X7_portsThatDiffer
theorem dX7_differencesAt_0 : decode cX7_differencesAt 0 = .ok (.aload_n 0, 1) := by decide +kernel
theorem dX7_differencesAt_1 : decode cX7_differencesAt 1 = .ok (.iload_n 1, 1) := by decide +kernel
theorem dX7_differencesAt_2 : decode cX7_differencesAt 2 = .ok (.invokevirtual 73, 3) := by decide +kernel
theorem dX7_differencesAt_5 : decode cX7_differencesAt 5 = .ok (.aload_n 0, 1) := by decide +kernel
theorem dX7_differencesAt_6 : decode cX7_differencesAt 6 = .ok (.invokevirtual 150, 3) := by decide +kernel
theorem dX7_differencesAt_9 : decode cX7_differencesAt 9 = .ok (.iconst 0, 1) := by decide +kernel
theorem dX7_differencesAt_10 : decode cX7_differencesAt 10 = .ok (.istore_n 2, 1) := by decide +kernel
theorem dX7_differencesAt_11 : decode cX7_differencesAt 11 = .ok (.iconst 0, 1) := by decide +kernel
theorem dX7_differencesAt_12 : decode cX7_differencesAt 12 = .ok (.istore_n 3, 1) := by decide +kernel
theorem dX7_differencesAt_13 : decode cX7_differencesAt 13 = .ok (.iload_n 3, 1) := by decide +kernel
theorem dX7_differencesAt_14 : decode cX7_differencesAt 14 = .ok (.aload_n 0, 1) := by decide +kernel
theorem dX7_differencesAt_15 : decode cX7_differencesAt 15 = .ok (.getfield 19, 3) := by decide +kernel
theorem dX7_differencesAt_18 : decode cX7_differencesAt 18 = .ok (.invokevirtual 110, 3) := by decide +kernel
theorem dX7_differencesAt_21 : decode cX7_differencesAt 21 = .ok (.if_icmp .ge 21, 3) := by decide +kernel
theorem dX7_differencesAt_24 : decode cX7_differencesAt 24 = .ok (.iload_n 2, 1) := by decide +kernel
theorem dX7_differencesAt_25 : decode cX7_differencesAt 25 = .ok (.aload_n 0, 1) := by decide +kernel
theorem dX7_differencesAt_26 : decode cX7_differencesAt 26 = .ok (.iload_n 3, 1) := by decide +kernel
theorem dX7_differencesAt_27 : decode cX7_differencesAt 27 = .ok (.invokevirtual 167, 3) := by decide +kernel
theorem dX7_differencesAt_30 : decode cX7_differencesAt 30 = .ok (.iload_n 1, 1) := by decide +kernel
theorem dX7_differencesAt_31 : decode cX7_differencesAt 31 = .ok (.ishr, 1) := by decide +kernel
theorem dX7_differencesAt_32 : decode cX7_differencesAt 32 = .ok (.iconst 1, 1) := by decide +kernel
theorem dX7_differencesAt_33 : decode cX7_differencesAt 33 = .ok (.iand, 1) := by decide +kernel
theorem dX7_differencesAt_34 : decode cX7_differencesAt 34 = .ok (.iadd, 1) := by decide +kernel
theorem dX7_differencesAt_35 : decode cX7_differencesAt 35 = .ok (.istore_n 2, 1) := by decide +kernel
theorem dX7_differencesAt_36 : decode cX7_differencesAt 36 = .ok (.iinc 3 1, 3) := by decide +kernel
theorem dX7_differencesAt_39 : decode cX7_differencesAt 39 = .ok (.goto (-26), 3) := by decide +kernel
theorem dX7_differencesAt_42 : decode cX7_differencesAt 42 = .ok (.iload_n 2, 1) := by decide +kernel
theorem dX7_differencesAt_43 : decode cX7_differencesAt 43 = .ok (.ireturn, 1) := by decide +kernel
set_option maxRecDepth 20000 in
theorem ggX7_blame_X7_settle : GoodIn wsX7_blame wsX7_settle := goodIn_r _ [9, 10, 11, 2, 3, 4, 12, 1, 13, 14, 15, 16, 17, 18, 19, 20, 21, 22, 23, 24, 25, 26, 27, 28, 29, 30, 31, 32, 33, 34, 35, 36, 37, 38, 39, 40, 41, 42, 43, 44, 45, 46, 47, 48, 49, 50, 51, 52, 53, 54, 55, 56, 57, 58, 59, 60, 61, 62, 63, 64, 65, 8, 66, 67, 68, 69, 70, 71, 72, 73, 74, 75, 76, 77, 78, 79, 80, 81, 82, 83, 84, 85, 86, 87, 88, 89, 90, 91, 92, 93, 94, 95, 96, 97, 98, 99, 100, 101, 102, 103, 104, 105, 106, 107, 108, 109, 110, 111, 112, 113, 114, 115, 116, 117, 118, 119, 120, 121, 122, 123, 124, 125, 126, 127, 128, 129, 130, 131, 132, 133, 134, 135, 192, 193, 194, 195, 196, 197, 198, 199, 200, 201, 202, 203, 204, 205, 206, 207, 208, 209, 210, 211, 212, 213, 214, 215, 216, 217, 218, 219, 220, 221] (by decide +kernel) (by decide +kernel)
set_option maxRecDepth 20000 in
theorem gX7_blame_X7_settle : GoodIn wsX7_blame (wsV RX7 150 RX7 yX7_settle wsX7_settle) := goodIn_app (goodIn_of _ (by decide +kernel)) ggX7_blame_X7_settle
set_option maxRecDepth 20000 in
theorem ggX7_blame_X6_findFewest : GoodIn wsX7_blame wsX6_findFewest := goodIn_r _ [139, 135, 140, 141, 142, 143, 144, 133, 145, 146, 147, 148, 149, 150, 151, 23, 24, 25, 26, 27, 28, 29, 30, 31, 32, 33, 34, 35, 36, 37, 38, 152, 40, 41, 42, 43, 44, 153, 46, 47, 48, 49, 50, 51, 52, 53, 154, 55, 56, 57, 58, 59, 60, 61, 62, 63, 64, 65, 8, 66, 67, 68, 69, 70, 71, 72, 73, 74, 75, 76, 77, 78, 79, 80, 81, 82, 83, 84, 85, 86, 87, 88, 89, 90, 91, 92, 93, 94, 95, 96, 97, 98, 99, 100, 101, 102, 103, 104, 105, 106, 107, 108, 109, 110, 111, 112, 113, 114, 115, 116, 155, 118, 119, 120, 156, 157, 158, 16, 159, 19, 160, 161, 123, 124, 125, 162, 163, 164, 165, 20, 166, 167, 168, 169, 170, 171, 172, 173, 174, 175, 176, 177, 178, 179, 180, 181, 182, 183, 184, 185, 186, 187, 216, 217, 218, 219, 220, 221, 204, 205, 206, 207, 208, 209, 210, 211, 212, 213, 214, 215, 200, 201, 202, 203] (by decide +kernel) (by decide +kernel)
set_option maxRecDepth 20000 in
theorem gX7_blame_X6_findFewest : GoodIn wsX7_blame (wsV RX7 170 RX6 yX6_findFewest wsX6_findFewest) := goodIn_app (goodIn_of _ (by decide +kernel)) ggX7_blame_X6_findFewest
set_option maxRecDepth 20000 in
theorem ggX7_blame_X6_fewest : GoodIn wsX7_blame wsX6_fewest := goodIn_r _ [191, 141, 216, 217, 218, 219, 220, 221] (by decide +kernel) (by decide +kernel)
set_option maxRecDepth 20000 in
theorem gX7_blame_X6_fewest : GoodIn wsX7_blame (wsV RX7 174 RX6 yX6_fewest wsX6_fewest) := goodIn_app (goodIn_of _ (by decide +kernel)) ggX7_blame_X6_fewest
theorem dX7_blame_0 : decode cX7_blame 0 = .ok (.aload_n 0, 1) := by decide +kernel
theorem dX7_blame_1 : decode cX7_blame 1 = .ok (.invokevirtual 150, 3) := by decide +kernel
theorem dX7_blame_4 : decode cX7_blame 4 = .ok (.aload_n 0, 1) := by decide +kernel
theorem dX7_blame_5 : decode cX7_blame 5 = .ok (.getfield 43, 3) := by decide +kernel
theorem dX7_blame_8 : decode cX7_blame 8 = .ok (.aload_n 0, 1) := by decide +kernel
theorem dX7_blame_9 : decode cX7_blame 9 = .ok (.getfield 12, 3) := by decide +kernel
theorem dX7_blame_12 : decode cX7_blame 12 = .ok (.aload_n 0, 1) := by decide +kernel
theorem dX7_blame_13 : decode cX7_blame 13 = .ok (.getfield 19, 3) := by decide +kernel
theorem dX7_blame_16 : decode cX7_blame 16 = .ok (.aload_n 0, 1) := by decide +kernel
theorem dX7_blame_17 : decode cX7_blame 17 = .ok (.getfield 37, 3) := by decide +kernel
theorem dX7_blame_20 : decode cX7_blame 20 = .ok (.invokevirtual 170, 3) := by decide +kernel
theorem dX7_blame_23 : decode cX7_blame 23 = .ok (.aload_n 0, 1) := by decide +kernel
theorem dX7_blame_24 : decode cX7_blame 24 = .ok (.getfield 43, 3) := by decide +kernel
theorem dX7_blame_27 : decode cX7_blame 27 = .ok (.invokevirtual 174, 3) := by decide +kernel
theorem dX7_blame_30 : decode cX7_blame 30 = .ok (.ireturn, 1) := by decide +kernel
set_option maxRecDepth 20000 in
theorem ggX7_blamed_X7_settle : GoodIn wsX7_blamed wsX7_settle := goodIn_r _ [11, 12, 13, 4, 5, 6, 14, 3, 15, 16, 17, 18, 19, 20, 21, 22, 23, 24, 25, 26, 27, 28, 29, 30, 31, 32, 33, 34, 35, 36, 37, 38, 39, 40, 41, 42, 43, 44, 45, 46, 47, 48, 49, 50, 51, 52, 53, 54, 55, 56, 57, 58, 59, 60, 61, 62, 63, 64, 65, 66, 67, 10, 68, 69, 70, 71, 72, 73, 74, 75, 76, 77, 78, 79, 80, 81, 82, 83, 84, 85, 86, 87, 88, 89, 90, 91, 92, 93, 94, 95, 96, 97, 98, 99, 100, 101, 102, 103, 104, 105, 106, 107, 108, 109, 110, 111, 112, 113, 114, 115, 116, 117, 118, 119, 120, 121, 122, 123, 124, 125, 126, 127, 128, 129, 130, 131, 132, 133, 134, 135, 136, 137, 201, 202, 203, 204, 205, 206, 207, 208, 209, 210, 211, 212, 213, 214, 215, 216, 217, 218, 219, 220, 221, 222, 223, 224, 225, 226, 227, 228, 229, 230] (by decide +kernel) (by decide +kernel)
set_option maxRecDepth 20000 in
theorem gX7_blamed_X7_settle : GoodIn wsX7_blamed (wsV RX7 150 RX7 yX7_settle wsX7_settle) := goodIn_app (goodIn_of _ (by decide +kernel)) ggX7_blamed_X7_settle
set_option maxRecDepth 20000 in
theorem ggX7_blamed_X6_findFewest : GoodIn wsX7_blamed wsX6_findFewest := goodIn_r _ [141, 137, 142, 143, 144, 145, 146, 135, 147, 148, 149, 150, 151, 152, 153, 25, 26, 27, 28, 29, 30, 31, 32, 33, 34, 35, 36, 37, 38, 39, 40, 154, 42, 43, 44, 45, 46, 155, 48, 49, 50, 51, 52, 53, 54, 55, 156, 57, 58, 59, 60, 61, 62, 63, 64, 65, 66, 67, 10, 68, 69, 70, 71, 72, 73, 74, 75, 76, 77, 78, 79, 80, 81, 82, 83, 84, 85, 86, 87, 88, 89, 90, 91, 92, 93, 94, 95, 96, 97, 98, 99, 100, 101, 102, 103, 104, 105, 106, 107, 108, 109, 110, 111, 112, 113, 114, 115, 116, 117, 118, 157, 120, 121, 122, 158, 159, 160, 18, 161, 21, 162, 163, 125, 126, 127, 164, 165, 166, 167, 22, 168, 169, 170, 171, 172, 173, 174, 175, 176, 177, 178, 179, 180, 181, 182, 183, 184, 185, 186, 187, 188, 189, 225, 226, 227, 228, 229, 230, 213, 214, 215, 216, 217, 218, 219, 220, 221, 222, 223, 224, 209, 210, 211, 212] (by decide +kernel) (by decide +kernel)
set_option maxRecDepth 20000 in
theorem gX7_blamed_X6_findFewest : GoodIn wsX7_blamed (wsV RX7 170 RX6 yX6_findFewest wsX6_findFewest) := goodIn_app (goodIn_of _ (by decide +kernel)) ggX7_blamed_X6_findFewest
set_option maxRecDepth 20000 in
theorem ggX7_blamed_X6_fewest : GoodIn wsX7_blamed wsX6_fewest := goodIn_r _ [193, 143, 225, 226, 227, 228, 229, 230] (by decide +kernel) (by decide +kernel)
set_option maxRecDepth 20000 in
theorem gX7_blamed_X6_fewest : GoodIn wsX7_blamed (wsV RX7 174 RX6 yX6_fewest wsX6_fewest) := goodIn_app (goodIn_of _ (by decide +kernel)) ggX7_blamed_X6_fewest
set_option maxRecDepth 20000 in
theorem ggX7_blamed_X6_culprit : GoodIn wsX7_blamed wsX6_culprit := goodIn_r _ [197, 172, 173, 198, 199, 135, 200, 225, 226, 227, 228, 229, 230] (by decide +kernel) (by decide +kernel)
set_option maxRecDepth 20000 in
theorem gX7_blamed_X6_culprit : GoodIn wsX7_blamed (wsV RX7 182 RX6 yX6_culprit wsX6_culprit) := goodIn_app (goodIn_of _ (by decide +kernel)) ggX7_blamed_X6_culprit
theorem dX7_blamed_0 : decode cX7_blamed 0 = .ok (.aload_n 0, 1) := by decide +kernel
theorem dX7_blamed_1 : decode cX7_blamed 1 = .ok (.invokevirtual 150, 3) := by decide +kernel
theorem dX7_blamed_4 : decode cX7_blamed 4 = .ok (.aload_n 0, 1) := by decide +kernel
theorem dX7_blamed_5 : decode cX7_blamed 5 = .ok (.getfield 43, 3) := by decide +kernel
theorem dX7_blamed_8 : decode cX7_blamed 8 = .ok (.aload_n 0, 1) := by decide +kernel
theorem dX7_blamed_9 : decode cX7_blamed 9 = .ok (.getfield 12, 3) := by decide +kernel
theorem dX7_blamed_12 : decode cX7_blamed 12 = .ok (.aload_n 0, 1) := by decide +kernel
theorem dX7_blamed_13 : decode cX7_blamed 13 = .ok (.getfield 19, 3) := by decide +kernel
theorem dX7_blamed_16 : decode cX7_blamed 16 = .ok (.aload_n 0, 1) := by decide +kernel
theorem dX7_blamed_17 : decode cX7_blamed 17 = .ok (.getfield 37, 3) := by decide +kernel
theorem dX7_blamed_20 : decode cX7_blamed 20 = .ok (.invokevirtual 170, 3) := by decide +kernel
theorem dX7_blamed_23 : decode cX7_blamed 23 = .ok (.iload_n 1, 1) := by decide +kernel
theorem dX7_blamed_24 : decode cX7_blamed 24 = .ok (.ifCond .lt 14, 3) := by decide +kernel
theorem dX7_blamed_27 : decode cX7_blamed 27 = .ok (.iload_n 1, 1) := by decide +kernel
theorem dX7_blamed_28 : decode cX7_blamed 28 = .ok (.aload_n 0, 1) := by decide +kernel
theorem dX7_blamed_29 : decode cX7_blamed 29 = .ok (.getfield 43, 3) := by decide +kernel
theorem dX7_blamed_32 : decode cX7_blamed 32 = .ok (.invokevirtual 174, 3) := by decide +kernel
theorem dX7_blamed_35 : decode cX7_blamed 35 = .ok (.if_icmp .lt 13, 3) := by decide +kernel
theorem dX7_blamed_38 : decode cX7_blamed 38 = .ok (.new 177, 3) := by decide +kernel
theorem dX7_blamed_41 : decode cX7_blamed 41 = .ok (.dup, 1) := by decide +kernel
theorem dX7_blamed_42 : decode cX7_blamed 42 = .ok (.ldc 179, 2) := by decide +kernel
theorem dX7_blamed_44 : decode cX7_blamed 44 = .ok (.invokespecial 181, 3) := by decide +kernel
theorem dX7_blamed_47 : decode cX7_blamed 47 = .ok (.athrow, 1) := by decide +kernel
theorem dX7_blamed_48 : decode cX7_blamed 48 = .ok (.aload_n 0, 1) := by decide +kernel
theorem dX7_blamed_49 : decode cX7_blamed 49 = .ok (.getfield 43, 3) := by decide +kernel
theorem dX7_blamed_52 : decode cX7_blamed 52 = .ok (.iload_n 1, 1) := by decide +kernel
theorem dX7_blamed_53 : decode cX7_blamed 53 = .ok (.invokevirtual 182, 3) := by decide +kernel
theorem dX7_blamed_56 : decode cX7_blamed 56 = .ok (.ireturn, 1) := by decide +kernel
set_option maxRecDepth 20000 in
theorem ggX7_explanations_X7_settle : GoodIn wsX7_explanations wsX7_settle := goodIn_r _ [9, 10, 11, 2, 3, 4, 12, 1, 13, 14, 15, 16, 17, 18, 19, 20, 21, 22, 23, 24, 25, 26, 27, 28, 29, 30, 31, 32, 33, 34, 35, 36, 37, 38, 39, 40, 41, 42, 43, 44, 45, 46, 47, 48, 49, 50, 51, 52, 53, 54, 55, 56, 57, 58, 59, 60, 61, 62, 63, 64, 65, 8, 66, 67, 68, 69, 70, 71, 72, 73, 74, 75, 76, 77, 78, 79, 80, 81, 82, 83, 84, 85, 86, 87, 88, 89, 90, 91, 92, 93, 94, 95, 96, 97, 98, 99, 100, 101, 102, 103, 104, 105, 106, 107, 108, 109, 110, 111, 112, 113, 114, 115, 116, 117, 118, 119, 120, 121, 122, 123, 124, 125, 126, 127, 128, 129, 130, 131, 132, 133, 134, 135, 192, 193, 194, 195, 196, 197, 198, 199, 200, 201, 202, 203, 204, 205, 206, 207, 208, 209, 210, 211, 212, 213, 214, 215, 216, 217, 218, 219, 220, 221] (by decide +kernel) (by decide +kernel)
set_option maxRecDepth 20000 in
theorem gX7_explanations_X7_settle : GoodIn wsX7_explanations (wsV RX7 150 RX7 yX7_settle wsX7_settle) := goodIn_app (goodIn_of _ (by decide +kernel)) ggX7_explanations_X7_settle
set_option maxRecDepth 20000 in
theorem ggX7_explanations_X6_findFewest : GoodIn wsX7_explanations wsX6_findFewest := goodIn_r _ [139, 135, 140, 141, 142, 143, 144, 133, 145, 146, 147, 148, 149, 150, 151, 23, 24, 25, 26, 27, 28, 29, 30, 31, 32, 33, 34, 35, 36, 37, 38, 152, 40, 41, 42, 43, 44, 153, 46, 47, 48, 49, 50, 51, 52, 53, 154, 55, 56, 57, 58, 59, 60, 61, 62, 63, 64, 65, 8, 66, 67, 68, 69, 70, 71, 72, 73, 74, 75, 76, 77, 78, 79, 80, 81, 82, 83, 84, 85, 86, 87, 88, 89, 90, 91, 92, 93, 94, 95, 96, 97, 98, 99, 100, 101, 102, 103, 104, 105, 106, 107, 108, 109, 110, 111, 112, 113, 114, 115, 116, 155, 118, 119, 120, 156, 157, 158, 16, 159, 19, 160, 161, 123, 124, 125, 162, 163, 164, 165, 20, 166, 167, 168, 169, 170, 171, 172, 173, 174, 175, 176, 177, 178, 179, 180, 181, 182, 183, 184, 185, 186, 187, 216, 217, 218, 219, 220, 221, 204, 205, 206, 207, 208, 209, 210, 211, 212, 213, 214, 215, 200, 201, 202, 203] (by decide +kernel) (by decide +kernel)
set_option maxRecDepth 20000 in
theorem gX7_explanations_X6_findFewest : GoodIn wsX7_explanations (wsV RX7 170 RX6 yX6_findFewest wsX6_findFewest) := goodIn_app (goodIn_of _ (by decide +kernel)) ggX7_explanations_X6_findFewest
set_option maxRecDepth 20000 in
theorem ggX7_explanations_X6_count : GoodIn wsX7_explanations wsX6_count := goodIn_r _ [191, 140, 216, 217, 218, 219, 220, 221] (by decide +kernel) (by decide +kernel)
set_option maxRecDepth 20000 in
theorem gX7_explanations_X6_count : GoodIn wsX7_explanations (wsV RX7 185 RX6 yX6_count wsX6_count) := goodIn_app (goodIn_of _ (by decide +kernel)) ggX7_explanations_X6_count
theorem dX7_explanations_0 : decode cX7_explanations 0 = .ok (.aload_n 0, 1) := by decide +kernel
theorem dX7_explanations_1 : decode cX7_explanations 1 = .ok (.invokevirtual 150, 3) := by decide +kernel
theorem dX7_explanations_4 : decode cX7_explanations 4 = .ok (.aload_n 0, 1) := by decide +kernel
theorem dX7_explanations_5 : decode cX7_explanations 5 = .ok (.getfield 43, 3) := by decide +kernel
theorem dX7_explanations_8 : decode cX7_explanations 8 = .ok (.aload_n 0, 1) := by decide +kernel
theorem dX7_explanations_9 : decode cX7_explanations 9 = .ok (.getfield 12, 3) := by decide +kernel
theorem dX7_explanations_12 : decode cX7_explanations 12 = .ok (.aload_n 0, 1) := by decide +kernel
theorem dX7_explanations_13 : decode cX7_explanations 13 = .ok (.getfield 19, 3) := by decide +kernel
theorem dX7_explanations_16 : decode cX7_explanations 16 = .ok (.aload_n 0, 1) := by decide +kernel
theorem dX7_explanations_17 : decode cX7_explanations 17 = .ok (.getfield 37, 3) := by decide +kernel
theorem dX7_explanations_20 : decode cX7_explanations 20 = .ok (.invokevirtual 170, 3) := by decide +kernel
theorem dX7_explanations_23 : decode cX7_explanations 23 = .ok (.aload_n 0, 1) := by decide +kernel
theorem dX7_explanations_24 : decode cX7_explanations 24 = .ok (.getfield 43, 3) := by decide +kernel
theorem dX7_explanations_27 : decode cX7_explanations 27 = .ok (.invokevirtual 185, 3) := by decide +kernel
theorem dX7_explanations_30 : decode cX7_explanations 30 = .ok (.ireturn, 1) := by decide +kernel
set_option maxRecDepth 20000 in
theorem ggX7_needPort_X2_portCount : GoodIn wsX7_needPort wsX2_portCount := goodIn_r _ [8, 9, 18, 19, 20, 21] (by decide +kernel) (by decide +kernel)
set_option maxRecDepth 20000 in
theorem gX7_needPort_X2_portCount : GoodIn wsX7_needPort (wsV RX7 69 RX2 yX2_portCount wsX2_portCount) := goodIn_app (goodIn_of _ (by decide +kernel)) ggX7_needPort_X2_portCount
theorem dX7_needPort_0 : decode cX7_needPort 0 = .ok (.iload_n 1, 1) := by decide +kernel
theorem dX7_needPort_1 : decode cX7_needPort 1 = .ok (.ifCond .lt 14, 3) := by decide +kernel
theorem dX7_needPort_4 : decode cX7_needPort 4 = .ok (.iload_n 1, 1) := by decide +kernel
theorem dX7_needPort_5 : decode cX7_needPort 5 = .ok (.aload_n 0, 1) := by decide +kernel
theorem dX7_needPort_6 : decode cX7_needPort 6 = .ok (.getfield 12, 3) := by decide +kernel
theorem dX7_needPort_9 : decode cX7_needPort 9 = .ok (.invokevirtual 69, 3) := by decide +kernel
theorem dX7_needPort_12 : decode cX7_needPort 12 = .ok (.if_icmp .lt 13, 3) := by decide +kernel
theorem dX7_needPort_15 : decode cX7_needPort 15 = .ok (.new 177, 3) := by decide +kernel
theorem dX7_needPort_18 : decode cX7_needPort 18 = .ok (.dup, 1) := by decide +kernel
theorem dX7_needPort_19 : decode cX7_needPort 19 = .ok (.ldc 188, 2) := by decide +kernel
theorem dX7_needPort_21 : decode cX7_needPort 21 = .ok (.invokespecial 181, 3) := by decide +kernel
theorem dX7_needPort_24 : decode cX7_needPort 24 = .ok (.athrow, 1) := by decide +kernel
theorem dX7_needPort_25 : decode cX7_needPort 25 = .ok (.return_, 1) := by decide +kernel
set_option maxRecDepth 20000 in
theorem ggX7_needFrame_X1_size : GoodIn wsX7_needFrame wsX1_size := goodIn_r _ [8, 9, 18, 19] (by decide +kernel) (by decide +kernel)
set_option maxRecDepth 20000 in
theorem gX7_needFrame_X1_size : GoodIn wsX7_needFrame (wsV RX7 110 RX1 yX1_size wsX1_size) := goodIn_app (goodIn_of _ (by decide +kernel)) ggX7_needFrame_X1_size
theorem dX7_needFrame_0 : decode cX7_needFrame 0 = .ok (.iload_n 1, 1) := by decide +kernel
theorem dX7_needFrame_1 : decode cX7_needFrame 1 = .ok (.ifCond .lt 14, 3) := by decide +kernel
theorem dX7_needFrame_4 : decode cX7_needFrame 4 = .ok (.iload_n 1, 1) := by decide +kernel
theorem dX7_needFrame_5 : decode cX7_needFrame 5 = .ok (.aload_n 0, 1) := by decide +kernel
theorem dX7_needFrame_6 : decode cX7_needFrame 6 = .ok (.getfield 19, 3) := by decide +kernel
theorem dX7_needFrame_9 : decode cX7_needFrame 9 = .ok (.invokevirtual 110, 3) := by decide +kernel
theorem dX7_needFrame_12 : decode cX7_needFrame 12 = .ok (.if_icmp .lt 13, 3) := by decide +kernel
theorem dX7_needFrame_15 : decode cX7_needFrame 15 = .ok (.new 177, 3) := by decide +kernel
theorem dX7_needFrame_18 : decode cX7_needFrame 18 = .ok (.dup, 1) := by decide +kernel
theorem dX7_needFrame_19 : decode cX7_needFrame 19 = .ok (.ldc 190, 2) := by decide +kernel
theorem dX7_needFrame_21 : decode cX7_needFrame 21 = .ok (.invokespecial 181, 3) := by decide +kernel
theorem dX7_needFrame_24 : decode cX7_needFrame 24 = .ok (.athrow, 1) := by decide +kernel
theorem dX7_needFrame_25 : decode cX7_needFrame 25 = .ok (.return_, 1) := by decide +kernel
set_option maxRecDepth 20000 in
theorem ggX7_settle_X5_runAll : GoodIn wsX7_settle wsX5_runAll := goodIn_r _ [12, 13, 14, 15, 16, 17, 18, 19, 20, 21, 22, 23, 24, 25, 26, 27, 28, 29, 30, 31, 32, 33, 34, 35, 36, 37, 38, 39, 40, 41, 42, 43, 44, 45, 46, 47, 48, 49, 50, 51, 52, 53, 54, 55, 56, 57, 58, 59, 60, 61, 62, 63, 64, 65, 66, 67, 68, 69, 70, 71, 72, 73, 74, 75, 76, 77, 78, 79, 80, 81, 82, 83, 84, 85, 86, 87, 88, 89, 90, 91, 92, 93, 94, 95, 96, 97, 98, 99, 100, 101, 102, 103, 104, 105, 106, 107, 108, 109, 110, 111, 112, 113, 114, 115, 116, 117, 118, 119, 120, 121, 122, 123, 124, 125, 140, 141, 142, 143, 144, 145, 146, 147, 148, 149, 150, 151, 152, 153, 154, 155] (by decide +kernel) (by decide +kernel)
set_option maxRecDepth 20000 in
theorem gX7_settle_X5_runAll : GoodIn wsX7_settle (wsV RX7 192 RX5 yX5_runAll wsX5_runAll) := goodIn_app (goodIn_of _ (by decide +kernel)) ggX7_settle_X5_runAll
set_option maxRecDepth 20000 in
theorem ggX7_settle_X6_forget : GoodIn wsX7_settle wsX6_forget := goodIn_r _ [130, 131, 156, 157, 158, 159, 160, 161] (by decide +kernel) (by decide +kernel)
set_option maxRecDepth 20000 in
theorem gX7_settle_X6_forget : GoodIn wsX7_settle (wsV RX7 196 RX6 yX6_forget wsX6_forget) := goodIn_app (goodIn_of _ (by decide +kernel)) ggX7_settle_X6_forget
theorem dX7_settle_0 : decode cX7_settle 0 = .ok (.aload_n 0, 1) := by decide +kernel
theorem dX7_settle_1 : decode cX7_settle 1 = .ok (.getfield 51, 3) := by decide +kernel
theorem dX7_settle_4 : decode cX7_settle 4 = .ok (.ifCond .eq 50, 3) := by decide +kernel
theorem dX7_settle_7 : decode cX7_settle 7 = .ok (.aload_n 0, 1) := by decide +kernel
theorem dX7_settle_8 : decode cX7_settle 8 = .ok (.getfield 33, 3) := by decide +kernel
theorem dX7_settle_11 : decode cX7_settle 11 = .ok (.aload_n 0, 1) := by decide +kernel
theorem dX7_settle_12 : decode cX7_settle 12 = .ok (.getfield 12, 3) := by decide +kernel
theorem dX7_settle_15 : decode cX7_settle 15 = .ok (.aload_n 0, 1) := by decide +kernel
theorem dX7_settle_16 : decode cX7_settle 16 = .ok (.getfield 19, 3) := by decide +kernel
theorem dX7_settle_19 : decode cX7_settle 19 = .ok (.iconst 0, 1) := by decide +kernel
theorem dX7_settle_20 : decode cX7_settle 20 = .ok (.invokevirtual 192, 3) := by decide +kernel
theorem dX7_settle_23 : decode cX7_settle 23 = .ok (.aload_n 0, 1) := by decide +kernel
theorem dX7_settle_24 : decode cX7_settle 24 = .ok (.getfield 37, 3) := by decide +kernel
theorem dX7_settle_27 : decode cX7_settle 27 = .ok (.aload_n 0, 1) := by decide +kernel
theorem dX7_settle_28 : decode cX7_settle 28 = .ok (.getfield 12, 3) := by decide +kernel
theorem dX7_settle_31 : decode cX7_settle 31 = .ok (.aload_n 0, 1) := by decide +kernel
theorem dX7_settle_32 : decode cX7_settle 32 = .ok (.getfield 19, 3) := by decide +kernel
theorem dX7_settle_35 : decode cX7_settle 35 = .ok (.aload_n 0, 1) := by decide +kernel
theorem dX7_settle_36 : decode cX7_settle 36 = .ok (.getfield 65, 3) := by decide +kernel
theorem dX7_settle_39 : decode cX7_settle 39 = .ok (.invokevirtual 192, 3) := by decide +kernel
theorem dX7_settle_42 : decode cX7_settle 42 = .ok (.aload_n 0, 1) := by decide +kernel
theorem dX7_settle_43 : decode cX7_settle 43 = .ok (.getfield 43, 3) := by decide +kernel
theorem dX7_settle_46 : decode cX7_settle 46 = .ok (.invokevirtual 196, 3) := by decide +kernel
theorem dX7_settle_49 : decode cX7_settle 49 = .ok (.aload_n 0, 1) := by decide +kernel
theorem dX7_settle_50 : decode cX7_settle 50 = .ok (.iconst 0, 1) := by decide +kernel
theorem dX7_settle_51 : decode cX7_settle 51 = .ok (.putfield 51, 3) := by decide +kernel
theorem dX7_settle_54 : decode cX7_settle 54 = .ok (.return_, 1) := by decide +kernel
set_option maxRecDepth 20000 in
theorem ggX7_portsThatDiffer_X5_exitsOf : GoodIn wsX7_portsThatDiffer wsX5_exitsOf := goodIn_r _ [7, 8, 9, 10, 11, 12, 13, 14, 28, 29, 30, 31, 32] (by decide +kernel) (by decide +kernel)
set_option maxRecDepth 20000 in
theorem gX7_portsThatDiffer_X5_exitsOf : GoodIn wsX7_portsThatDiffer (wsV RX7 153 RX5 yX5_exitsOf wsX5_exitsOf) := goodIn_app (goodIn_of _ (by decide +kernel)) ggX7_portsThatDiffer_X5_exitsOf
set_option maxRecDepth 20000 in
theorem ggX7_portsThatDiffer_X5_taggedOf : GoodIn wsX7_portsThatDiffer wsX5_taggedOf := goodIn_r _ [18, 19, 9, 10, 11, 12, 13, 14, 28, 29, 30, 31, 32] (by decide +kernel) (by decide +kernel)
set_option maxRecDepth 20000 in
theorem gX7_portsThatDiffer_X5_taggedOf : GoodIn wsX7_portsThatDiffer (wsV RX7 156 RX5 yX5_taggedOf wsX5_taggedOf) := goodIn_app (goodIn_of _ (by decide +kernel)) ggX7_portsThatDiffer_X5_taggedOf
theorem dX7_portsThatDiffer_0 : decode cX7_portsThatDiffer 0 = .ok (.aload_n 0, 1) := by decide +kernel
theorem dX7_portsThatDiffer_1 : decode cX7_portsThatDiffer 1 = .ok (.getfield 33, 3) := by decide +kernel
theorem dX7_portsThatDiffer_4 : decode cX7_portsThatDiffer 4 = .ok (.iload_n 1, 1) := by decide +kernel
theorem dX7_portsThatDiffer_5 : decode cX7_portsThatDiffer 5 = .ok (.invokevirtual 153, 3) := by decide +kernel
theorem dX7_portsThatDiffer_8 : decode cX7_portsThatDiffer 8 = .ok (.aload_n 0, 1) := by decide +kernel
theorem dX7_portsThatDiffer_9 : decode cX7_portsThatDiffer 9 = .ok (.getfield 37, 3) := by decide +kernel
theorem dX7_portsThatDiffer_12 : decode cX7_portsThatDiffer 12 = .ok (.iload_n 1, 1) := by decide +kernel
theorem dX7_portsThatDiffer_13 : decode cX7_portsThatDiffer 13 = .ok (.invokevirtual 153, 3) := by decide +kernel
theorem dX7_portsThatDiffer_16 : decode cX7_portsThatDiffer 16 = .ok (.ixor, 1) := by decide +kernel
theorem dX7_portsThatDiffer_17 : decode cX7_portsThatDiffer 17 = .ok (.aload_n 0, 1) := by decide +kernel
theorem dX7_portsThatDiffer_18 : decode cX7_portsThatDiffer 18 = .ok (.getfield 33, 3) := by decide +kernel
theorem dX7_portsThatDiffer_21 : decode cX7_portsThatDiffer 21 = .ok (.iload_n 1, 1) := by decide +kernel
theorem dX7_portsThatDiffer_22 : decode cX7_portsThatDiffer 22 = .ok (.invokevirtual 156, 3) := by decide +kernel
theorem dX7_portsThatDiffer_25 : decode cX7_portsThatDiffer 25 = .ok (.aload_n 0, 1) := by decide +kernel
theorem dX7_portsThatDiffer_26 : decode cX7_portsThatDiffer 26 = .ok (.getfield 37, 3) := by decide +kernel
theorem dX7_portsThatDiffer_29 : decode cX7_portsThatDiffer 29 = .ok (.iload_n 1, 1) := by decide +kernel
theorem dX7_portsThatDiffer_30 : decode cX7_portsThatDiffer 30 = .ok (.invokevirtual 156, 3) := by decide +kernel
theorem dX7_portsThatDiffer_33 : decode cX7_portsThatDiffer 33 = .ok (.ixor, 1) := by decide +kernel
theorem dX7_portsThatDiffer_34 : decode cX7_portsThatDiffer 34 = .ok (.ior, 1) := by decide +kernel
theorem dX7_portsThatDiffer_35 : decode cX7_portsThatDiffer 35 = .ok (.ireturn, 1) := by decide +kernel
theorem dX7_isNetwork_0 : decode cX7_isNetwork 0 = .ok (.iload_n 0, 1) := by decide +kernel
theorem dX7_isNetwork_1 : decode cX7_isNetwork 1 = .ok (.iconst 1, 1) := by decide +kernel
theorem dX7_isNetwork_2 : decode cX7_isNetwork 2 = .ok (.if_icmp .lt 12, 3) := by decide +kernel
theorem dX7_isNetwork_5 : decode cX7_isNetwork 5 = .ok (.iload_n 0, 1) := by decide +kernel
theorem dX7_isNetwork_6 : decode cX7_isNetwork 6 = .ok (.iconst 4, 1) := by decide +kernel
theorem dX7_isNetwork_7 : decode cX7_isNetwork 7 = .ok (.if_icmp .gt 7, 3) := by decide +kernel
theorem dX7_isNetwork_10 : decode cX7_isNetwork 10 = .ok (.iconst 1, 1) := by decide +kernel
theorem dX7_isNetwork_11 : decode cX7_isNetwork 11 = .ok (.goto 4, 3) := by decide +kernel
theorem dX7_isNetwork_14 : decode cX7_isNetwork 14 = .ok (.iconst 0, 1) := by decide +kernel
theorem dX7_isNetwork_15 : decode cX7_isNetwork 15 = .ok (.ireturn, 1) := by decide +kernel
theorem dX7_hasNetwork_0 : decode cX7_hasNetwork 0 = .ok (.iload_n 0, 1) := by decide +kernel
theorem dX7_hasNetwork_1 : decode cX7_hasNetwork 1 = .ok (.iload_n 1, 1) := by decide +kernel
theorem dX7_hasNetwork_2 : decode cX7_hasNetwork 2 = .ok (.iconst 1, 1) := by decide +kernel
theorem dX7_hasNetwork_3 : decode cX7_hasNetwork 3 = .ok (.isub, 1) := by decide +kernel
theorem dX7_hasNetwork_4 : decode cX7_hasNetwork 4 = .ok (.ishr, 1) := by decide +kernel
theorem dX7_hasNetwork_5 : decode cX7_hasNetwork 5 = .ok (.iconst 1, 1) := by decide +kernel
theorem dX7_hasNetwork_6 : decode cX7_hasNetwork 6 = .ok (.iand, 1) := by decide +kernel
theorem dX7_hasNetwork_7 : decode cX7_hasNetwork 7 = .ok (.ifCond .eq 7, 3) := by decide +kernel
theorem dX7_hasNetwork_10 : decode cX7_hasNetwork 10 = .ok (.iconst 1, 1) := by decide +kernel
theorem dX7_hasNetwork_11 : decode cX7_hasNetwork 11 = .ok (.goto 4, 3) := by decide +kernel
theorem dX7_hasNetwork_14 : decode cX7_hasNetwork 14 = .ok (.iconst 0, 1) := by decide +kernel
theorem dX7_hasNetwork_15 : decode cX7_hasNetwork 15 = .ok (.ireturn, 1) := by decide +kernel
theorem dX7_cellOf_0 : decode cX7_cellOf 0 = .ok (.iconst 1, 1) := by decide +kernel
theorem dX7_cellOf_1 : decode cX7_cellOf 1 = .ok (.bipush 6, 2) := by decide +kernel
theorem dX7_cellOf_3 : decode cX7_cellOf 3 = .ok (.iload_n 0, 1) := by decide +kernel
theorem dX7_cellOf_4 : decode cX7_cellOf 4 = .ok (.imul, 1) := by decide +kernel
theorem dX7_cellOf_5 : decode cX7_cellOf 5 = .ok (.iload_n 1, 1) := by decide +kernel
theorem dX7_cellOf_6 : decode cX7_cellOf 6 = .ok (.iadd, 1) := by decide +kernel
theorem dX7_cellOf_7 : decode cX7_cellOf 7 = .ok (.ishl, 1) := by decide +kernel
theorem dX7_cellOf_8 : decode cX7_cellOf 8 = .ok (.ireturn, 1) := by decide +kernel
theorem dX7_portsIn_0 : decode cX7_portsIn 0 = .ok (.iload_n 0, 1) := by decide +kernel
theorem dX7_portsIn_1 : decode cX7_portsIn 1 = .ok (.bipush 6, 2) := by decide +kernel
theorem dX7_portsIn_3 : decode cX7_portsIn 3 = .ok (.iload_n 1, 1) := by decide +kernel
theorem dX7_portsIn_4 : decode cX7_portsIn 4 = .ok (.imul, 1) := by decide +kernel
theorem dX7_portsIn_5 : decode cX7_portsIn 5 = .ok (.ishr, 1) := by decide +kernel
theorem dX7_portsIn_6 : decode cX7_portsIn 6 = .ok (.bipush 63, 2) := by decide +kernel
theorem dX7_portsIn_8 : decode cX7_portsIn 8 = .ok (.iand, 1) := by decide +kernel
theorem dX7_portsIn_9 : decode cX7_portsIn 9 = .ok (.ireturn, 1) := by decide +kernel
theorem dX7_frameOf_0 : decode cX7_frameOf 0 = .ok (.sipush 1000, 3) := by decide +kernel
theorem dX7_frameOf_3 : decode cX7_frameOf 3 = .ok (.iload_n 0, 1) := by decide +kernel
theorem dX7_frameOf_4 : decode cX7_frameOf 4 = .ok (.imul, 1) := by decide +kernel
theorem dX7_frameOf_5 : decode cX7_frameOf 5 = .ok (.bipush 100, 2) := by decide +kernel
theorem dX7_frameOf_7 : decode cX7_frameOf 7 = .ok (.iload_n 1, 1) := by decide +kernel
theorem dX7_frameOf_8 : decode cX7_frameOf 8 = .ok (.imul, 1) := by decide +kernel
theorem dX7_frameOf_9 : decode cX7_frameOf 9 = .ok (.iadd, 1) := by decide +kernel
theorem dX7_frameOf_10 : decode cX7_frameOf 10 = .ok (.bipush 10, 2) := by decide +kernel
theorem dX7_frameOf_12 : decode cX7_frameOf 12 = .ok (.iload_n 2, 1) := by decide +kernel
theorem dX7_frameOf_13 : decode cX7_frameOf 13 = .ok (.imul, 1) := by decide +kernel
theorem dX7_frameOf_14 : decode cX7_frameOf 14 = .ok (.iadd, 1) := by decide +kernel
theorem dX7_frameOf_15 : decode cX7_frameOf 15 = .ok (.iload_n 3, 1) := by decide +kernel
theorem dX7_frameOf_16 : decode cX7_frameOf 16 = .ok (.iadd, 1) := by decide +kernel
theorem dX7_frameOf_17 : decode cX7_frameOf 17 = .ok (.ireturn, 1) := by decide +kernel
theorem dX7_portOf_0 : decode cX7_portOf 0 = .ok (.iload_n 0, 1) := by decide +kernel
theorem dX7_portOf_1 : decode cX7_portOf 1 = .ok (.sipush 1000, 3) := by decide +kernel
theorem dX7_portOf_4 : decode cX7_portOf 4 = .ok (.idiv, 1) := by decide +kernel
theorem dX7_portOf_5 : decode cX7_portOf 5 = .ok (.ireturn, 1) := by decide +kernel
theorem dX7_tagOf_0 : decode cX7_tagOf 0 = .ok (.iload_n 0, 1) := by decide +kernel
theorem dX7_tagOf_1 : decode cX7_tagOf 1 = .ok (.bipush 100, 2) := by decide +kernel
theorem dX7_tagOf_3 : decode cX7_tagOf 3 = .ok (.idiv, 1) := by decide +kernel
theorem dX7_tagOf_4 : decode cX7_tagOf 4 = .ok (.bipush 10, 2) := by decide +kernel
theorem dX7_tagOf_6 : decode cX7_tagOf 6 = .ok (.irem, 1) := by decide +kernel
theorem dX7_tagOf_7 : decode cX7_tagOf 7 = .ok (.ireturn, 1) := by decide +kernel
theorem dX7_sourceOf_0 : decode cX7_sourceOf 0 = .ok (.iload_n 0, 1) := by decide +kernel
theorem dX7_sourceOf_1 : decode cX7_sourceOf 1 = .ok (.bipush 10, 2) := by decide +kernel
theorem dX7_sourceOf_3 : decode cX7_sourceOf 3 = .ok (.idiv, 1) := by decide +kernel
theorem dX7_sourceOf_4 : decode cX7_sourceOf 4 = .ok (.bipush 10, 2) := by decide +kernel
theorem dX7_sourceOf_6 : decode cX7_sourceOf 6 = .ok (.irem, 1) := by decide +kernel
theorem dX7_sourceOf_7 : decode cX7_sourceOf 7 = .ok (.ireturn, 1) := by decide +kernel
theorem dX7_destinationOf_0 : decode cX7_destinationOf 0 = .ok (.iload_n 0, 1) := by decide +kernel
theorem dX7_destinationOf_1 : decode cX7_destinationOf 1 = .ok (.bipush 10, 2) := by decide +kernel
theorem dX7_destinationOf_3 : decode cX7_destinationOf 3 = .ok (.irem, 1) := by decide +kernel
theorem dX7_destinationOf_4 : decode cX7_destinationOf 4 = .ok (.ireturn, 1) := by decide +kernel
set_option maxRecDepth 20000 in
theorem ggX8_init_X8_reset : GoodIn wsX8_init wsX8_reset := goodIn_r _ [26, 27, 28, 9, 29, 30, 31, 25, 32, 7, 5, 8, 33, 34, 35, 36, 37, 38, 39, 40, 41, 42, 43, 44, 45, 46, 47, 48, 49, 50, 51, 52, 53, 54] (by decide +kernel) (by decide +kernel)
set_option maxRecDepth 20000 in
theorem gX8_init_X8_reset : GoodIn wsX8_init (wsV RX8 59 RX8 yX8_reset wsX8_reset) := goodIn_app (goodIn_of _ (by decide +kernel)) ggX8_init_X8_reset
theorem dX8_init_0 : decode cX8_init 0 = .ok (.aload_n 0, 1) := by decide +kernel
theorem dX8_init_1 : decode cX8_init 1 = .ok (.invokespecial 1, 3) := by decide +kernel
theorem dX8_init_4 : decode cX8_init 4 = .ok (.aload_n 0, 1) := by decide +kernel
theorem dX8_init_5 : decode cX8_init 5 = .ok (.bipush 6, 2) := by decide +kernel
theorem dX8_init_7 : decode cX8_init 7 = .ok (.newarray .int, 2) := by decide +kernel
theorem dX8_init_9 : decode cX8_init 9 = .ok (.putfield 7, 3) := by decide +kernel
theorem dX8_init_12 : decode cX8_init 12 = .ok (.aload_n 0, 1) := by decide +kernel
theorem dX8_init_13 : decode cX8_init 13 = .ok (.bipush 6, 2) := by decide +kernel
theorem dX8_init_15 : decode cX8_init 15 = .ok (.newarray .boolean, 2) := by decide +kernel
theorem dX8_init_17 : decode cX8_init 17 = .ok (.putfield 13, 3) := by decide +kernel
theorem dX8_init_20 : decode cX8_init 20 = .ok (.aload_n 0, 1) := by decide +kernel
theorem dX8_init_21 : decode cX8_init 21 = .ok (.bipush 6, 2) := by decide +kernel
theorem dX8_init_23 : decode cX8_init 23 = .ok (.newarray .int, 2) := by decide +kernel
theorem dX8_init_25 : decode cX8_init 25 = .ok (.putfield 17, 3) := by decide +kernel
theorem dX8_init_28 : decode cX8_init 28 = .ok (.aload_n 0, 1) := by decide +kernel
theorem dX8_init_29 : decode cX8_init 29 = .ok (.bipush 6, 2) := by decide +kernel
theorem dX8_init_31 : decode cX8_init 31 = .ok (.newarray .int, 2) := by decide +kernel
theorem dX8_init_33 : decode cX8_init 33 = .ok (.putfield 20, 3) := by decide +kernel
theorem dX8_init_36 : decode cX8_init 36 = .ok (.aload_n 0, 1) := by decide +kernel
theorem dX8_init_37 : decode cX8_init 37 = .ok (.bipush 60, 2) := by decide +kernel
theorem dX8_init_39 : decode cX8_init 39 = .ok (.newarray .int, 2) := by decide +kernel
theorem dX8_init_41 : decode cX8_init 41 = .ok (.putfield 23, 3) := by decide +kernel
theorem dX8_init_44 : decode cX8_init 44 = .ok (.aload_n 0, 1) := by decide +kernel
theorem dX8_init_45 : decode cX8_init 45 = .ok (.bipush 60, 2) := by decide +kernel
theorem dX8_init_47 : decode cX8_init 47 = .ok (.newarray .int, 2) := by decide +kernel
theorem dX8_init_49 : decode cX8_init 49 = .ok (.putfield 26, 3) := by decide +kernel
theorem dX8_init_52 : decode cX8_init 52 = .ok (.aload_n 0, 1) := by decide +kernel
theorem dX8_init_53 : decode cX8_init 53 = .ok (.bipush 60, 2) := by decide +kernel
theorem dX8_init_55 : decode cX8_init 55 = .ok (.newarray .int, 2) := by decide +kernel
theorem dX8_init_57 : decode cX8_init 57 = .ok (.putfield 29, 3) := by decide +kernel
theorem dX8_init_60 : decode cX8_init 60 = .ok (.aload_n 0, 1) := by decide +kernel
theorem dX8_init_61 : decode cX8_init 61 = .ok (.bipush 60, 2) := by decide +kernel
theorem dX8_init_63 : decode cX8_init 63 = .ok (.newarray .int, 2) := by decide +kernel
theorem dX8_init_65 : decode cX8_init 65 = .ok (.putfield 32, 3) := by decide +kernel
theorem dX8_init_68 : decode cX8_init 68 = .ok (.aload_n 0, 1) := by decide +kernel
theorem dX8_init_69 : decode cX8_init 69 = .ok (.bipush 15, 2) := by decide +kernel
theorem dX8_init_71 : decode cX8_init 71 = .ok (.newarray .int, 2) := by decide +kernel
theorem dX8_init_73 : decode cX8_init 73 = .ok (.putfield 35, 3) := by decide +kernel
theorem dX8_init_76 : decode cX8_init 76 = .ok (.aload_n 0, 1) := by decide +kernel
theorem dX8_init_77 : decode cX8_init 77 = .ok (.bipush 6, 2) := by decide +kernel
theorem dX8_init_79 : decode cX8_init 79 = .ok (.newarray .int, 2) := by decide +kernel
theorem dX8_init_81 : decode cX8_init 81 = .ok (.putfield 38, 3) := by decide +kernel
theorem dX8_init_84 : decode cX8_init 84 = .ok (.aload_n 0, 1) := by decide +kernel
theorem dX8_init_85 : decode cX8_init 85 = .ok (.bipush 60, 2) := by decide +kernel
theorem dX8_init_87 : decode cX8_init 87 = .ok (.newarray .int, 2) := by decide +kernel
theorem dX8_init_89 : decode cX8_init 89 = .ok (.putfield 41, 3) := by decide +kernel
theorem dX8_init_92 : decode cX8_init 92 = .ok (.aload_n 0, 1) := by decide +kernel
theorem dX8_init_93 : decode cX8_init 93 = .ok (.bipush 60, 2) := by decide +kernel
theorem dX8_init_95 : decode cX8_init 95 = .ok (.newarray .int, 2) := by decide +kernel
theorem dX8_init_97 : decode cX8_init 97 = .ok (.putfield 44, 3) := by decide +kernel
theorem dX8_init_100 : decode cX8_init 100 = .ok (.aload_n 0, 1) := by decide +kernel
theorem dX8_init_101 : decode cX8_init 101 = .ok (.bipush 60, 2) := by decide +kernel
theorem dX8_init_103 : decode cX8_init 103 = .ok (.newarray .int, 2) := by decide +kernel
theorem dX8_init_105 : decode cX8_init 105 = .ok (.putfield 47, 3) := by decide +kernel
theorem dX8_init_108 : decode cX8_init 108 = .ok (.aload_n 0, 1) := by decide +kernel
theorem dX8_init_109 : decode cX8_init 109 = .ok (.bipush 60, 2) := by decide +kernel
theorem dX8_init_111 : decode cX8_init 111 = .ok (.newarray .int, 2) := by decide +kernel
theorem dX8_init_113 : decode cX8_init 113 = .ok (.putfield 50, 3) := by decide +kernel
theorem dX8_init_116 : decode cX8_init 116 = .ok (.aload_n 0, 1) := by decide +kernel
theorem dX8_init_117 : decode cX8_init 117 = .ok (.bipush 60, 2) := by decide +kernel
theorem dX8_init_119 : decode cX8_init 119 = .ok (.newarray .int, 2) := by decide +kernel
theorem dX8_init_121 : decode cX8_init 121 = .ok (.putfield 53, 3) := by decide +kernel
theorem dX8_init_124 : decode cX8_init 124 = .ok (.aload_n 0, 1) := by decide +kernel
theorem dX8_init_125 : decode cX8_init 125 = .ok (.sipush 384, 3) := by decide +kernel
theorem dX8_init_128 : decode cX8_init 128 = .ok (.newarray .boolean, 2) := by decide +kernel
theorem dX8_init_130 : decode cX8_init 130 = .ok (.putfield 56, 3) := by decide +kernel
theorem dX8_init_133 : decode cX8_init 133 = .ok (.aload_n 0, 1) := by decide +kernel
theorem dX8_init_134 : decode cX8_init 134 = .ok (.iconst 4, 1) := by decide +kernel
theorem dX8_init_135 : decode cX8_init 135 = .ok (.invokevirtual 59, 3) := by decide +kernel
theorem dX8_init_138 : decode cX8_init 138 = .ok (.return_, 1) := by decide +kernel
theorem dX8_thrown_0 : decode cX8_thrown 0 = .ok (.aload_n 0, 1) := by decide +kernel
theorem dX8_thrown_1 : decode cX8_thrown 1 = .ok (.getfield 63, 3) := by decide +kernel
theorem dX8_thrown_4 : decode cX8_thrown 4 = .ok (.ireturn, 1) := by decide +kernel
theorem dX8_may_0 : decode cX8_may 0 = .ok (.aload_n 0, 1) := by decide +kernel
theorem dX8_may_1 : decode cX8_may 1 = .ok (.iload_n 1, 1) := by decide +kernel
theorem dX8_may_2 : decode cX8_may 2 = .ok (.ifCond .eq 7, 3) := by decide +kernel
theorem dX8_may_5 : decode cX8_may 5 = .ok (.iconst 0, 1) := by decide +kernel
theorem dX8_may_6 : decode cX8_may 6 = .ok (.goto 4, 3) := by decide +kernel
theorem dX8_may_9 : decode cX8_may 9 = .ok (.iconst 1, 1) := by decide +kernel
theorem dX8_may_10 : decode cX8_may 10 = .ok (.putfield 63, 3) := by decide +kernel
theorem dX8_may_13 : decode cX8_may 13 = .ok (.iload_n 1, 1) := by decide +kernel
theorem dX8_may_14 : decode cX8_may 14 = .ok (.ireturn, 1) := by decide +kernel
theorem dX8_mayBoth_0 : decode cX8_mayBoth 0 = .ok (.aload_n 0, 1) := by decide +kernel
theorem dX8_mayBoth_1 : decode cX8_mayBoth 1 = .ok (.iload_n 1, 1) := by decide +kernel
theorem dX8_mayBoth_2 : decode cX8_mayBoth 2 = .ok (.ifCond .ne 7, 3) := by decide +kernel
theorem dX8_mayBoth_5 : decode cX8_mayBoth 5 = .ok (.iconst 1, 1) := by decide +kernel
theorem dX8_mayBoth_6 : decode cX8_mayBoth 6 = .ok (.goto 12, 3) := by decide +kernel
theorem dX8_mayBoth_9 : decode cX8_mayBoth 9 = .ok (.iload_n 2, 1) := by decide +kernel
theorem dX8_mayBoth_10 : decode cX8_mayBoth 10 = .ok (.ifCond .ne 7, 3) := by decide +kernel
theorem dX8_mayBoth_13 : decode cX8_mayBoth 13 = .ok (.iconst 2, 1) := by decide +kernel
theorem dX8_mayBoth_14 : decode cX8_mayBoth 14 = .ok (.goto 4, 3) := by decide +kernel
theorem dX8_mayBoth_17 : decode cX8_mayBoth 17 = .ok (.iconst 0, 1) := by decide +kernel
theorem dX8_mayBoth_18 : decode cX8_mayBoth 18 = .ok (.putfield 63, 3) := by decide +kernel
theorem dX8_mayBoth_21 : decode cX8_mayBoth 21 = .ok (.aload_n 0, 1) := by decide +kernel
theorem dX8_mayBoth_22 : decode cX8_mayBoth 22 = .ok (.getfield 63, 3) := by decide +kernel
theorem dX8_mayBoth_25 : decode cX8_mayBoth 25 = .ok (.ifCond .ne 7, 3) := by decide +kernel
theorem dX8_mayBoth_28 : decode cX8_mayBoth 28 = .ok (.iconst 1, 1) := by decide +kernel
theorem dX8_mayBoth_29 : decode cX8_mayBoth 29 = .ok (.goto 4, 3) := by decide +kernel
theorem dX8_mayBoth_32 : decode cX8_mayBoth 32 = .ok (.iconst 0, 1) := by decide +kernel
theorem dX8_mayBoth_33 : decode cX8_mayBoth 33 = .ok (.ireturn, 1) := by decide +kernel
theorem dX8_mayAll_0 : decode cX8_mayAll 0 = .ok (.aload_n 0, 1) := by decide +kernel
theorem dX8_mayAll_1 : decode cX8_mayAll 1 = .ok (.iload_n 1, 1) := by decide +kernel
theorem dX8_mayAll_2 : decode cX8_mayAll 2 = .ok (.ifCond .ne 7, 3) := by decide +kernel
theorem dX8_mayAll_5 : decode cX8_mayAll 5 = .ok (.iconst 1, 1) := by decide +kernel
theorem dX8_mayAll_6 : decode cX8_mayAll 6 = .ok (.goto 20, 3) := by decide +kernel
theorem dX8_mayAll_9 : decode cX8_mayAll 9 = .ok (.iload_n 2, 1) := by decide +kernel
theorem dX8_mayAll_10 : decode cX8_mayAll 10 = .ok (.ifCond .ne 7, 3) := by decide +kernel
theorem dX8_mayAll_13 : decode cX8_mayAll 13 = .ok (.iconst 2, 1) := by decide +kernel
theorem dX8_mayAll_14 : decode cX8_mayAll 14 = .ok (.goto 12, 3) := by decide +kernel
theorem dX8_mayAll_17 : decode cX8_mayAll 17 = .ok (.iload_n 3, 1) := by decide +kernel
theorem dX8_mayAll_18 : decode cX8_mayAll 18 = .ok (.ifCond .ne 7, 3) := by decide +kernel
theorem dX8_mayAll_21 : decode cX8_mayAll 21 = .ok (.iconst 3, 1) := by decide +kernel
theorem dX8_mayAll_22 : decode cX8_mayAll 22 = .ok (.goto 4, 3) := by decide +kernel
theorem dX8_mayAll_25 : decode cX8_mayAll 25 = .ok (.iconst 0, 1) := by decide +kernel
theorem dX8_mayAll_26 : decode cX8_mayAll 26 = .ok (.putfield 63, 3) := by decide +kernel
theorem dX8_mayAll_29 : decode cX8_mayAll 29 = .ok (.aload_n 0, 1) := by decide +kernel
theorem dX8_mayAll_30 : decode cX8_mayAll 30 = .ok (.getfield 63, 3) := by decide +kernel
theorem dX8_mayAll_33 : decode cX8_mayAll 33 = .ok (.ifCond .ne 7, 3) := by decide +kernel
theorem dX8_mayAll_36 : decode cX8_mayAll 36 = .ok (.iconst 1, 1) := by decide +kernel
theorem dX8_mayAll_37 : decode cX8_mayAll 37 = .ok (.goto 4, 3) := by decide +kernel
theorem dX8_mayAll_40 : decode cX8_mayAll 40 = .ok (.iconst 0, 1) := by decide +kernel
theorem dX8_mayAll_41 : decode cX8_mayAll 41 = .ok (.ireturn, 1) := by decide +kernel
theorem dX8_isPort_0 : decode cX8_isPort 0 = .ok (.iload_n 1, 1) := by decide +kernel
theorem dX8_isPort_1 : decode cX8_isPort 1 = .ok (.ifCond .lt 15, 3) := by decide +kernel
theorem dX8_isPort_4 : decode cX8_isPort 4 = .ok (.iload_n 1, 1) := by decide +kernel
theorem dX8_isPort_5 : decode cX8_isPort 5 = .ok (.aload_n 0, 1) := by decide +kernel
theorem dX8_isPort_6 : decode cX8_isPort 6 = .ok (.getfield 67, 3) := by decide +kernel
theorem dX8_isPort_9 : decode cX8_isPort 9 = .ok (.if_icmp .ge 7, 3) := by decide +kernel
theorem dX8_isPort_12 : decode cX8_isPort 12 = .ok (.iconst 1, 1) := by decide +kernel
theorem dX8_isPort_13 : decode cX8_isPort 13 = .ok (.goto 4, 3) := by decide +kernel
theorem dX8_isPort_16 : decode cX8_isPort 16 = .ok (.iconst 0, 1) := by decide +kernel
theorem dX8_isPort_17 : decode cX8_isPort 17 = .ok (.ireturn, 1) := by decide +kernel
theorem dX8_isFrame_0 : decode cX8_isFrame 0 = .ok (.iload_n 1, 1) := by decide +kernel
theorem dX8_isFrame_1 : decode cX8_isFrame 1 = .ok (.ifCond .lt 15, 3) := by decide +kernel
theorem dX8_isFrame_4 : decode cX8_isFrame 4 = .ok (.iload_n 1, 1) := by decide +kernel
theorem dX8_isFrame_5 : decode cX8_isFrame 5 = .ok (.aload_n 0, 1) := by decide +kernel
theorem dX8_isFrame_6 : decode cX8_isFrame 6 = .ok (.getfield 70, 3) := by decide +kernel
theorem dX8_isFrame_9 : decode cX8_isFrame 9 = .ok (.if_icmp .ge 7, 3) := by decide +kernel
theorem dX8_isFrame_12 : decode cX8_isFrame 12 = .ok (.iconst 1, 1) := by decide +kernel
theorem dX8_isFrame_13 : decode cX8_isFrame 13 = .ok (.goto 4, 3) := by decide +kernel
theorem dX8_isFrame_16 : decode cX8_isFrame 16 = .ok (.iconst 0, 1) := by decide +kernel
theorem dX8_isFrame_17 : decode cX8_isFrame 17 = .ok (.ireturn, 1) := by decide +kernel
set_option maxRecDepth 20000 in
theorem ggX8_reset_X8_setAccess : GoodIn wsX8_reset wsX8_setAccess := goodIn_r _ [8, 9, 10, 11, 12, 13, 14, 15, 16, 17, 18, 19, 20, 21, 22, 23, 24, 25, 26, 27, 28, 29, 30, 31, 32, 33] (by decide +kernel) (by decide +kernel)
set_option maxRecDepth 20000 in
theorem gX8_reset_X8_setAccess : GoodIn wsX8_reset (wsV RX8 73 RX8 yX8_setAccess wsX8_setAccess) := goodIn_app (goodIn_of _ (by decide +kernel)) ggX8_reset_X8_setAccess
theorem dX8_reset_0 : decode cX8_reset 0 = .ok (.aload_n 0, 1) := by decide +kernel
theorem dX8_reset_1 : decode cX8_reset 1 = .ok (.iload_n 1, 1) := by decide +kernel
theorem dX8_reset_2 : decode cX8_reset 2 = .ok (.putfield 67, 3) := by decide +kernel
theorem dX8_reset_5 : decode cX8_reset 5 = .ok (.aload_n 0, 1) := by decide +kernel
theorem dX8_reset_6 : decode cX8_reset 6 = .ok (.iconst 0, 1) := by decide +kernel
theorem dX8_reset_7 : decode cX8_reset 7 = .ok (.putfield 70, 3) := by decide +kernel
theorem dX8_reset_10 : decode cX8_reset 10 = .ok (.iconst 0, 1) := by decide +kernel
theorem dX8_reset_11 : decode cX8_reset 11 = .ok (.istore_n 2, 1) := by decide +kernel
theorem dX8_reset_12 : decode cX8_reset 12 = .ok (.iload_n 2, 1) := by decide +kernel
theorem dX8_reset_13 : decode cX8_reset 13 = .ok (.bipush 6, 2) := by decide +kernel
theorem dX8_reset_15 : decode cX8_reset 15 = .ok (.if_icmp .ge 22, 3) := by decide +kernel
theorem dX8_reset_18 : decode cX8_reset 18 = .ok (.aload_n 0, 1) := by decide +kernel
theorem dX8_reset_19 : decode cX8_reset 19 = .ok (.iload_n 2, 1) := by decide +kernel
theorem dX8_reset_20 : decode cX8_reset 20 = .ok (.iconst 1, 1) := by decide +kernel
theorem dX8_reset_21 : decode cX8_reset 21 = .ok (.invokevirtual 73, 3) := by decide +kernel
theorem dX8_reset_24 : decode cX8_reset 24 = .ok (.aload_n 0, 1) := by decide +kernel
theorem dX8_reset_25 : decode cX8_reset 25 = .ok (.getfield 20, 3) := by decide +kernel
theorem dX8_reset_28 : decode cX8_reset 28 = .ok (.iload_n 2, 1) := by decide +kernel
theorem dX8_reset_29 : decode cX8_reset 29 = .ok (.iconst 0, 1) := by decide +kernel
theorem dX8_reset_30 : decode cX8_reset 30 = .ok (.iastore, 1) := by decide +kernel
theorem dX8_reset_31 : decode cX8_reset 31 = .ok (.iinc 2 1, 3) := by decide +kernel
theorem dX8_reset_34 : decode cX8_reset 34 = .ok (.goto (-22), 3) := by decide +kernel
theorem dX8_reset_37 : decode cX8_reset 37 = .ok (.return_, 1) := by decide +kernel
theorem dX8_setAccess_0 : decode cX8_setAccess 0 = .ok (.aload_n 0, 1) := by decide +kernel
theorem dX8_setAccess_1 : decode cX8_setAccess 1 = .ok (.getfield 13, 3) := by decide +kernel
theorem dX8_setAccess_4 : decode cX8_setAccess 4 = .ok (.iload_n 1, 1) := by decide +kernel
theorem dX8_setAccess_5 : decode cX8_setAccess 5 = .ok (.iconst 0, 1) := by decide +kernel
theorem dX8_setAccess_6 : decode cX8_setAccess 6 = .ok (.bastore, 1) := by decide +kernel
theorem dX8_setAccess_7 : decode cX8_setAccess 7 = .ok (.aload_n 0, 1) := by decide +kernel
theorem dX8_setAccess_8 : decode cX8_setAccess 8 = .ok (.getfield 7, 3) := by decide +kernel
theorem dX8_setAccess_11 : decode cX8_setAccess 11 = .ok (.iload_n 1, 1) := by decide +kernel
theorem dX8_setAccess_12 : decode cX8_setAccess 12 = .ok (.iconst 1, 1) := by decide +kernel
theorem dX8_setAccess_13 : decode cX8_setAccess 13 = .ok (.iload_n 2, 1) := by decide +kernel
theorem dX8_setAccess_14 : decode cX8_setAccess 14 = .ok (.iconst 1, 1) := by decide +kernel
theorem dX8_setAccess_15 : decode cX8_setAccess 15 = .ok (.isub, 1) := by decide +kernel
theorem dX8_setAccess_16 : decode cX8_setAccess 16 = .ok (.ishl, 1) := by decide +kernel
theorem dX8_setAccess_17 : decode cX8_setAccess 17 = .ok (.iastore, 1) := by decide +kernel
theorem dX8_setAccess_18 : decode cX8_setAccess 18 = .ok (.aload_n 0, 1) := by decide +kernel
theorem dX8_setAccess_19 : decode cX8_setAccess 19 = .ok (.getfield 17, 3) := by decide +kernel
theorem dX8_setAccess_22 : decode cX8_setAccess 22 = .ok (.iload_n 1, 1) := by decide +kernel
theorem dX8_setAccess_23 : decode cX8_setAccess 23 = .ok (.iload_n 2, 1) := by decide +kernel
theorem dX8_setAccess_24 : decode cX8_setAccess 24 = .ok (.iastore, 1) := by decide +kernel
theorem dX8_setAccess_25 : decode cX8_setAccess 25 = .ok (.return_, 1) := by decide +kernel
set_option maxRecDepth 20000 in
theorem ggX8_begin_X8_may : GoodIn wsX8_begin wsX8_may := goodIn_r _ [5, 6, 21, 22, 23, 24, 25, 26, 27, 28, 29, 30, 31, 32, 33, 34, 35, 36, 37, 38, 39, 40, 41, 42] (by decide +kernel) (by decide +kernel)
set_option maxRecDepth 20000 in
theorem gX8_begin_X8_may : GoodIn wsX8_begin (wsV RX8 77 RX8 yX8_may wsX8_may) := goodIn_app (goodIn_of _ (by decide +kernel)) ggX8_begin_X8_may
set_option maxRecDepth 20000 in
theorem ggX8_begin_X8_reset : GoodIn wsX8_begin wsX8_reset := goodIn_r _ [10, 11, 12, 13, 14, 15, 16, 4, 17, 18, 19, 20, 21, 22, 23, 24, 25, 26, 27, 28, 29, 30, 31, 32, 33, 34, 35, 36, 37, 38, 39, 40, 41, 42] (by decide +kernel) (by decide +kernel)
set_option maxRecDepth 20000 in
theorem gX8_begin_X8_reset : GoodIn wsX8_begin (wsV RX8 59 RX8 yX8_reset wsX8_reset) := goodIn_app (goodIn_of _ (by decide +kernel)) ggX8_begin_X8_reset
theorem dX8_begin_0 : decode cX8_begin 0 = .ok (.aload_n 0, 1) := by decide +kernel
theorem dX8_begin_1 : decode cX8_begin 1 = .ok (.iload_n 1, 1) := by decide +kernel
theorem dX8_begin_2 : decode cX8_begin 2 = .ok (.iconst 2, 1) := by decide +kernel
theorem dX8_begin_3 : decode cX8_begin 3 = .ok (.if_icmp .lt 13, 3) := by decide +kernel
theorem dX8_begin_6 : decode cX8_begin 6 = .ok (.iload_n 1, 1) := by decide +kernel
theorem dX8_begin_7 : decode cX8_begin 7 = .ok (.bipush 6, 2) := by decide +kernel
theorem dX8_begin_9 : decode cX8_begin 9 = .ok (.if_icmp .gt 7, 3) := by decide +kernel
theorem dX8_begin_12 : decode cX8_begin 12 = .ok (.iconst 1, 1) := by decide +kernel
theorem dX8_begin_13 : decode cX8_begin 13 = .ok (.goto 4, 3) := by decide +kernel
theorem dX8_begin_16 : decode cX8_begin 16 = .ok (.iconst 0, 1) := by decide +kernel
theorem dX8_begin_17 : decode cX8_begin 17 = .ok (.invokevirtual 77, 3) := by decide +kernel
theorem dX8_begin_20 : decode cX8_begin 20 = .ok (.ifCond .eq 8, 3) := by decide +kernel
theorem dX8_begin_23 : decode cX8_begin 23 = .ok (.aload_n 0, 1) := by decide +kernel
theorem dX8_begin_24 : decode cX8_begin 24 = .ok (.iload_n 1, 1) := by decide +kernel
theorem dX8_begin_25 : decode cX8_begin 25 = .ok (.invokevirtual 59, 3) := by decide +kernel
theorem dX8_begin_28 : decode cX8_begin 28 = .ok (.return_, 1) := by decide +kernel
theorem dX8_ports_0 : decode cX8_ports 0 = .ok (.aload_n 0, 1) := by decide +kernel
theorem dX8_ports_1 : decode cX8_ports 1 = .ok (.iconst 0, 1) := by decide +kernel
theorem dX8_ports_2 : decode cX8_ports 2 = .ok (.putfield 63, 3) := by decide +kernel
theorem dX8_ports_5 : decode cX8_ports 5 = .ok (.aload_n 0, 1) := by decide +kernel
theorem dX8_ports_6 : decode cX8_ports 6 = .ok (.getfield 67, 3) := by decide +kernel
theorem dX8_ports_9 : decode cX8_ports 9 = .ok (.ireturn, 1) := by decide +kernel
set_option maxRecDepth 20000 in
theorem ggX8_access_X8_isPort : GoodIn wsX8_access wsX8_isPort := goodIn_r _ [5, 6, 19, 20, 21, 22, 23, 24, 25, 26, 27, 28, 29, 30, 31, 32, 33, 34, 35, 36, 37, 38, 39, 40] (by decide +kernel) (by decide +kernel)
set_option maxRecDepth 20000 in
theorem gX8_access_X8_isPort : GoodIn wsX8_access (wsV RX8 81 RX8 yX8_isPort wsX8_isPort) := goodIn_app (goodIn_of _ (by decide +kernel)) ggX8_access_X8_isPort
set_option maxRecDepth 20000 in
theorem ggX8_access_X8_mayBoth : GoodIn wsX8_access wsX8_mayBoth := goodIn_r _ [10, 11, 19, 20, 21, 22, 23, 24, 25, 26, 27, 28, 29, 30, 31, 32, 33, 34, 35, 36, 37, 38, 39, 40] (by decide +kernel) (by decide +kernel)
set_option maxRecDepth 20000 in
theorem gX8_access_X8_mayBoth : GoodIn wsX8_access (wsV RX8 85 RX8 yX8_mayBoth wsX8_mayBoth) := goodIn_app (goodIn_of _ (by decide +kernel)) ggX8_access_X8_mayBoth
set_option maxRecDepth 20000 in
theorem ggX8_access_X8_setAccess : GoodIn wsX8_access wsX8_setAccess := goodIn_r _ [15, 16, 17, 18, 19, 20, 21, 22, 23, 24, 25, 26, 27, 28, 29, 30, 31, 32, 33, 34, 35, 36, 37, 38, 39, 40] (by decide +kernel) (by decide +kernel)
set_option maxRecDepth 20000 in
theorem gX8_access_X8_setAccess : GoodIn wsX8_access (wsV RX8 73 RX8 yX8_setAccess wsX8_setAccess) := goodIn_app (goodIn_of _ (by decide +kernel)) ggX8_access_X8_setAccess
theorem dX8_access_0 : decode cX8_access 0 = .ok (.aload_n 0, 1) := by decide +kernel
theorem dX8_access_1 : decode cX8_access 1 = .ok (.aload_n 0, 1) := by decide +kernel
theorem dX8_access_2 : decode cX8_access 2 = .ok (.iload_n 1, 1) := by decide +kernel
theorem dX8_access_3 : decode cX8_access 3 = .ok (.invokevirtual 81, 3) := by decide +kernel
theorem dX8_access_6 : decode cX8_access 6 = .ok (.iload_n 2, 1) := by decide +kernel
theorem dX8_access_7 : decode cX8_access 7 = .ok (.iconst 1, 1) := by decide +kernel
theorem dX8_access_8 : decode cX8_access 8 = .ok (.if_icmp .lt 12, 3) := by decide +kernel
theorem dX8_access_11 : decode cX8_access 11 = .ok (.iload_n 2, 1) := by decide +kernel
theorem dX8_access_12 : decode cX8_access 12 = .ok (.iconst 4, 1) := by decide +kernel
theorem dX8_access_13 : decode cX8_access 13 = .ok (.if_icmp .gt 7, 3) := by decide +kernel
theorem dX8_access_16 : decode cX8_access 16 = .ok (.iconst 1, 1) := by decide +kernel
theorem dX8_access_17 : decode cX8_access 17 = .ok (.goto 4, 3) := by decide +kernel
theorem dX8_access_20 : decode cX8_access 20 = .ok (.iconst 0, 1) := by decide +kernel
theorem dX8_access_21 : decode cX8_access 21 = .ok (.invokevirtual 85, 3) := by decide +kernel
theorem dX8_access_24 : decode cX8_access 24 = .ok (.ifCond .eq 9, 3) := by decide +kernel
theorem dX8_access_27 : decode cX8_access 27 = .ok (.aload_n 0, 1) := by decide +kernel
theorem dX8_access_28 : decode cX8_access 28 = .ok (.iload_n 1, 1) := by decide +kernel
theorem dX8_access_29 : decode cX8_access 29 = .ok (.iload_n 2, 1) := by decide +kernel
theorem dX8_access_30 : decode cX8_access 30 = .ok (.invokevirtual 73, 3) := by decide +kernel
theorem dX8_access_33 : decode cX8_access 33 = .ok (.return_, 1) := by decide +kernel
set_option maxRecDepth 20000 in
theorem ggX8_trunk_X8_isPort : GoodIn wsX8_trunk wsX8_isPort := goodIn_r _ [8, 9, 15, 16, 17, 18, 19, 20, 21, 22, 23, 24, 25, 26, 27, 28, 29, 30, 31, 32, 33, 34, 35, 36] (by decide +kernel) (by decide +kernel)
set_option maxRecDepth 20000 in
theorem gX8_trunk_X8_isPort : GoodIn wsX8_trunk (wsV RX8 81 RX8 yX8_isPort wsX8_isPort) := goodIn_app (goodIn_of _ (by decide +kernel)) ggX8_trunk_X8_isPort
set_option maxRecDepth 20000 in
theorem ggX8_trunk_X8_mayBoth : GoodIn wsX8_trunk wsX8_mayBoth := goodIn_r _ [13, 14, 15, 16, 17, 18, 19, 20, 21, 22, 23, 24, 25, 26, 27, 28, 29, 30, 31, 32, 33, 34, 35, 36] (by decide +kernel) (by decide +kernel)
set_option maxRecDepth 20000 in
theorem gX8_trunk_X8_mayBoth : GoodIn wsX8_trunk (wsV RX8 85 RX8 yX8_mayBoth wsX8_mayBoth) := goodIn_app (goodIn_of _ (by decide +kernel)) ggX8_trunk_X8_mayBoth
theorem dX8_trunk_0 : decode cX8_trunk 0 = .ok (.iload_n 2, 1) := by decide +kernel
theorem dX8_trunk_1 : decode cX8_trunk 1 = .ok (.iconst 1, 1) := by decide +kernel
theorem dX8_trunk_2 : decode cX8_trunk 2 = .ok (.if_icmp .lt 22, 3) := by decide +kernel
theorem dX8_trunk_5 : decode cX8_trunk 5 = .ok (.iload_n 2, 1) := by decide +kernel
theorem dX8_trunk_6 : decode cX8_trunk 6 = .ok (.bipush 15, 2) := by decide +kernel
theorem dX8_trunk_8 : decode cX8_trunk 8 = .ok (.if_icmp .gt 16, 3) := by decide +kernel
theorem dX8_trunk_11 : decode cX8_trunk 11 = .ok (.iload_n 3, 1) := by decide +kernel
theorem dX8_trunk_12 : decode cX8_trunk 12 = .ok (.ifCond .lt 12, 3) := by decide +kernel
theorem dX8_trunk_15 : decode cX8_trunk 15 = .ok (.iload_n 3, 1) := by decide +kernel
theorem dX8_trunk_16 : decode cX8_trunk 16 = .ok (.iconst 4, 1) := by decide +kernel
theorem dX8_trunk_17 : decode cX8_trunk 17 = .ok (.if_icmp .gt 7, 3) := by decide +kernel
theorem dX8_trunk_20 : decode cX8_trunk 20 = .ok (.iconst 1, 1) := by decide +kernel
theorem dX8_trunk_21 : decode cX8_trunk 21 = .ok (.goto 4, 3) := by decide +kernel
theorem dX8_trunk_24 : decode cX8_trunk 24 = .ok (.iconst 0, 1) := by decide +kernel
theorem dX8_trunk_25 : decode cX8_trunk 25 = .ok (.istore 4, 2) := by decide +kernel
theorem dX8_trunk_27 : decode cX8_trunk 27 = .ok (.aload_n 0, 1) := by decide +kernel
theorem dX8_trunk_28 : decode cX8_trunk 28 = .ok (.aload_n 0, 1) := by decide +kernel
theorem dX8_trunk_29 : decode cX8_trunk 29 = .ok (.iload_n 1, 1) := by decide +kernel
theorem dX8_trunk_30 : decode cX8_trunk 30 = .ok (.invokevirtual 81, 3) := by decide +kernel
theorem dX8_trunk_33 : decode cX8_trunk 33 = .ok (.iload 4, 2) := by decide +kernel
theorem dX8_trunk_35 : decode cX8_trunk 35 = .ok (.ifCond .eq 22, 3) := by decide +kernel
theorem dX8_trunk_38 : decode cX8_trunk 38 = .ok (.iload_n 3, 1) := by decide +kernel
theorem dX8_trunk_39 : decode cX8_trunk 39 = .ok (.ifCond .eq 14, 3) := by decide +kernel
theorem dX8_trunk_42 : decode cX8_trunk 42 = .ok (.iload_n 2, 1) := by decide +kernel
theorem dX8_trunk_43 : decode cX8_trunk 43 = .ok (.iload_n 3, 1) := by decide +kernel
theorem dX8_trunk_44 : decode cX8_trunk 44 = .ok (.iconst 1, 1) := by decide +kernel
theorem dX8_trunk_45 : decode cX8_trunk 45 = .ok (.isub, 1) := by decide +kernel
theorem dX8_trunk_46 : decode cX8_trunk 46 = .ok (.ishr, 1) := by decide +kernel
theorem dX8_trunk_47 : decode cX8_trunk 47 = .ok (.iconst 1, 1) := by decide +kernel
theorem dX8_trunk_48 : decode cX8_trunk 48 = .ok (.iand, 1) := by decide +kernel
theorem dX8_trunk_49 : decode cX8_trunk 49 = .ok (.iconst 1, 1) := by decide +kernel
theorem dX8_trunk_50 : decode cX8_trunk 50 = .ok (.if_icmp .ne 7, 3) := by decide +kernel
theorem dX8_trunk_53 : decode cX8_trunk 53 = .ok (.iconst 1, 1) := by decide +kernel
theorem dX8_trunk_54 : decode cX8_trunk 54 = .ok (.goto 4, 3) := by decide +kernel
theorem dX8_trunk_57 : decode cX8_trunk 57 = .ok (.iconst 0, 1) := by decide +kernel
theorem dX8_trunk_58 : decode cX8_trunk 58 = .ok (.invokevirtual 85, 3) := by decide +kernel
theorem dX8_trunk_61 : decode cX8_trunk 61 = .ok (.ifCond .eq 24, 3) := by decide +kernel
theorem dX8_trunk_64 : decode cX8_trunk 64 = .ok (.aload_n 0, 1) := by decide +kernel
theorem dX8_trunk_65 : decode cX8_trunk 65 = .ok (.getfield 13, 3) := by decide +kernel
theorem dX8_trunk_68 : decode cX8_trunk 68 = .ok (.iload_n 1, 1) := by decide +kernel
theorem dX8_trunk_69 : decode cX8_trunk 69 = .ok (.iconst 1, 1) := by decide +kernel
theorem dX8_trunk_70 : decode cX8_trunk 70 = .ok (.bastore, 1) := by decide +kernel
theorem dX8_trunk_71 : decode cX8_trunk 71 = .ok (.aload_n 0, 1) := by decide +kernel
theorem dX8_trunk_72 : decode cX8_trunk 72 = .ok (.getfield 7, 3) := by decide +kernel
theorem dX8_trunk_75 : decode cX8_trunk 75 = .ok (.iload_n 1, 1) := by decide +kernel
theorem dX8_trunk_76 : decode cX8_trunk 76 = .ok (.iload_n 2, 1) := by decide +kernel
theorem dX8_trunk_77 : decode cX8_trunk 77 = .ok (.iastore, 1) := by decide +kernel
theorem dX8_trunk_78 : decode cX8_trunk 78 = .ok (.aload_n 0, 1) := by decide +kernel
theorem dX8_trunk_79 : decode cX8_trunk 79 = .ok (.getfield 17, 3) := by decide +kernel
theorem dX8_trunk_82 : decode cX8_trunk 82 = .ok (.iload_n 1, 1) := by decide +kernel
theorem dX8_trunk_83 : decode cX8_trunk 83 = .ok (.iload_n 3, 1) := by decide +kernel
theorem dX8_trunk_84 : decode cX8_trunk 84 = .ok (.iastore, 1) := by decide +kernel
theorem dX8_trunk_85 : decode cX8_trunk 85 = .ok (.return_, 1) := by decide +kernel
set_option maxRecDepth 20000 in
theorem ggX8_fault_X8_isPort : GoodIn wsX8_fault wsX8_isPort := goodIn_r _ [6, 7, 16, 17, 18, 19, 20, 21, 22, 23, 24, 25, 26, 27, 28, 29, 30, 31, 32, 33, 34, 35, 36, 37] (by decide +kernel) (by decide +kernel)
set_option maxRecDepth 20000 in
theorem gX8_fault_X8_isPort : GoodIn wsX8_fault (wsV RX8 81 RX8 yX8_isPort wsX8_isPort) := goodIn_app (goodIn_of _ (by decide +kernel)) ggX8_fault_X8_isPort
set_option maxRecDepth 20000 in
theorem ggX8_fault_X8_mayBoth : GoodIn wsX8_fault wsX8_mayBoth := goodIn_r _ [11, 12, 16, 17, 18, 19, 20, 21, 22, 23, 24, 25, 26, 27, 28, 29, 30, 31, 32, 33, 34, 35, 36, 37] (by decide +kernel) (by decide +kernel)
set_option maxRecDepth 20000 in
theorem gX8_fault_X8_mayBoth : GoodIn wsX8_fault (wsV RX8 85 RX8 yX8_mayBoth wsX8_mayBoth) := goodIn_app (goodIn_of _ (by decide +kernel)) ggX8_fault_X8_mayBoth
set_option maxRecDepth 20000 in
theorem ggX8_fault_X8_has : GoodIn wsX8_fault wsX8_has := goodIn_r _ [15] (by decide +kernel) (by decide +kernel)
set_option maxRecDepth 20000 in
theorem gX8_fault_X8_has : GoodIn wsX8_fault (va_wsS RX8 89 yX8_has wsX8_has) := goodIn_app (goodIn_of _ (by decide +kernel)) ggX8_fault_X8_has
theorem dX8_fault_0 : decode cX8_fault 0 = .ok (.aload_n 0, 1) := by decide +kernel
theorem dX8_fault_1 : decode cX8_fault 1 = .ok (.aload_n 0, 1) := by decide +kernel
theorem dX8_fault_2 : decode cX8_fault 2 = .ok (.iload_n 1, 1) := by decide +kernel
theorem dX8_fault_3 : decode cX8_fault 3 = .ok (.invokevirtual 81, 3) := by decide +kernel
theorem dX8_fault_6 : decode cX8_fault 6 = .ok (.iload_n 2, 1) := by decide +kernel
theorem dX8_fault_7 : decode cX8_fault 7 = .ok (.ifCond .lt 12, 3) := by decide +kernel
theorem dX8_fault_10 : decode cX8_fault 10 = .ok (.iload_n 2, 1) := by decide +kernel
theorem dX8_fault_11 : decode cX8_fault 11 = .ok (.iconst 4, 1) := by decide +kernel
theorem dX8_fault_12 : decode cX8_fault 12 = .ok (.if_icmp .gt 7, 3) := by decide +kernel
theorem dX8_fault_15 : decode cX8_fault 15 = .ok (.iconst 1, 1) := by decide +kernel
theorem dX8_fault_16 : decode cX8_fault 16 = .ok (.goto 4, 3) := by decide +kernel
theorem dX8_fault_19 : decode cX8_fault 19 = .ok (.iconst 0, 1) := by decide +kernel
theorem dX8_fault_20 : decode cX8_fault 20 = .ok (.invokevirtual 85, 3) := by decide +kernel
theorem dX8_fault_23 : decode cX8_fault 23 = .ok (.ifCond .ne 5, 3) := by decide +kernel
theorem dX8_fault_26 : decode cX8_fault 26 = .ok (.iconst 0, 1) := by decide +kernel
theorem dX8_fault_27 : decode cX8_fault 27 = .ok (.ireturn, 1) := by decide +kernel
theorem dX8_fault_28 : decode cX8_fault 28 = .ok (.aload_n 0, 1) := by decide +kernel
theorem dX8_fault_29 : decode cX8_fault 29 = .ok (.getfield 20, 3) := by decide +kernel
theorem dX8_fault_32 : decode cX8_fault 32 = .ok (.iload_n 1, 1) := by decide +kernel
theorem dX8_fault_33 : decode cX8_fault 33 = .ok (.dup2, 1) := by decide +kernel
theorem dX8_fault_34 : decode cX8_fault 34 = .ok (.iaload, 1) := by decide +kernel
theorem dX8_fault_35 : decode cX8_fault 35 = .ok (.iconst 1, 1) := by decide +kernel
theorem dX8_fault_36 : decode cX8_fault 36 = .ok (.iload_n 2, 1) := by decide +kernel
theorem dX8_fault_37 : decode cX8_fault 37 = .ok (.ishl, 1) := by decide +kernel
theorem dX8_fault_38 : decode cX8_fault 38 = .ok (.ixor, 1) := by decide +kernel
theorem dX8_fault_39 : decode cX8_fault 39 = .ok (.iastore, 1) := by decide +kernel
theorem dX8_fault_40 : decode cX8_fault 40 = .ok (.aload_n 0, 1) := by decide +kernel
theorem dX8_fault_41 : decode cX8_fault 41 = .ok (.getfield 20, 3) := by decide +kernel
theorem dX8_fault_44 : decode cX8_fault 44 = .ok (.iload_n 1, 1) := by decide +kernel
theorem dX8_fault_45 : decode cX8_fault 45 = .ok (.iaload, 1) := by decide +kernel
theorem dX8_fault_46 : decode cX8_fault 46 = .ok (.iload_n 2, 1) := by decide +kernel
theorem dX8_fault_47 : decode cX8_fault 47 = .ok (.invokestatic 89, 3) := by decide +kernel
theorem dX8_fault_50 : decode cX8_fault 50 = .ok (.ireturn, 1) := by decide +kernel
theorem dX8_has_0 : decode cX8_has 0 = .ok (.iload_n 0, 1) := by decide +kernel
theorem dX8_has_1 : decode cX8_has 1 = .ok (.iload_n 1, 1) := by decide +kernel
theorem dX8_has_2 : decode cX8_has 2 = .ok (.ishr, 1) := by decide +kernel
theorem dX8_has_3 : decode cX8_has 3 = .ok (.iconst 1, 1) := by decide +kernel
theorem dX8_has_4 : decode cX8_has 4 = .ok (.iand, 1) := by decide +kernel
theorem dX8_has_5 : decode cX8_has 5 = .ok (.iconst 1, 1) := by decide +kernel
theorem dX8_has_6 : decode cX8_has 6 = .ok (.if_icmp .ne 7, 3) := by decide +kernel
theorem dX8_has_9 : decode cX8_has 9 = .ok (.iconst 1, 1) := by decide +kernel
theorem dX8_has_10 : decode cX8_has 10 = .ok (.goto 4, 3) := by decide +kernel
theorem dX8_has_13 : decode cX8_has 13 = .ok (.iconst 0, 1) := by decide +kernel
theorem dX8_has_14 : decode cX8_has 14 = .ok (.ireturn, 1) := by decide +kernel
theorem dX8_put_0 : decode cX8_put 0 = .ok (.aload_n 0, 1) := by decide +kernel
theorem dX8_put_1 : decode cX8_put 1 = .ok (.getfield 23, 3) := by decide +kernel
theorem dX8_put_4 : decode cX8_put 4 = .ok (.aload_n 0, 1) := by decide +kernel
theorem dX8_put_5 : decode cX8_put 5 = .ok (.getfield 70, 3) := by decide +kernel
theorem dX8_put_8 : decode cX8_put 8 = .ok (.iload_n 1, 1) := by decide +kernel
theorem dX8_put_9 : decode cX8_put 9 = .ok (.iastore, 1) := by decide +kernel
theorem dX8_put_10 : decode cX8_put 10 = .ok (.aload_n 0, 1) := by decide +kernel
theorem dX8_put_11 : decode cX8_put 11 = .ok (.getfield 26, 3) := by decide +kernel
theorem dX8_put_14 : decode cX8_put 14 = .ok (.aload_n 0, 1) := by decide +kernel
theorem dX8_put_15 : decode cX8_put 15 = .ok (.getfield 70, 3) := by decide +kernel
theorem dX8_put_18 : decode cX8_put 18 = .ok (.iload_n 2, 1) := by decide +kernel
theorem dX8_put_19 : decode cX8_put 19 = .ok (.iastore, 1) := by decide +kernel
theorem dX8_put_20 : decode cX8_put 20 = .ok (.aload_n 0, 1) := by decide +kernel
theorem dX8_put_21 : decode cX8_put 21 = .ok (.getfield 29, 3) := by decide +kernel
theorem dX8_put_24 : decode cX8_put 24 = .ok (.aload_n 0, 1) := by decide +kernel
theorem dX8_put_25 : decode cX8_put 25 = .ok (.getfield 70, 3) := by decide +kernel
theorem dX8_put_28 : decode cX8_put 28 = .ok (.iload_n 3, 1) := by decide +kernel
theorem dX8_put_29 : decode cX8_put 29 = .ok (.iastore, 1) := by decide +kernel
theorem dX8_put_30 : decode cX8_put 30 = .ok (.aload_n 0, 1) := by decide +kernel
theorem dX8_put_31 : decode cX8_put 31 = .ok (.getfield 32, 3) := by decide +kernel
theorem dX8_put_34 : decode cX8_put 34 = .ok (.aload_n 0, 1) := by decide +kernel
theorem dX8_put_35 : decode cX8_put 35 = .ok (.getfield 70, 3) := by decide +kernel
theorem dX8_put_38 : decode cX8_put 38 = .ok (.iload 4, 2) := by decide +kernel
theorem dX8_put_40 : decode cX8_put 40 = .ok (.iastore, 1) := by decide +kernel
theorem dX8_put_41 : decode cX8_put 41 = .ok (.aload_n 0, 1) := by decide +kernel
theorem dX8_put_42 : decode cX8_put 42 = .ok (.dup, 1) := by decide +kernel
theorem dX8_put_43 : decode cX8_put 43 = .ok (.getfield 70, 3) := by decide +kernel
theorem dX8_put_46 : decode cX8_put 46 = .ok (.iconst 1, 1) := by decide +kernel
theorem dX8_put_47 : decode cX8_put 47 = .ok (.iadd, 1) := by decide +kernel
theorem dX8_put_48 : decode cX8_put 48 = .ok (.putfield 70, 3) := by decide +kernel
theorem dX8_put_51 : decode cX8_put 51 = .ok (.return_, 1) := by decide +kernel
set_option maxRecDepth 20000 in
theorem ggX8_add_X8_isPort : GoodIn wsX8_add wsX8_isPort := goodIn_r _ [6, 7, 21, 22, 23, 24, 25, 26, 27, 28, 29, 30, 31, 32, 33, 34, 35, 36, 37, 38, 39, 40, 41, 42] (by decide +kernel) (by decide +kernel)
set_option maxRecDepth 20000 in
theorem gX8_add_X8_isPort : GoodIn wsX8_add (wsV RX8 81 RX8 yX8_isPort wsX8_isPort) := goodIn_app (goodIn_of _ (by decide +kernel)) ggX8_add_X8_isPort
set_option maxRecDepth 20000 in
theorem ggX8_add_X8_mayAll : GoodIn wsX8_add wsX8_mayAll := goodIn_r _ [11, 12, 21, 22, 23, 24, 25, 26, 27, 28, 29, 30, 31, 32, 33, 34, 35, 36, 37, 38, 39, 40, 41, 42] (by decide +kernel) (by decide +kernel)
set_option maxRecDepth 20000 in
theorem gX8_add_X8_mayAll : GoodIn wsX8_add (wsV RX8 93 RX8 yX8_mayAll wsX8_mayAll) := goodIn_app (goodIn_of _ (by decide +kernel)) ggX8_add_X8_mayAll
set_option maxRecDepth 20000 in
theorem ggX8_add_X8_put : GoodIn wsX8_add wsX8_put := goodIn_r _ [16, 17, 1, 18, 19, 20, 21, 22, 23, 24, 25, 26, 27, 28, 29, 30, 31, 32, 33, 34, 35, 36, 37, 38, 39, 40, 41, 42] (by decide +kernel) (by decide +kernel)
set_option maxRecDepth 20000 in
theorem gX8_add_X8_put : GoodIn wsX8_add (wsV RX8 97 RX8 yX8_put wsX8_put) := goodIn_app (goodIn_of _ (by decide +kernel)) ggX8_add_X8_put
theorem dX8_add_0 : decode cX8_add 0 = .ok (.iload_n 2, 1) := by decide +kernel
theorem dX8_add_1 : decode cX8_add 1 = .ok (.ifCond .lt 32, 3) := by decide +kernel
theorem dX8_add_4 : decode cX8_add 4 = .ok (.iload_n 2, 1) := by decide +kernel
