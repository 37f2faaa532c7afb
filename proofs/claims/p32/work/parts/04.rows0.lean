theorem dX0_init_0 : decode cX0_init 0 = .ok (.aload_n 0, 1) := by decide +kernel
theorem dX0_init_1 : decode cX0_init 1 = .ok (.invokespecial 3, 3) := by decide +kernel
theorem dX0_init_4 : decode cX0_init 4 = .ok (.aload_n 0, 1) := by decide +kernel
theorem dX0_init_5 : decode cX0_init 5 = .ok (.bipush 8, 2) := by decide +kernel
theorem dX0_init_7 : decode cX0_init 7 = .ok (.newarray .int, 2) := by decide +kernel
theorem dX0_init_9 : decode cX0_init 9 = .ok (.putfield 9, 3) := by decide +kernel
theorem dX0_init_12 : decode cX0_init 12 = .ok (.aload_n 0, 1) := by decide +kernel
theorem dX0_init_13 : decode cX0_init 13 = .ok (.bipush 8, 2) := by decide +kernel
theorem dX0_init_15 : decode cX0_init 15 = .ok (.newarray .int, 2) := by decide +kernel
theorem dX0_init_17 : decode cX0_init 17 = .ok (.putfield 15, 3) := by decide +kernel
theorem dX0_init_20 : decode cX0_init 20 = .ok (.aload_n 0, 1) := by decide +kernel
theorem dX0_init_21 : decode cX0_init 21 = .ok (.iconst (-1), 1) := by decide +kernel
theorem dX0_init_22 : decode cX0_init 22 = .ok (.putfield 18, 3) := by decide +kernel
theorem dX0_init_25 : decode cX0_init 25 = .ok (.aload_n 0, 1) := by decide +kernel
theorem dX0_init_26 : decode cX0_init 26 = .ok (.aload_n 1, 1) := by decide +kernel
theorem dX0_init_27 : decode cX0_init 27 = .ok (.putfield 22, 3) := by decide +kernel
theorem dX0_init_30 : decode cX0_init 30 = .ok (.return_, 1) := by decide +kernel
theorem dX0_changeJams_0 : decode cX0_changeJams 0 = .ok (.aload_n 0, 1) := by decide +kernel
theorem dX0_changeJams_1 : decode cX0_changeJams 1 = .ok (.getfield 9, 3) := by decide +kernel
theorem dX0_changeJams_4 : decode cX0_changeJams 4 = .ok (.iload_n 1, 1) := by decide +kernel
theorem dX0_changeJams_5 : decode cX0_changeJams 5 = .ok (.iaload, 1) := by decide +kernel
theorem dX0_changeJams_6 : decode cX0_changeJams 6 = .ok (.istore_n 3, 1) := by decide +kernel
theorem dX0_changeJams_7 : decode cX0_changeJams 7 = .ok (.aload_n 0, 1) := by decide +kernel
theorem dX0_changeJams_8 : decode cX0_changeJams 8 = .ok (.getfield 9, 3) := by decide +kernel
theorem dX0_changeJams_11 : decode cX0_changeJams 11 = .ok (.iload_n 1, 1) := by decide +kernel
theorem dX0_changeJams_12 : decode cX0_changeJams 12 = .ok (.iload_n 2, 1) := by decide +kernel
theorem dX0_changeJams_13 : decode cX0_changeJams 13 = .ok (.iastore, 1) := by decide +kernel
theorem dX0_changeJams_14 : decode cX0_changeJams 14 = .ok (.iload_n 3, 1) := by decide +kernel
theorem dX0_changeJams_15 : decode cX0_changeJams 15 = .ok (.ireturn, 1) := by decide +kernel
set_option maxRecDepth 20000 in
theorem ggX0_start_X0_halt : GoodIn wsX0_start wsX0_halt := goodIn_r _ [6, 1, 7, 8, 9, 10, 11, 12, 13, 14, 15, 16, 17, 18, 19] (by decide +kernel) (by decide +kernel)
set_option maxRecDepth 20000 in
theorem gX0_start_X0_halt : GoodIn wsX0_start (wsV RX0 26 RX0 yX0_halt wsX0_halt) := goodIn_app (goodIn_of _ (by decide +kernel)) ggX0_start_X0_halt
theorem dX0_start_0 : decode cX0_start 0 = .ok (.aload_n 0, 1) := by decide +kernel
theorem dX0_start_1 : decode cX0_start 1 = .ok (.invokevirtual 26, 3) := by decide +kernel
theorem dX0_start_4 : decode cX0_start 4 = .ok (.aload_n 0, 1) := by decide +kernel
theorem dX0_start_5 : decode cX0_start 5 = .ok (.iconst 1, 1) := by decide +kernel
theorem dX0_start_6 : decode cX0_start 6 = .ok (.putfield 29, 3) := by decide +kernel
theorem dX0_start_9 : decode cX0_start 9 = .ok (.return_, 1) := by decide +kernel
theorem dX0_halt_0 : decode cX0_halt 0 = .ok (.aload_n 0, 1) := by decide +kernel
theorem dX0_halt_1 : decode cX0_halt 1 = .ok (.iconst 0, 1) := by decide +kernel
theorem dX0_halt_2 : decode cX0_halt 2 = .ok (.putfield 29, 3) := by decide +kernel
theorem dX0_halt_5 : decode cX0_halt 5 = .ok (.aload_n 0, 1) := by decide +kernel
theorem dX0_halt_6 : decode cX0_halt 6 = .ok (.iconst 0, 1) := by decide +kernel
theorem dX0_halt_7 : decode cX0_halt 7 = .ok (.putfield 33, 3) := by decide +kernel
theorem dX0_halt_10 : decode cX0_halt 10 = .ok (.aload_n 0, 1) := by decide +kernel
theorem dX0_halt_11 : decode cX0_halt 11 = .ok (.iconst 0, 1) := by decide +kernel
theorem dX0_halt_12 : decode cX0_halt 12 = .ok (.putfield 36, 3) := by decide +kernel
theorem dX0_halt_15 : decode cX0_halt 15 = .ok (.aload_n 0, 1) := by decide +kernel
theorem dX0_halt_16 : decode cX0_halt 16 = .ok (.iconst 0, 1) := by decide +kernel
theorem dX0_halt_17 : decode cX0_halt 17 = .ok (.putfield 39, 3) := by decide +kernel
theorem dX0_halt_20 : decode cX0_halt 20 = .ok (.aload_n 0, 1) := by decide +kernel
theorem dX0_halt_21 : decode cX0_halt 21 = .ok (.iconst (-1), 1) := by decide +kernel
theorem dX0_halt_22 : decode cX0_halt 22 = .ok (.putfield 18, 3) := by decide +kernel
theorem dX0_halt_25 : decode cX0_halt 25 = .ok (.iconst 0, 1) := by decide +kernel
theorem dX0_halt_26 : decode cX0_halt 26 = .ok (.istore_n 1, 1) := by decide +kernel
theorem dX0_halt_27 : decode cX0_halt 27 = .ok (.iload_n 1, 1) := by decide +kernel
theorem dX0_halt_28 : decode cX0_halt 28 = .ok (.bipush 8, 2) := by decide +kernel
theorem dX0_halt_30 : decode cX0_halt 30 = .ok (.if_icmp .ge 16, 3) := by decide +kernel
theorem dX0_halt_33 : decode cX0_halt 33 = .ok (.aload_n 0, 1) := by decide +kernel
theorem dX0_halt_34 : decode cX0_halt 34 = .ok (.getfield 15, 3) := by decide +kernel
theorem dX0_halt_37 : decode cX0_halt 37 = .ok (.iload_n 1, 1) := by decide +kernel
theorem dX0_halt_38 : decode cX0_halt 38 = .ok (.iconst 0, 1) := by decide +kernel
theorem dX0_halt_39 : decode cX0_halt 39 = .ok (.iastore, 1) := by decide +kernel
theorem dX0_halt_40 : decode cX0_halt 40 = .ok (.iinc 1 1, 3) := by decide +kernel
theorem dX0_halt_43 : decode cX0_halt 43 = .ok (.goto (-16), 3) := by decide +kernel
theorem dX0_halt_46 : decode cX0_halt 46 = .ok (.return_, 1) := by decide +kernel
theorem dX0_nextPlace_0 : decode cX0_nextPlace 0 = .ok (.aload_n 0, 1) := by decide +kernel
theorem dX0_nextPlace_1 : decode cX0_nextPlace 1 = .ok (.getfield 29, 3) := by decide +kernel
theorem dX0_nextPlace_4 : decode cX0_nextPlace 4 = .ok (.ifCond .eq 10, 3) := by decide +kernel
theorem dX0_nextPlace_7 : decode cX0_nextPlace 7 = .ok (.aload_n 0, 1) := by decide +kernel
theorem dX0_nextPlace_8 : decode cX0_nextPlace 8 = .ok (.getfield 33, 3) := by decide +kernel
theorem dX0_nextPlace_11 : decode cX0_nextPlace 11 = .ok (.goto 4, 3) := by decide +kernel
theorem dX0_nextPlace_14 : decode cX0_nextPlace 14 = .ok (.iconst (-1), 1) := by decide +kernel
theorem dX0_nextPlace_15 : decode cX0_nextPlace 15 = .ok (.ireturn, 1) := by decide +kernel
theorem dX0_lastPlace_0 : decode cX0_lastPlace 0 = .ok (.aload_n 0, 1) := by decide +kernel
theorem dX0_lastPlace_1 : decode cX0_lastPlace 1 = .ok (.getfield 33, 3) := by decide +kernel
theorem dX0_lastPlace_4 : decode cX0_lastPlace 4 = .ok (.ifCond .le 12, 3) := by decide +kernel
theorem dX0_lastPlace_7 : decode cX0_lastPlace 7 = .ok (.aload_n 0, 1) := by decide +kernel
theorem dX0_lastPlace_8 : decode cX0_lastPlace 8 = .ok (.getfield 33, 3) := by decide +kernel
theorem dX0_lastPlace_11 : decode cX0_lastPlace 11 = .ok (.iconst 1, 1) := by decide +kernel
theorem dX0_lastPlace_12 : decode cX0_lastPlace 12 = .ok (.isub, 1) := by decide +kernel
theorem dX0_lastPlace_13 : decode cX0_lastPlace 13 = .ok (.goto 4, 3) := by decide +kernel
theorem dX0_lastPlace_16 : decode cX0_lastPlace 16 = .ok (.iconst (-1), 1) := by decide +kernel
theorem dX0_lastPlace_17 : decode cX0_lastPlace 17 = .ok (.ireturn, 1) := by decide +kernel
set_option maxRecDepth 20000 in
theorem ggX0_tryToPutIn_X3_tool : GoodIn wsX0_tryToPutIn wsX3_tool := goodIn_r _ [8, 9, 44, 45, 46, 47, 48, 49] (by decide +kernel) (by decide +kernel)
set_option maxRecDepth 20000 in
theorem gX0_tryToPutIn_X3_tool : GoodIn wsX0_tryToPutIn (wsV RX0 42 RX3 yX3_tool wsX3_tool) := goodIn_app (goodIn_of _ (by decide +kernel)) ggX0_tryToPutIn_X3_tool
set_option maxRecDepth 20000 in
theorem ggX0_tryToPutIn_X0_mount : GoodIn wsX0_tryToPutIn wsX0_mount := goodIn_r _ [14, 15, 3, 36, 37, 38, 39, 40, 41, 42, 43] (by decide +kernel) (by decide +kernel)
set_option maxRecDepth 20000 in
theorem gX0_tryToPutIn_X0_mount : GoodIn wsX0_tryToPutIn (wsV RX0 47 RX0 yX0_mount wsX0_mount) := goodIn_app (goodIn_of _ (by decide +kernel)) ggX0_tryToPutIn_X0_mount
set_option maxRecDepth 20000 in
theorem ggX0_tryToPutIn_X0_bypassed : GoodIn wsX0_tryToPutIn wsX0_bypassed := goodIn_r _ [19, 20, 36, 37, 38, 39, 40, 41, 42, 43] (by decide +kernel) (by decide +kernel)
set_option maxRecDepth 20000 in
theorem gX0_tryToPutIn_X0_bypassed : GoodIn wsX0_tryToPutIn (wsV RX0 51 RX0 yX0_bypassed wsX0_bypassed) := goodIn_app (goodIn_of _ (by decide +kernel)) ggX0_tryToPutIn_X0_bypassed
set_option maxRecDepth 20000 in
theorem ggX0_tryToPutIn_X0_clearJam : GoodIn wsX0_tryToPutIn wsX0_clearJam := goodIn_r _ [24, 2, 20, 3, 36, 37, 38, 39, 40, 41, 42, 43] (by decide +kernel) (by decide +kernel)
set_option maxRecDepth 20000 in
theorem gX0_tryToPutIn_X0_clearJam : GoodIn wsX0_tryToPutIn (wsV RX0 55 RX0 yX0_clearJam wsX0_clearJam) := goodIn_app (goodIn_of _ (by decide +kernel)) ggX0_tryToPutIn_X0_clearJam
set_option maxRecDepth 20000 in
theorem ggX0_tryToPutIn_X0_putIn : GoodIn wsX0_tryToPutIn wsX0_putIn := goodIn_r _ [28, 29, 30, 1, 3, 31, 32, 33, 7, 34, 35, 36, 37, 38, 39, 40, 41, 42, 43, 44, 45, 46, 47, 48, 49] (by decide +kernel) (by decide +kernel)
set_option maxRecDepth 20000 in
theorem gX0_tryToPutIn_X0_putIn : GoodIn wsX0_tryToPutIn (wsV RX0 58 RX0 yX0_putIn wsX0_putIn) := goodIn_app (goodIn_of _ (by decide +kernel)) ggX0_tryToPutIn_X0_putIn
theorem dX0_tryToPutIn_0 : decode cX0_tryToPutIn 0 = .ok (.aload_n 0, 1) := by decide +kernel
theorem dX0_tryToPutIn_1 : decode cX0_tryToPutIn 1 = .ok (.aload_n 0, 1) := by decide +kernel
theorem dX0_tryToPutIn_2 : decode cX0_tryToPutIn 2 = .ok (.getfield 22, 3) := by decide +kernel
theorem dX0_tryToPutIn_5 : decode cX0_tryToPutIn 5 = .ok (.iload_n 1, 1) := by decide +kernel
theorem dX0_tryToPutIn_6 : decode cX0_tryToPutIn 6 = .ok (.invokevirtual 42, 3) := by decide +kernel
theorem dX0_tryToPutIn_9 : decode cX0_tryToPutIn 9 = .ok (.invokevirtual 47, 3) := by decide +kernel
theorem dX0_tryToPutIn_12 : decode cX0_tryToPutIn 12 = .ok (.aload_n 0, 1) := by decide +kernel
theorem dX0_tryToPutIn_13 : decode cX0_tryToPutIn 13 = .ok (.getfield 9, 3) := by decide +kernel
theorem dX0_tryToPutIn_16 : decode cX0_tryToPutIn 16 = .ok (.iload_n 1, 1) := by decide +kernel
theorem dX0_tryToPutIn_17 : decode cX0_tryToPutIn 17 = .ok (.iaload, 1) := by decide +kernel
theorem dX0_tryToPutIn_18 : decode cX0_tryToPutIn 18 = .ok (.ifCond .le 18, 3) := by decide +kernel
theorem dX0_tryToPutIn_21 : decode cX0_tryToPutIn 21 = .ok (.aload_n 0, 1) := by decide +kernel
theorem dX0_tryToPutIn_22 : decode cX0_tryToPutIn 22 = .ok (.iload_n 1, 1) := by decide +kernel
theorem dX0_tryToPutIn_23 : decode cX0_tryToPutIn 23 = .ok (.invokevirtual 51, 3) := by decide +kernel
theorem dX0_tryToPutIn_26 : decode cX0_tryToPutIn 26 = .ok (.ifCond .ne 10, 3) := by decide +kernel
theorem dX0_tryToPutIn_29 : decode cX0_tryToPutIn 29 = .ok (.aload_n 0, 1) := by decide +kernel
theorem dX0_tryToPutIn_30 : decode cX0_tryToPutIn 30 = .ok (.iload_n 1, 1) := by decide +kernel
theorem dX0_tryToPutIn_31 : decode cX0_tryToPutIn 31 = .ok (.invokevirtual 55, 3) := by decide +kernel
theorem dX0_tryToPutIn_34 : decode cX0_tryToPutIn 34 = .ok (.iconst 0, 1) := by decide +kernel
theorem dX0_tryToPutIn_35 : decode cX0_tryToPutIn 35 = .ok (.ireturn, 1) := by decide +kernel
theorem dX0_tryToPutIn_36 : decode cX0_tryToPutIn 36 = .ok (.aload_n 0, 1) := by decide +kernel
theorem dX0_tryToPutIn_37 : decode cX0_tryToPutIn 37 = .ok (.dup, 1) := by decide +kernel
theorem dX0_tryToPutIn_38 : decode cX0_tryToPutIn 38 = .ok (.getfield 39, 3) := by decide +kernel
theorem dX0_tryToPutIn_41 : decode cX0_tryToPutIn 41 = .ok (.aload_n 0, 1) := by decide +kernel
theorem dX0_tryToPutIn_42 : decode cX0_tryToPutIn 42 = .ok (.iload_n 1, 1) := by decide +kernel
theorem dX0_tryToPutIn_43 : decode cX0_tryToPutIn 43 = .ok (.invokevirtual 51, 3) := by decide +kernel
theorem dX0_tryToPutIn_46 : decode cX0_tryToPutIn 46 = .ok (.ifCond .eq 7, 3) := by decide +kernel
theorem dX0_tryToPutIn_49 : decode cX0_tryToPutIn 49 = .ok (.iconst 4, 1) := by decide +kernel
theorem dX0_tryToPutIn_50 : decode cX0_tryToPutIn 50 = .ok (.goto 4, 3) := by decide +kernel
theorem dX0_tryToPutIn_53 : decode cX0_tryToPutIn 53 = .ok (.iconst 1, 1) := by decide +kernel
theorem dX0_tryToPutIn_54 : decode cX0_tryToPutIn 54 = .ok (.iadd, 1) := by decide +kernel
theorem dX0_tryToPutIn_55 : decode cX0_tryToPutIn 55 = .ok (.putfield 39, 3) := by decide +kernel
theorem dX0_tryToPutIn_58 : decode cX0_tryToPutIn 58 = .ok (.aload_n 0, 1) := by decide +kernel
theorem dX0_tryToPutIn_59 : decode cX0_tryToPutIn 59 = .ok (.iload_n 1, 1) := by decide +kernel
theorem dX0_tryToPutIn_60 : decode cX0_tryToPutIn 60 = .ok (.invokevirtual 58, 3) := by decide +kernel
theorem dX0_tryToPutIn_63 : decode cX0_tryToPutIn 63 = .ok (.iconst 1, 1) := by decide +kernel
theorem dX0_tryToPutIn_64 : decode cX0_tryToPutIn 64 = .ok (.ireturn, 1) := by decide +kernel
theorem dX0_takeOut_0 : decode cX0_takeOut 0 = .ok (.aload_n 0, 1) := by decide +kernel
theorem dX0_takeOut_1 : decode cX0_takeOut 1 = .ok (.dup, 1) := by decide +kernel
theorem dX0_takeOut_2 : decode cX0_takeOut 2 = .ok (.getfield 36, 3) := by decide +kernel
theorem dX0_takeOut_5 : decode cX0_takeOut 5 = .ok (.iconst 1, 1) := by decide +kernel
theorem dX0_takeOut_6 : decode cX0_takeOut 6 = .ok (.iload_n 1, 1) := by decide +kernel
theorem dX0_takeOut_7 : decode cX0_takeOut 7 = .ok (.ishl, 1) := by decide +kernel
theorem dX0_takeOut_8 : decode cX0_takeOut 8 = .ok (.iconst (-1), 1) := by decide +kernel
theorem dX0_takeOut_9 : decode cX0_takeOut 9 = .ok (.ixor, 1) := by decide +kernel
theorem dX0_takeOut_10 : decode cX0_takeOut 10 = .ok (.iand, 1) := by decide +kernel
theorem dX0_takeOut_11 : decode cX0_takeOut 11 = .ok (.putfield 36, 3) := by decide +kernel
theorem dX0_takeOut_14 : decode cX0_takeOut 14 = .ok (.aload_n 0, 1) := by decide +kernel
theorem dX0_takeOut_15 : decode cX0_takeOut 15 = .ok (.dup, 1) := by decide +kernel
theorem dX0_takeOut_16 : decode cX0_takeOut 16 = .ok (.getfield 33, 3) := by decide +kernel
theorem dX0_takeOut_19 : decode cX0_takeOut 19 = .ok (.iconst 1, 1) := by decide +kernel
theorem dX0_takeOut_20 : decode cX0_takeOut 20 = .ok (.isub, 1) := by decide +kernel
theorem dX0_takeOut_21 : decode cX0_takeOut 21 = .ok (.putfield 33, 3) := by decide +kernel
theorem dX0_takeOut_24 : decode cX0_takeOut 24 = .ok (.aload_n 0, 1) := by decide +kernel
theorem dX0_takeOut_25 : decode cX0_takeOut 25 = .ok (.dup, 1) := by decide +kernel
theorem dX0_takeOut_26 : decode cX0_takeOut 26 = .ok (.getfield 39, 3) := by decide +kernel
theorem dX0_takeOut_29 : decode cX0_takeOut 29 = .ok (.iconst 2, 1) := by decide +kernel
theorem dX0_takeOut_30 : decode cX0_takeOut 30 = .ok (.iadd, 1) := by decide +kernel
theorem dX0_takeOut_31 : decode cX0_takeOut 31 = .ok (.putfield 39, 3) := by decide +kernel
theorem dX0_takeOut_34 : decode cX0_takeOut 34 = .ok (.return_, 1) := by decide +kernel
theorem dX0_partsIn_0 : decode cX0_partsIn 0 = .ok (.aload_n 0, 1) := by decide +kernel
theorem dX0_partsIn_1 : decode cX0_partsIn 1 = .ok (.getfield 36, 3) := by decide +kernel
theorem dX0_partsIn_4 : decode cX0_partsIn 4 = .ok (.ireturn, 1) := by decide +kernel
theorem dX0_timeSinceStart_0 : decode cX0_timeSinceStart 0 = .ok (.aload_n 0, 1) := by decide +kernel
theorem dX0_timeSinceStart_1 : decode cX0_timeSinceStart 1 = .ok (.getfield 39, 3) := by decide +kernel
theorem dX0_timeSinceStart_4 : decode cX0_timeSinceStart 4 = .ok (.ireturn, 1) := by decide +kernel
theorem dX0_toolMounted_0 : decode cX0_toolMounted 0 = .ok (.aload_n 0, 1) := by decide +kernel
theorem dX0_toolMounted_1 : decode cX0_toolMounted 1 = .ok (.getfield 18, 3) := by decide +kernel
theorem dX0_toolMounted_4 : decode cX0_toolMounted 4 = .ok (.ireturn, 1) := by decide +kernel
theorem dX0_bypassed_0 : decode cX0_bypassed 0 = .ok (.aload_n 0, 1) := by decide +kernel
theorem dX0_bypassed_1 : decode cX0_bypassed 1 = .ok (.getfield 15, 3) := by decide +kernel
theorem dX0_bypassed_4 : decode cX0_bypassed 4 = .ok (.iload_n 1, 1) := by decide +kernel
theorem dX0_bypassed_5 : decode cX0_bypassed 5 = .ok (.iaload, 1) := by decide +kernel
theorem dX0_bypassed_6 : decode cX0_bypassed 6 = .ok (.iconst 2, 1) := by decide +kernel
theorem dX0_bypassed_7 : decode cX0_bypassed 7 = .ok (.if_icmp .lt 7, 3) := by decide +kernel
theorem dX0_bypassed_10 : decode cX0_bypassed 10 = .ok (.iconst 1, 1) := by decide +kernel
theorem dX0_bypassed_11 : decode cX0_bypassed 11 = .ok (.goto 4, 3) := by decide +kernel
theorem dX0_bypassed_14 : decode cX0_bypassed 14 = .ok (.iconst 0, 1) := by decide +kernel
theorem dX0_bypassed_15 : decode cX0_bypassed 15 = .ok (.ireturn, 1) := by decide +kernel
theorem dX0_mount_0 : decode cX0_mount 0 = .ok (.aload_n 0, 1) := by decide +kernel
theorem dX0_mount_1 : decode cX0_mount 1 = .ok (.getfield 18, 3) := by decide +kernel
theorem dX0_mount_4 : decode cX0_mount 4 = .ok (.iload_n 1, 1) := by decide +kernel
theorem dX0_mount_5 : decode cX0_mount 5 = .ok (.if_icmp .eq 18, 3) := by decide +kernel
theorem dX0_mount_8 : decode cX0_mount 8 = .ok (.aload_n 0, 1) := by decide +kernel
theorem dX0_mount_9 : decode cX0_mount 9 = .ok (.iload_n 1, 1) := by decide +kernel
theorem dX0_mount_10 : decode cX0_mount 10 = .ok (.putfield 18, 3) := by decide +kernel
theorem dX0_mount_13 : decode cX0_mount 13 = .ok (.aload_n 0, 1) := by decide +kernel
theorem dX0_mount_14 : decode cX0_mount 14 = .ok (.dup, 1) := by decide +kernel
theorem dX0_mount_15 : decode cX0_mount 15 = .ok (.getfield 39, 3) := by decide +kernel
theorem dX0_mount_18 : decode cX0_mount 18 = .ok (.iconst 5, 1) := by decide +kernel
theorem dX0_mount_19 : decode cX0_mount 19 = .ok (.iadd, 1) := by decide +kernel
theorem dX0_mount_20 : decode cX0_mount 20 = .ok (.putfield 39, 3) := by decide +kernel
theorem dX0_mount_23 : decode cX0_mount 23 = .ok (.return_, 1) := by decide +kernel
theorem dX0_clearJam_0 : decode cX0_clearJam 0 = .ok (.aload_n 0, 1) := by decide +kernel
theorem dX0_clearJam_1 : decode cX0_clearJam 1 = .ok (.getfield 9, 3) := by decide +kernel
theorem dX0_clearJam_4 : decode cX0_clearJam 4 = .ok (.iload_n 1, 1) := by decide +kernel
theorem dX0_clearJam_5 : decode cX0_clearJam 5 = .ok (.dup2, 1) := by decide +kernel
theorem dX0_clearJam_6 : decode cX0_clearJam 6 = .ok (.iaload, 1) := by decide +kernel
theorem dX0_clearJam_7 : decode cX0_clearJam 7 = .ok (.iconst 1, 1) := by decide +kernel
theorem dX0_clearJam_8 : decode cX0_clearJam 8 = .ok (.isub, 1) := by decide +kernel
theorem dX0_clearJam_9 : decode cX0_clearJam 9 = .ok (.iastore, 1) := by decide +kernel
theorem dX0_clearJam_10 : decode cX0_clearJam 10 = .ok (.aload_n 0, 1) := by decide +kernel
theorem dX0_clearJam_11 : decode cX0_clearJam 11 = .ok (.getfield 15, 3) := by decide +kernel
theorem dX0_clearJam_14 : decode cX0_clearJam 14 = .ok (.iload_n 1, 1) := by decide +kernel
theorem dX0_clearJam_15 : decode cX0_clearJam 15 = .ok (.dup2, 1) := by decide +kernel
theorem dX0_clearJam_16 : decode cX0_clearJam 16 = .ok (.iaload, 1) := by decide +kernel
theorem dX0_clearJam_17 : decode cX0_clearJam 17 = .ok (.iconst 1, 1) := by decide +kernel
theorem dX0_clearJam_18 : decode cX0_clearJam 18 = .ok (.iadd, 1) := by decide +kernel
theorem dX0_clearJam_19 : decode cX0_clearJam 19 = .ok (.iastore, 1) := by decide +kernel
theorem dX0_clearJam_20 : decode cX0_clearJam 20 = .ok (.aload_n 0, 1) := by decide +kernel
theorem dX0_clearJam_21 : decode cX0_clearJam 21 = .ok (.dup, 1) := by decide +kernel
theorem dX0_clearJam_22 : decode cX0_clearJam 22 = .ok (.getfield 39, 3) := by decide +kernel
theorem dX0_clearJam_25 : decode cX0_clearJam 25 = .ok (.iconst 3, 1) := by decide +kernel
theorem dX0_clearJam_26 : decode cX0_clearJam 26 = .ok (.iadd, 1) := by decide +kernel
theorem dX0_clearJam_27 : decode cX0_clearJam 27 = .ok (.putfield 39, 3) := by decide +kernel
theorem dX0_clearJam_30 : decode cX0_clearJam 30 = .ok (.return_, 1) := by decide +kernel
set_option maxRecDepth 20000 in
theorem ggX0_putIn_X3_freeDirections : GoodIn wsX0_putIn wsX3_freeDirections := goodIn_r _ [9, 10, 19, 20, 21, 22, 23, 24] (by decide +kernel) (by decide +kernel)
set_option maxRecDepth 20000 in
theorem gX0_putIn_X3_freeDirections : GoodIn wsX0_putIn (wsV RX0 61 RX3 yX3_freeDirections wsX3_freeDirections) := goodIn_app (goodIn_of _ (by decide +kernel)) ggX0_putIn_X3_freeDirections
theorem dX0_putIn_0 : decode cX0_putIn 0 = .ok (.aload_n 0, 1) := by decide +kernel
theorem dX0_putIn_1 : decode cX0_putIn 1 = .ok (.dup, 1) := by decide +kernel
theorem dX0_putIn_2 : decode cX0_putIn 2 = .ok (.getfield 36, 3) := by decide +kernel
theorem dX0_putIn_5 : decode cX0_putIn 5 = .ok (.iconst 1, 1) := by decide +kernel
theorem dX0_putIn_6 : decode cX0_putIn 6 = .ok (.iload_n 1, 1) := by decide +kernel
theorem dX0_putIn_7 : decode cX0_putIn 7 = .ok (.ishl, 1) := by decide +kernel
theorem dX0_putIn_8 : decode cX0_putIn 8 = .ok (.ior, 1) := by decide +kernel
theorem dX0_putIn_9 : decode cX0_putIn 9 = .ok (.putfield 36, 3) := by decide +kernel
theorem dX0_putIn_12 : decode cX0_putIn 12 = .ok (.aload_n 0, 1) := by decide +kernel
theorem dX0_putIn_13 : decode cX0_putIn 13 = .ok (.dup, 1) := by decide +kernel
theorem dX0_putIn_14 : decode cX0_putIn 14 = .ok (.getfield 33, 3) := by decide +kernel
theorem dX0_putIn_17 : decode cX0_putIn 17 = .ok (.iconst 1, 1) := by decide +kernel
theorem dX0_putIn_18 : decode cX0_putIn 18 = .ok (.iadd, 1) := by decide +kernel
theorem dX0_putIn_19 : decode cX0_putIn 19 = .ok (.putfield 33, 3) := by decide +kernel
theorem dX0_putIn_22 : decode cX0_putIn 22 = .ok (.aload_n 0, 1) := by decide +kernel
theorem dX0_putIn_23 : decode cX0_putIn 23 = .ok (.getfield 22, 3) := by decide +kernel
theorem dX0_putIn_26 : decode cX0_putIn 26 = .ok (.aload_n 0, 1) := by decide +kernel
theorem dX0_putIn_27 : decode cX0_putIn 27 = .ok (.getfield 36, 3) := by decide +kernel
theorem dX0_putIn_30 : decode cX0_putIn 30 = .ok (.iload_n 1, 1) := by decide +kernel
theorem dX0_putIn_31 : decode cX0_putIn 31 = .ok (.invokevirtual 61, 3) := by decide +kernel
theorem dX0_putIn_34 : decode cX0_putIn 34 = .ok (.bipush 16, 2) := by decide +kernel
theorem dX0_putIn_36 : decode cX0_putIn 36 = .ok (.iand, 1) := by decide +kernel
theorem dX0_putIn_37 : decode cX0_putIn 37 = .ok (.ifCond .eq 7, 3) := by decide +kernel
theorem dX0_putIn_40 : decode cX0_putIn 40 = .ok (.iconst 1, 1) := by decide +kernel
theorem dX0_putIn_41 : decode cX0_putIn 41 = .ok (.goto 4, 3) := by decide +kernel
theorem dX0_putIn_44 : decode cX0_putIn 44 = .ok (.iconst 0, 1) := by decide +kernel
theorem dX0_putIn_45 : decode cX0_putIn 45 = .ok (.istore_n 2, 1) := by decide +kernel
theorem dX0_putIn_46 : decode cX0_putIn 46 = .ok (.aload_n 0, 1) := by decide +kernel
theorem dX0_putIn_47 : decode cX0_putIn 47 = .ok (.dup, 1) := by decide +kernel
theorem dX0_putIn_48 : decode cX0_putIn 48 = .ok (.getfield 39, 3) := by decide +kernel
theorem dX0_putIn_51 : decode cX0_putIn 51 = .ok (.iload_n 2, 1) := by decide +kernel
theorem dX0_putIn_52 : decode cX0_putIn 52 = .ok (.ifCond .eq 7, 3) := by decide +kernel
theorem dX0_putIn_55 : decode cX0_putIn 55 = .ok (.iconst 1, 1) := by decide +kernel
theorem dX0_putIn_56 : decode cX0_putIn 56 = .ok (.goto 4, 3) := by decide +kernel
theorem dX0_putIn_59 : decode cX0_putIn 59 = .ok (.iconst 2, 1) := by decide +kernel
theorem dX0_putIn_60 : decode cX0_putIn 60 = .ok (.iadd, 1) := by decide +kernel
theorem dX0_putIn_61 : decode cX0_putIn 61 = .ok (.putfield 39, 3) := by decide +kernel
theorem dX0_putIn_64 : decode cX0_putIn 64 = .ok (.return_, 1) := by decide +kernel
theorem dX1_init_0 : decode cX1_init 0 = .ok (.aload_n 0, 1) := by decide +kernel
theorem dX1_init_1 : decode cX1_init 1 = .ok (.invokespecial 3, 3) := by decide +kernel
theorem dX1_init_4 : decode cX1_init 4 = .ok (.aload_n 0, 1) := by decide +kernel
theorem dX1_init_5 : decode cX1_init 5 = .ok (.sipush 256, 3) := by decide +kernel
theorem dX1_init_8 : decode cX1_init 8 = .ok (.newarray .boolean, 2) := by decide +kernel
theorem dX1_init_10 : decode cX1_init 10 = .ok (.putfield 9, 3) := by decide +kernel
theorem dX1_init_13 : decode cX1_init 13 = .ok (.aload_n 0, 1) := by decide +kernel
theorem dX1_init_14 : decode cX1_init 14 = .ok (.sipush 256, 3) := by decide +kernel
theorem dX1_init_17 : decode cX1_init 17 = .ok (.newarray .int, 2) := by decide +kernel
theorem dX1_init_19 : decode cX1_init 19 = .ok (.putfield 15, 3) := by decide +kernel
theorem dX1_init_22 : decode cX1_init 22 = .ok (.aload_n 0, 1) := by decide +kernel
theorem dX1_init_23 : decode cX1_init 23 = .ok (.sipush 256, 3) := by decide +kernel
theorem dX1_init_26 : decode cX1_init 26 = .ok (.newarray .int, 2) := by decide +kernel
theorem dX1_init_28 : decode cX1_init 28 = .ok (.putfield 19, 3) := by decide +kernel
theorem dX1_init_31 : decode cX1_init 31 = .ok (.aload_n 0, 1) := by decide +kernel
theorem dX1_init_32 : decode cX1_init 32 = .ok (.sipush 1024, 3) := by decide +kernel
theorem dX1_init_35 : decode cX1_init 35 = .ok (.newarray .int, 2) := by decide +kernel
theorem dX1_init_37 : decode cX1_init 37 = .ok (.putfield 22, 3) := by decide +kernel
theorem dX1_init_40 : decode cX1_init 40 = .ok (.aload_n 0, 1) := by decide +kernel
theorem dX1_init_41 : decode cX1_init 41 = .ok (.bipush 8, 2) := by decide +kernel
theorem dX1_init_43 : decode cX1_init 43 = .ok (.newarray .int, 2) := by decide +kernel
theorem dX1_init_45 : decode cX1_init 45 = .ok (.putfield 25, 3) := by decide +kernel
theorem dX1_init_48 : decode cX1_init 48 = .ok (.aload_n 0, 1) := by decide +kernel
theorem dX1_init_49 : decode cX1_init 49 = .ok (.aload_n 1, 1) := by decide +kernel
theorem dX1_init_50 : decode cX1_init 50 = .ok (.putfield 28, 3) := by decide +kernel
theorem dX1_init_53 : decode cX1_init 53 = .ok (.return_, 1) := by decide +kernel
theorem dX1_forget_0 : decode cX1_forget 0 = .ok (.aload_n 0, 1) := by decide +kernel
theorem dX1_forget_1 : decode cX1_forget 1 = .ok (.iconst 0, 1) := by decide +kernel
theorem dX1_forget_2 : decode cX1_forget 2 = .ok (.putfield 32, 3) := by decide +kernel
theorem dX1_forget_5 : decode cX1_forget 5 = .ok (.return_, 1) := by decide +kernel
set_option maxRecDepth 20000 in
theorem ggX1_possible_X1_find : GoodIn wsX1_possible wsX1_find := goodIn_r _ [6, 7, 8, 9, 10, 1, 11, 12, 13, 14, 15, 16, 17, 18, 19, 20, 21, 22, 23, 24, 25, 26, 27, 28, 29, 30, 31, 32, 33, 34, 35, 36, 37, 38, 39, 40, 5, 41, 42, 43, 44, 45, 46, 47, 48, 49, 50, 51, 52, 53, 54, 55, 56, 57, 58, 59, 60, 61, 62, 63, 64, 65, 66, 67, 68, 69, 70, 71, 72, 73, 74, 75, 76, 77, 78, 79, 80, 81, 82, 83, 84, 85, 86, 87, 88, 89, 90, 91, 92, 93, 94, 95, 96] (by decide +kernel) (by decide +kernel)
set_option maxRecDepth 20000 in
theorem gX1_possible_X1_find : GoodIn wsX1_possible (wsV RX1 36 RX1 yX1_find wsX1_find) := goodIn_app (goodIn_of _ (by decide +kernel)) ggX1_possible_X1_find
theorem dX1_possible_0 : decode cX1_possible 0 = .ok (.aload_n 0, 1) := by decide +kernel
theorem dX1_possible_1 : decode cX1_possible 1 = .ok (.invokevirtual 36, 3) := by decide +kernel
theorem dX1_possible_4 : decode cX1_possible 4 = .ok (.aload_n 0, 1) := by decide +kernel
theorem dX1_possible_5 : decode cX1_possible 5 = .ok (.getfield 19, 3) := by decide +kernel
theorem dX1_possible_8 : decode cX1_possible 8 = .ok (.iconst 0, 1) := by decide +kernel
theorem dX1_possible_9 : decode cX1_possible 9 = .ok (.iaload, 1) := by decide +kernel
theorem dX1_possible_10 : decode cX1_possible 10 = .ok (.ireturn, 1) := by decide +kernel
set_option maxRecDepth 20000 in
theorem ggX1_fewestBySets_X1_find : GoodIn wsX1_fewestBySets wsX1_find := goodIn_r _ [6, 7, 8, 9, 10, 11, 12, 1, 13, 14, 15, 16, 17, 18, 19, 20, 21, 22, 23, 24, 25, 26, 27, 28, 29, 30, 31, 32, 33, 34, 35, 36, 37, 38, 39, 40, 5, 41, 42, 43, 44, 45, 46, 47, 48, 49, 50, 51, 52, 53, 54, 55, 56, 57, 58, 59, 60, 61, 62, 63, 64, 65, 66, 67, 68, 69, 70, 71, 72, 73, 74, 75, 76, 77, 78, 79, 80, 81, 82, 86, 87, 88, 89, 90, 91, 92, 93, 94, 95, 96, 97, 98, 99] (by decide +kernel) (by decide +kernel)
set_option maxRecDepth 20000 in
theorem gX1_fewestBySets_X1_find : GoodIn wsX1_fewestBySets (wsV RX1 36 RX1 yX1_find wsX1_find) := goodIn_app (goodIn_of _ (by decide +kernel)) ggX1_fewestBySets_X1_find
set_option maxRecDepth 20000 in
theorem ggX1_fewestBySets_X1_orNone : GoodIn wsX1_fewestBySets wsX1_orNone := goodIn_r _ [85] (by decide +kernel) (by decide +kernel)
set_option maxRecDepth 20000 in
theorem gX1_fewestBySets_X1_orNone : GoodIn wsX1_fewestBySets (va_wsS RX1 43 yX1_orNone wsX1_orNone) := goodIn_app (goodIn_of _ (by decide +kernel)) ggX1_fewestBySets_X1_orNone
theorem dX1_fewestBySets_0 : decode cX1_fewestBySets 0 = .ok (.aload_n 0, 1) := by decide +kernel
theorem dX1_fewestBySets_1 : decode cX1_fewestBySets 1 = .ok (.invokevirtual 36, 3) := by decide +kernel
theorem dX1_fewestBySets_4 : decode cX1_fewestBySets 4 = .ok (.aload_n 0, 1) := by decide +kernel
theorem dX1_fewestBySets_5 : decode cX1_fewestBySets 5 = .ok (.getfield 39, 3) := by decide +kernel
theorem dX1_fewestBySets_8 : decode cX1_fewestBySets 8 = .ok (.invokestatic 43, 3) := by decide +kernel
theorem dX1_fewestBySets_11 : decode cX1_fewestBySets 11 = .ok (.ireturn, 1) := by decide +kernel
set_option maxRecDepth 20000 in
theorem ggX1_fewestListed_X1_find : GoodIn wsX1_fewestListed wsX1_find := goodIn_r _ [5, 6, 7, 8, 9, 10, 11, 12, 13, 14, 15, 16, 17, 18, 19, 20, 21, 22, 23, 24, 25, 26, 27, 28, 29, 30, 31, 32, 33, 34, 35, 36, 37, 38, 39, 40, 4, 41, 42, 43, 44, 45, 46, 47, 48, 49, 50, 51, 52, 53, 54, 55, 56, 57, 58, 59, 60, 61, 62, 63, 64, 65, 66, 67, 68, 69, 70, 71, 72, 73, 74, 75, 76, 77, 78, 79, 80, 81, 82, 89, 90, 91, 92, 93, 94, 95, 96, 97, 98, 99, 100, 101, 102] (by decide +kernel) (by decide +kernel)
set_option maxRecDepth 20000 in
theorem gX1_fewestListed_X1_find : GoodIn wsX1_fewestListed (wsV RX1 36 RX1 yX1_find wsX1_find) := goodIn_app (goodIn_of _ (by decide +kernel)) ggX1_fewestListed_X1_find
set_option maxRecDepth 20000 in
theorem ggX1_fewestListed_X1_listed : GoodIn wsX1_fewestListed wsX1_listed := goodIn_r _ [85, 7, 9, 58, 59, 60, 61, 42, 43, 44, 16, 45, 18, 66, 67, 68, 69, 70, 83, 84, 4, 71, 72, 73, 89, 90, 91, 92, 93, 94, 95, 96, 97, 98, 99, 100, 101, 102] (by decide +kernel) (by decide +kernel)
set_option maxRecDepth 20000 in
theorem gX1_fewestListed_X1_listed : GoodIn wsX1_fewestListed (va_wsS RX1 47 yX1_listed wsX1_listed) := goodIn_app (goodIn_of _ (by decide +kernel)) ggX1_fewestListed_X1_listed
set_option maxRecDepth 20000 in
theorem ggX1_fewestListed_X1_orNone : GoodIn wsX1_fewestListed wsX1_orNone := goodIn_r _ [88] (by decide +kernel) (by decide +kernel)
set_option maxRecDepth 20000 in
theorem gX1_fewestListed_X1_orNone : GoodIn wsX1_fewestListed (va_wsS RX1 43 yX1_orNone wsX1_orNone) := goodIn_app (goodIn_of _ (by decide +kernel)) ggX1_fewestListed_X1_orNone
theorem dX1_fewestListed_0 : decode cX1_fewestListed 0 = .ok (.aload_n 0, 1) := by decide +kernel
theorem dX1_fewestListed_1 : decode cX1_fewestListed 1 = .ok (.invokevirtual 36, 3) := by decide +kernel
theorem dX1_fewestListed_4 : decode cX1_fewestListed 4 = .ok (.aload_n 0, 1) := by decide +kernel
theorem dX1_fewestListed_5 : decode cX1_fewestListed 5 = .ok (.iconst 0, 1) := by decide +kernel
theorem dX1_fewestListed_6 : decode cX1_fewestListed 6 = .ok (.iconst 0, 1) := by decide +kernel
theorem dX1_fewestListed_7 : decode cX1_fewestListed 7 = .ok (.iconst (-1), 1) := by decide +kernel
theorem dX1_fewestListed_8 : decode cX1_fewestListed 8 = .ok (.invokestatic 47, 3) := by decide +kernel
theorem dX1_fewestListed_11 : decode cX1_fewestListed 11 = .ok (.invokestatic 43, 3) := by decide +kernel
theorem dX1_fewestListed_14 : decode cX1_fewestListed 14 = .ok (.ireturn, 1) := by decide +kernel
set_option maxRecDepth 20000 in
theorem ggX1_bestAt_X3_count : GoodIn wsX1_bestAt wsX3_count := goodIn_r _ [8, 9, 91, 92, 93, 94, 95, 96] (by decide +kernel) (by decide +kernel)
set_option maxRecDepth 20000 in
theorem gX1_bestAt_X3_count : GoodIn wsX1_bestAt (wsV RX1 51 RX3 yX3_count wsX3_count) := goodIn_app (goodIn_of _ (by decide +kernel)) ggX1_bestAt_X3_count
set_option maxRecDepth 20000 in
theorem ggX1_bestAt_X1_find : GoodIn wsX1_bestAt wsX1_find := goodIn_r _ [14, 15, 1, 16, 17, 18, 19, 2, 20, 21, 22, 7, 23, 9, 24, 25, 26, 27, 28, 29, 30, 31, 32, 33, 34, 35, 36, 37, 38, 39, 40, 41, 42, 43, 44, 45, 13, 46, 4, 5, 6, 8, 47, 48, 49, 50, 51, 52, 53, 54, 55, 56, 57, 58, 59, 60, 61, 62, 63, 64, 65, 66, 67, 68, 69, 70, 71, 72, 73, 74, 75, 76, 77, 78, 3, 79, 80, 81, 82, 83, 84, 85, 86, 87, 88, 89, 90, 91, 92, 93, 94, 95, 96] (by decide +kernel) (by decide +kernel)
set_option maxRecDepth 20000 in
theorem gX1_bestAt_X1_find : GoodIn wsX1_bestAt (wsV RX1 36 RX1 yX1_find wsX1_find) := goodIn_app (goodIn_of _ (by decide +kernel)) ggX1_bestAt_X1_find
theorem dX1_bestAt_0 : decode cX1_bestAt 0 = .ok (.iload_n 1, 1) := by decide +kernel
theorem dX1_bestAt_1 : decode cX1_bestAt 1 = .ok (.ifCond .lt 14, 3) := by decide +kernel
theorem dX1_bestAt_4 : decode cX1_bestAt 4 = .ok (.iload_n 1, 1) := by decide +kernel
theorem dX1_bestAt_5 : decode cX1_bestAt 5 = .ok (.aload_n 0, 1) := by decide +kernel
theorem dX1_bestAt_6 : decode cX1_bestAt 6 = .ok (.getfield 28, 3) := by decide +kernel
theorem dX1_bestAt_9 : decode cX1_bestAt 9 = .ok (.invokevirtual 51, 3) := by decide +kernel
theorem dX1_bestAt_12 : decode cX1_bestAt 12 = .ok (.if_icmp .lt 5, 3) := by decide +kernel
theorem dX1_bestAt_15 : decode cX1_bestAt 15 = .ok (.iconst (-1), 1) := by decide +kernel
theorem dX1_bestAt_16 : decode cX1_bestAt 16 = .ok (.ireturn, 1) := by decide +kernel
theorem dX1_bestAt_17 : decode cX1_bestAt 17 = .ok (.aload_n 0, 1) := by decide +kernel
theorem dX1_bestAt_18 : decode cX1_bestAt 18 = .ok (.invokevirtual 36, 3) := by decide +kernel
theorem dX1_bestAt_21 : decode cX1_bestAt 21 = .ok (.aload_n 0, 1) := by decide +kernel
theorem dX1_bestAt_22 : decode cX1_bestAt 22 = .ok (.getfield 39, 3) := by decide +kernel
theorem dX1_bestAt_25 : decode cX1_bestAt 25 = .ok (.sipush 1000, 3) := by decide +kernel
theorem dX1_bestAt_28 : decode cX1_bestAt 28 = .ok (.if_icmp .ne 7, 3) := by decide +kernel
theorem dX1_bestAt_31 : decode cX1_bestAt 31 = .ok (.iconst (-1), 1) := by decide +kernel
theorem dX1_bestAt_32 : decode cX1_bestAt 32 = .ok (.goto 9, 3) := by decide +kernel
theorem dX1_bestAt_35 : decode cX1_bestAt 35 = .ok (.aload_n 0, 1) := by decide +kernel
theorem dX1_bestAt_36 : decode cX1_bestAt 36 = .ok (.getfield 25, 3) := by decide +kernel
theorem dX1_bestAt_39 : decode cX1_bestAt 39 = .ok (.iload_n 1, 1) := by decide +kernel
theorem dX1_bestAt_40 : decode cX1_bestAt 40 = .ok (.iaload, 1) := by decide +kernel
theorem dX1_bestAt_41 : decode cX1_bestAt 41 = .ok (.ireturn, 1) := by decide +kernel
theorem dX1_orNone_0 : decode cX1_orNone 0 = .ok (.iload_n 0, 1) := by decide +kernel
theorem dX1_orNone_1 : decode cX1_orNone 1 = .ok (.sipush 1000, 3) := by decide +kernel
theorem dX1_orNone_4 : decode cX1_orNone 4 = .ok (.if_icmp .ne 7, 3) := by decide +kernel
theorem dX1_orNone_7 : decode cX1_orNone 7 = .ok (.iconst (-1), 1) := by decide +kernel
theorem dX1_orNone_8 : decode cX1_orNone 8 = .ok (.goto 4, 3) := by decide +kernel
theorem dX1_orNone_11 : decode cX1_orNone 11 = .ok (.iload_n 0, 1) := by decide +kernel
theorem dX1_orNone_12 : decode cX1_orNone 12 = .ok (.ireturn, 1) := by decide +kernel
set_option maxRecDepth 20000 in
theorem ggX1_find_X3_all : GoodIn wsX1_find wsX3_all := goodIn_r _ [12, 13, 87, 88, 89, 90, 91, 92] (by decide +kernel) (by decide +kernel)
set_option maxRecDepth 20000 in
theorem gX1_find_X3_all : GoodIn wsX1_find (wsV RX1 57 RX3 yX3_all wsX3_all) := goodIn_app (goodIn_of _ (by decide +kernel)) ggX1_find_X3_all
set_option maxRecDepth 20000 in
theorem ggX1_find_X3_sound : GoodIn wsX1_find wsX3_sound := goodIn_r _ [17, 18, 19, 20, 21, 11, 22, 23, 24, 25, 26, 27, 28, 29, 30, 31, 32, 87, 88, 89, 90, 91, 92] (by decide +kernel) (by decide +kernel)
set_option maxRecDepth 20000 in
theorem gX1_find_X3_sound : GoodIn wsX1_find (wsV RX1 60 RX3 yX3_sound wsX3_sound) := goodIn_app (goodIn_of _ (by decide +kernel)) ggX1_find_X3_sound
set_option maxRecDepth 20000 in
theorem ggX1_find_X1_nextsOf : GoodIn wsX1_find wsX1_nextsOf := goodIn_r _ [37, 2, 3, 38, 39, 40, 11, 41, 13, 42, 43, 44, 45, 31, 79, 80, 81, 82, 83, 84, 85, 86, 87, 88, 89, 90, 91, 92] (by decide +kernel) (by decide +kernel)
set_option maxRecDepth 20000 in
theorem gX1_find_X1_nextsOf : GoodIn wsX1_find (wsV RX1 63 RX1 yX1_nextsOf wsX1_nextsOf) := goodIn_app (goodIn_of _ (by decide +kernel)) ggX1_find_X1_nextsOf
set_option maxRecDepth 20000 in
theorem ggX1_find_X1_ordersFrom : GoodIn wsX1_find wsX1_ordersFrom := goodIn_r _ [49, 2, 4, 5, 8, 9, 10, 11, 12, 13, 38, 39, 40, 41, 79, 80, 81, 82, 83, 84, 85, 86, 87, 88, 89, 90, 91, 92] (by decide +kernel) (by decide +kernel)
set_option maxRecDepth 20000 in
theorem gX1_find_X1_ordersFrom : GoodIn wsX1_find (wsV RX1 66 RX1 yX1_ordersFrom wsX1_ordersFrom) := goodIn_app (goodIn_of _ (by decide +kernel)) ggX1_find_X1_ordersFrom
set_option maxRecDepth 20000 in
theorem ggX1_find_X1_fewestFrom : GoodIn wsX1_find wsX1_fewestFrom := goodIn_r _ [53, 2, 4, 54, 55, 56, 57, 8, 9, 10, 11, 12, 13, 38, 39, 40, 41, 58, 59, 60, 36, 61, 6, 62, 63, 64, 65, 66, 67, 68, 69, 79, 80, 81, 82, 83, 84, 85, 86, 87, 88, 89, 90, 91, 92] (by decide +kernel) (by decide +kernel)
set_option maxRecDepth 20000 in
theorem gX1_find_X1_fewestFrom : GoodIn wsX1_find (wsV RX1 69 RX1 yX1_fewestFrom wsX1_fewestFrom) := goodIn_app (goodIn_of _ (by decide +kernel)) ggX1_find_X1_fewestFrom
set_option maxRecDepth 20000 in
theorem ggX1_find_X1_findBest : GoodIn wsX1_find wsX1_findBest := goodIn_r _ [73, 7, 2, 74, 38, 39, 40, 11, 41, 13, 75, 76, 77, 36, 78, 4, 58, 59, 60, 61, 6, 62, 63, 64, 65, 66, 67, 68, 69, 79, 80, 81, 82, 83, 84, 85, 86, 87, 88, 89, 90, 91, 92] (by decide +kernel) (by decide +kernel)
set_option maxRecDepth 20000 in
theorem gX1_find_X1_findBest : GoodIn wsX1_find (wsV RX1 73 RX1 yX1_findBest wsX1_findBest) := goodIn_app (goodIn_of _ (by decide +kernel)) ggX1_find_X1_findBest
theorem dX1_find_0 : decode cX1_find 0 = .ok (.aload_n 0, 1) := by decide +kernel
theorem dX1_find_1 : decode cX1_find 1 = .ok (.getfield 32, 3) := by decide +kernel
theorem dX1_find_4 : decode cX1_find 4 = .ok (.ifCond .eq 4, 3) := by decide +kernel
theorem dX1_find_7 : decode cX1_find 7 = .ok (.return_, 1) := by decide +kernel
theorem dX1_find_8 : decode cX1_find 8 = .ok (.aload_n 0, 1) := by decide +kernel
theorem dX1_find_9 : decode cX1_find 9 = .ok (.getfield 28, 3) := by decide +kernel
theorem dX1_find_12 : decode cX1_find 12 = .ok (.invokevirtual 57, 3) := by decide +kernel
theorem dX1_find_15 : decode cX1_find 15 = .ok (.istore_n 1, 1) := by decide +kernel
theorem dX1_find_16 : decode cX1_find 16 = .ok (.iload_n 1, 1) := by decide +kernel
theorem dX1_find_17 : decode cX1_find 17 = .ok (.ifCond .lt 74, 3) := by decide +kernel
theorem dX1_find_20 : decode cX1_find 20 = .ok (.aload_n 0, 1) := by decide +kernel
theorem dX1_find_21 : decode cX1_find 21 = .ok (.getfield 9, 3) := by decide +kernel
theorem dX1_find_24 : decode cX1_find 24 = .ok (.iload_n 1, 1) := by decide +kernel
theorem dX1_find_25 : decode cX1_find 25 = .ok (.aload_n 0, 1) := by decide +kernel
theorem dX1_find_26 : decode cX1_find 26 = .ok (.getfield 28, 3) := by decide +kernel
theorem dX1_find_29 : decode cX1_find 29 = .ok (.iload_n 1, 1) := by decide +kernel
theorem dX1_find_30 : decode cX1_find 30 = .ok (.invokevirtual 60, 3) := by decide +kernel
theorem dX1_find_33 : decode cX1_find 33 = .ok (.bastore, 1) := by decide +kernel
theorem dX1_find_34 : decode cX1_find 34 = .ok (.aload_n 0, 1) := by decide +kernel
theorem dX1_find_35 : decode cX1_find 35 = .ok (.getfield 15, 3) := by decide +kernel
theorem dX1_find_38 : decode cX1_find 38 = .ok (.iload_n 1, 1) := by decide +kernel
theorem dX1_find_39 : decode cX1_find 39 = .ok (.aload_n 0, 1) := by decide +kernel
theorem dX1_find_40 : decode cX1_find 40 = .ok (.iload_n 1, 1) := by decide +kernel
theorem dX1_find_41 : decode cX1_find 41 = .ok (.invokevirtual 63, 3) := by decide +kernel
theorem dX1_find_44 : decode cX1_find 44 = .ok (.iastore, 1) := by decide +kernel
theorem dX1_find_45 : decode cX1_find 45 = .ok (.aload_n 0, 1) := by decide +kernel
theorem dX1_find_46 : decode cX1_find 46 = .ok (.getfield 19, 3) := by decide +kernel
theorem dX1_find_49 : decode cX1_find 49 = .ok (.iload_n 1, 1) := by decide +kernel
theorem dX1_find_50 : decode cX1_find 50 = .ok (.aload_n 0, 1) := by decide +kernel
theorem dX1_find_51 : decode cX1_find 51 = .ok (.iload_n 1, 1) := by decide +kernel
theorem dX1_find_52 : decode cX1_find 52 = .ok (.invokevirtual 66, 3) := by decide +kernel
theorem dX1_find_55 : decode cX1_find 55 = .ok (.iastore, 1) := by decide +kernel
theorem dX1_find_56 : decode cX1_find 56 = .ok (.iconst 0, 1) := by decide +kernel
theorem dX1_find_57 : decode cX1_find 57 = .ok (.istore_n 2, 1) := by decide +kernel
theorem dX1_find_58 : decode cX1_find 58 = .ok (.iload_n 2, 1) := by decide +kernel
theorem dX1_find_59 : decode cX1_find 59 = .ok (.iconst 4, 1) := by decide +kernel
theorem dX1_find_60 : decode cX1_find 60 = .ok (.if_icmp .ge 25, 3) := by decide +kernel
theorem dX1_find_63 : decode cX1_find 63 = .ok (.aload_n 0, 1) := by decide +kernel
theorem dX1_find_64 : decode cX1_find 64 = .ok (.getfield 22, 3) := by decide +kernel
theorem dX1_find_67 : decode cX1_find 67 = .ok (.iload_n 1, 1) := by decide +kernel
theorem dX1_find_68 : decode cX1_find 68 = .ok (.iconst 4, 1) := by decide +kernel
theorem dX1_find_69 : decode cX1_find 69 = .ok (.imul, 1) := by decide +kernel
theorem dX1_find_70 : decode cX1_find 70 = .ok (.iload_n 2, 1) := by decide +kernel
theorem dX1_find_71 : decode cX1_find 71 = .ok (.iadd, 1) := by decide +kernel
theorem dX1_find_72 : decode cX1_find 72 = .ok (.aload_n 0, 1) := by decide +kernel
theorem dX1_find_73 : decode cX1_find 73 = .ok (.iload_n 1, 1) := by decide +kernel
theorem dX1_find_74 : decode cX1_find 74 = .ok (.iload_n 2, 1) := by decide +kernel
theorem dX1_find_75 : decode cX1_find 75 = .ok (.invokevirtual 69, 3) := by decide +kernel
theorem dX1_find_78 : decode cX1_find 78 = .ok (.iastore, 1) := by decide +kernel
theorem dX1_find_79 : decode cX1_find 79 = .ok (.iinc 2 1, 3) := by decide +kernel
theorem dX1_find_82 : decode cX1_find 82 = .ok (.goto (-24), 3) := by decide +kernel
theorem dX1_find_85 : decode cX1_find 85 = .ok (.iinc 1 (-1), 3) := by decide +kernel
theorem dX1_find_88 : decode cX1_find 88 = .ok (.goto (-72), 3) := by decide +kernel
theorem dX1_find_91 : decode cX1_find 91 = .ok (.aload_n 0, 1) := by decide +kernel
theorem dX1_find_92 : decode cX1_find 92 = .ok (.aload_n 0, 1) := by decide +kernel
theorem dX1_find_93 : decode cX1_find 93 = .ok (.iconst 0, 1) := by decide +kernel
theorem dX1_find_94 : decode cX1_find 94 = .ok (.iconst (-1), 1) := by decide +kernel
theorem dX1_find_95 : decode cX1_find 95 = .ok (.invokevirtual 69, 3) := by decide +kernel
theorem dX1_find_98 : decode cX1_find 98 = .ok (.putfield 39, 3) := by decide +kernel
theorem dX1_find_101 : decode cX1_find 101 = .ok (.aload_n 0, 1) := by decide +kernel
theorem dX1_find_102 : decode cX1_find 102 = .ok (.invokevirtual 73, 3) := by decide +kernel
theorem dX1_find_105 : decode cX1_find 105 = .ok (.aload_n 0, 1) := by decide +kernel
theorem dX1_find_106 : decode cX1_find 106 = .ok (.iconst 1, 1) := by decide +kernel
theorem dX1_find_107 : decode cX1_find 107 = .ok (.putfield 32, 3) := by decide +kernel
theorem dX1_find_110 : decode cX1_find 110 = .ok (.return_, 1) := by decide +kernel
set_option maxRecDepth 20000 in
theorem ggX1_nextsOf_X3_count : GoodIn wsX1_nextsOf wsX3_count := goodIn_r _ [7, 8, 22, 23, 24, 25, 26, 27] (by decide +kernel) (by decide +kernel)
set_option maxRecDepth 20000 in
theorem gX1_nextsOf_X3_count : GoodIn wsX1_nextsOf (wsV RX1 51 RX3 yX3_count wsX3_count) := goodIn_app (goodIn_of _ (by decide +kernel)) ggX1_nextsOf_X3_count
set_option maxRecDepth 20000 in
theorem ggX1_nextsOf_X3_freeDirections : GoodIn wsX1_nextsOf wsX3_freeDirections := goodIn_r _ [12, 13, 22, 23, 24, 25, 26, 27] (by decide +kernel) (by decide +kernel)
set_option maxRecDepth 20000 in
theorem gX1_nextsOf_X3_freeDirections : GoodIn wsX1_nextsOf (wsV RX1 76 RX3 yX3_freeDirections wsX3_freeDirections) := goodIn_app (goodIn_of _ (by decide +kernel)) ggX1_nextsOf_X3_freeDirections
theorem dX1_nextsOf_0 : decode cX1_nextsOf 0 = .ok (.iconst 0, 1) := by decide +kernel
theorem dX1_nextsOf_1 : decode cX1_nextsOf 1 = .ok (.istore_n 2, 1) := by decide +kernel
theorem dX1_nextsOf_2 : decode cX1_nextsOf 2 = .ok (.iconst 0, 1) := by decide +kernel
theorem dX1_nextsOf_3 : decode cX1_nextsOf 3 = .ok (.istore_n 3, 1) := by decide +kernel
theorem dX1_nextsOf_4 : decode cX1_nextsOf 4 = .ok (.iload_n 3, 1) := by decide +kernel
theorem dX1_nextsOf_5 : decode cX1_nextsOf 5 = .ok (.aload_n 0, 1) := by decide +kernel
theorem dX1_nextsOf_6 : decode cX1_nextsOf 6 = .ok (.getfield 28, 3) := by decide +kernel
theorem dX1_nextsOf_9 : decode cX1_nextsOf 9 = .ok (.invokevirtual 51, 3) := by decide +kernel
theorem dX1_nextsOf_12 : decode cX1_nextsOf 12 = .ok (.if_icmp .ge 60, 3) := by decide +kernel
theorem dX1_nextsOf_15 : decode cX1_nextsOf 15 = .ok (.iload_n 1, 1) := by decide +kernel
theorem dX1_nextsOf_16 : decode cX1_nextsOf 16 = .ok (.iconst 1, 1) := by decide +kernel
theorem dX1_nextsOf_17 : decode cX1_nextsOf 17 = .ok (.iload_n 3, 1) := by decide +kernel
theorem dX1_nextsOf_18 : decode cX1_nextsOf 18 = .ok (.ishl, 1) := by decide +kernel
theorem dX1_nextsOf_19 : decode cX1_nextsOf 19 = .ok (.ior, 1) := by decide +kernel
theorem dX1_nextsOf_20 : decode cX1_nextsOf 20 = .ok (.istore 4, 2) := by decide +kernel
theorem dX1_nextsOf_22 : decode cX1_nextsOf 22 = .ok (.iload 4, 2) := by decide +kernel
theorem dX1_nextsOf_24 : decode cX1_nextsOf 24 = .ok (.iload_n 1, 1) := by decide +kernel
theorem dX1_nextsOf_25 : decode cX1_nextsOf 25 = .ok (.if_icmp .eq 41, 3) := by decide +kernel
theorem dX1_nextsOf_28 : decode cX1_nextsOf 28 = .ok (.aload_n 0, 1) := by decide +kernel
theorem dX1_nextsOf_29 : decode cX1_nextsOf 29 = .ok (.getfield 9, 3) := by decide +kernel
theorem dX1_nextsOf_32 : decode cX1_nextsOf 32 = .ok (.iload_n 1, 1) := by decide +kernel
theorem dX1_nextsOf_33 : decode cX1_nextsOf 33 = .ok (.baload, 1) := by decide +kernel
theorem dX1_nextsOf_34 : decode cX1_nextsOf 34 = .ok (.ifCond .eq 32, 3) := by decide +kernel
theorem dX1_nextsOf_37 : decode cX1_nextsOf 37 = .ok (.aload_n 0, 1) := by decide +kernel
theorem dX1_nextsOf_38 : decode cX1_nextsOf 38 = .ok (.getfield 9, 3) := by decide +kernel
theorem dX1_nextsOf_41 : decode cX1_nextsOf 41 = .ok (.iload 4, 2) := by decide +kernel
theorem dX1_nextsOf_43 : decode cX1_nextsOf 43 = .ok (.baload, 1) := by decide +kernel
theorem dX1_nextsOf_44 : decode cX1_nextsOf 44 = .ok (.ifCond .eq 22, 3) := by decide +kernel
theorem dX1_nextsOf_47 : decode cX1_nextsOf 47 = .ok (.aload_n 0, 1) := by decide +kernel
theorem dX1_nextsOf_48 : decode cX1_nextsOf 48 = .ok (.getfield 28, 3) := by decide +kernel
theorem dX1_nextsOf_51 : decode cX1_nextsOf 51 = .ok (.iload 4, 2) := by decide +kernel
theorem dX1_nextsOf_53 : decode cX1_nextsOf 53 = .ok (.iload_n 3, 1) := by decide +kernel
theorem dX1_nextsOf_54 : decode cX1_nextsOf 54 = .ok (.invokevirtual 76, 3) := by decide +kernel
theorem dX1_nextsOf_57 : decode cX1_nextsOf 57 = .ok (.ifCond .eq 9, 3) := by decide +kernel
theorem dX1_nextsOf_60 : decode cX1_nextsOf 60 = .ok (.iload_n 2, 1) := by decide +kernel
theorem dX1_nextsOf_61 : decode cX1_nextsOf 61 = .ok (.iconst 1, 1) := by decide +kernel
theorem dX1_nextsOf_62 : decode cX1_nextsOf 62 = .ok (.iload_n 3, 1) := by decide +kernel
theorem dX1_nextsOf_63 : decode cX1_nextsOf 63 = .ok (.ishl, 1) := by decide +kernel
theorem dX1_nextsOf_64 : decode cX1_nextsOf 64 = .ok (.ior, 1) := by decide +kernel
theorem dX1_nextsOf_65 : decode cX1_nextsOf 65 = .ok (.istore_n 2, 1) := by decide +kernel
theorem dX1_nextsOf_66 : decode cX1_nextsOf 66 = .ok (.iinc 3 1, 3) := by decide +kernel
theorem dX1_nextsOf_69 : decode cX1_nextsOf 69 = .ok (.goto (-65), 3) := by decide +kernel
theorem dX1_nextsOf_72 : decode cX1_nextsOf 72 = .ok (.iload_n 2, 1) := by decide +kernel
theorem dX1_nextsOf_73 : decode cX1_nextsOf 73 = .ok (.ireturn, 1) := by decide +kernel
set_option maxRecDepth 20000 in
theorem ggX1_ordersFrom_X3_all : GoodIn wsX1_ordersFrom wsX3_all := goodIn_r _ [8, 9, 22, 23, 24, 25, 26, 27] (by decide +kernel) (by decide +kernel)
set_option maxRecDepth 20000 in
theorem gX1_ordersFrom_X3_all : GoodIn wsX1_ordersFrom (wsV RX1 57 RX3 yX3_all wsX3_all) := goodIn_app (goodIn_of _ (by decide +kernel)) ggX1_ordersFrom_X3_all
set_option maxRecDepth 20000 in
theorem ggX1_ordersFrom_X3_count : GoodIn wsX1_ordersFrom wsX3_count := goodIn_r _ [13, 9, 22, 23, 24, 25, 26, 27] (by decide +kernel) (by decide +kernel)
set_option maxRecDepth 20000 in
theorem gX1_ordersFrom_X3_count : GoodIn wsX1_ordersFrom (wsV RX1 51 RX3 yX3_count wsX3_count) := goodIn_app (goodIn_of _ (by decide +kernel)) ggX1_ordersFrom_X3_count
theorem dX1_ordersFrom_0 : decode cX1_ordersFrom 0 = .ok (.iload_n 1, 1) := by decide +kernel
theorem dX1_ordersFrom_1 : decode cX1_ordersFrom 1 = .ok (.aload_n 0, 1) := by decide +kernel
theorem dX1_ordersFrom_2 : decode cX1_ordersFrom 2 = .ok (.getfield 28, 3) := by decide +kernel
theorem dX1_ordersFrom_5 : decode cX1_ordersFrom 5 = .ok (.invokevirtual 57, 3) := by decide +kernel
theorem dX1_ordersFrom_8 : decode cX1_ordersFrom 8 = .ok (.if_icmp .ne 7, 3) := by decide +kernel
theorem dX1_ordersFrom_11 : decode cX1_ordersFrom 11 = .ok (.iconst 1, 1) := by decide +kernel
theorem dX1_ordersFrom_12 : decode cX1_ordersFrom 12 = .ok (.goto 4, 3) := by decide +kernel
theorem dX1_ordersFrom_15 : decode cX1_ordersFrom 15 = .ok (.iconst 0, 1) := by decide +kernel
theorem dX1_ordersFrom_16 : decode cX1_ordersFrom 16 = .ok (.istore_n 2, 1) := by decide +kernel
theorem dX1_ordersFrom_17 : decode cX1_ordersFrom 17 = .ok (.iconst 0, 1) := by decide +kernel
theorem dX1_ordersFrom_18 : decode cX1_ordersFrom 18 = .ok (.istore_n 3, 1) := by decide +kernel
theorem dX1_ordersFrom_19 : decode cX1_ordersFrom 19 = .ok (.iload_n 3, 1) := by decide +kernel
theorem dX1_ordersFrom_20 : decode cX1_ordersFrom 20 = .ok (.aload_n 0, 1) := by decide +kernel
theorem dX1_ordersFrom_21 : decode cX1_ordersFrom 21 = .ok (.getfield 28, 3) := by decide +kernel
theorem dX1_ordersFrom_24 : decode cX1_ordersFrom 24 = .ok (.invokevirtual 51, 3) := by decide +kernel
theorem dX1_ordersFrom_27 : decode cX1_ordersFrom 27 = .ok (.if_icmp .ge 35, 3) := by decide +kernel
theorem dX1_ordersFrom_30 : decode cX1_ordersFrom 30 = .ok (.aload_n 0, 1) := by decide +kernel
theorem dX1_ordersFrom_31 : decode cX1_ordersFrom 31 = .ok (.getfield 15, 3) := by decide +kernel
theorem dX1_ordersFrom_34 : decode cX1_ordersFrom 34 = .ok (.iload_n 1, 1) := by decide +kernel
theorem dX1_ordersFrom_35 : decode cX1_ordersFrom 35 = .ok (.iaload, 1) := by decide +kernel
theorem dX1_ordersFrom_36 : decode cX1_ordersFrom 36 = .ok (.iconst 1, 1) := by decide +kernel
theorem dX1_ordersFrom_37 : decode cX1_ordersFrom 37 = .ok (.iload_n 3, 1) := by decide +kernel
theorem dX1_ordersFrom_38 : decode cX1_ordersFrom 38 = .ok (.ishl, 1) := by decide +kernel
theorem dX1_ordersFrom_39 : decode cX1_ordersFrom 39 = .ok (.iand, 1) := by decide +kernel
theorem dX1_ordersFrom_40 : decode cX1_ordersFrom 40 = .ok (.ifCond .eq 16, 3) := by decide +kernel
theorem dX1_ordersFrom_43 : decode cX1_ordersFrom 43 = .ok (.iload_n 2, 1) := by decide +kernel
theorem dX1_ordersFrom_44 : decode cX1_ordersFrom 44 = .ok (.aload_n 0, 1) := by decide +kernel
theorem dX1_ordersFrom_45 : decode cX1_ordersFrom 45 = .ok (.getfield 19, 3) := by decide +kernel
theorem dX1_ordersFrom_48 : decode cX1_ordersFrom 48 = .ok (.iload_n 1, 1) := by decide +kernel
theorem dX1_ordersFrom_49 : decode cX1_ordersFrom 49 = .ok (.iconst 1, 1) := by decide +kernel
theorem dX1_ordersFrom_50 : decode cX1_ordersFrom 50 = .ok (.iload_n 3, 1) := by decide +kernel
theorem dX1_ordersFrom_51 : decode cX1_ordersFrom 51 = .ok (.ishl, 1) := by decide +kernel
theorem dX1_ordersFrom_52 : decode cX1_ordersFrom 52 = .ok (.ior, 1) := by decide +kernel
theorem dX1_ordersFrom_53 : decode cX1_ordersFrom 53 = .ok (.iaload, 1) := by decide +kernel
theorem dX1_ordersFrom_54 : decode cX1_ordersFrom 54 = .ok (.iadd, 1) := by decide +kernel
theorem dX1_ordersFrom_55 : decode cX1_ordersFrom 55 = .ok (.istore_n 2, 1) := by decide +kernel
theorem dX1_ordersFrom_56 : decode cX1_ordersFrom 56 = .ok (.iinc 3 1, 3) := by decide +kernel
theorem dX1_ordersFrom_59 : decode cX1_ordersFrom 59 = .ok (.goto (-40), 3) := by decide +kernel
theorem dX1_ordersFrom_62 : decode cX1_ordersFrom 62 = .ok (.iload_n 2, 1) := by decide +kernel
theorem dX1_ordersFrom_63 : decode cX1_ordersFrom 63 = .ok (.ireturn, 1) := by decide +kernel
set_option maxRecDepth 20000 in
theorem ggX1_fewestFrom_X3_all : GoodIn wsX1_fewestFrom wsX3_all := goodIn_r _ [11, 12, 39, 40, 41, 42, 43, 44] (by decide +kernel) (by decide +kernel)
set_option maxRecDepth 20000 in
theorem gX1_fewestFrom_X3_all : GoodIn wsX1_fewestFrom (wsV RX1 57 RX3 yX3_all wsX3_all) := goodIn_app (goodIn_of _ (by decide +kernel)) ggX1_fewestFrom_X3_all
set_option maxRecDepth 20000 in
theorem ggX1_fewestFrom_X3_count : GoodIn wsX1_fewestFrom wsX3_count := goodIn_r _ [16, 12, 39, 40, 41, 42, 43, 44] (by decide +kernel) (by decide +kernel)
set_option maxRecDepth 20000 in
theorem gX1_fewestFrom_X3_count : GoodIn wsX1_fewestFrom (wsV RX1 51 RX3 yX3_count wsX3_count) := goodIn_app (goodIn_of _ (by decide +kernel)) ggX1_fewestFrom_X3_count
set_option maxRecDepth 20000 in
theorem ggX1_fewestFrom_X1_changesWith : GoodIn wsX1_fewestFrom wsX1_changesWith := goodIn_r _ [21, 1, 22, 23, 24, 25, 10, 26, 27, 28, 29, 20, 30, 31, 32, 33, 34, 35, 36, 37, 38, 39, 40, 41, 42, 43, 44] (by decide +kernel) (by decide +kernel)
set_option maxRecDepth 20000 in
theorem gX1_fewestFrom_X1_changesWith : GoodIn wsX1_fewestFrom (wsV RX1 79 RX1 yX1_changesWith wsX1_changesWith) := goodIn_app (goodIn_of _ (by decide +kernel)) ggX1_fewestFrom_X1_changesWith
theorem dX1_fewestFrom_0 : decode cX1_fewestFrom 0 = .ok (.iload_n 1, 1) := by decide +kernel
theorem dX1_fewestFrom_1 : decode cX1_fewestFrom 1 = .ok (.aload_n 0, 1) := by decide +kernel
theorem dX1_fewestFrom_2 : decode cX1_fewestFrom 2 = .ok (.getfield 28, 3) := by decide +kernel
theorem dX1_fewestFrom_5 : decode cX1_fewestFrom 5 = .ok (.invokevirtual 57, 3) := by decide +kernel
theorem dX1_fewestFrom_8 : decode cX1_fewestFrom 8 = .ok (.if_icmp .ne 7, 3) := by decide +kernel
theorem dX1_fewestFrom_11 : decode cX1_fewestFrom 11 = .ok (.iconst 0, 1) := by decide +kernel
theorem dX1_fewestFrom_12 : decode cX1_fewestFrom 12 = .ok (.goto 6, 3) := by decide +kernel
theorem dX1_fewestFrom_15 : decode cX1_fewestFrom 15 = .ok (.sipush 1000, 3) := by decide +kernel
theorem dX1_fewestFrom_18 : decode cX1_fewestFrom 18 = .ok (.istore_n 3, 1) := by decide +kernel
theorem dX1_fewestFrom_19 : decode cX1_fewestFrom 19 = .ok (.iconst 0, 1) := by decide +kernel
theorem dX1_fewestFrom_20 : decode cX1_fewestFrom 20 = .ok (.istore 4, 2) := by decide +kernel
theorem dX1_fewestFrom_22 : decode cX1_fewestFrom 22 = .ok (.iload 4, 2) := by decide +kernel
theorem dX1_fewestFrom_24 : decode cX1_fewestFrom 24 = .ok (.aload_n 0, 1) := by decide +kernel
theorem dX1_fewestFrom_25 : decode cX1_fewestFrom 25 = .ok (.getfield 28, 3) := by decide +kernel
theorem dX1_fewestFrom_28 : decode cX1_fewestFrom 28 = .ok (.invokevirtual 51, 3) := by decide +kernel
theorem dX1_fewestFrom_31 : decode cX1_fewestFrom 31 = .ok (.if_icmp .ge 36, 3) := by decide +kernel
theorem dX1_fewestFrom_34 : decode cX1_fewestFrom 34 = .ok (.aload_n 0, 1) := by decide +kernel
theorem dX1_fewestFrom_35 : decode cX1_fewestFrom 35 = .ok (.getfield 15, 3) := by decide +kernel
theorem dX1_fewestFrom_38 : decode cX1_fewestFrom 38 = .ok (.iload_n 1, 1) := by decide +kernel
theorem dX1_fewestFrom_39 : decode cX1_fewestFrom 39 = .ok (.iaload, 1) := by decide +kernel
theorem dX1_fewestFrom_40 : decode cX1_fewestFrom 40 = .ok (.iconst 1, 1) := by decide +kernel
theorem dX1_fewestFrom_41 : decode cX1_fewestFrom 41 = .ok (.iload 4, 2) := by decide +kernel
theorem dX1_fewestFrom_43 : decode cX1_fewestFrom 43 = .ok (.ishl, 1) := by decide +kernel
theorem dX1_fewestFrom_44 : decode cX1_fewestFrom 44 = .ok (.iand, 1) := by decide +kernel
theorem dX1_fewestFrom_45 : decode cX1_fewestFrom 45 = .ok (.ifCond .eq 16, 3) := by decide +kernel
theorem dX1_fewestFrom_48 : decode cX1_fewestFrom 48 = .ok (.iload_n 3, 1) := by decide +kernel
theorem dX1_fewestFrom_49 : decode cX1_fewestFrom 49 = .ok (.aload_n 0, 1) := by decide +kernel
theorem dX1_fewestFrom_50 : decode cX1_fewestFrom 50 = .ok (.iload_n 1, 1) := by decide +kernel
theorem dX1_fewestFrom_51 : decode cX1_fewestFrom 51 = .ok (.iload_n 2, 1) := by decide +kernel
theorem dX1_fewestFrom_52 : decode cX1_fewestFrom 52 = .ok (.iload 4, 2) := by decide +kernel
theorem dX1_fewestFrom_54 : decode cX1_fewestFrom 54 = .ok (.invokevirtual 79, 3) := by decide +kernel
theorem dX1_fewestFrom_57 : decode cX1_fewestFrom 57 = .ok (.invokestatic 83, 3) := by decide +kernel
theorem dX1_fewestFrom_60 : decode cX1_fewestFrom 60 = .ok (.istore_n 3, 1) := by decide +kernel
theorem dX1_fewestFrom_61 : decode cX1_fewestFrom 61 = .ok (.iinc 4 1, 3) := by decide +kernel
theorem dX1_fewestFrom_64 : decode cX1_fewestFrom 64 = .ok (.goto (-42), 3) := by decide +kernel
theorem dX1_fewestFrom_67 : decode cX1_fewestFrom 67 = .ok (.iload_n 3, 1) := by decide +kernel
theorem dX1_fewestFrom_68 : decode cX1_fewestFrom 68 = .ok (.ireturn, 1) := by decide +kernel
set_option maxRecDepth 20000 in
theorem ggX1_changesWith_X3_tool : GoodIn wsX1_changesWith wsX3_tool := goodIn_r _ [7, 8, 21, 22, 23, 24, 25, 26] (by decide +kernel) (by decide +kernel)
set_option maxRecDepth 20000 in
theorem gX1_changesWith_X3_tool : GoodIn wsX1_changesWith (wsV RX1 88 RX3 yX3_tool wsX3_tool) := goodIn_app (goodIn_of _ (by decide +kernel)) ggX1_changesWith_X3_tool
set_option maxRecDepth 20000 in
theorem ggX1_changesWith_X1_change : GoodIn wsX1_changesWith wsX1_change := goodIn_r _ [12] (by decide +kernel) (by decide +kernel)
set_option maxRecDepth 20000 in
theorem gX1_changesWith_X1_change : GoodIn wsX1_changesWith (va_wsS RX1 91 yX1_change wsX1_change) := goodIn_app (goodIn_of _ (by decide +kernel)) ggX1_changesWith_X1_change
theorem dX1_changesWith_0 : decode cX1_changesWith 0 = .ok (.aload_n 0, 1) := by decide +kernel
theorem dX1_changesWith_1 : decode cX1_changesWith 1 = .ok (.getfield 28, 3) := by decide +kernel
theorem dX1_changesWith_4 : decode cX1_changesWith 4 = .ok (.iload_n 3, 1) := by decide +kernel
theorem dX1_changesWith_5 : decode cX1_changesWith 5 = .ok (.invokevirtual 88, 3) := by decide +kernel
theorem dX1_changesWith_8 : decode cX1_changesWith 8 = .ok (.istore 4, 2) := by decide +kernel
theorem dX1_changesWith_10 : decode cX1_changesWith 10 = .ok (.iload_n 2, 1) := by decide +kernel
theorem dX1_changesWith_11 : decode cX1_changesWith 11 = .ok (.iload 4, 2) := by decide +kernel
theorem dX1_changesWith_13 : decode cX1_changesWith 13 = .ok (.invokestatic 91, 3) := by decide +kernel
theorem dX1_changesWith_16 : decode cX1_changesWith 16 = .ok (.aload_n 0, 1) := by decide +kernel
theorem dX1_changesWith_17 : decode cX1_changesWith 17 = .ok (.getfield 22, 3) := by decide +kernel
theorem dX1_changesWith_20 : decode cX1_changesWith 20 = .ok (.iload_n 1, 1) := by decide +kernel
theorem dX1_changesWith_21 : decode cX1_changesWith 21 = .ok (.iconst 1, 1) := by decide +kernel
theorem dX1_changesWith_22 : decode cX1_changesWith 22 = .ok (.iload_n 3, 1) := by decide +kernel
theorem dX1_changesWith_23 : decode cX1_changesWith 23 = .ok (.ishl, 1) := by decide +kernel
theorem dX1_changesWith_24 : decode cX1_changesWith 24 = .ok (.ior, 1) := by decide +kernel
theorem dX1_changesWith_25 : decode cX1_changesWith 25 = .ok (.iconst 4, 1) := by decide +kernel
theorem dX1_changesWith_26 : decode cX1_changesWith 26 = .ok (.imul, 1) := by decide +kernel
theorem dX1_changesWith_27 : decode cX1_changesWith 27 = .ok (.iload 4, 2) := by decide +kernel
theorem dX1_changesWith_29 : decode cX1_changesWith 29 = .ok (.iadd, 1) := by decide +kernel
theorem dX1_changesWith_30 : decode cX1_changesWith 30 = .ok (.iaload, 1) := by decide +kernel
theorem dX1_changesWith_31 : decode cX1_changesWith 31 = .ok (.iadd, 1) := by decide +kernel
theorem dX1_changesWith_32 : decode cX1_changesWith 32 = .ok (.ireturn, 1) := by decide +kernel
theorem dX1_change_0 : decode cX1_change 0 = .ok (.iload_n 0, 1) := by decide +kernel
theorem dX1_change_1 : decode cX1_change 1 = .ok (.iconst (-1), 1) := by decide +kernel
theorem dX1_change_2 : decode cX1_change 2 = .ok (.if_icmp .eq 8, 3) := by decide +kernel
theorem dX1_change_5 : decode cX1_change 5 = .ok (.iload_n 0, 1) := by decide +kernel
theorem dX1_change_6 : decode cX1_change 6 = .ok (.iload_n 1, 1) := by decide +kernel
theorem dX1_change_7 : decode cX1_change 7 = .ok (.if_icmp .ne 7, 3) := by decide +kernel
theorem dX1_change_10 : decode cX1_change 10 = .ok (.iconst 0, 1) := by decide +kernel
theorem dX1_change_11 : decode cX1_change 11 = .ok (.goto 4, 3) := by decide +kernel
theorem dX1_change_14 : decode cX1_change 14 = .ok (.iconst 1, 1) := by decide +kernel
theorem dX1_change_15 : decode cX1_change 15 = .ok (.ireturn, 1) := by decide +kernel
set_option maxRecDepth 20000 in
theorem ggX1_findBest_X3_count : GoodIn wsX1_findBest wsX3_count := goodIn_r _ [8, 9, 37, 38, 39, 40, 41, 42] (by decide +kernel) (by decide +kernel)
set_option maxRecDepth 20000 in
theorem gX1_findBest_X3_count : GoodIn wsX1_findBest (wsV RX1 51 RX3 yX3_count wsX3_count) := goodIn_app (goodIn_of _ (by decide +kernel)) ggX1_findBest_X3_count
set_option maxRecDepth 20000 in
theorem ggX1_findBest_X1_leastNext : GoodIn wsX1_findBest wsX1_leastNext := goodIn_r _ [14, 2, 15, 4, 5, 6, 7, 8, 9, 16, 17, 18, 13, 19, 20, 21, 22, 23, 24, 25, 26, 27, 28, 29, 30, 31, 32, 33, 34, 35, 36, 37, 38, 39, 40, 41, 42] (by decide +kernel) (by decide +kernel)
set_option maxRecDepth 20000 in
theorem gX1_findBest_X1_leastNext : GoodIn wsX1_findBest (wsV RX1 94 RX1 yX1_leastNext wsX1_leastNext) := goodIn_app (goodIn_of _ (by decide +kernel)) ggX1_findBest_X1_leastNext
set_option maxRecDepth 20000 in
theorem ggX1_findBest_X3_tool : GoodIn wsX1_findBest wsX3_tool := goodIn_r _ [24, 25, 37, 38, 39, 40, 41, 42] (by decide +kernel) (by decide +kernel)
set_option maxRecDepth 20000 in
theorem gX1_findBest_X3_tool : GoodIn wsX1_findBest (wsV RX1 88 RX3 yX3_tool wsX3_tool) := goodIn_app (goodIn_of _ (by decide +kernel)) ggX1_findBest_X3_tool
set_option maxRecDepth 20000 in
theorem ggX1_findBest_X1_change : GoodIn wsX1_findBest wsX1_change := goodIn_r _ [28] (by decide +kernel) (by decide +kernel)
set_option maxRecDepth 20000 in
theorem gX1_findBest_X1_change : GoodIn wsX1_findBest (va_wsS RX1 91 yX1_change wsX1_change) := goodIn_app (goodIn_of _ (by decide +kernel)) ggX1_findBest_X1_change
theorem dX1_findBest_0 : decode cX1_findBest 0 = .ok (.iconst 0, 1) := by decide +kernel
theorem dX1_findBest_1 : decode cX1_findBest 1 = .ok (.istore_n 1, 1) := by decide +kernel
theorem dX1_findBest_2 : decode cX1_findBest 2 = .ok (.iconst (-1), 1) := by decide +kernel
theorem dX1_findBest_3 : decode cX1_findBest 3 = .ok (.istore_n 2, 1) := by decide +kernel
theorem dX1_findBest_4 : decode cX1_findBest 4 = .ok (.aload_n 0, 1) := by decide +kernel
theorem dX1_findBest_5 : decode cX1_findBest 5 = .ok (.getfield 39, 3) := by decide +kernel
theorem dX1_findBest_8 : decode cX1_findBest 8 = .ok (.istore_n 3, 1) := by decide +kernel
theorem dX1_findBest_9 : decode cX1_findBest 9 = .ok (.iconst 0, 1) := by decide +kernel
theorem dX1_findBest_10 : decode cX1_findBest 10 = .ok (.istore 4, 2) := by decide +kernel
theorem dX1_findBest_12 : decode cX1_findBest 12 = .ok (.iload 4, 2) := by decide +kernel
theorem dX1_findBest_14 : decode cX1_findBest 14 = .ok (.aload_n 0, 1) := by decide +kernel
theorem dX1_findBest_15 : decode cX1_findBest 15 = .ok (.getfield 28, 3) := by decide +kernel
theorem dX1_findBest_18 : decode cX1_findBest 18 = .ok (.invokevirtual 51, 3) := by decide +kernel
theorem dX1_findBest_21 : decode cX1_findBest 21 = .ok (.if_icmp .ge 67, 3) := by decide +kernel
theorem dX1_findBest_24 : decode cX1_findBest 24 = .ok (.aload_n 0, 1) := by decide +kernel
theorem dX1_findBest_25 : decode cX1_findBest 25 = .ok (.iload_n 1, 1) := by decide +kernel
theorem dX1_findBest_26 : decode cX1_findBest 26 = .ok (.iload_n 2, 1) := by decide +kernel
theorem dX1_findBest_27 : decode cX1_findBest 27 = .ok (.iload_n 3, 1) := by decide +kernel
theorem dX1_findBest_28 : decode cX1_findBest 28 = .ok (.invokevirtual 94, 3) := by decide +kernel
theorem dX1_findBest_31 : decode cX1_findBest 31 = .ok (.istore 5, 2) := by decide +kernel
theorem dX1_findBest_33 : decode cX1_findBest 33 = .ok (.iload 5, 2) := by decide +kernel
theorem dX1_findBest_35 : decode cX1_findBest 35 = .ok (.iconst (-1), 1) := by decide +kernel
theorem dX1_findBest_36 : decode cX1_findBest 36 = .ok (.if_icmp .ne 4, 3) := by decide +kernel
theorem dX1_findBest_39 : decode cX1_findBest 39 = .ok (.return_, 1) := by decide +kernel
theorem dX1_findBest_40 : decode cX1_findBest 40 = .ok (.aload_n 0, 1) := by decide +kernel
theorem dX1_findBest_41 : decode cX1_findBest 41 = .ok (.getfield 25, 3) := by decide +kernel
theorem dX1_findBest_44 : decode cX1_findBest 44 = .ok (.iload 4, 2) := by decide +kernel
theorem dX1_findBest_46 : decode cX1_findBest 46 = .ok (.iload 5, 2) := by decide +kernel
theorem dX1_findBest_48 : decode cX1_findBest 48 = .ok (.iastore, 1) := by decide +kernel
theorem dX1_findBest_49 : decode cX1_findBest 49 = .ok (.iload_n 3, 1) := by decide +kernel
theorem dX1_findBest_50 : decode cX1_findBest 50 = .ok (.iload_n 2, 1) := by decide +kernel
theorem dX1_findBest_51 : decode cX1_findBest 51 = .ok (.aload_n 0, 1) := by decide +kernel
theorem dX1_findBest_52 : decode cX1_findBest 52 = .ok (.getfield 28, 3) := by decide +kernel
theorem dX1_findBest_55 : decode cX1_findBest 55 = .ok (.iload 5, 2) := by decide +kernel
theorem dX1_findBest_57 : decode cX1_findBest 57 = .ok (.invokevirtual 88, 3) := by decide +kernel
theorem dX1_findBest_60 : decode cX1_findBest 60 = .ok (.invokestatic 91, 3) := by decide +kernel
theorem dX1_findBest_63 : decode cX1_findBest 63 = .ok (.isub, 1) := by decide +kernel
theorem dX1_findBest_64 : decode cX1_findBest 64 = .ok (.istore_n 3, 1) := by decide +kernel
theorem dX1_findBest_65 : decode cX1_findBest 65 = .ok (.aload_n 0, 1) := by decide +kernel
theorem dX1_findBest_66 : decode cX1_findBest 66 = .ok (.getfield 28, 3) := by decide +kernel
theorem dX1_findBest_69 : decode cX1_findBest 69 = .ok (.iload 5, 2) := by decide +kernel
theorem dX1_findBest_71 : decode cX1_findBest 71 = .ok (.invokevirtual 88, 3) := by decide +kernel
theorem dX1_findBest_74 : decode cX1_findBest 74 = .ok (.istore_n 2, 1) := by decide +kernel
theorem dX1_findBest_75 : decode cX1_findBest 75 = .ok (.iload_n 1, 1) := by decide +kernel
theorem dX1_findBest_76 : decode cX1_findBest 76 = .ok (.iconst 1, 1) := by decide +kernel
theorem dX1_findBest_77 : decode cX1_findBest 77 = .ok (.iload 5, 2) := by decide +kernel
theorem dX1_findBest_79 : decode cX1_findBest 79 = .ok (.ishl, 1) := by decide +kernel
theorem dX1_findBest_80 : decode cX1_findBest 80 = .ok (.ior, 1) := by decide +kernel
theorem dX1_findBest_81 : decode cX1_findBest 81 = .ok (.istore_n 1, 1) := by decide +kernel
theorem dX1_findBest_82 : decode cX1_findBest 82 = .ok (.iinc 4 1, 3) := by decide +kernel
theorem dX1_findBest_85 : decode cX1_findBest 85 = .ok (.goto (-73), 3) := by decide +kernel
theorem dX1_findBest_88 : decode cX1_findBest 88 = .ok (.return_, 1) := by decide +kernel
set_option maxRecDepth 20000 in
theorem ggX1_leastNext_X3_count : GoodIn wsX1_leastNext wsX3_count := goodIn_r _ [7, 8, 31, 32, 33, 34, 35, 36] (by decide +kernel) (by decide +kernel)
set_option maxRecDepth 20000 in
theorem gX1_leastNext_X3_count : GoodIn wsX1_leastNext (wsV RX1 51 RX3 yX3_count wsX3_count) := goodIn_app (goodIn_of _ (by decide +kernel)) ggX1_leastNext_X3_count
set_option maxRecDepth 20000 in
theorem ggX1_leastNext_X1_changesWith : GoodIn wsX1_leastNext wsX1_changesWith := goodIn_r _ [13, 1, 14, 15, 16, 17, 6, 18, 19, 20, 21, 12, 22, 23, 24, 25, 26, 27, 28, 29, 30, 31, 32, 33, 34, 35, 36] (by decide +kernel) (by decide +kernel)
set_option maxRecDepth 20000 in
theorem gX1_leastNext_X1_changesWith : GoodIn wsX1_leastNext (wsV RX1 79 RX1 yX1_changesWith wsX1_changesWith) := goodIn_app (goodIn_of _ (by decide +kernel)) ggX1_leastNext_X1_changesWith
theorem dX1_leastNext_0 : decode cX1_leastNext 0 = .ok (.iconst 0, 1) := by decide +kernel
theorem dX1_leastNext_1 : decode cX1_leastNext 1 = .ok (.istore 4, 2) := by decide +kernel
theorem dX1_leastNext_3 : decode cX1_leastNext 3 = .ok (.iload 4, 2) := by decide +kernel
theorem dX1_leastNext_5 : decode cX1_leastNext 5 = .ok (.aload_n 0, 1) := by decide +kernel
theorem dX1_leastNext_6 : decode cX1_leastNext 6 = .ok (.getfield 28, 3) := by decide +kernel
theorem dX1_leastNext_9 : decode cX1_leastNext 9 = .ok (.invokevirtual 51, 3) := by decide +kernel
theorem dX1_leastNext_12 : decode cX1_leastNext 12 = .ok (.if_icmp .ge 38, 3) := by decide +kernel
theorem dX1_leastNext_15 : decode cX1_leastNext 15 = .ok (.aload_n 0, 1) := by decide +kernel
theorem dX1_leastNext_16 : decode cX1_leastNext 16 = .ok (.getfield 15, 3) := by decide +kernel
theorem dX1_leastNext_19 : decode cX1_leastNext 19 = .ok (.iload_n 1, 1) := by decide +kernel
theorem dX1_leastNext_20 : decode cX1_leastNext 20 = .ok (.iaload, 1) := by decide +kernel
theorem dX1_leastNext_21 : decode cX1_leastNext 21 = .ok (.iconst 1, 1) := by decide +kernel
theorem dX1_leastNext_22 : decode cX1_leastNext 22 = .ok (.iload 4, 2) := by decide +kernel
theorem dX1_leastNext_24 : decode cX1_leastNext 24 = .ok (.ishl, 1) := by decide +kernel
theorem dX1_leastNext_25 : decode cX1_leastNext 25 = .ok (.iand, 1) := by decide +kernel
theorem dX1_leastNext_26 : decode cX1_leastNext 26 = .ok (.ifCond .eq 18, 3) := by decide +kernel
theorem dX1_leastNext_29 : decode cX1_leastNext 29 = .ok (.aload_n 0, 1) := by decide +kernel
theorem dX1_leastNext_30 : decode cX1_leastNext 30 = .ok (.iload_n 1, 1) := by decide +kernel
theorem dX1_leastNext_31 : decode cX1_leastNext 31 = .ok (.iload_n 2, 1) := by decide +kernel
theorem dX1_leastNext_32 : decode cX1_leastNext 32 = .ok (.iload 4, 2) := by decide +kernel
theorem dX1_leastNext_34 : decode cX1_leastNext 34 = .ok (.invokevirtual 79, 3) := by decide +kernel
theorem dX1_leastNext_37 : decode cX1_leastNext 37 = .ok (.iload_n 3, 1) := by decide +kernel
theorem dX1_leastNext_38 : decode cX1_leastNext 38 = .ok (.if_icmp .ne 6, 3) := by decide +kernel
theorem dX1_leastNext_41 : decode cX1_leastNext 41 = .ok (.iload 4, 2) := by decide +kernel
theorem dX1_leastNext_43 : decode cX1_leastNext 43 = .ok (.ireturn, 1) := by decide +kernel
theorem dX1_leastNext_44 : decode cX1_leastNext 44 = .ok (.iinc 4 1, 3) := by decide +kernel
theorem dX1_leastNext_47 : decode cX1_leastNext 47 = .ok (.goto (-44), 3) := by decide +kernel
theorem dX1_leastNext_50 : decode cX1_leastNext 50 = .ok (.iconst (-1), 1) := by decide +kernel
theorem dX1_leastNext_51 : decode cX1_leastNext 51 = .ok (.ireturn, 1) := by decide +kernel
set_option maxRecDepth 20000 in
theorem ggX1_listed_X3_count : GoodIn wsX1_listed wsX3_count := goodIn_r _ [11, 12, 32, 33, 34, 35, 36, 37] (by decide +kernel) (by decide +kernel)
set_option maxRecDepth 20000 in
theorem gX1_listed_X3_count : GoodIn wsX1_listed (wsV RX1 51 RX3 yX3_count wsX3_count) := goodIn_app (goodIn_of _ (by decide +kernel)) ggX1_listed_X3_count
set_option maxRecDepth 20000 in
theorem ggX1_listed_X3_tool : GoodIn wsX1_listed wsX3_tool := goodIn_r _ [16, 17, 32, 33, 34, 35, 36, 37] (by decide +kernel) (by decide +kernel)
set_option maxRecDepth 20000 in
theorem gX1_listed_X3_tool : GoodIn wsX1_listed (wsV RX1 88 RX3 yX3_tool wsX3_tool) := goodIn_app (goodIn_of _ (by decide +kernel)) ggX1_listed_X3_tool
set_option maxRecDepth 20000 in
theorem ggX1_listed_X1_listed : GoodIn wsX1_listed wsX1_listed := goodIn_r _ [0, 1, 2, 3, 4, 5, 6, 7, 8, 9, 10, 11, 12, 13, 14, 15, 16, 17, 18, 19, 20, 21, 22, 23, 24, 25, 26, 27, 28, 29, 30, 31, 32, 33, 34, 35, 36, 37] (by decide +kernel) (by decide +kernel)
set_option maxRecDepth 20000 in
theorem gX1_listed_X1_listed : GoodIn wsX1_listed (va_wsS RX1 47 yX1_listed wsX1_listed) := goodIn_app (goodIn_of _ (by decide +kernel)) ggX1_listed_X1_listed
set_option maxRecDepth 20000 in
theorem ggX1_listed_X1_change : GoodIn wsX1_listed wsX1_change := goodIn_r _ [23] (by decide +kernel) (by decide +kernel)
set_option maxRecDepth 20000 in
theorem gX1_listed_X1_change : GoodIn wsX1_listed (va_wsS RX1 91 yX1_change wsX1_change) := goodIn_app (goodIn_of _ (by decide +kernel)) ggX1_listed_X1_change
theorem dX1_listed_0 : decode cX1_listed 0 = .ok (.iload_n 1, 1) := by decide +kernel
theorem dX1_listed_1 : decode cX1_listed 1 = .ok (.aload_n 0, 1) := by decide +kernel
theorem dX1_listed_2 : decode cX1_listed 2 = .ok (.getfield 28, 3) := by decide +kernel
theorem dX1_listed_5 : decode cX1_listed 5 = .ok (.invokevirtual 51, 3) := by decide +kernel
theorem dX1_listed_8 : decode cX1_listed 8 = .ok (.if_icmp .ge 9, 3) := by decide +kernel
theorem dX1_listed_11 : decode cX1_listed 11 = .ok (.iload_n 1, 1) := by decide +kernel
theorem dX1_listed_12 : decode cX1_listed 12 = .ok (.bipush 7, 2) := by decide +kernel
theorem dX1_listed_14 : decode cX1_listed 14 = .ok (.if_icmp .lt 5, 3) := by decide +kernel
theorem dX1_listed_17 : decode cX1_listed 17 = .ok (.iconst 0, 1) := by decide +kernel
theorem dX1_listed_18 : decode cX1_listed 18 = .ok (.ireturn, 1) := by decide +kernel
theorem dX1_listed_19 : decode cX1_listed 19 = .ok (.sipush 1000, 3) := by decide +kernel
theorem dX1_listed_22 : decode cX1_listed 22 = .ok (.istore 4, 2) := by decide +kernel
theorem dX1_listed_24 : decode cX1_listed 24 = .ok (.iconst 0, 1) := by decide +kernel
theorem dX1_listed_25 : decode cX1_listed 25 = .ok (.istore 5, 2) := by decide +kernel
theorem dX1_listed_27 : decode cX1_listed 27 = .ok (.iload 5, 2) := by decide +kernel
theorem dX1_listed_29 : decode cX1_listed 29 = .ok (.aload_n 0, 1) := by decide +kernel
theorem dX1_listed_30 : decode cX1_listed 30 = .ok (.getfield 28, 3) := by decide +kernel
theorem dX1_listed_33 : decode cX1_listed 33 = .ok (.invokevirtual 51, 3) := by decide +kernel
theorem dX1_listed_36 : decode cX1_listed 36 = .ok (.if_icmp .ge 67, 3) := by decide +kernel
theorem dX1_listed_39 : decode cX1_listed 39 = .ok (.aload_n 0, 1) := by decide +kernel
theorem dX1_listed_40 : decode cX1_listed 40 = .ok (.getfield 15, 3) := by decide +kernel
theorem dX1_listed_43 : decode cX1_listed 43 = .ok (.iload_n 2, 1) := by decide +kernel
theorem dX1_listed_44 : decode cX1_listed 44 = .ok (.iaload, 1) := by decide +kernel
theorem dX1_listed_45 : decode cX1_listed 45 = .ok (.iconst 1, 1) := by decide +kernel
theorem dX1_listed_46 : decode cX1_listed 46 = .ok (.iload 5, 2) := by decide +kernel
theorem dX1_listed_48 : decode cX1_listed 48 = .ok (.ishl, 1) := by decide +kernel
theorem dX1_listed_49 : decode cX1_listed 49 = .ok (.iand, 1) := by decide +kernel
theorem dX1_listed_50 : decode cX1_listed 50 = .ok (.ifCond .eq 47, 3) := by decide +kernel
theorem dX1_listed_53 : decode cX1_listed 53 = .ok (.aload_n 0, 1) := by decide +kernel
theorem dX1_listed_54 : decode cX1_listed 54 = .ok (.getfield 28, 3) := by decide +kernel
theorem dX1_listed_57 : decode cX1_listed 57 = .ok (.iload 5, 2) := by decide +kernel
theorem dX1_listed_59 : decode cX1_listed 59 = .ok (.invokevirtual 88, 3) := by decide +kernel
theorem dX1_listed_62 : decode cX1_listed 62 = .ok (.istore 6, 2) := by decide +kernel
theorem dX1_listed_64 : decode cX1_listed 64 = .ok (.aload_n 0, 1) := by decide +kernel
theorem dX1_listed_65 : decode cX1_listed 65 = .ok (.iload_n 1, 1) := by decide +kernel
theorem dX1_listed_66 : decode cX1_listed 66 = .ok (.iconst 1, 1) := by decide +kernel
theorem dX1_listed_67 : decode cX1_listed 67 = .ok (.iadd, 1) := by decide +kernel
theorem dX1_listed_68 : decode cX1_listed 68 = .ok (.iload_n 2, 1) := by decide +kernel
theorem dX1_listed_69 : decode cX1_listed 69 = .ok (.iconst 1, 1) := by decide +kernel
theorem dX1_listed_70 : decode cX1_listed 70 = .ok (.iload 5, 2) := by decide +kernel
theorem dX1_listed_72 : decode cX1_listed 72 = .ok (.ishl, 1) := by decide +kernel
theorem dX1_listed_73 : decode cX1_listed 73 = .ok (.ior, 1) := by decide +kernel
theorem dX1_listed_74 : decode cX1_listed 74 = .ok (.iload 6, 2) := by decide +kernel
theorem dX1_listed_76 : decode cX1_listed 76 = .ok (.invokestatic 47, 3) := by decide +kernel
theorem dX1_listed_79 : decode cX1_listed 79 = .ok (.istore 7, 2) := by decide +kernel
theorem dX1_listed_81 : decode cX1_listed 81 = .ok (.iload 4, 2) := by decide +kernel
theorem dX1_listed_83 : decode cX1_listed 83 = .ok (.iload_n 3, 1) := by decide +kernel
theorem dX1_listed_84 : decode cX1_listed 84 = .ok (.iload 6, 2) := by decide +kernel
theorem dX1_listed_86 : decode cX1_listed 86 = .ok (.invokestatic 91, 3) := by decide +kernel
theorem dX1_listed_89 : decode cX1_listed 89 = .ok (.iload 7, 2) := by decide +kernel
theorem dX1_listed_91 : decode cX1_listed 91 = .ok (.iadd, 1) := by decide +kernel
theorem dX1_listed_92 : decode cX1_listed 92 = .ok (.invokestatic 83, 3) := by decide +kernel
theorem dX1_listed_95 : decode cX1_listed 95 = .ok (.istore 4, 2) := by decide +kernel
theorem dX1_listed_97 : decode cX1_listed 97 = .ok (.iinc 5 1, 3) := by decide +kernel
theorem dX1_listed_100 : decode cX1_listed 100 = .ok (.goto (-73), 3) := by decide +kernel
theorem dX1_listed_103 : decode cX1_listed 103 = .ok (.iload 4, 2) := by decide +kernel
theorem dX1_listed_105 : decode cX1_listed 105 = .ok (.ireturn, 1) := by decide +kernel
