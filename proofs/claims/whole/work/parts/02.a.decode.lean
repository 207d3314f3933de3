theorem dX0_init_0 : decode cX0_init 0 = .ok (.aload_n 0, 1) := by decide +kernel
theorem dX0_init_1 : decode cX0_init 1 = .ok (.iload_n 1, 1) := by decide +kernel
theorem dX0_init_2 : decode cX0_init 2 = .ok (.invokespecial 3, 3) := by decide +kernel
theorem dX0_init_5 : decode cX0_init 5 = .ok (.return_, 1) := by decide +kernel
theorem dX0_kindNumber_0 : decode cX0_kindNumber 0 = .ok (.iconst 1, 1) := by decide +kernel
theorem dX0_kindNumber_1 : decode cX0_kindNumber 1 = .ok (.ireturn, 1) := by decide +kernel
theorem dX0_firmness_0 : decode cX0_firmness 0 = .ok (.iconst 2, 1) := by decide +kernel
theorem dX0_firmness_1 : decode cX0_firmness 1 = .ok (.aload_n 0, 1) := by decide +kernel
theorem dX0_firmness_2 : decode cX0_firmness 2 = .ok (.getfield 9, 3) := by decide +kernel
theorem dX0_firmness_5 : decode cX0_firmness 5 = .ok (.imul, 1) := by decide +kernel
theorem dX0_firmness_6 : decode cX0_firmness 6 = .ok (.ireturn, 1) := by decide +kernel
theorem dX0_handHeight_0 : decode cX0_handHeight 0 = .ok (.iconst 0, 1) := by decide +kernel
theorem dX0_handHeight_1 : decode cX0_handHeight 1 = .ok (.ireturn, 1) := by decide +kernel
theorem dX1_init_0 : decode cX1_init 0 = .ok (.aload_n 0, 1) := by decide +kernel
theorem dX1_init_1 : decode cX1_init 1 = .ok (.iload_n 1, 1) := by decide +kernel
theorem dX1_init_2 : decode cX1_init 2 = .ok (.invokespecial 3, 3) := by decide +kernel
theorem dX1_init_5 : decode cX1_init 5 = .ok (.return_, 1) := by decide +kernel
theorem dX1_kindNumber_0 : decode cX1_kindNumber 0 = .ok (.iconst 2, 1) := by decide +kernel
theorem dX1_kindNumber_1 : decode cX1_kindNumber 1 = .ok (.ireturn, 1) := by decide +kernel
theorem dX1_firmness_0 : decode cX1_firmness 0 = .ok (.aload_n 0, 1) := by decide +kernel
theorem dX1_firmness_1 : decode cX1_firmness 1 = .ok (.getfield 9, 3) := by decide +kernel
theorem dX1_firmness_4 : decode cX1_firmness 4 = .ok (.iconst 2, 1) := by decide +kernel
theorem dX1_firmness_5 : decode cX1_firmness 5 = .ok (.idiv, 1) := by decide +kernel
theorem dX1_firmness_6 : decode cX1_firmness 6 = .ok (.ireturn, 1) := by decide +kernel
theorem dX1_feels_0 : decode cX1_feels 0 = .ok (.iconst 0, 1) := by decide +kernel
theorem dX1_feels_1 : decode cX1_feels 1 = .ok (.ireturn, 1) := by decide +kernel
theorem dX2_init_0 : decode cX2_init 0 = .ok (.aload_n 0, 1) := by decide +kernel
theorem dX2_init_1 : decode cX2_init 1 = .ok (.iload_n 1, 1) := by decide +kernel
theorem dX2_init_2 : decode cX2_init 2 = .ok (.invokespecial 3, 3) := by decide +kernel
theorem dX2_init_5 : decode cX2_init 5 = .ok (.return_, 1) := by decide +kernel
theorem dX2_kindNumber_0 : decode cX2_kindNumber 0 = .ok (.iconst 0, 1) := by decide +kernel
theorem dX2_kindNumber_1 : decode cX2_kindNumber 1 = .ok (.ireturn, 1) := by decide +kernel
theorem dX2_firmness_0 : decode cX2_firmness 0 = .ok (.aload_n 0, 1) := by decide +kernel
theorem dX2_firmness_1 : decode cX2_firmness 1 = .ok (.getfield 9, 3) := by decide +kernel
theorem dX2_firmness_4 : decode cX2_firmness 4 = .ok (.ireturn, 1) := by decide +kernel
theorem dX2_feels_0 : decode cX2_feels 0 = .ok (.iconst 1, 1) := by decide +kernel
theorem dX2_feels_1 : decode cX2_feels 1 = .ok (.ireturn, 1) := by decide +kernel
theorem dX3_init_0 : decode cX3_init 0 = .ok (.aload_n 0, 1) := by decide +kernel
theorem dX3_init_1 : decode cX3_init 1 = .ok (.iload_n 1, 1) := by decide +kernel
theorem dX3_init_2 : decode cX3_init 2 = .ok (.invokespecial 3, 3) := by decide +kernel
theorem dX3_init_5 : decode cX3_init 5 = .ok (.return_, 1) := by decide +kernel
theorem dX3_kindNumber_0 : decode cX3_kindNumber 0 = .ok (.iconst 3, 1) := by decide +kernel
theorem dX3_kindNumber_1 : decode cX3_kindNumber 1 = .ok (.ireturn, 1) := by decide +kernel
theorem dX3_firmness_0 : decode cX3_firmness 0 = .ok (.iconst 0, 1) := by decide +kernel
theorem dX3_firmness_1 : decode cX3_firmness 1 = .ok (.ireturn, 1) := by decide +kernel
theorem dX3_feels_0 : decode cX3_feels 0 = .ok (.iconst 0, 1) := by decide +kernel
theorem dX3_feels_1 : decode cX3_feels 1 = .ok (.ireturn, 1) := by decide +kernel
theorem dX4_init_0 : decode cX4_init 0 = .ok (.aload_n 0, 1) := by decide +kernel
theorem dX4_init_1 : decode cX4_init 1 = .ok (.invokespecial 3, 3) := by decide +kernel
theorem dX4_init_4 : decode cX4_init 4 = .ok (.aload_n 0, 1) := by decide +kernel
theorem dX4_init_5 : decode cX4_init 5 = .ok (.new 9, 3) := by decide +kernel
theorem dX4_init_8 : decode cX4_init 8 = .ok (.dup, 1) := by decide +kernel
theorem dX4_init_9 : decode cX4_init 9 = .ok (.invokespecial 11, 3) := by decide +kernel
theorem dX4_init_12 : decode cX4_init 12 = .ok (.putfield 12, 3) := by decide +kernel
theorem dX4_init_15 : decode cX4_init 15 = .ok (.aload_n 0, 1) := by decide +kernel
theorem dX4_init_16 : decode cX4_init 16 = .ok (.bipush 6, 2) := by decide +kernel
theorem dX4_init_18 : decode cX4_init 18 = .ok (.newarray .int, 2) := by decide +kernel
theorem dX4_init_20 : decode cX4_init 20 = .ok (.putfield 18, 3) := by decide +kernel
theorem dX4_init_23 : decode cX4_init 23 = .ok (.return_, 1) := by decide +kernel
theorem dX4_copyFrom_0 : decode cX4_copyFrom 0 = .ok (.aload_n 0, 1) := by decide +kernel
theorem dX4_copyFrom_1 : decode cX4_copyFrom 1 = .ok (.getfield 12, 3) := by decide +kernel
theorem dX4_copyFrom_4 : decode cX4_copyFrom 4 = .ok (.aload_n 1, 1) := by decide +kernel
theorem dX4_copyFrom_5 : decode cX4_copyFrom 5 = .ok (.getfield 12, 3) := by decide +kernel
theorem dX4_copyFrom_8 : decode cX4_copyFrom 8 = .ok (.invokevirtual 22, 3) := by decide +kernel
theorem dX4_copyFrom_11 : decode cX4_copyFrom 11 = .ok (.aload_n 1, 1) := by decide +kernel
theorem dX4_copyFrom_12 : decode cX4_copyFrom 12 = .ok (.getfield 18, 3) := by decide +kernel
theorem dX4_copyFrom_15 : decode cX4_copyFrom 15 = .ok (.iconst 0, 1) := by decide +kernel
theorem dX4_copyFrom_16 : decode cX4_copyFrom 16 = .ok (.aload_n 0, 1) := by decide +kernel
theorem dX4_copyFrom_17 : decode cX4_copyFrom 17 = .ok (.getfield 18, 3) := by decide +kernel
theorem dX4_copyFrom_20 : decode cX4_copyFrom 20 = .ok (.iconst 0, 1) := by decide +kernel
theorem dX4_copyFrom_21 : decode cX4_copyFrom 21 = .ok (.bipush 6, 2) := by decide +kernel
theorem dX4_copyFrom_23 : decode cX4_copyFrom 23 = .ok (.invokestatic 26, 3) := by decide +kernel
theorem dX4_copyFrom_26 : decode cX4_copyFrom 26 = .ok (.aload_n 0, 1) := by decide +kernel
theorem dX4_copyFrom_27 : decode cX4_copyFrom 27 = .ok (.aload_n 1, 1) := by decide +kernel
theorem dX4_copyFrom_28 : decode cX4_copyFrom 28 = .ok (.getfield 32, 3) := by decide +kernel
theorem dX4_copyFrom_31 : decode cX4_copyFrom 31 = .ok (.putfield 32, 3) := by decide +kernel
theorem dX4_copyFrom_34 : decode cX4_copyFrom 34 = .ok (.return_, 1) := by decide +kernel
theorem dX4_begin_0 : decode cX4_begin 0 = .ok (.aload_n 0, 1) := by decide +kernel
theorem dX4_begin_1 : decode cX4_begin 1 = .ok (.getfield 12, 3) := by decide +kernel
theorem dX4_begin_4 : decode cX4_begin 4 = .ok (.aload_n 1, 1) := by decide +kernel
theorem dX4_begin_5 : decode cX4_begin 5 = .ok (.invokevirtual 22, 3) := by decide +kernel
theorem dX4_begin_8 : decode cX4_begin 8 = .ok (.iconst 0, 1) := by decide +kernel
theorem dX4_begin_9 : decode cX4_begin 9 = .ok (.istore_n 2, 1) := by decide +kernel
theorem dX4_begin_10 : decode cX4_begin 10 = .ok (.iload_n 2, 1) := by decide +kernel
theorem dX4_begin_11 : decode cX4_begin 11 = .ok (.bipush 6, 2) := by decide +kernel
theorem dX4_begin_13 : decode cX4_begin 13 = .ok (.if_icmp .ge 16, 3) := by decide +kernel
theorem dX4_begin_16 : decode cX4_begin 16 = .ok (.aload_n 0, 1) := by decide +kernel
theorem dX4_begin_17 : decode cX4_begin 17 = .ok (.getfield 18, 3) := by decide +kernel
theorem dX4_begin_20 : decode cX4_begin 20 = .ok (.iload_n 2, 1) := by decide +kernel
theorem dX4_begin_21 : decode cX4_begin 21 = .ok (.iconst 0, 1) := by decide +kernel
theorem dX4_begin_22 : decode cX4_begin 22 = .ok (.iastore, 1) := by decide +kernel
theorem dX4_begin_23 : decode cX4_begin 23 = .ok (.iinc 2 1, 3) := by decide +kernel
theorem dX4_begin_26 : decode cX4_begin 26 = .ok (.goto (-16), 3) := by decide +kernel
theorem dX4_begin_29 : decode cX4_begin 29 = .ok (.aload_n 0, 1) := by decide +kernel
theorem dX4_begin_30 : decode cX4_begin 30 = .ok (.iconst 0, 1) := by decide +kernel
theorem dX4_begin_31 : decode cX4_begin 31 = .ok (.putfield 32, 3) := by decide +kernel
theorem dX4_begin_34 : decode cX4_begin 34 = .ok (.return_, 1) := by decide +kernel
theorem dX4_knownByAnybody_0 : decode cX4_knownByAnybody 0 = .ok (.iconst 0, 1) := by decide +kernel
theorem dX4_knownByAnybody_1 : decode cX4_knownByAnybody 1 = .ok (.istore_n 1, 1) := by decide +kernel
theorem dX4_knownByAnybody_2 : decode cX4_knownByAnybody 2 = .ok (.iconst 0, 1) := by decide +kernel
theorem dX4_knownByAnybody_3 : decode cX4_knownByAnybody 3 = .ok (.istore_n 2, 1) := by decide +kernel
theorem dX4_knownByAnybody_4 : decode cX4_knownByAnybody 4 = .ok (.iload_n 2, 1) := by decide +kernel
theorem dX4_knownByAnybody_5 : decode cX4_knownByAnybody 5 = .ok (.bipush 6, 2) := by decide +kernel
theorem dX4_knownByAnybody_7 : decode cX4_knownByAnybody 7 = .ok (.if_icmp .ge 18, 3) := by decide +kernel
theorem dX4_knownByAnybody_10 : decode cX4_knownByAnybody 10 = .ok (.iload_n 1, 1) := by decide +kernel
theorem dX4_knownByAnybody_11 : decode cX4_knownByAnybody 11 = .ok (.aload_n 0, 1) := by decide +kernel
theorem dX4_knownByAnybody_12 : decode cX4_knownByAnybody 12 = .ok (.getfield 18, 3) := by decide +kernel
theorem dX4_knownByAnybody_15 : decode cX4_knownByAnybody 15 = .ok (.iload_n 2, 1) := by decide +kernel
theorem dX4_knownByAnybody_16 : decode cX4_knownByAnybody 16 = .ok (.iaload, 1) := by decide +kernel
theorem dX4_knownByAnybody_17 : decode cX4_knownByAnybody 17 = .ok (.ior, 1) := by decide +kernel
theorem dX4_knownByAnybody_18 : decode cX4_knownByAnybody 18 = .ok (.istore_n 1, 1) := by decide +kernel
theorem dX4_knownByAnybody_19 : decode cX4_knownByAnybody 19 = .ok (.iinc 2 1, 3) := by decide +kernel
theorem dX4_knownByAnybody_22 : decode cX4_knownByAnybody 22 = .ok (.goto (-18), 3) := by decide +kernel
theorem dX4_knownByAnybody_25 : decode cX4_knownByAnybody 25 = .ok (.iload_n 1, 1) := by decide +kernel
theorem dX4_knownByAnybody_26 : decode cX4_knownByAnybody 26 = .ok (.ireturn, 1) := by decide +kernel
theorem dX5_init_0 : decode cX5_init 0 = .ok (.aload_n 0, 1) := by decide +kernel
theorem dX5_init_1 : decode cX5_init 1 = .ok (.invokespecial 3, 3) := by decide +kernel
theorem dX5_init_4 : decode cX5_init 4 = .ok (.aload_n 0, 1) := by decide +kernel
theorem dX5_init_5 : decode cX5_init 5 = .ok (.bipush 8, 2) := by decide +kernel
theorem dX5_init_7 : decode cX5_init 7 = .ok (.anewarray 9, 3) := by decide +kernel
theorem dX5_init_10 : decode cX5_init 10 = .ok (.putfield 11, 3) := by decide +kernel
theorem dX5_init_13 : decode cX5_init 13 = .ok (.iconst 0, 1) := by decide +kernel
theorem dX5_init_14 : decode cX5_init 14 = .ok (.istore_n 1, 1) := by decide +kernel
theorem dX5_init_15 : decode cX5_init 15 = .ok (.iload_n 1, 1) := by decide +kernel
theorem dX5_init_16 : decode cX5_init 16 = .ok (.bipush 8, 2) := by decide +kernel
theorem dX5_init_18 : decode cX5_init 18 = .ok (.if_icmp .ge 22, 3) := by decide +kernel
theorem dX5_init_21 : decode cX5_init 21 = .ok (.aload_n 0, 1) := by decide +kernel
theorem dX5_init_22 : decode cX5_init 22 = .ok (.getfield 11, 3) := by decide +kernel
theorem dX5_init_25 : decode cX5_init 25 = .ok (.iload_n 1, 1) := by decide +kernel
theorem dX5_init_26 : decode cX5_init 26 = .ok (.new 9, 3) := by decide +kernel
theorem dX5_init_29 : decode cX5_init 29 = .ok (.dup, 1) := by decide +kernel
theorem dX5_init_30 : decode cX5_init 30 = .ok (.invokespecial 17, 3) := by decide +kernel
theorem dX5_init_33 : decode cX5_init 33 = .ok (.aastore, 1) := by decide +kernel
theorem dX5_init_34 : decode cX5_init 34 = .ok (.iinc 1 1, 3) := by decide +kernel
theorem dX5_init_37 : decode cX5_init 37 = .ok (.goto (-22), 3) := by decide +kernel
theorem dX5_init_40 : decode cX5_init 40 = .ok (.return_, 1) := by decide +kernel
theorem dX5_remember_0 : decode cX5_remember 0 = .ok (.aload_n 0, 1) := by decide +kernel
theorem dX5_remember_1 : decode cX5_remember 1 = .ok (.getfield 11, 3) := by decide +kernel
theorem dX5_remember_4 : decode cX5_remember 4 = .ok (.aload_n 0, 1) := by decide +kernel
theorem dX5_remember_5 : decode cX5_remember 5 = .ok (.getfield 18, 3) := by decide +kernel
theorem dX5_remember_8 : decode cX5_remember 8 = .ok (.aaload, 1) := by decide +kernel
theorem dX5_remember_9 : decode cX5_remember 9 = .ok (.aload_n 1, 1) := by decide +kernel
theorem dX5_remember_10 : decode cX5_remember 10 = .ok (.invokevirtual 22, 3) := by decide +kernel
theorem dX5_remember_13 : decode cX5_remember 13 = .ok (.aload_n 0, 1) := by decide +kernel
theorem dX5_remember_14 : decode cX5_remember 14 = .ok (.aload_n 0, 1) := by decide +kernel
theorem dX5_remember_15 : decode cX5_remember 15 = .ok (.getfield 18, 3) := by decide +kernel
theorem dX5_remember_18 : decode cX5_remember 18 = .ok (.iconst 1, 1) := by decide +kernel
theorem dX5_remember_19 : decode cX5_remember 19 = .ok (.iadd, 1) := by decide +kernel
theorem dX5_remember_20 : decode cX5_remember 20 = .ok (.bipush 8, 2) := by decide +kernel
theorem dX5_remember_22 : decode cX5_remember 22 = .ok (.irem, 1) := by decide +kernel
theorem dX5_remember_23 : decode cX5_remember 23 = .ok (.putfield 18, 3) := by decide +kernel
theorem dX5_remember_26 : decode cX5_remember 26 = .ok (.aload_n 0, 1) := by decide +kernel
theorem dX5_remember_27 : decode cX5_remember 27 = .ok (.bipush 8, 2) := by decide +kernel
theorem dX5_remember_29 : decode cX5_remember 29 = .ok (.aload_n 0, 1) := by decide +kernel
theorem dX5_remember_30 : decode cX5_remember 30 = .ok (.getfield 26, 3) := by decide +kernel
theorem dX5_remember_33 : decode cX5_remember 33 = .ok (.iconst 1, 1) := by decide +kernel
theorem dX5_remember_34 : decode cX5_remember 34 = .ok (.iadd, 1) := by decide +kernel
theorem dX5_remember_35 : decode cX5_remember 35 = .ok (.invokestatic 29, 3) := by decide +kernel
theorem dX5_remember_38 : decode cX5_remember 38 = .ok (.putfield 26, 3) := by decide +kernel
theorem dX5_remember_41 : decode cX5_remember 41 = .ok (.return_, 1) := by decide +kernel
theorem dX5_restoreLatest_0 : decode cX5_restoreLatest 0 = .ok (.aload_n 0, 1) := by decide +kernel
theorem dX5_restoreLatest_1 : decode cX5_restoreLatest 1 = .ok (.getfield 26, 3) := by decide +kernel
theorem dX5_restoreLatest_4 : decode cX5_restoreLatest 4 = .ok (.ifCond .le 42, 3) := by decide +kernel
theorem dX5_restoreLatest_7 : decode cX5_restoreLatest 7 = .ok (.aload_n 0, 1) := by decide +kernel
theorem dX5_restoreLatest_8 : decode cX5_restoreLatest 8 = .ok (.aload_n 0, 1) := by decide +kernel
theorem dX5_restoreLatest_9 : decode cX5_restoreLatest 9 = .ok (.getfield 18, 3) := by decide +kernel
theorem dX5_restoreLatest_12 : decode cX5_restoreLatest 12 = .ok (.bipush 8, 2) := by decide +kernel
theorem dX5_restoreLatest_14 : decode cX5_restoreLatest 14 = .ok (.iadd, 1) := by decide +kernel
theorem dX5_restoreLatest_15 : decode cX5_restoreLatest 15 = .ok (.iconst 1, 1) := by decide +kernel
theorem dX5_restoreLatest_16 : decode cX5_restoreLatest 16 = .ok (.isub, 1) := by decide +kernel
theorem dX5_restoreLatest_17 : decode cX5_restoreLatest 17 = .ok (.bipush 8, 2) := by decide +kernel
theorem dX5_restoreLatest_19 : decode cX5_restoreLatest 19 = .ok (.irem, 1) := by decide +kernel
theorem dX5_restoreLatest_20 : decode cX5_restoreLatest 20 = .ok (.putfield 18, 3) := by decide +kernel
theorem dX5_restoreLatest_23 : decode cX5_restoreLatest 23 = .ok (.aload_n 0, 1) := by decide +kernel
theorem dX5_restoreLatest_24 : decode cX5_restoreLatest 24 = .ok (.dup, 1) := by decide +kernel
theorem dX5_restoreLatest_25 : decode cX5_restoreLatest 25 = .ok (.getfield 26, 3) := by decide +kernel
theorem dX5_restoreLatest_28 : decode cX5_restoreLatest 28 = .ok (.iconst 1, 1) := by decide +kernel
theorem dX5_restoreLatest_29 : decode cX5_restoreLatest 29 = .ok (.isub, 1) := by decide +kernel
theorem dX5_restoreLatest_30 : decode cX5_restoreLatest 30 = .ok (.putfield 26, 3) := by decide +kernel
theorem dX5_restoreLatest_33 : decode cX5_restoreLatest 33 = .ok (.aload_n 1, 1) := by decide +kernel
theorem dX5_restoreLatest_34 : decode cX5_restoreLatest 34 = .ok (.aload_n 0, 1) := by decide +kernel
theorem dX5_restoreLatest_35 : decode cX5_restoreLatest 35 = .ok (.getfield 11, 3) := by decide +kernel
theorem dX5_restoreLatest_38 : decode cX5_restoreLatest 38 = .ok (.aload_n 0, 1) := by decide +kernel
theorem dX5_restoreLatest_39 : decode cX5_restoreLatest 39 = .ok (.getfield 18, 3) := by decide +kernel
theorem dX5_restoreLatest_42 : decode cX5_restoreLatest 42 = .ok (.aaload, 1) := by decide +kernel
theorem dX5_restoreLatest_43 : decode cX5_restoreLatest 43 = .ok (.invokevirtual 22, 3) := by decide +kernel
theorem dX5_restoreLatest_46 : decode cX5_restoreLatest 46 = .ok (.return_, 1) := by decide +kernel
theorem dX6_init_0 : decode cX6_init 0 = .ok (.aload_n 0, 1) := by decide +kernel
theorem dX6_init_1 : decode cX6_init 1 = .ok (.invokespecial 3, 3) := by decide +kernel
theorem dX6_init_4 : decode cX6_init 4 = .ok (.aload_n 0, 1) := by decide +kernel
theorem dX6_init_5 : decode cX6_init 5 = .ok (.iload_n 1, 1) := by decide +kernel
theorem dX6_init_6 : decode cX6_init 6 = .ok (.putfield 9, 3) := by decide +kernel
theorem dX6_init_9 : decode cX6_init 9 = .ok (.return_, 1) := by decide +kernel
theorem dX6_handHeight_0 : decode cX6_handHeight 0 = .ok (.iconst 1, 1) := by decide +kernel
theorem dX6_handHeight_1 : decode cX6_handHeight 1 = .ok (.ireturn, 1) := by decide +kernel
theorem dX7_init_0 : decode cX7_init 0 = .ok (.aload_n 0, 1) := by decide +kernel
theorem dX7_init_1 : decode cX7_init 1 = .ok (.invokespecial 3, 3) := by decide +kernel
theorem dX7_init_4 : decode cX7_init 4 = .ok (.aload_n 0, 1) := by decide +kernel
theorem dX7_init_5 : decode cX7_init 5 = .ok (.bipush 24, 2) := by decide +kernel
theorem dX7_init_7 : decode cX7_init 7 = .ok (.newarray .int, 2) := by decide +kernel
theorem dX7_init_9 : decode cX7_init 9 = .ok (.putfield 9, 3) := by decide +kernel
theorem dX7_init_12 : decode cX7_init 12 = .ok (.aload_n 0, 1) := by decide +kernel
theorem dX7_init_13 : decode cX7_init 13 = .ok (.bipush 24, 2) := by decide +kernel
theorem dX7_init_15 : decode cX7_init 15 = .ok (.newarray .int, 2) := by decide +kernel
theorem dX7_init_17 : decode cX7_init 17 = .ok (.putfield 15, 3) := by decide +kernel
theorem dX7_init_20 : decode cX7_init 20 = .ok (.return_, 1) := by decide +kernel
theorem dX7_cell_0 : decode cX7_cell 0 = .ok (.iload_n 0, 1) := by decide +kernel
theorem dX7_cell_1 : decode cX7_cell 1 = .ok (.iconst 2, 1) := by decide +kernel
theorem dX7_cell_2 : decode cX7_cell 2 = .ok (.imul, 1) := by decide +kernel
theorem dX7_cell_3 : decode cX7_cell 3 = .ok (.iload_n 1, 1) := by decide +kernel
theorem dX7_cell_4 : decode cX7_cell 4 = .ok (.iadd, 1) := by decide +kernel
theorem dX7_cell_5 : decode cX7_cell 5 = .ok (.ireturn, 1) := by decide +kernel
theorem dX7_sayingAt_0 : decode cX7_sayingAt 0 = .ok (.aload_n 0, 1) := by decide +kernel
theorem dX7_sayingAt_1 : decode cX7_sayingAt 1 = .ok (.getfield 9, 3) := by decide +kernel
theorem dX7_sayingAt_4 : decode cX7_sayingAt 4 = .ok (.iload_n 1, 1) := by decide +kernel
theorem dX7_sayingAt_5 : decode cX7_sayingAt 5 = .ok (.iload_n 2, 1) := by decide +kernel
theorem dX7_sayingAt_6 : decode cX7_sayingAt 6 = .ok (.invokestatic 18, 3) := by decide +kernel
theorem dX7_sayingAt_9 : decode cX7_sayingAt 9 = .ok (.iaload, 1) := by decide +kernel
theorem dX7_sayingAt_10 : decode cX7_sayingAt 10 = .ok (.ireturn, 1) := by decide +kernel
theorem dX7_firmAt_0 : decode cX7_firmAt 0 = .ok (.aload_n 0, 1) := by decide +kernel
theorem dX7_firmAt_1 : decode cX7_firmAt 1 = .ok (.getfield 15, 3) := by decide +kernel
theorem dX7_firmAt_4 : decode cX7_firmAt 4 = .ok (.iload_n 1, 1) := by decide +kernel
theorem dX7_firmAt_5 : decode cX7_firmAt 5 = .ok (.iload_n 2, 1) := by decide +kernel
theorem dX7_firmAt_6 : decode cX7_firmAt 6 = .ok (.invokestatic 18, 3) := by decide +kernel
theorem dX7_firmAt_9 : decode cX7_firmAt 9 = .ok (.iaload, 1) := by decide +kernel
theorem dX7_firmAt_10 : decode cX7_firmAt 10 = .ok (.ireturn, 1) := by decide +kernel
theorem dX7_put_0 : decode cX7_put 0 = .ok (.aload_n 0, 1) := by decide +kernel
theorem dX7_put_1 : decode cX7_put 1 = .ok (.iload_n 1, 1) := by decide +kernel
theorem dX7_put_2 : decode cX7_put 2 = .ok (.iload_n 2, 1) := by decide +kernel
theorem dX7_put_3 : decode cX7_put 3 = .ok (.invokestatic 18, 3) := by decide +kernel
theorem dX7_put_6 : decode cX7_put 6 = .ok (.iload_n 3, 1) := by decide +kernel
theorem dX7_put_7 : decode cX7_put 7 = .ok (.iload 4, 2) := by decide +kernel
theorem dX7_put_9 : decode cX7_put 9 = .ok (.invokevirtual 22, 3) := by decide +kernel
theorem dX7_put_12 : decode cX7_put 12 = .ok (.return_, 1) := by decide +kernel
theorem dX7_clear_0 : decode cX7_clear 0 = .ok (.iconst 0, 1) := by decide +kernel
theorem dX7_clear_1 : decode cX7_clear 1 = .ok (.istore_n 1, 1) := by decide +kernel
theorem dX7_clear_2 : decode cX7_clear 2 = .ok (.iload_n 1, 1) := by decide +kernel
theorem dX7_clear_3 : decode cX7_clear 3 = .ok (.bipush 24, 2) := by decide +kernel
theorem dX7_clear_5 : decode cX7_clear 5 = .ok (.if_icmp .ge 16, 3) := by decide +kernel
theorem dX7_clear_8 : decode cX7_clear 8 = .ok (.aload_n 0, 1) := by decide +kernel
theorem dX7_clear_9 : decode cX7_clear 9 = .ok (.iload_n 1, 1) := by decide +kernel
theorem dX7_clear_10 : decode cX7_clear 10 = .ok (.iconst 0, 1) := by decide +kernel
theorem dX7_clear_11 : decode cX7_clear 11 = .ok (.iconst 0, 1) := by decide +kernel
theorem dX7_clear_12 : decode cX7_clear 12 = .ok (.invokevirtual 22, 3) := by decide +kernel
theorem dX7_clear_15 : decode cX7_clear 15 = .ok (.iinc 1 1, 3) := by decide +kernel
theorem dX7_clear_18 : decode cX7_clear 18 = .ok (.goto (-16), 3) := by decide +kernel
theorem dX7_clear_21 : decode cX7_clear 21 = .ok (.return_, 1) := by decide +kernel
theorem dX7_copyFrom_0 : decode cX7_copyFrom 0 = .ok (.aload_n 1, 1) := by decide +kernel
theorem dX7_copyFrom_1 : decode cX7_copyFrom 1 = .ok (.getfield 9, 3) := by decide +kernel
theorem dX7_copyFrom_4 : decode cX7_copyFrom 4 = .ok (.iconst 0, 1) := by decide +kernel
theorem dX7_copyFrom_5 : decode cX7_copyFrom 5 = .ok (.aload_n 0, 1) := by decide +kernel
theorem dX7_copyFrom_6 : decode cX7_copyFrom 6 = .ok (.getfield 9, 3) := by decide +kernel
theorem dX7_copyFrom_9 : decode cX7_copyFrom 9 = .ok (.iconst 0, 1) := by decide +kernel
theorem dX7_copyFrom_10 : decode cX7_copyFrom 10 = .ok (.bipush 24, 2) := by decide +kernel
theorem dX7_copyFrom_12 : decode cX7_copyFrom 12 = .ok (.invokestatic 26, 3) := by decide +kernel
theorem dX7_copyFrom_15 : decode cX7_copyFrom 15 = .ok (.aload_n 1, 1) := by decide +kernel
theorem dX7_copyFrom_16 : decode cX7_copyFrom 16 = .ok (.getfield 15, 3) := by decide +kernel
theorem dX7_copyFrom_19 : decode cX7_copyFrom 19 = .ok (.iconst 0, 1) := by decide +kernel
theorem dX7_copyFrom_20 : decode cX7_copyFrom 20 = .ok (.aload_n 0, 1) := by decide +kernel
theorem dX7_copyFrom_21 : decode cX7_copyFrom 21 = .ok (.getfield 15, 3) := by decide +kernel
theorem dX7_copyFrom_24 : decode cX7_copyFrom 24 = .ok (.iconst 0, 1) := by decide +kernel
theorem dX7_copyFrom_25 : decode cX7_copyFrom 25 = .ok (.bipush 24, 2) := by decide +kernel
theorem dX7_copyFrom_27 : decode cX7_copyFrom 27 = .ok (.invokestatic 26, 3) := by decide +kernel
theorem dX7_copyFrom_30 : decode cX7_copyFrom 30 = .ok (.return_, 1) := by decide +kernel
theorem dX7_takeSaying_0 : decode cX7_takeSaying 0 = .ok (.iload_n 2, 1) := by decide +kernel
theorem dX7_takeSaying_1 : decode cX7_takeSaying 1 = .ok (.aload_n 1, 1) := by decide +kernel
theorem dX7_takeSaying_2 : decode cX7_takeSaying 2 = .ok (.invokevirtual 32, 3) := by decide +kernel
theorem dX7_takeSaying_5 : decode cX7_takeSaying 5 = .ok (.invokestatic 18, 3) := by decide +kernel
theorem dX7_takeSaying_8 : decode cX7_takeSaying 8 = .ok (.istore 4, 2) := by decide +kernel
theorem dX7_takeSaying_10 : decode cX7_takeSaying 10 = .ok (.aload_n 1, 1) := by decide +kernel
theorem dX7_takeSaying_11 : decode cX7_takeSaying 11 = .ok (.invokevirtual 38, 3) := by decide +kernel
theorem dX7_takeSaying_14 : decode cX7_takeSaying 14 = .ok (.istore 5, 2) := by decide +kernel
theorem dX7_takeSaying_16 : decode cX7_takeSaying 16 = .ok (.aload_n 0, 1) := by decide +kernel
theorem dX7_takeSaying_17 : decode cX7_takeSaying 17 = .ok (.getfield 9, 3) := by decide +kernel
theorem dX7_takeSaying_20 : decode cX7_takeSaying 20 = .ok (.iload 4, 2) := by decide +kernel
theorem dX7_takeSaying_22 : decode cX7_takeSaying 22 = .ok (.iaload, 1) := by decide +kernel
theorem dX7_takeSaying_23 : decode cX7_takeSaying 23 = .ok (.ifCond .eq 14, 3) := by decide +kernel
theorem dX7_takeSaying_26 : decode cX7_takeSaying 26 = .ok (.aload_n 0, 1) := by decide +kernel
theorem dX7_takeSaying_27 : decode cX7_takeSaying 27 = .ok (.getfield 9, 3) := by decide +kernel
theorem dX7_takeSaying_30 : decode cX7_takeSaying 30 = .ok (.iload 4, 2) := by decide +kernel
theorem dX7_takeSaying_32 : decode cX7_takeSaying 32 = .ok (.iaload, 1) := by decide +kernel
theorem dX7_takeSaying_33 : decode cX7_takeSaying 33 = .ok (.iload_n 3, 1) := by decide +kernel
theorem dX7_takeSaying_34 : decode cX7_takeSaying 34 = .ok (.if_icmp .ne 28, 3) := by decide +kernel
theorem dX7_takeSaying_37 : decode cX7_takeSaying 37 = .ok (.aload_n 0, 1) := by decide +kernel
theorem dX7_takeSaying_38 : decode cX7_takeSaying 38 = .ok (.iload 4, 2) := by decide +kernel
theorem dX7_takeSaying_40 : decode cX7_takeSaying 40 = .ok (.iload_n 3, 1) := by decide +kernel
theorem dX7_takeSaying_41 : decode cX7_takeSaying 41 = .ok (.bipush 99, 2) := by decide +kernel
theorem dX7_takeSaying_43 : decode cX7_takeSaying 43 = .ok (.aload_n 0, 1) := by decide +kernel
theorem dX7_takeSaying_44 : decode cX7_takeSaying 44 = .ok (.getfield 15, 3) := by decide +kernel
theorem dX7_takeSaying_47 : decode cX7_takeSaying 47 = .ok (.iload 4, 2) := by decide +kernel
theorem dX7_takeSaying_49 : decode cX7_takeSaying 49 = .ok (.iaload, 1) := by decide +kernel
theorem dX7_takeSaying_50 : decode cX7_takeSaying 50 = .ok (.iload 5, 2) := by decide +kernel
theorem dX7_takeSaying_52 : decode cX7_takeSaying 52 = .ok (.iadd, 1) := by decide +kernel
theorem dX7_takeSaying_53 : decode cX7_takeSaying 53 = .ok (.invokestatic 41, 3) := by decide +kernel
theorem dX7_takeSaying_56 : decode cX7_takeSaying 56 = .ok (.invokevirtual 22, 3) := by decide +kernel
theorem dX7_takeSaying_59 : decode cX7_takeSaying 59 = .ok (.goto 58, 3) := by decide +kernel
theorem dX7_takeSaying_62 : decode cX7_takeSaying 62 = .ok (.aload_n 0, 1) := by decide +kernel
theorem dX7_takeSaying_63 : decode cX7_takeSaying 63 = .ok (.getfield 15, 3) := by decide +kernel
theorem dX7_takeSaying_66 : decode cX7_takeSaying 66 = .ok (.iload 4, 2) := by decide +kernel
theorem dX7_takeSaying_68 : decode cX7_takeSaying 68 = .ok (.iaload, 1) := by decide +kernel
theorem dX7_takeSaying_69 : decode cX7_takeSaying 69 = .ok (.iload 5, 2) := by decide +kernel
theorem dX7_takeSaying_71 : decode cX7_takeSaying 71 = .ok (.if_icmp .lt 29, 3) := by decide +kernel
theorem dX7_takeSaying_74 : decode cX7_takeSaying 74 = .ok (.aload_n 0, 1) := by decide +kernel
theorem dX7_takeSaying_75 : decode cX7_takeSaying 75 = .ok (.iload 4, 2) := by decide +kernel
theorem dX7_takeSaying_77 : decode cX7_takeSaying 77 = .ok (.aload_n 0, 1) := by decide +kernel
theorem dX7_takeSaying_78 : decode cX7_takeSaying 78 = .ok (.getfield 9, 3) := by decide +kernel
theorem dX7_takeSaying_81 : decode cX7_takeSaying 81 = .ok (.iload 4, 2) := by decide +kernel
theorem dX7_takeSaying_83 : decode cX7_takeSaying 83 = .ok (.iaload, 1) := by decide +kernel
theorem dX7_takeSaying_84 : decode cX7_takeSaying 84 = .ok (.aload_n 0, 1) := by decide +kernel
theorem dX7_takeSaying_85 : decode cX7_takeSaying 85 = .ok (.getfield 15, 3) := by decide +kernel
theorem dX7_takeSaying_88 : decode cX7_takeSaying 88 = .ok (.iload 4, 2) := by decide +kernel
theorem dX7_takeSaying_90 : decode cX7_takeSaying 90 = .ok (.iaload, 1) := by decide +kernel
theorem dX7_takeSaying_91 : decode cX7_takeSaying 91 = .ok (.iload 5, 2) := by decide +kernel
theorem dX7_takeSaying_93 : decode cX7_takeSaying 93 = .ok (.isub, 1) := by decide +kernel
theorem dX7_takeSaying_94 : decode cX7_takeSaying 94 = .ok (.invokevirtual 22, 3) := by decide +kernel
theorem dX7_takeSaying_97 : decode cX7_takeSaying 97 = .ok (.goto 20, 3) := by decide +kernel
theorem dX7_takeSaying_100 : decode cX7_takeSaying 100 = .ok (.aload_n 0, 1) := by decide +kernel
theorem dX7_takeSaying_101 : decode cX7_takeSaying 101 = .ok (.iload 4, 2) := by decide +kernel
theorem dX7_takeSaying_103 : decode cX7_takeSaying 103 = .ok (.iload_n 3, 1) := by decide +kernel
theorem dX7_takeSaying_104 : decode cX7_takeSaying 104 = .ok (.iload 5, 2) := by decide +kernel
theorem dX7_takeSaying_106 : decode cX7_takeSaying 106 = .ok (.aload_n 0, 1) := by decide +kernel
theorem dX7_takeSaying_107 : decode cX7_takeSaying 107 = .ok (.getfield 15, 3) := by decide +kernel
theorem dX7_takeSaying_110 : decode cX7_takeSaying 110 = .ok (.iload 4, 2) := by decide +kernel
theorem dX7_takeSaying_112 : decode cX7_takeSaying 112 = .ok (.iaload, 1) := by decide +kernel
theorem dX7_takeSaying_113 : decode cX7_takeSaying 113 = .ok (.isub, 1) := by decide +kernel
theorem dX7_takeSaying_114 : decode cX7_takeSaying 114 = .ok (.invokevirtual 22, 3) := by decide +kernel
theorem dX7_takeSaying_117 : decode cX7_takeSaying 117 = .ok (.return_, 1) := by decide +kernel
theorem dX7_heardBy_0 : decode cX7_heardBy 0 = .ok (.iconst 0, 1) := by decide +kernel
theorem dX7_heardBy_1 : decode cX7_heardBy 1 = .ok (.istore_n 3, 1) := by decide +kernel
theorem dX7_heardBy_2 : decode cX7_heardBy 2 = .ok (.iconst 0, 1) := by decide +kernel
theorem dX7_heardBy_3 : decode cX7_heardBy 3 = .ok (.istore 4, 2) := by decide +kernel
theorem dX7_heardBy_5 : decode cX7_heardBy 5 = .ok (.iload 4, 2) := by decide +kernel
theorem dX7_heardBy_7 : decode cX7_heardBy 7 = .ok (.iload_n 2, 1) := by decide +kernel
theorem dX7_heardBy_8 : decode cX7_heardBy 8 = .ok (.if_icmp .gt 32, 3) := by decide +kernel
theorem dX7_heardBy_11 : decode cX7_heardBy 11 = .ok (.aload_n 1, 1) := by decide +kernel
theorem dX7_heardBy_12 : decode cX7_heardBy 12 = .ok (.invokevirtual 46, 3) := by decide +kernel
theorem dX7_heardBy_15 : decode cX7_heardBy 15 = .ok (.ifCond .eq 25, 3) := by decide +kernel
theorem dX7_heardBy_18 : decode cX7_heardBy 18 = .ok (.iload_n 3, 1) := by decide +kernel
theorem dX7_heardBy_19 : decode cX7_heardBy 19 = .ok (.aload_n 0, 1) := by decide +kernel
theorem dX7_heardBy_20 : decode cX7_heardBy 20 = .ok (.iload 4, 2) := by decide +kernel
theorem dX7_heardBy_22 : decode cX7_heardBy 22 = .ok (.aload_n 1, 1) := by decide +kernel
theorem dX7_heardBy_23 : decode cX7_heardBy 23 = .ok (.invokevirtual 32, 3) := by decide +kernel
theorem dX7_heardBy_26 : decode cX7_heardBy 26 = .ok (.invokestatic 18, 3) := by decide +kernel
theorem dX7_heardBy_29 : decode cX7_heardBy 29 = .ok (.invokevirtual 50, 3) := by decide +kernel
theorem dX7_heardBy_32 : decode cX7_heardBy 32 = .ok (.ior, 1) := by decide +kernel
theorem dX7_heardBy_33 : decode cX7_heardBy 33 = .ok (.istore_n 3, 1) := by decide +kernel
theorem dX7_heardBy_34 : decode cX7_heardBy 34 = .ok (.iinc 4 1, 3) := by decide +kernel
theorem dX7_heardBy_37 : decode cX7_heardBy 37 = .ok (.goto (-32), 3) := by decide +kernel
theorem dX7_heardBy_40 : decode cX7_heardBy 40 = .ok (.iload_n 3, 1) := by decide +kernel
theorem dX7_heardBy_41 : decode cX7_heardBy 41 = .ok (.ireturn, 1) := by decide +kernel
theorem dX7_rubOff_0 : decode cX7_rubOff 0 = .ok (.iconst 0, 1) := by decide +kernel
theorem dX7_rubOff_1 : decode cX7_rubOff 1 = .ok (.istore_n 3, 1) := by decide +kernel
theorem dX7_rubOff_2 : decode cX7_rubOff 2 = .ok (.iload_n 3, 1) := by decide +kernel
theorem dX7_rubOff_3 : decode cX7_rubOff 3 = .ok (.iload_n 2, 1) := by decide +kernel
theorem dX7_rubOff_4 : decode cX7_rubOff 4 = .ok (.if_icmp .gt 28, 3) := by decide +kernel
theorem dX7_rubOff_7 : decode cX7_rubOff 7 = .ok (.aload_n 1, 1) := by decide +kernel
theorem dX7_rubOff_8 : decode cX7_rubOff 8 = .ok (.invokevirtual 46, 3) := by decide +kernel
theorem dX7_rubOff_11 : decode cX7_rubOff 11 = .ok (.ifCond .eq 21, 3) := by decide +kernel
theorem dX7_rubOff_14 : decode cX7_rubOff 14 = .ok (.aload_n 0, 1) := by decide +kernel
theorem dX7_rubOff_15 : decode cX7_rubOff 15 = .ok (.iload_n 3, 1) := by decide +kernel
theorem dX7_rubOff_16 : decode cX7_rubOff 16 = .ok (.aload_n 1, 1) := by decide +kernel
theorem dX7_rubOff_17 : decode cX7_rubOff 17 = .ok (.invokevirtual 32, 3) := by decide +kernel
theorem dX7_rubOff_20 : decode cX7_rubOff 20 = .ok (.invokestatic 18, 3) := by decide +kernel
theorem dX7_rubOff_23 : decode cX7_rubOff 23 = .ok (.invokevirtual 54, 3) := by decide +kernel
theorem dX7_rubOff_26 : decode cX7_rubOff 26 = .ok (.iinc 3 1, 3) := by decide +kernel
theorem dX7_rubOff_29 : decode cX7_rubOff 29 = .ok (.goto (-27), 3) := by decide +kernel
theorem dX7_rubOff_32 : decode cX7_rubOff 32 = .ok (.return_, 1) := by decide +kernel
theorem dX7_cool_0 : decode cX7_cool 0 = .ok (.iconst 0, 1) := by decide +kernel
theorem dX7_cool_1 : decode cX7_cool 1 = .ok (.istore_n 1, 1) := by decide +kernel
theorem dX7_cool_2 : decode cX7_cool 2 = .ok (.iload_n 1, 1) := by decide +kernel
theorem dX7_cool_3 : decode cX7_cool 3 = .ok (.bipush 24, 2) := by decide +kernel
theorem dX7_cool_5 : decode cX7_cool 5 = .ok (.if_icmp .ge 14, 3) := by decide +kernel
theorem dX7_cool_8 : decode cX7_cool 8 = .ok (.aload_n 0, 1) := by decide +kernel
theorem dX7_cool_9 : decode cX7_cool 9 = .ok (.iload_n 1, 1) := by decide +kernel
theorem dX7_cool_10 : decode cX7_cool 10 = .ok (.invokevirtual 54, 3) := by decide +kernel
theorem dX7_cool_13 : decode cX7_cool 13 = .ok (.iinc 1 1, 3) := by decide +kernel
theorem dX7_cool_16 : decode cX7_cool 16 = .ok (.goto (-14), 3) := by decide +kernel
theorem dX7_cool_19 : decode cX7_cool 19 = .ok (.return_, 1) := by decide +kernel
theorem dX7_firmest_0 : decode cX7_firmest 0 = .ok (.iconst 0, 1) := by decide +kernel
theorem dX7_firmest_1 : decode cX7_firmest 1 = .ok (.istore_n 3, 1) := by decide +kernel
theorem dX7_firmest_2 : decode cX7_firmest 2 = .ok (.iconst 0, 1) := by decide +kernel
theorem dX7_firmest_3 : decode cX7_firmest 3 = .ok (.istore 4, 2) := by decide +kernel
theorem dX7_firmest_5 : decode cX7_firmest 5 = .ok (.iload 4, 2) := by decide +kernel
theorem dX7_firmest_7 : decode cX7_firmest 7 = .ok (.bipush 12, 2) := by decide +kernel
theorem dX7_firmest_9 : decode cX7_firmest 9 = .ok (.if_icmp .ge 32, 3) := by decide +kernel
theorem dX7_firmest_12 : decode cX7_firmest 12 = .ok (.aload_n 0, 1) := by decide +kernel
theorem dX7_firmest_13 : decode cX7_firmest 13 = .ok (.iload 4, 2) := by decide +kernel
theorem dX7_firmest_15 : decode cX7_firmest 15 = .ok (.iload_n 2, 1) := by decide +kernel
theorem dX7_firmest_16 : decode cX7_firmest 16 = .ok (.invokevirtual 58, 3) := by decide +kernel
theorem dX7_firmest_19 : decode cX7_firmest 19 = .ok (.iload_n 1, 1) := by decide +kernel
theorem dX7_firmest_20 : decode cX7_firmest 20 = .ok (.if_icmp .ne 15, 3) := by decide +kernel
theorem dX7_firmest_23 : decode cX7_firmest 23 = .ok (.iload_n 3, 1) := by decide +kernel
theorem dX7_firmest_24 : decode cX7_firmest 24 = .ok (.aload_n 0, 1) := by decide +kernel
theorem dX7_firmest_25 : decode cX7_firmest 25 = .ok (.iload 4, 2) := by decide +kernel
theorem dX7_firmest_27 : decode cX7_firmest 27 = .ok (.iload_n 2, 1) := by decide +kernel
theorem dX7_firmest_28 : decode cX7_firmest 28 = .ok (.invokevirtual 61, 3) := by decide +kernel
theorem dX7_firmest_31 : decode cX7_firmest 31 = .ok (.invokestatic 64, 3) := by decide +kernel
theorem dX7_firmest_34 : decode cX7_firmest 34 = .ok (.istore_n 3, 1) := by decide +kernel
theorem dX7_firmest_35 : decode cX7_firmest 35 = .ok (.iinc 4 1, 3) := by decide +kernel
theorem dX7_firmest_38 : decode cX7_firmest 38 = .ok (.goto (-33), 3) := by decide +kernel
theorem dX7_firmest_41 : decode cX7_firmest 41 = .ok (.iload_n 3, 1) := by decide +kernel
theorem dX7_firmest_42 : decode cX7_firmest 42 = .ok (.ireturn, 1) := by decide +kernel
theorem dX7_taken_0 : decode cX7_taken 0 = .ok (.iconst 0, 1) := by decide +kernel
theorem dX7_taken_1 : decode cX7_taken 1 = .ok (.istore_n 1, 1) := by decide +kernel
theorem dX7_taken_2 : decode cX7_taken 2 = .ok (.iconst 0, 1) := by decide +kernel
theorem dX7_taken_3 : decode cX7_taken 3 = .ok (.istore_n 2, 1) := by decide +kernel
theorem dX7_taken_4 : decode cX7_taken 4 = .ok (.iload_n 2, 1) := by decide +kernel
theorem dX7_taken_5 : decode cX7_taken 5 = .ok (.bipush 24, 2) := by decide +kernel
theorem dX7_taken_7 : decode cX7_taken 7 = .ok (.if_icmp .ge 21, 3) := by decide +kernel
theorem dX7_taken_10 : decode cX7_taken 10 = .ok (.aload_n 0, 1) := by decide +kernel
theorem dX7_taken_11 : decode cX7_taken 11 = .ok (.getfield 9, 3) := by decide +kernel
theorem dX7_taken_14 : decode cX7_taken 14 = .ok (.iload_n 2, 1) := by decide +kernel
theorem dX7_taken_15 : decode cX7_taken 15 = .ok (.iaload, 1) := by decide +kernel
theorem dX7_taken_16 : decode cX7_taken 16 = .ok (.ifCond .eq 6, 3) := by decide +kernel
theorem dX7_taken_19 : decode cX7_taken 19 = .ok (.iinc 1 1, 3) := by decide +kernel
theorem dX7_taken_22 : decode cX7_taken 22 = .ok (.iinc 2 1, 3) := by decide +kernel
theorem dX7_taken_25 : decode cX7_taken 25 = .ok (.goto (-21), 3) := by decide +kernel
theorem dX7_taken_28 : decode cX7_taken 28 = .ok (.iload_n 1, 1) := by decide +kernel
theorem dX7_taken_29 : decode cX7_taken 29 = .ok (.ireturn, 1) := by decide +kernel
theorem dX7_firmTogether_0 : decode cX7_firmTogether 0 = .ok (.iconst 0, 1) := by decide +kernel
theorem dX7_firmTogether_1 : decode cX7_firmTogether 1 = .ok (.istore_n 1, 1) := by decide +kernel
theorem dX7_firmTogether_2 : decode cX7_firmTogether 2 = .ok (.iconst 0, 1) := by decide +kernel
theorem dX7_firmTogether_3 : decode cX7_firmTogether 3 = .ok (.istore_n 2, 1) := by decide +kernel
theorem dX7_firmTogether_4 : decode cX7_firmTogether 4 = .ok (.iload_n 2, 1) := by decide +kernel
theorem dX7_firmTogether_5 : decode cX7_firmTogether 5 = .ok (.bipush 24, 2) := by decide +kernel
theorem dX7_firmTogether_7 : decode cX7_firmTogether 7 = .ok (.if_icmp .ge 18, 3) := by decide +kernel
theorem dX7_firmTogether_10 : decode cX7_firmTogether 10 = .ok (.iload_n 1, 1) := by decide +kernel
theorem dX7_firmTogether_11 : decode cX7_firmTogether 11 = .ok (.aload_n 0, 1) := by decide +kernel
theorem dX7_firmTogether_12 : decode cX7_firmTogether 12 = .ok (.getfield 15, 3) := by decide +kernel
theorem dX7_firmTogether_15 : decode cX7_firmTogether 15 = .ok (.iload_n 2, 1) := by decide +kernel
theorem dX7_firmTogether_16 : decode cX7_firmTogether 16 = .ok (.iaload, 1) := by decide +kernel
theorem dX7_firmTogether_17 : decode cX7_firmTogether 17 = .ok (.iadd, 1) := by decide +kernel
theorem dX7_firmTogether_18 : decode cX7_firmTogether 18 = .ok (.istore_n 1, 1) := by decide +kernel
theorem dX7_firmTogether_19 : decode cX7_firmTogether 19 = .ok (.iinc 2 1, 3) := by decide +kernel
theorem dX7_firmTogether_22 : decode cX7_firmTogether 22 = .ok (.goto (-18), 3) := by decide +kernel
theorem dX7_firmTogether_25 : decode cX7_firmTogether 25 = .ok (.iload_n 1, 1) := by decide +kernel
theorem dX7_firmTogether_26 : decode cX7_firmTogether 26 = .ok (.ireturn, 1) := by decide +kernel
theorem dX7_sayingBits_0 : decode cX7_sayingBits 0 = .ok (.iconst 0, 1) := by decide +kernel
theorem dX7_sayingBits_1 : decode cX7_sayingBits 1 = .ok (.istore_n 1, 1) := by decide +kernel
theorem dX7_sayingBits_2 : decode cX7_sayingBits 2 = .ok (.iconst 0, 1) := by decide +kernel
theorem dX7_sayingBits_3 : decode cX7_sayingBits 3 = .ok (.istore_n 2, 1) := by decide +kernel
theorem dX7_sayingBits_4 : decode cX7_sayingBits 4 = .ok (.iload_n 2, 1) := by decide +kernel
theorem dX7_sayingBits_5 : decode cX7_sayingBits 5 = .ok (.bipush 24, 2) := by decide +kernel
theorem dX7_sayingBits_7 : decode cX7_sayingBits 7 = .ok (.if_icmp .ge 17, 3) := by decide +kernel
theorem dX7_sayingBits_10 : decode cX7_sayingBits 10 = .ok (.iload_n 1, 1) := by decide +kernel
theorem dX7_sayingBits_11 : decode cX7_sayingBits 11 = .ok (.aload_n 0, 1) := by decide +kernel
theorem dX7_sayingBits_12 : decode cX7_sayingBits 12 = .ok (.iload_n 2, 1) := by decide +kernel
theorem dX7_sayingBits_13 : decode cX7_sayingBits 13 = .ok (.invokevirtual 50, 3) := by decide +kernel
theorem dX7_sayingBits_16 : decode cX7_sayingBits 16 = .ok (.ior, 1) := by decide +kernel
theorem dX7_sayingBits_17 : decode cX7_sayingBits 17 = .ok (.istore_n 1, 1) := by decide +kernel
theorem dX7_sayingBits_18 : decode cX7_sayingBits 18 = .ok (.iinc 2 1, 3) := by decide +kernel
theorem dX7_sayingBits_21 : decode cX7_sayingBits 21 = .ok (.goto (-17), 3) := by decide +kernel
theorem dX7_sayingBits_24 : decode cX7_sayingBits 24 = .ok (.iload_n 1, 1) := by decide +kernel
theorem dX7_sayingBits_25 : decode cX7_sayingBits 25 = .ok (.ireturn, 1) := by decide +kernel
theorem dX7_bitOf_0 : decode cX7_bitOf 0 = .ok (.aload_n 0, 1) := by decide +kernel
theorem dX7_bitOf_1 : decode cX7_bitOf 1 = .ok (.getfield 9, 3) := by decide +kernel
theorem dX7_bitOf_4 : decode cX7_bitOf 4 = .ok (.iload_n 1, 1) := by decide +kernel
theorem dX7_bitOf_5 : decode cX7_bitOf 5 = .ok (.iaload, 1) := by decide +kernel
theorem dX7_bitOf_6 : decode cX7_bitOf 6 = .ok (.ifCond .ne 7, 3) := by decide +kernel
theorem dX7_bitOf_9 : decode cX7_bitOf 9 = .ok (.iconst 0, 1) := by decide +kernel
theorem dX7_bitOf_10 : decode cX7_bitOf 10 = .ok (.goto 11, 3) := by decide +kernel
theorem dX7_bitOf_13 : decode cX7_bitOf 13 = .ok (.iconst 1, 1) := by decide +kernel
theorem dX7_bitOf_14 : decode cX7_bitOf 14 = .ok (.aload_n 0, 1) := by decide +kernel
theorem dX7_bitOf_15 : decode cX7_bitOf 15 = .ok (.getfield 9, 3) := by decide +kernel
theorem dX7_bitOf_18 : decode cX7_bitOf 18 = .ok (.iload_n 1, 1) := by decide +kernel
theorem dX7_bitOf_19 : decode cX7_bitOf 19 = .ok (.iaload, 1) := by decide +kernel
theorem dX7_bitOf_20 : decode cX7_bitOf 20 = .ok (.ishl, 1) := by decide +kernel
theorem dX7_bitOf_21 : decode cX7_bitOf 21 = .ok (.ireturn, 1) := by decide +kernel
theorem dX7_lessen_0 : decode cX7_lessen 0 = .ok (.aload_n 0, 1) := by decide +kernel
theorem dX7_lessen_1 : decode cX7_lessen 1 = .ok (.iload_n 1, 1) := by decide +kernel
theorem dX7_lessen_2 : decode cX7_lessen 2 = .ok (.aload_n 0, 1) := by decide +kernel
theorem dX7_lessen_3 : decode cX7_lessen 3 = .ok (.getfield 9, 3) := by decide +kernel
theorem dX7_lessen_6 : decode cX7_lessen 6 = .ok (.iload_n 1, 1) := by decide +kernel
theorem dX7_lessen_7 : decode cX7_lessen 7 = .ok (.iaload, 1) := by decide +kernel
theorem dX7_lessen_8 : decode cX7_lessen 8 = .ok (.iconst 0, 1) := by decide +kernel
theorem dX7_lessen_9 : decode cX7_lessen 9 = .ok (.aload_n 0, 1) := by decide +kernel
theorem dX7_lessen_10 : decode cX7_lessen 10 = .ok (.getfield 15, 3) := by decide +kernel
theorem dX7_lessen_13 : decode cX7_lessen 13 = .ok (.iload_n 1, 1) := by decide +kernel
theorem dX7_lessen_14 : decode cX7_lessen 14 = .ok (.iaload, 1) := by decide +kernel
theorem dX7_lessen_15 : decode cX7_lessen 15 = .ok (.iconst 1, 1) := by decide +kernel
theorem dX7_lessen_16 : decode cX7_lessen 16 = .ok (.isub, 1) := by decide +kernel
theorem dX7_lessen_17 : decode cX7_lessen 17 = .ok (.invokestatic 64, 3) := by decide +kernel
theorem dX7_lessen_20 : decode cX7_lessen 20 = .ok (.invokevirtual 22, 3) := by decide +kernel
theorem dX7_lessen_23 : decode cX7_lessen 23 = .ok (.return_, 1) := by decide +kernel
theorem dX7_set_0 : decode cX7_set 0 = .ok (.aload_n 0, 1) := by decide +kernel
theorem dX7_set_1 : decode cX7_set 1 = .ok (.getfield 9, 3) := by decide +kernel
theorem dX7_set_4 : decode cX7_set 4 = .ok (.iload_n 1, 1) := by decide +kernel
theorem dX7_set_5 : decode cX7_set 5 = .ok (.iload_n 3, 1) := by decide +kernel
theorem dX7_set_6 : decode cX7_set 6 = .ok (.ifCond .le 7, 3) := by decide +kernel
theorem dX7_set_9 : decode cX7_set 9 = .ok (.iload_n 2, 1) := by decide +kernel
theorem dX7_set_10 : decode cX7_set 10 = .ok (.goto 4, 3) := by decide +kernel
theorem dX7_set_13 : decode cX7_set 13 = .ok (.iconst 0, 1) := by decide +kernel
theorem dX7_set_14 : decode cX7_set 14 = .ok (.iastore, 1) := by decide +kernel
theorem dX7_set_15 : decode cX7_set 15 = .ok (.aload_n 0, 1) := by decide +kernel
theorem dX7_set_16 : decode cX7_set 16 = .ok (.getfield 15, 3) := by decide +kernel
theorem dX7_set_19 : decode cX7_set 19 = .ok (.iload_n 1, 1) := by decide +kernel
theorem dX7_set_20 : decode cX7_set 20 = .ok (.iload_n 3, 1) := by decide +kernel
theorem dX7_set_21 : decode cX7_set 21 = .ok (.iastore, 1) := by decide +kernel
theorem dX7_set_22 : decode cX7_set 22 = .ok (.return_, 1) := by decide +kernel
theorem dX8_init_0 : decode cX8_init 0 = .ok (.aload_n 0, 1) := by decide +kernel
theorem dX8_init_1 : decode cX8_init 1 = .ok (.invokespecial 3, 3) := by decide +kernel
theorem dX8_init_4 : decode cX8_init 4 = .ok (.aload_n 0, 1) := by decide +kernel
theorem dX8_init_5 : decode cX8_init 5 = .ok (.bipush 6, 2) := by decide +kernel
theorem dX8_init_7 : decode cX8_init 7 = .ok (.anewarray 9, 3) := by decide +kernel
theorem dX8_init_10 : decode cX8_init 10 = .ok (.putfield 11, 3) := by decide +kernel
theorem dX8_init_13 : decode cX8_init 13 = .ok (.aload_n 0, 1) := by decide +kernel
theorem dX8_init_14 : decode cX8_init 14 = .ok (.bipush 6, 2) := by decide +kernel
theorem dX8_init_16 : decode cX8_init 16 = .ok (.newarray .int, 2) := by decide +kernel
theorem dX8_init_18 : decode cX8_init 18 = .ok (.putfield 17, 3) := by decide +kernel
theorem dX8_init_21 : decode cX8_init 21 = .ok (.aload_n 0, 1) := by decide +kernel
theorem dX8_init_22 : decode cX8_init 22 = .ok (.bipush 6, 2) := by decide +kernel
theorem dX8_init_24 : decode cX8_init 24 = .ok (.newarray .int, 2) := by decide +kernel
theorem dX8_init_26 : decode cX8_init 26 = .ok (.putfield 21, 3) := by decide +kernel
theorem dX8_init_29 : decode cX8_init 29 = .ok (.aload_n 0, 1) := by decide +kernel
theorem dX8_init_30 : decode cX8_init 30 = .ok (.bipush 6, 2) := by decide +kernel
theorem dX8_init_32 : decode cX8_init 32 = .ok (.newarray .int, 2) := by decide +kernel
theorem dX8_init_34 : decode cX8_init 34 = .ok (.putfield 24, 3) := by decide +kernel
theorem dX8_init_37 : decode cX8_init 37 = .ok (.return_, 1) := by decide +kernel
theorem dX8_add_0 : decode cX8_add 0 = .ok (.aload_n 0, 1) := by decide +kernel
theorem dX8_add_1 : decode cX8_add 1 = .ok (.getfield 27, 3) := by decide +kernel
theorem dX8_add_4 : decode cX8_add 4 = .ok (.bipush 6, 2) := by decide +kernel
theorem dX8_add_6 : decode cX8_add 6 = .ok (.if_icmp .ge 54, 3) := by decide +kernel
theorem dX8_add_9 : decode cX8_add 9 = .ok (.aload_n 0, 1) := by decide +kernel
theorem dX8_add_10 : decode cX8_add 10 = .ok (.getfield 11, 3) := by decide +kernel
theorem dX8_add_13 : decode cX8_add 13 = .ok (.aload_n 0, 1) := by decide +kernel
theorem dX8_add_14 : decode cX8_add 14 = .ok (.getfield 27, 3) := by decide +kernel
theorem dX8_add_17 : decode cX8_add 17 = .ok (.aload_n 1, 1) := by decide +kernel
theorem dX8_add_18 : decode cX8_add 18 = .ok (.aastore, 1) := by decide +kernel
theorem dX8_add_19 : decode cX8_add 19 = .ok (.aload_n 0, 1) := by decide +kernel
theorem dX8_add_20 : decode cX8_add 20 = .ok (.getfield 17, 3) := by decide +kernel
theorem dX8_add_23 : decode cX8_add 23 = .ok (.aload_n 0, 1) := by decide +kernel
theorem dX8_add_24 : decode cX8_add 24 = .ok (.getfield 27, 3) := by decide +kernel
theorem dX8_add_27 : decode cX8_add 27 = .ok (.iload_n 2, 1) := by decide +kernel
theorem dX8_add_28 : decode cX8_add 28 = .ok (.iastore, 1) := by decide +kernel
theorem dX8_add_29 : decode cX8_add 29 = .ok (.aload_n 0, 1) := by decide +kernel
theorem dX8_add_30 : decode cX8_add 30 = .ok (.getfield 21, 3) := by decide +kernel
theorem dX8_add_33 : decode cX8_add 33 = .ok (.aload_n 0, 1) := by decide +kernel
theorem dX8_add_34 : decode cX8_add 34 = .ok (.getfield 27, 3) := by decide +kernel
theorem dX8_add_37 : decode cX8_add 37 = .ok (.iload_n 3, 1) := by decide +kernel
theorem dX8_add_38 : decode cX8_add 38 = .ok (.iastore, 1) := by decide +kernel
theorem dX8_add_39 : decode cX8_add 39 = .ok (.aload_n 0, 1) := by decide +kernel
theorem dX8_add_40 : decode cX8_add 40 = .ok (.getfield 24, 3) := by decide +kernel
theorem dX8_add_43 : decode cX8_add 43 = .ok (.aload_n 0, 1) := by decide +kernel
theorem dX8_add_44 : decode cX8_add 44 = .ok (.getfield 27, 3) := by decide +kernel
theorem dX8_add_47 : decode cX8_add 47 = .ok (.iload 4, 2) := by decide +kernel
theorem dX8_add_49 : decode cX8_add 49 = .ok (.iastore, 1) := by decide +kernel
theorem dX8_add_50 : decode cX8_add 50 = .ok (.aload_n 0, 1) := by decide +kernel
theorem dX8_add_51 : decode cX8_add 51 = .ok (.dup, 1) := by decide +kernel
theorem dX8_add_52 : decode cX8_add 52 = .ok (.getfield 27, 3) := by decide +kernel
theorem dX8_add_55 : decode cX8_add 55 = .ok (.iconst 1, 1) := by decide +kernel
theorem dX8_add_56 : decode cX8_add 56 = .ok (.iadd, 1) := by decide +kernel
theorem dX8_add_57 : decode cX8_add 57 = .ok (.putfield 27, 3) := by decide +kernel
theorem dX8_add_60 : decode cX8_add 60 = .ok (.return_, 1) := by decide +kernel
theorem dX8_allSo_0 : decode cX8_allSo 0 = .ok (.iconst 0, 1) := by decide +kernel
theorem dX8_allSo_1 : decode cX8_allSo 1 = .ok (.istore_n 2, 1) := by decide +kernel
theorem dX8_allSo_2 : decode cX8_allSo 2 = .ok (.iload_n 2, 1) := by decide +kernel
theorem dX8_allSo_3 : decode cX8_allSo 3 = .ok (.aload_n 0, 1) := by decide +kernel
theorem dX8_allSo_4 : decode cX8_allSo 4 = .ok (.getfield 27, 3) := by decide +kernel
theorem dX8_allSo_7 : decode cX8_allSo 7 = .ok (.if_icmp .ge 51, 3) := by decide +kernel
theorem dX8_allSo_10 : decode cX8_allSo 10 = .ok (.aload_n 0, 1) := by decide +kernel
theorem dX8_allSo_11 : decode cX8_allSo 11 = .ok (.getfield 11, 3) := by decide +kernel
theorem dX8_allSo_14 : decode cX8_allSo 14 = .ok (.iload_n 2, 1) := by decide +kernel
theorem dX8_allSo_15 : decode cX8_allSo 15 = .ok (.aaload, 1) := by decide +kernel
theorem dX8_allSo_16 : decode cX8_allSo 16 = .ok (.astore_n 3, 1) := by decide +kernel
theorem dX8_allSo_17 : decode cX8_allSo 17 = .ok (.aload_n 3, 1) := by decide +kernel
theorem dX8_allSo_18 : decode cX8_allSo 18 = .ok (.ifnull 34, 3) := by decide +kernel
theorem dX8_allSo_21 : decode cX8_allSo 21 = .ok (.aload_n 1, 1) := by decide +kernel
theorem dX8_allSo_22 : decode cX8_allSo 22 = .ok (.aload_n 3, 1) := by decide +kernel
theorem dX8_allSo_23 : decode cX8_allSo 23 = .ok (.aload_n 0, 1) := by decide +kernel
theorem dX8_allSo_24 : decode cX8_allSo 24 = .ok (.getfield 17, 3) := by decide +kernel
theorem dX8_allSo_27 : decode cX8_allSo 27 = .ok (.iload_n 2, 1) := by decide +kernel
theorem dX8_allSo_28 : decode cX8_allSo 28 = .ok (.iaload, 1) := by decide +kernel
theorem dX8_allSo_29 : decode cX8_allSo 29 = .ok (.invokevirtual 31, 3) := by decide +kernel
theorem dX8_allSo_32 : decode cX8_allSo 32 = .ok (.aload_n 0, 1) := by decide +kernel
theorem dX8_allSo_33 : decode cX8_allSo 33 = .ok (.getfield 21, 3) := by decide +kernel
theorem dX8_allSo_36 : decode cX8_allSo 36 = .ok (.iload_n 2, 1) := by decide +kernel
theorem dX8_allSo_37 : decode cX8_allSo 37 = .ok (.iaload, 1) := by decide +kernel
theorem dX8_allSo_38 : decode cX8_allSo 38 = .ok (.ishr, 1) := by decide +kernel
theorem dX8_allSo_39 : decode cX8_allSo 39 = .ok (.iconst 1, 1) := by decide +kernel
theorem dX8_allSo_40 : decode cX8_allSo 40 = .ok (.iand, 1) := by decide +kernel
theorem dX8_allSo_41 : decode cX8_allSo 41 = .ok (.aload_n 0, 1) := by decide +kernel
theorem dX8_allSo_42 : decode cX8_allSo 42 = .ok (.getfield 24, 3) := by decide +kernel
theorem dX8_allSo_45 : decode cX8_allSo 45 = .ok (.iload_n 2, 1) := by decide +kernel
theorem dX8_allSo_46 : decode cX8_allSo 46 = .ok (.iaload, 1) := by decide +kernel
theorem dX8_allSo_47 : decode cX8_allSo 47 = .ok (.if_icmp .eq 5, 3) := by decide +kernel
theorem dX8_allSo_50 : decode cX8_allSo 50 = .ok (.iconst 0, 1) := by decide +kernel
theorem dX8_allSo_51 : decode cX8_allSo 51 = .ok (.ireturn, 1) := by decide +kernel
theorem dX8_allSo_52 : decode cX8_allSo 52 = .ok (.iinc 2 1, 3) := by decide +kernel
theorem dX8_allSo_55 : decode cX8_allSo 55 = .ok (.goto (-53), 3) := by decide +kernel
theorem dX8_allSo_58 : decode cX8_allSo 58 = .ok (.iconst 1, 1) := by decide +kernel
theorem dX8_allSo_59 : decode cX8_allSo 59 = .ok (.ireturn, 1) := by decide +kernel
theorem dX9_init_0 : decode cX9_init 0 = .ok (.aload_n 0, 1) := by decide +kernel
theorem dX9_init_1 : decode cX9_init 1 = .ok (.invokespecial 3, 3) := by decide +kernel
theorem dX9_init_4 : decode cX9_init 4 = .ok (.aload_n 0, 1) := by decide +kernel
theorem dX9_init_5 : decode cX9_init 5 = .ok (.sipush 160, 3) := by decide +kernel
theorem dX9_init_8 : decode cX9_init 8 = .ok (.newarray .int, 2) := by decide +kernel
theorem dX9_init_10 : decode cX9_init 10 = .ok (.putfield 9, 3) := by decide +kernel
theorem dX9_init_13 : decode cX9_init 13 = .ok (.aload_n 0, 1) := by decide +kernel
theorem dX9_init_14 : decode cX9_init 14 = .ok (.bipush 70, 2) := by decide +kernel
theorem dX9_init_16 : decode cX9_init 16 = .ok (.newarray .int, 2) := by decide +kernel
theorem dX9_init_18 : decode cX9_init 18 = .ok (.putfield 15, 3) := by decide +kernel
theorem dX9_init_21 : decode cX9_init 21 = .ok (.return_, 1) := by decide +kernel
theorem dX9_add_0 : decode cX9_add 0 = .ok (.aload_n 0, 1) := by decide +kernel
theorem dX9_add_1 : decode cX9_add 1 = .ok (.getfield 18, 3) := by decide +kernel
theorem dX9_add_4 : decode cX9_add 4 = .ok (.sipush 160, 3) := by decide +kernel
theorem dX9_add_7 : decode cX9_add 7 = .ok (.if_icmp .ge 23, 3) := by decide +kernel
theorem dX9_add_10 : decode cX9_add 10 = .ok (.aload_n 0, 1) := by decide +kernel
theorem dX9_add_11 : decode cX9_add 11 = .ok (.getfield 9, 3) := by decide +kernel
theorem dX9_add_14 : decode cX9_add 14 = .ok (.aload_n 0, 1) := by decide +kernel
theorem dX9_add_15 : decode cX9_add 15 = .ok (.getfield 18, 3) := by decide +kernel
theorem dX9_add_18 : decode cX9_add 18 = .ok (.iload_n 1, 1) := by decide +kernel
theorem dX9_add_19 : decode cX9_add 19 = .ok (.iastore, 1) := by decide +kernel
theorem dX9_add_20 : decode cX9_add 20 = .ok (.aload_n 0, 1) := by decide +kernel
theorem dX9_add_21 : decode cX9_add 21 = .ok (.dup, 1) := by decide +kernel
theorem dX9_add_22 : decode cX9_add 22 = .ok (.getfield 18, 3) := by decide +kernel
theorem dX9_add_25 : decode cX9_add 25 = .ok (.iconst 1, 1) := by decide +kernel
theorem dX9_add_26 : decode cX9_add 26 = .ok (.iadd, 1) := by decide +kernel
theorem dX9_add_27 : decode cX9_add 27 = .ok (.putfield 18, 3) := by decide +kernel
theorem dX9_add_30 : decode cX9_add 30 = .ok (.return_, 1) := by decide +kernel
theorem dX9_wordOf_0 : decode cX9_wordOf 0 = .ok (.aload_n 0, 1) := by decide +kernel
theorem dX9_wordOf_1 : decode cX9_wordOf 1 = .ok (.getfield 15, 3) := by decide +kernel
theorem dX9_wordOf_4 : decode cX9_wordOf 4 = .ok (.iload_n 1, 1) := by decide +kernel
theorem dX9_wordOf_5 : decode cX9_wordOf 5 = .ok (.iconst 5, 1) := by decide +kernel
theorem dX9_wordOf_6 : decode cX9_wordOf 6 = .ok (.imul, 1) := by decide +kernel
theorem dX9_wordOf_7 : decode cX9_wordOf 7 = .ok (.iaload, 1) := by decide +kernel
theorem dX9_wordOf_8 : decode cX9_wordOf 8 = .ok (.ireturn, 1) := by decide +kernel
theorem dX9_numberOf_0 : decode cX9_numberOf 0 = .ok (.aload_n 0, 1) := by decide +kernel
theorem dX9_numberOf_1 : decode cX9_numberOf 1 = .ok (.getfield 15, 3) := by decide +kernel
theorem dX9_numberOf_4 : decode cX9_numberOf 4 = .ok (.iload_n 1, 1) := by decide +kernel
theorem dX9_numberOf_5 : decode cX9_numberOf 5 = .ok (.iconst 5, 1) := by decide +kernel
theorem dX9_numberOf_6 : decode cX9_numberOf 6 = .ok (.imul, 1) := by decide +kernel
theorem dX9_numberOf_7 : decode cX9_numberOf 7 = .ok (.iconst 1, 1) := by decide +kernel
theorem dX9_numberOf_8 : decode cX9_numberOf 8 = .ok (.iadd, 1) := by decide +kernel
theorem dX9_numberOf_9 : decode cX9_numberOf 9 = .ok (.iload_n 2, 1) := by decide +kernel
theorem dX9_numberOf_10 : decode cX9_numberOf 10 = .ok (.iadd, 1) := by decide +kernel
theorem dX9_numberOf_11 : decode cX9_numberOf 11 = .ok (.iaload, 1) := by decide +kernel
theorem dX9_numberOf_12 : decode cX9_numberOf 12 = .ok (.ireturn, 1) := by decide +kernel
theorem dX9_readClauses_0 : decode cX9_readClauses 0 = .ok (.aload_n 0, 1) := by decide +kernel
theorem dX9_readClauses_1 : decode cX9_readClauses 1 = .ok (.iconst 0, 1) := by decide +kernel
theorem dX9_readClauses_2 : decode cX9_readClauses 2 = .ok (.putfield 22, 3) := by decide +kernel
theorem dX9_readClauses_5 : decode cX9_readClauses 5 = .ok (.aload_n 0, 1) := by decide +kernel
theorem dX9_readClauses_6 : decode cX9_readClauses 6 = .ok (.iconst 0, 1) := by decide +kernel
theorem dX9_readClauses_7 : decode cX9_readClauses 7 = .ok (.putfield 25, 3) := by decide +kernel
theorem dX9_readClauses_10 : decode cX9_readClauses 10 = .ok (.aload_n 0, 1) := by decide +kernel
theorem dX9_readClauses_11 : decode cX9_readClauses 11 = .ok (.iload_n 1, 1) := by decide +kernel
theorem dX9_readClauses_12 : decode cX9_readClauses 12 = .ok (.putfield 28, 3) := by decide +kernel
theorem dX9_readClauses_15 : decode cX9_readClauses 15 = .ok (.aload_n 0, 1) := by decide +kernel
theorem dX9_readClauses_16 : decode cX9_readClauses 16 = .ok (.iload_n 2, 1) := by decide +kernel
theorem dX9_readClauses_17 : decode cX9_readClauses 17 = .ok (.putfield 31, 3) := by decide +kernel
theorem dX9_readClauses_20 : decode cX9_readClauses 20 = .ok (.iconst 0, 1) := by decide +kernel
theorem dX9_readClauses_21 : decode cX9_readClauses 21 = .ok (.istore_n 3, 1) := by decide +kernel
theorem dX9_readClauses_22 : decode cX9_readClauses 22 = .ok (.iload_n 3, 1) := by decide +kernel
theorem dX9_readClauses_23 : decode cX9_readClauses 23 = .ok (.bipush 14, 2) := by decide +kernel
theorem dX9_readClauses_25 : decode cX9_readClauses 25 = .ok (.if_icmp .ge 79, 3) := by decide +kernel
theorem dX9_readClauses_28 : decode cX9_readClauses 28 = .ok (.aload_n 0, 1) := by decide +kernel
theorem dX9_readClauses_29 : decode cX9_readClauses 29 = .ok (.invokevirtual 34, 3) := by decide +kernel
theorem dX9_readClauses_32 : decode cX9_readClauses 32 = .ok (.istore 4, 2) := by decide +kernel
theorem dX9_readClauses_34 : decode cX9_readClauses 34 = .ok (.iload 4, 2) := by decide +kernel
theorem dX9_readClauses_36 : decode cX9_readClauses 36 = .ok (.iconst (-1), 1) := by decide +kernel
theorem dX9_readClauses_37 : decode cX9_readClauses 37 = .ok (.if_icmp .eq 6, 3) := by decide +kernel
theorem dX9_readClauses_40 : decode cX9_readClauses 40 = .ok (.iload 4, 2) := by decide +kernel
theorem dX9_readClauses_42 : decode cX9_readClauses 42 = .ok (.ireturn, 1) := by decide +kernel
theorem dX9_readClauses_43 : decode cX9_readClauses 43 = .ok (.aload_n 0, 1) := by decide +kernel
theorem dX9_readClauses_44 : decode cX9_readClauses 44 = .ok (.invokevirtual 38, 3) := by decide +kernel
theorem dX9_readClauses_47 : decode cX9_readClauses 47 = .ok (.aload_n 0, 1) := by decide +kernel
theorem dX9_readClauses_48 : decode cX9_readClauses 48 = .ok (.getfield 22, 3) := by decide +kernel
theorem dX9_readClauses_51 : decode cX9_readClauses 51 = .ok (.aload_n 0, 1) := by decide +kernel
theorem dX9_readClauses_52 : decode cX9_readClauses 52 = .ok (.getfield 18, 3) := by decide +kernel
theorem dX9_readClauses_55 : decode cX9_readClauses 55 = .ok (.if_icmp .lt 5, 3) := by decide +kernel
theorem dX9_readClauses_58 : decode cX9_readClauses 58 = .ok (.iconst (-1), 1) := by decide +kernel
theorem dX9_readClauses_59 : decode cX9_readClauses 59 = .ok (.ireturn, 1) := by decide +kernel
theorem dX9_readClauses_60 : decode cX9_readClauses 60 = .ok (.aload_n 0, 1) := by decide +kernel
theorem dX9_readClauses_61 : decode cX9_readClauses 61 = .ok (.getfield 9, 3) := by decide +kernel
theorem dX9_readClauses_64 : decode cX9_readClauses 64 = .ok (.aload_n 0, 1) := by decide +kernel
theorem dX9_readClauses_65 : decode cX9_readClauses 65 = .ok (.getfield 22, 3) := by decide +kernel
theorem dX9_readClauses_68 : decode cX9_readClauses 68 = .ok (.iaload, 1) := by decide +kernel
theorem dX9_readClauses_69 : decode cX9_readClauses 69 = .ok (.bipush 59, 2) := by decide +kernel
theorem dX9_readClauses_71 : decode cX9_readClauses 71 = .ok (.if_icmp .ne 12, 3) := by decide +kernel
theorem dX9_readClauses_74 : decode cX9_readClauses 74 = .ok (.aload_n 0, 1) := by decide +kernel
theorem dX9_readClauses_75 : decode cX9_readClauses 75 = .ok (.getfield 25, 3) := by decide +kernel
theorem dX9_readClauses_78 : decode cX9_readClauses 78 = .ok (.bipush 14, 2) := by decide +kernel
theorem dX9_readClauses_80 : decode cX9_readClauses 80 = .ok (.if_icmp .ne 8, 3) := by decide +kernel
theorem dX9_readClauses_83 : decode cX9_readClauses 83 = .ok (.aload_n 0, 1) := by decide +kernel
theorem dX9_readClauses_84 : decode cX9_readClauses 84 = .ok (.getfield 22, 3) := by decide +kernel
theorem dX9_readClauses_87 : decode cX9_readClauses 87 = .ok (.ireturn, 1) := by decide +kernel
theorem dX9_readClauses_88 : decode cX9_readClauses 88 = .ok (.aload_n 0, 1) := by decide +kernel
theorem dX9_readClauses_89 : decode cX9_readClauses 89 = .ok (.dup, 1) := by decide +kernel
theorem dX9_readClauses_90 : decode cX9_readClauses 90 = .ok (.getfield 22, 3) := by decide +kernel
theorem dX9_readClauses_93 : decode cX9_readClauses 93 = .ok (.iconst 1, 1) := by decide +kernel
theorem dX9_readClauses_94 : decode cX9_readClauses 94 = .ok (.iadd, 1) := by decide +kernel
theorem dX9_readClauses_95 : decode cX9_readClauses 95 = .ok (.putfield 22, 3) := by decide +kernel
theorem dX9_readClauses_98 : decode cX9_readClauses 98 = .ok (.iinc 3 1, 3) := by decide +kernel
theorem dX9_readClauses_101 : decode cX9_readClauses 101 = .ok (.goto (-79), 3) := by decide +kernel
theorem dX9_readClauses_104 : decode cX9_readClauses 104 = .ok (.iconst (-1), 1) := by decide +kernel
theorem dX9_readClauses_105 : decode cX9_readClauses 105 = .ok (.ireturn, 1) := by decide +kernel
theorem dX9_readClause_0 : decode cX9_readClause 0 = .ok (.aload_n 0, 1) := by decide +kernel
theorem dX9_readClause_1 : decode cX9_readClause 1 = .ok (.invokevirtual 38, 3) := by decide +kernel
theorem dX9_readClause_4 : decode cX9_readClause 4 = .ok (.aload_n 0, 1) := by decide +kernel
theorem dX9_readClause_5 : decode cX9_readClause 5 = .ok (.getfield 22, 3) := by decide +kernel
theorem dX9_readClause_8 : decode cX9_readClause 8 = .ok (.istore_n 1, 1) := by decide +kernel
theorem dX9_readClause_9 : decode cX9_readClause 9 = .ok (.aload_n 0, 1) := by decide +kernel
theorem dX9_readClause_10 : decode cX9_readClause 10 = .ok (.invokevirtual 41, 3) := by decide +kernel
theorem dX9_readClause_13 : decode cX9_readClause 13 = .ok (.istore_n 2, 1) := by decide +kernel
theorem dX9_readClause_14 : decode cX9_readClause 14 = .ok (.iload_n 2, 1) := by decide +kernel
theorem dX9_readClause_15 : decode cX9_readClause 15 = .ok (.iconst (-1), 1) := by decide +kernel
theorem dX9_readClause_16 : decode cX9_readClause 16 = .ok (.if_icmp .eq 19, 3) := by decide +kernel
theorem dX9_readClause_19 : decode cX9_readClause 19 = .ok (.iload_n 2, 1) := by decide +kernel
theorem dX9_readClause_20 : decode cX9_readClause 20 = .ok (.invokestatic 44, 3) := by decide +kernel
theorem dX9_readClause_23 : decode cX9_readClause 23 = .ok (.ifCond .eq 14, 3) := by decide +kernel
theorem dX9_readClause_26 : decode cX9_readClause 26 = .ok (.aload_n 0, 1) := by decide +kernel
theorem dX9_readClause_27 : decode cX9_readClause 27 = .ok (.getfield 31, 3) := by decide +kernel
theorem dX9_readClause_30 : decode cX9_readClause 30 = .ok (.bipush 6, 2) := by decide +kernel
theorem dX9_readClause_32 : decode cX9_readClause 32 = .ok (.if_icmp .lt 5, 3) := by decide +kernel
theorem dX9_readClause_35 : decode cX9_readClause 35 = .ok (.iload_n 1, 1) := by decide +kernel
theorem dX9_readClause_36 : decode cX9_readClause 36 = .ok (.ireturn, 1) := by decide +kernel
theorem dX9_readClause_37 : decode cX9_readClause 37 = .ok (.aload_n 0, 1) := by decide +kernel
theorem dX9_readClause_38 : decode cX9_readClause 38 = .ok (.getfield 25, 3) := by decide +kernel
theorem dX9_readClause_41 : decode cX9_readClause 41 = .ok (.iconst 5, 1) := by decide +kernel
theorem dX9_readClause_42 : decode cX9_readClause 42 = .ok (.imul, 1) := by decide +kernel
theorem dX9_readClause_43 : decode cX9_readClause 43 = .ok (.istore_n 3, 1) := by decide +kernel
theorem dX9_readClause_44 : decode cX9_readClause 44 = .ok (.aload_n 0, 1) := by decide +kernel
theorem dX9_readClause_45 : decode cX9_readClause 45 = .ok (.getfield 15, 3) := by decide +kernel
theorem dX9_readClause_48 : decode cX9_readClause 48 = .ok (.iload_n 3, 1) := by decide +kernel
theorem dX9_readClause_49 : decode cX9_readClause 49 = .ok (.iload_n 2, 1) := by decide +kernel
theorem dX9_readClause_50 : decode cX9_readClause 50 = .ok (.iastore, 1) := by decide +kernel
theorem dX9_readClause_51 : decode cX9_readClause 51 = .ok (.iconst 0, 1) := by decide +kernel
theorem dX9_readClause_52 : decode cX9_readClause 52 = .ok (.istore 4, 2) := by decide +kernel
theorem dX9_readClause_54 : decode cX9_readClause 54 = .ok (.iload 4, 2) := by decide +kernel
theorem dX9_readClause_56 : decode cX9_readClause 56 = .ok (.iload_n 2, 1) := by decide +kernel
theorem dX9_readClause_57 : decode cX9_readClause 57 = .ok (.invokestatic 48, 3) := by decide +kernel
theorem dX9_readClause_60 : decode cX9_readClause 60 = .ok (.if_icmp .ge 62, 3) := by decide +kernel
theorem dX9_readClause_63 : decode cX9_readClause 63 = .ok (.aload_n 0, 1) := by decide +kernel
theorem dX9_readClause_64 : decode cX9_readClause 64 = .ok (.invokevirtual 38, 3) := by decide +kernel
theorem dX9_readClause_67 : decode cX9_readClause 67 = .ok (.aload_n 0, 1) := by decide +kernel
theorem dX9_readClause_68 : decode cX9_readClause 68 = .ok (.getfield 22, 3) := by decide +kernel
theorem dX9_readClause_71 : decode cX9_readClause 71 = .ok (.istore_n 1, 1) := by decide +kernel
theorem dX9_readClause_72 : decode cX9_readClause 72 = .ok (.aload_n 0, 1) := by decide +kernel
theorem dX9_readClause_73 : decode cX9_readClause 73 = .ok (.invokevirtual 52, 3) := by decide +kernel
theorem dX9_readClause_76 : decode cX9_readClause 76 = .ok (.istore 5, 2) := by decide +kernel
theorem dX9_readClause_78 : decode cX9_readClause 78 = .ok (.iload 5, 2) := by decide +kernel
theorem dX9_readClause_80 : decode cX9_readClause 80 = .ok (.iload_n 2, 1) := by decide +kernel
theorem dX9_readClause_81 : decode cX9_readClause 81 = .ok (.iload 4, 2) := by decide +kernel
theorem dX9_readClause_83 : decode cX9_readClause 83 = .ok (.invokestatic 55, 3) := by decide +kernel
theorem dX9_readClause_86 : decode cX9_readClause 86 = .ok (.if_icmp .lt 15, 3) := by decide +kernel
theorem dX9_readClause_89 : decode cX9_readClause 89 = .ok (.iload 5, 2) := by decide +kernel
theorem dX9_readClause_91 : decode cX9_readClause 91 = .ok (.aload_n 0, 1) := by decide +kernel
theorem dX9_readClause_92 : decode cX9_readClause 92 = .ok (.iload_n 2, 1) := by decide +kernel
theorem dX9_readClause_93 : decode cX9_readClause 93 = .ok (.iload 4, 2) := by decide +kernel
theorem dX9_readClause_95 : decode cX9_readClause 95 = .ok (.invokevirtual 59, 3) := by decide +kernel
theorem dX9_readClause_98 : decode cX9_readClause 98 = .ok (.if_icmp .le 5, 3) := by decide +kernel
theorem dX9_readClause_101 : decode cX9_readClause 101 = .ok (.iload_n 1, 1) := by decide +kernel
theorem dX9_readClause_102 : decode cX9_readClause 102 = .ok (.ireturn, 1) := by decide +kernel
theorem dX9_readClause_103 : decode cX9_readClause 103 = .ok (.aload_n 0, 1) := by decide +kernel
theorem dX9_readClause_104 : decode cX9_readClause 104 = .ok (.getfield 15, 3) := by decide +kernel
theorem dX9_readClause_107 : decode cX9_readClause 107 = .ok (.iload_n 3, 1) := by decide +kernel
theorem dX9_readClause_108 : decode cX9_readClause 108 = .ok (.iconst 1, 1) := by decide +kernel
theorem dX9_readClause_109 : decode cX9_readClause 109 = .ok (.iadd, 1) := by decide +kernel
theorem dX9_readClause_110 : decode cX9_readClause 110 = .ok (.iload 4, 2) := by decide +kernel
theorem dX9_readClause_112 : decode cX9_readClause 112 = .ok (.iadd, 1) := by decide +kernel
theorem dX9_readClause_113 : decode cX9_readClause 113 = .ok (.iload 5, 2) := by decide +kernel
theorem dX9_readClause_115 : decode cX9_readClause 115 = .ok (.iastore, 1) := by decide +kernel
theorem dX9_readClause_116 : decode cX9_readClause 116 = .ok (.iinc 4 1, 3) := by decide +kernel
theorem dX9_readClause_119 : decode cX9_readClause 119 = .ok (.goto (-65), 3) := by decide +kernel
theorem dX9_readClause_122 : decode cX9_readClause 122 = .ok (.aload_n 0, 1) := by decide +kernel
theorem dX9_readClause_123 : decode cX9_readClause 123 = .ok (.dup, 1) := by decide +kernel
theorem dX9_readClause_124 : decode cX9_readClause 124 = .ok (.getfield 25, 3) := by decide +kernel
theorem dX9_readClause_127 : decode cX9_readClause 127 = .ok (.iconst 1, 1) := by decide +kernel
theorem dX9_readClause_128 : decode cX9_readClause 128 = .ok (.iadd, 1) := by decide +kernel
theorem dX9_readClause_129 : decode cX9_readClause 129 = .ok (.putfield 25, 3) := by decide +kernel
theorem dX9_readClause_132 : decode cX9_readClause 132 = .ok (.aload_n 0, 1) := by decide +kernel
theorem dX9_readClause_133 : decode cX9_readClause 133 = .ok (.iload_n 2, 1) := by decide +kernel
theorem dX9_readClause_134 : decode cX9_readClause 134 = .ok (.aload_n 0, 1) := by decide +kernel
theorem dX9_readClause_135 : decode cX9_readClause 135 = .ok (.getfield 15, 3) := by decide +kernel
theorem dX9_readClause_138 : decode cX9_readClause 138 = .ok (.iload_n 3, 1) := by decide +kernel
theorem dX9_readClause_139 : decode cX9_readClause 139 = .ok (.iconst 1, 1) := by decide +kernel
theorem dX9_readClause_140 : decode cX9_readClause 140 = .ok (.iadd, 1) := by decide +kernel
theorem dX9_readClause_141 : decode cX9_readClause 141 = .ok (.iaload, 1) := by decide +kernel
theorem dX9_readClause_142 : decode cX9_readClause 142 = .ok (.invokevirtual 62, 3) := by decide +kernel
theorem dX9_readClause_145 : decode cX9_readClause 145 = .ok (.iconst (-1), 1) := by decide +kernel
theorem dX9_readClause_146 : decode cX9_readClause 146 = .ok (.ireturn, 1) := by decide +kernel
theorem dX9_foresee_0 : decode cX9_foresee 0 = .ok (.iload_n 1, 1) := by decide +kernel
theorem dX9_foresee_1 : decode cX9_foresee 1 = .ok (.iconst 4, 1) := by decide +kernel
theorem dX9_foresee_2 : decode cX9_foresee 2 = .ok (.if_icmp .ne 16, 3) := by decide +kernel
theorem dX9_foresee_5 : decode cX9_foresee 5 = .ok (.aload_n 0, 1) := by decide +kernel
theorem dX9_foresee_6 : decode cX9_foresee 6 = .ok (.iload_n 2, 1) := by decide +kernel
theorem dX9_foresee_7 : decode cX9_foresee 7 = .ok (.putfield 28, 3) := by decide +kernel
theorem dX9_foresee_10 : decode cX9_foresee 10 = .ok (.aload_n 0, 1) := by decide +kernel
theorem dX9_foresee_11 : decode cX9_foresee 11 = .ok (.iconst 0, 1) := by decide +kernel
theorem dX9_foresee_12 : decode cX9_foresee 12 = .ok (.putfield 31, 3) := by decide +kernel
theorem dX9_foresee_15 : decode cX9_foresee 15 = .ok (.goto 20, 3) := by decide +kernel
theorem dX9_foresee_18 : decode cX9_foresee 18 = .ok (.iload_n 1, 1) := by decide +kernel
theorem dX9_foresee_19 : decode cX9_foresee 19 = .ok (.invokestatic 44, 3) := by decide +kernel
theorem dX9_foresee_22 : decode cX9_foresee 22 = .ok (.ifCond .eq 13, 3) := by decide +kernel
theorem dX9_foresee_25 : decode cX9_foresee 25 = .ok (.aload_n 0, 1) := by decide +kernel
theorem dX9_foresee_26 : decode cX9_foresee 26 = .ok (.dup, 1) := by decide +kernel
theorem dX9_foresee_27 : decode cX9_foresee 27 = .ok (.getfield 31, 3) := by decide +kernel
theorem dX9_foresee_30 : decode cX9_foresee 30 = .ok (.iconst 1, 1) := by decide +kernel
theorem dX9_foresee_31 : decode cX9_foresee 31 = .ok (.iadd, 1) := by decide +kernel
theorem dX9_foresee_32 : decode cX9_foresee 32 = .ok (.putfield 31, 3) := by decide +kernel
theorem dX9_foresee_35 : decode cX9_foresee 35 = .ok (.return_, 1) := by decide +kernel
