theorem dX11_down_49 : decode cX11_down 49 = .ok (.iadd, 1) := by decide +kernel
theorem dX11_down_50 : decode cX11_down 50 = .ok (.iaload, 1) := by decide +kernel
theorem dX11_down_51 : decode cX11_down 51 = .ok (.istore 4, 2) := by decide +kernel
theorem dX11_down_53 : decode cX11_down 53 = .ok (.iload 4, 2) := by decide +kernel
theorem dX11_down_55 : decode cX11_down 55 = .ok (.ifCond .ne 7, 3) := by decide +kernel
theorem dX11_down_58 : decode cX11_down 58 = .ok (.iconst (-1), 1) := by decide +kernel
theorem dX11_down_59 : decode cX11_down 59 = .ok (.goto 5, 3) := by decide +kernel
theorem dX11_down_62 : decode cX11_down 62 = .ok (.iload 4, 2) := by decide +kernel
theorem dX11_down_64 : decode cX11_down 64 = .ok (.ireturn, 1) := by decide +kernel
theorem dX11_heard_0 : decode cX11_heard 0 = .ok (.iconst 0, 1) := by decide +kernel
theorem dX11_heard_1 : decode cX11_heard 1 = .ok (.istore_n 3, 1) := by decide +kernel
theorem dX11_heard_2 : decode cX11_heard 2 = .ok (.iconst 0, 1) := by decide +kernel
theorem dX11_heard_3 : decode cX11_heard 3 = .ok (.istore 4, 2) := by decide +kernel
theorem dX11_heard_5 : decode cX11_heard 5 = .ok (.iload 4, 2) := by decide +kernel
theorem dX11_heard_7 : decode cX11_heard 7 = .ok (.iload_n 2, 1) := by decide +kernel
theorem dX11_heard_8 : decode cX11_heard 8 = .ok (.if_icmp .gt 50, 3) := by decide +kernel
theorem dX11_heard_11 : decode cX11_heard 11 = .ok (.aload_n 0, 1) := by decide +kernel
theorem dX11_heard_12 : decode cX11_heard 12 = .ok (.iload_n 1, 1) := by decide +kernel
theorem dX11_heard_13 : decode cX11_heard 13 = .ok (.invokevirtual 134, 3) := by decide +kernel
theorem dX11_heard_16 : decode cX11_heard 16 = .ok (.ifCond .eq 42, 3) := by decide +kernel
theorem dX11_heard_19 : decode cX11_heard 19 = .ok (.aload_n 0, 1) := by decide +kernel
theorem dX11_heard_20 : decode cX11_heard 20 = .ok (.getfield 19, 3) := by decide +kernel
theorem dX11_heard_23 : decode cX11_heard 23 = .ok (.iconst 2, 1) := by decide +kernel
theorem dX11_heard_24 : decode cX11_heard 24 = .ok (.iload 4, 2) := by decide +kernel
theorem dX11_heard_26 : decode cX11_heard 26 = .ok (.imul, 1) := by decide +kernel
theorem dX11_heard_27 : decode cX11_heard 27 = .ok (.aload_n 0, 1) := by decide +kernel
theorem dX11_heard_28 : decode cX11_heard 28 = .ok (.iload_n 1, 1) := by decide +kernel
theorem dX11_heard_29 : decode cX11_heard 29 = .ok (.invokevirtual 118, 3) := by decide +kernel
theorem dX11_heard_32 : decode cX11_heard 32 = .ok (.iadd, 1) := by decide +kernel
theorem dX11_heard_33 : decode cX11_heard 33 = .ok (.iaload, 1) := by decide +kernel
theorem dX11_heard_34 : decode cX11_heard 34 = .ok (.istore 5, 2) := by decide +kernel
theorem dX11_heard_36 : decode cX11_heard 36 = .ok (.iload_n 3, 1) := by decide +kernel
theorem dX11_heard_37 : decode cX11_heard 37 = .ok (.iload 5, 2) := by decide +kernel
theorem dX11_heard_39 : decode cX11_heard 39 = .ok (.ifCond .le 10, 3) := by decide +kernel
theorem dX11_heard_42 : decode cX11_heard 42 = .ok (.iconst 1, 1) := by decide +kernel
theorem dX11_heard_43 : decode cX11_heard 43 = .ok (.iload 5, 2) := by decide +kernel
theorem dX11_heard_45 : decode cX11_heard 45 = .ok (.ishl, 1) := by decide +kernel
theorem dX11_heard_46 : decode cX11_heard 46 = .ok (.goto 4, 3) := by decide +kernel
theorem dX11_heard_49 : decode cX11_heard 49 = .ok (.iconst 0, 1) := by decide +kernel
theorem dX11_heard_50 : decode cX11_heard 50 = .ok (.ior, 1) := by decide +kernel
theorem dX11_heard_51 : decode cX11_heard 51 = .ok (.istore_n 3, 1) := by decide +kernel
theorem dX11_heard_52 : decode cX11_heard 52 = .ok (.iinc 4 1, 3) := by decide +kernel
theorem dX11_heard_55 : decode cX11_heard 55 = .ok (.goto (-50), 3) := by decide +kernel
theorem dX11_heard_58 : decode cX11_heard 58 = .ok (.iload_n 3, 1) := by decide +kernel
theorem dX11_heard_59 : decode cX11_heard 59 = .ok (.ireturn, 1) := by decide +kernel
theorem dX11_goes_0 : decode cX11_goes 0 = .ok (.aload_n 0, 1) := by decide +kernel
theorem dX11_goes_1 : decode cX11_goes 1 = .ok (.getfield 19, 3) := by decide +kernel
theorem dX11_goes_4 : decode cX11_goes 4 = .ok (.bipush 48, 2) := by decide +kernel
theorem dX11_goes_6 : decode cX11_goes 6 = .ok (.iload_n 1, 1) := by decide +kernel
theorem dX11_goes_7 : decode cX11_goes 7 = .ok (.iadd, 1) := by decide +kernel
theorem dX11_goes_8 : decode cX11_goes 8 = .ok (.dup2, 1) := by decide +kernel
theorem dX11_goes_9 : decode cX11_goes 9 = .ok (.iaload, 1) := by decide +kernel
theorem dX11_goes_10 : decode cX11_goes 10 = .ok (.aload_n 0, 1) := by decide +kernel
theorem dX11_goes_11 : decode cX11_goes 11 = .ok (.iload_n 1, 1) := by decide +kernel
theorem dX11_goes_12 : decode cX11_goes 12 = .ok (.iload_n 2, 1) := by decide +kernel
theorem dX11_goes_13 : decode cX11_goes 13 = .ok (.invokevirtual 137, 3) := by decide +kernel
theorem dX11_goes_16 : decode cX11_goes 16 = .ok (.ior, 1) := by decide +kernel
theorem dX11_goes_17 : decode cX11_goes 17 = .ok (.iastore, 1) := by decide +kernel
theorem dX11_goes_18 : decode cX11_goes 18 = .ok (.iconst 0, 1) := by decide +kernel
theorem dX11_goes_19 : decode cX11_goes 19 = .ok (.istore_n 3, 1) := by decide +kernel
theorem dX11_goes_20 : decode cX11_goes 20 = .ok (.iload_n 3, 1) := by decide +kernel
theorem dX11_goes_21 : decode cX11_goes 21 = .ok (.iload_n 2, 1) := by decide +kernel
theorem dX11_goes_22 : decode cX11_goes 22 = .ok (.if_icmp .gt 53, 3) := by decide +kernel
theorem dX11_goes_25 : decode cX11_goes 25 = .ok (.aload_n 0, 1) := by decide +kernel
theorem dX11_goes_26 : decode cX11_goes 26 = .ok (.iload_n 1, 1) := by decide +kernel
theorem dX11_goes_27 : decode cX11_goes 27 = .ok (.invokevirtual 134, 3) := by decide +kernel
theorem dX11_goes_30 : decode cX11_goes 30 = .ok (.ifCond .eq 45, 3) := by decide +kernel
theorem dX11_goes_33 : decode cX11_goes 33 = .ok (.iconst 2, 1) := by decide +kernel
theorem dX11_goes_34 : decode cX11_goes 34 = .ok (.iload_n 3, 1) := by decide +kernel
theorem dX11_goes_35 : decode cX11_goes 35 = .ok (.imul, 1) := by decide +kernel
theorem dX11_goes_36 : decode cX11_goes 36 = .ok (.aload_n 0, 1) := by decide +kernel
theorem dX11_goes_37 : decode cX11_goes 37 = .ok (.iload_n 1, 1) := by decide +kernel
theorem dX11_goes_38 : decode cX11_goes 38 = .ok (.invokevirtual 118, 3) := by decide +kernel
theorem dX11_goes_41 : decode cX11_goes 41 = .ok (.iadd, 1) := by decide +kernel
theorem dX11_goes_42 : decode cX11_goes 42 = .ok (.istore 4, 2) := by decide +kernel
theorem dX11_goes_44 : decode cX11_goes 44 = .ok (.aload_n 0, 1) := by decide +kernel
theorem dX11_goes_45 : decode cX11_goes 45 = .ok (.iload 4, 2) := by decide +kernel
theorem dX11_goes_47 : decode cX11_goes 47 = .ok (.aload_n 0, 1) := by decide +kernel
theorem dX11_goes_48 : decode cX11_goes 48 = .ok (.getfield 19, 3) := by decide +kernel
theorem dX11_goes_51 : decode cX11_goes 51 = .ok (.iload 4, 2) := by decide +kernel
theorem dX11_goes_53 : decode cX11_goes 53 = .ok (.iaload, 1) := by decide +kernel
theorem dX11_goes_54 : decode cX11_goes 54 = .ok (.aload_n 0, 1) := by decide +kernel
theorem dX11_goes_55 : decode cX11_goes 55 = .ok (.getfield 19, 3) := by decide +kernel
theorem dX11_goes_58 : decode cX11_goes 58 = .ok (.bipush 24, 2) := by decide +kernel
theorem dX11_goes_60 : decode cX11_goes 60 = .ok (.iload 4, 2) := by decide +kernel
theorem dX11_goes_62 : decode cX11_goes 62 = .ok (.iadd, 1) := by decide +kernel
theorem dX11_goes_63 : decode cX11_goes 63 = .ok (.iaload, 1) := by decide +kernel
theorem dX11_goes_64 : decode cX11_goes 64 = .ok (.iconst 1, 1) := by decide +kernel
theorem dX11_goes_65 : decode cX11_goes 65 = .ok (.isub, 1) := by decide +kernel
theorem dX11_goes_66 : decode cX11_goes 66 = .ok (.invokevirtual 121, 3) := by decide +kernel
theorem dX11_goes_69 : decode cX11_goes 69 = .ok (.iinc 3 1, 3) := by decide +kernel
theorem dX11_goes_72 : decode cX11_goes 72 = .ok (.goto (-52), 3) := by decide +kernel
theorem dX11_goes_75 : decode cX11_goes 75 = .ok (.return_, 1) := by decide +kernel
theorem dX11_up_0 : decode cX11_up 0 = .ok (.aload_n 0, 1) := by decide +kernel
theorem dX11_up_1 : decode cX11_up 1 = .ok (.iload_n 1, 1) := by decide +kernel
theorem dX11_up_2 : decode cX11_up 2 = .ok (.invokevirtual 109, 3) := by decide +kernel
theorem dX11_up_5 : decode cX11_up 5 = .ok (.ifCond .eq 11, 3) := by decide +kernel
theorem dX11_up_8 : decode cX11_up 8 = .ok (.aload_n 0, 1) := by decide +kernel
theorem dX11_up_9 : decode cX11_up 9 = .ok (.iload_n 2, 1) := by decide +kernel
theorem dX11_up_10 : decode cX11_up 10 = .ok (.invokevirtual 112, 3) := by decide +kernel
theorem dX11_up_13 : decode cX11_up 13 = .ok (.ifCond .ne 6, 3) := by decide +kernel
theorem dX11_up_16 : decode cX11_up 16 = .ok (.bipush (-2), 2) := by decide +kernel
theorem dX11_up_18 : decode cX11_up 18 = .ok (.ireturn, 1) := by decide +kernel
theorem dX11_up_19 : decode cX11_up 19 = .ok (.aload_n 0, 1) := by decide +kernel
theorem dX11_up_20 : decode cX11_up 20 = .ok (.invokevirtual 128, 3) := by decide +kernel
theorem dX11_up_23 : decode cX11_up 23 = .ok (.aload_n 0, 1) := by decide +kernel
theorem dX11_up_24 : decode cX11_up 24 = .ok (.iload_n 1, 1) := by decide +kernel
theorem dX11_up_25 : decode cX11_up 25 = .ok (.iload_n 2, 1) := by decide +kernel
theorem dX11_up_26 : decode cX11_up 26 = .ok (.invokevirtual 141, 3) := by decide +kernel
theorem dX11_up_29 : decode cX11_up 29 = .ok (.aload_n 0, 1) := by decide +kernel
theorem dX11_up_30 : decode cX11_up 30 = .ok (.getfield 19, 3) := by decide +kernel
theorem dX11_up_33 : decode cX11_up 33 = .ok (.bipush 48, 2) := by decide +kernel
theorem dX11_up_35 : decode cX11_up 35 = .ok (.iload_n 1, 1) := by decide +kernel
theorem dX11_up_36 : decode cX11_up 36 = .ok (.iadd, 1) := by decide +kernel
theorem dX11_up_37 : decode cX11_up 37 = .ok (.iaload, 1) := by decide +kernel
theorem dX11_up_38 : decode cX11_up 38 = .ok (.ireturn, 1) := by decide +kernel
theorem dX11_polish_0 : decode cX11_polish 0 = .ok (.aload_n 0, 1) := by decide +kernel
theorem dX11_polish_1 : decode cX11_polish 1 = .ok (.iload_n 1, 1) := by decide +kernel
theorem dX11_polish_2 : decode cX11_polish 2 = .ok (.invokevirtual 112, 3) := by decide +kernel
theorem dX11_polish_5 : decode cX11_polish 5 = .ok (.ifCond .ne 6, 3) := by decide +kernel
theorem dX11_polish_8 : decode cX11_polish 8 = .ok (.bipush (-2), 2) := by decide +kernel
theorem dX11_polish_10 : decode cX11_polish 10 = .ok (.ireturn, 1) := by decide +kernel
theorem dX11_polish_11 : decode cX11_polish 11 = .ok (.aload_n 0, 1) := by decide +kernel
theorem dX11_polish_12 : decode cX11_polish 12 = .ok (.invokevirtual 128, 3) := by decide +kernel
theorem dX11_polish_15 : decode cX11_polish 15 = .ok (.iconst 0, 1) := by decide +kernel
theorem dX11_polish_16 : decode cX11_polish 16 = .ok (.istore_n 2, 1) := by decide +kernel
theorem dX11_polish_17 : decode cX11_polish 17 = .ok (.iconst 2, 1) := by decide +kernel
theorem dX11_polish_18 : decode cX11_polish 18 = .ok (.iload_n 1, 1) := by decide +kernel
theorem dX11_polish_19 : decode cX11_polish 19 = .ok (.imul, 1) := by decide +kernel
theorem dX11_polish_20 : decode cX11_polish 20 = .ok (.istore_n 3, 1) := by decide +kernel
theorem dX11_polish_21 : decode cX11_polish 21 = .ok (.iload_n 3, 1) := by decide +kernel
theorem dX11_polish_22 : decode cX11_polish 22 = .ok (.iconst 2, 1) := by decide +kernel
theorem dX11_polish_23 : decode cX11_polish 23 = .ok (.iload_n 1, 1) := by decide +kernel
theorem dX11_polish_24 : decode cX11_polish 24 = .ok (.imul, 1) := by decide +kernel
theorem dX11_polish_25 : decode cX11_polish 25 = .ok (.iconst 2, 1) := by decide +kernel
theorem dX11_polish_26 : decode cX11_polish 26 = .ok (.iadd, 1) := by decide +kernel
theorem dX11_polish_27 : decode cX11_polish 27 = .ok (.if_icmp .ge 33, 3) := by decide +kernel
theorem dX11_polish_30 : decode cX11_polish 30 = .ok (.iload_n 2, 1) := by decide +kernel
theorem dX11_polish_31 : decode cX11_polish 31 = .ok (.aload_n 0, 1) := by decide +kernel
theorem dX11_polish_32 : decode cX11_polish 32 = .ok (.getfield 19, 3) := by decide +kernel
theorem dX11_polish_35 : decode cX11_polish 35 = .ok (.iload_n 3, 1) := by decide +kernel
theorem dX11_polish_36 : decode cX11_polish 36 = .ok (.iaload, 1) := by decide +kernel
theorem dX11_polish_37 : decode cX11_polish 37 = .ok (.ifCond .le 7, 3) := by decide +kernel
theorem dX11_polish_40 : decode cX11_polish 40 = .ok (.iconst 1, 1) := by decide +kernel
theorem dX11_polish_41 : decode cX11_polish 41 = .ok (.goto 4, 3) := by decide +kernel
theorem dX11_polish_44 : decode cX11_polish 44 = .ok (.iconst 0, 1) := by decide +kernel
theorem dX11_polish_45 : decode cX11_polish 45 = .ok (.iadd, 1) := by decide +kernel
theorem dX11_polish_46 : decode cX11_polish 46 = .ok (.istore_n 2, 1) := by decide +kernel
theorem dX11_polish_47 : decode cX11_polish 47 = .ok (.aload_n 0, 1) := by decide +kernel
theorem dX11_polish_48 : decode cX11_polish 48 = .ok (.iload_n 3, 1) := by decide +kernel
theorem dX11_polish_49 : decode cX11_polish 49 = .ok (.iconst 0, 1) := by decide +kernel
theorem dX11_polish_50 : decode cX11_polish 50 = .ok (.iconst 0, 1) := by decide +kernel
theorem dX11_polish_51 : decode cX11_polish 51 = .ok (.invokevirtual 121, 3) := by decide +kernel
theorem dX11_polish_54 : decode cX11_polish 54 = .ok (.iinc 3 1, 3) := by decide +kernel
theorem dX11_polish_57 : decode cX11_polish 57 = .ok (.goto (-36), 3) := by decide +kernel
theorem dX11_polish_60 : decode cX11_polish 60 = .ok (.iload_n 2, 1) := by decide +kernel
theorem dX11_polish_61 : decode cX11_polish 61 = .ok (.ireturn, 1) := by decide +kernel
theorem dX11_cools_0 : decode cX11_cools 0 = .ok (.iconst 0, 1) := by decide +kernel
theorem dX11_cools_1 : decode cX11_cools 1 = .ok (.istore_n 1, 1) := by decide +kernel
theorem dX11_cools_2 : decode cX11_cools 2 = .ok (.iload_n 1, 1) := by decide +kernel
theorem dX11_cools_3 : decode cX11_cools 3 = .ok (.bipush 24, 2) := by decide +kernel
theorem dX11_cools_5 : decode cX11_cools 5 = .ok (.if_icmp .ge 31, 3) := by decide +kernel
theorem dX11_cools_8 : decode cX11_cools 8 = .ok (.aload_n 0, 1) := by decide +kernel
theorem dX11_cools_9 : decode cX11_cools 9 = .ok (.iload_n 1, 1) := by decide +kernel
theorem dX11_cools_10 : decode cX11_cools 10 = .ok (.aload_n 0, 1) := by decide +kernel
theorem dX11_cools_11 : decode cX11_cools 11 = .ok (.getfield 19, 3) := by decide +kernel
theorem dX11_cools_14 : decode cX11_cools 14 = .ok (.iload_n 1, 1) := by decide +kernel
theorem dX11_cools_15 : decode cX11_cools 15 = .ok (.iaload, 1) := by decide +kernel
theorem dX11_cools_16 : decode cX11_cools 16 = .ok (.aload_n 0, 1) := by decide +kernel
theorem dX11_cools_17 : decode cX11_cools 17 = .ok (.getfield 19, 3) := by decide +kernel
theorem dX11_cools_20 : decode cX11_cools 20 = .ok (.bipush 24, 2) := by decide +kernel
theorem dX11_cools_22 : decode cX11_cools 22 = .ok (.iload_n 1, 1) := by decide +kernel
theorem dX11_cools_23 : decode cX11_cools 23 = .ok (.iadd, 1) := by decide +kernel
theorem dX11_cools_24 : decode cX11_cools 24 = .ok (.iaload, 1) := by decide +kernel
theorem dX11_cools_25 : decode cX11_cools 25 = .ok (.iconst 1, 1) := by decide +kernel
theorem dX11_cools_26 : decode cX11_cools 26 = .ok (.isub, 1) := by decide +kernel
theorem dX11_cools_27 : decode cX11_cools 27 = .ok (.invokevirtual 121, 3) := by decide +kernel
theorem dX11_cools_30 : decode cX11_cools 30 = .ok (.iinc 1 1, 3) := by decide +kernel
theorem dX11_cools_33 : decode cX11_cools 33 = .ok (.goto (-31), 3) := by decide +kernel
theorem dX11_cools_36 : decode cX11_cools 36 = .ok (.return_, 1) := by decide +kernel
theorem dX11_night_0 : decode cX11_night 0 = .ok (.aload_n 0, 1) := by decide +kernel
theorem dX11_night_1 : decode cX11_night 1 = .ok (.getfield 19, 3) := by decide +kernel
theorem dX11_night_4 : decode cX11_night 4 = .ok (.bipush 54, 2) := by decide +kernel
theorem dX11_night_6 : decode cX11_night 6 = .ok (.iaload, 1) := by decide +kernel
theorem dX11_night_7 : decode cX11_night 7 = .ok (.sipush 999, 3) := by decide +kernel
theorem dX11_night_10 : decode cX11_night 10 = .ok (.if_icmp .ne 6, 3) := by decide +kernel
theorem dX11_night_13 : decode cX11_night 13 = .ok (.bipush (-5), 2) := by decide +kernel
theorem dX11_night_15 : decode cX11_night 15 = .ok (.ireturn, 1) := by decide +kernel
theorem dX11_night_16 : decode cX11_night 16 = .ok (.aload_n 0, 1) := by decide +kernel
theorem dX11_night_17 : decode cX11_night 17 = .ok (.invokevirtual 128, 3) := by decide +kernel
theorem dX11_night_20 : decode cX11_night 20 = .ok (.aload_n 0, 1) := by decide +kernel
theorem dX11_night_21 : decode cX11_night 21 = .ok (.invokevirtual 145, 3) := by decide +kernel
theorem dX11_night_24 : decode cX11_night 24 = .ok (.aload_n 0, 1) := by decide +kernel
theorem dX11_night_25 : decode cX11_night 25 = .ok (.getfield 19, 3) := by decide +kernel
theorem dX11_night_28 : decode cX11_night 28 = .ok (.bipush 54, 2) := by decide +kernel
theorem dX11_night_30 : decode cX11_night 30 = .ok (.dup2, 1) := by decide +kernel
theorem dX11_night_31 : decode cX11_night 31 = .ok (.iaload, 1) := by decide +kernel
theorem dX11_night_32 : decode cX11_night 32 = .ok (.iconst 1, 1) := by decide +kernel
theorem dX11_night_33 : decode cX11_night 33 = .ok (.iadd, 1) := by decide +kernel
theorem dX11_night_34 : decode cX11_night 34 = .ok (.iastore, 1) := by decide +kernel
theorem dX11_night_35 : decode cX11_night 35 = .ok (.aload_n 0, 1) := by decide +kernel
theorem dX11_night_36 : decode cX11_night 36 = .ok (.getfield 19, 3) := by decide +kernel
theorem dX11_night_39 : decode cX11_night 39 = .ok (.bipush 54, 2) := by decide +kernel
theorem dX11_night_41 : decode cX11_night 41 = .ok (.iaload, 1) := by decide +kernel
theorem dX11_night_42 : decode cX11_night 42 = .ok (.ireturn, 1) := by decide +kernel
theorem dX11_undo_0 : decode cX11_undo 0 = .ok (.aload_n 0, 1) := by decide +kernel
theorem dX11_undo_1 : decode cX11_undo 1 = .ok (.getfield 99, 3) := by decide +kernel
theorem dX11_undo_4 : decode cX11_undo 4 = .ok (.ifCond .ne 6, 3) := by decide +kernel
theorem dX11_undo_7 : decode cX11_undo 7 = .ok (.bipush (-4), 2) := by decide +kernel
theorem dX11_undo_9 : decode cX11_undo 9 = .ok (.ireturn, 1) := by decide +kernel
theorem dX11_undo_10 : decode cX11_undo 10 = .ok (.aload_n 0, 1) := by decide +kernel
theorem dX11_undo_11 : decode cX11_undo 11 = .ok (.dup, 1) := by decide +kernel
theorem dX11_undo_12 : decode cX11_undo 12 = .ok (.getfield 99, 3) := by decide +kernel
theorem dX11_undo_15 : decode cX11_undo 15 = .ok (.iconst 1, 1) := by decide +kernel
theorem dX11_undo_16 : decode cX11_undo 16 = .ok (.isub, 1) := by decide +kernel
theorem dX11_undo_17 : decode cX11_undo 17 = .ok (.putfield 99, 3) := by decide +kernel
theorem dX11_undo_20 : decode cX11_undo 20 = .ok (.iconst 0, 1) := by decide +kernel
theorem dX11_undo_21 : decode cX11_undo 21 = .ok (.istore_n 1, 1) := by decide +kernel
theorem dX11_undo_22 : decode cX11_undo 22 = .ok (.iload_n 1, 1) := by decide +kernel
theorem dX11_undo_23 : decode cX11_undo 23 = .ok (.bipush 55, 2) := by decide +kernel
theorem dX11_undo_25 : decode cX11_undo 25 = .ok (.if_icmp .ge 29, 3) := by decide +kernel
theorem dX11_undo_28 : decode cX11_undo 28 = .ok (.aload_n 0, 1) := by decide +kernel
theorem dX11_undo_29 : decode cX11_undo 29 = .ok (.getfield 19, 3) := by decide +kernel
theorem dX11_undo_32 : decode cX11_undo 32 = .ok (.iload_n 1, 1) := by decide +kernel
theorem dX11_undo_33 : decode cX11_undo 33 = .ok (.aload_n 0, 1) := by decide +kernel
theorem dX11_undo_34 : decode cX11_undo 34 = .ok (.getfield 22, 3) := by decide +kernel
theorem dX11_undo_37 : decode cX11_undo 37 = .ok (.bipush 55, 2) := by decide +kernel
theorem dX11_undo_39 : decode cX11_undo 39 = .ok (.aload_n 0, 1) := by decide +kernel
theorem dX11_undo_40 : decode cX11_undo 40 = .ok (.getfield 99, 3) := by decide +kernel
theorem dX11_undo_43 : decode cX11_undo 43 = .ok (.imul, 1) := by decide +kernel
theorem dX11_undo_44 : decode cX11_undo 44 = .ok (.iload_n 1, 1) := by decide +kernel
theorem dX11_undo_45 : decode cX11_undo 45 = .ok (.iadd, 1) := by decide +kernel
theorem dX11_undo_46 : decode cX11_undo 46 = .ok (.iaload, 1) := by decide +kernel
theorem dX11_undo_47 : decode cX11_undo 47 = .ok (.iastore, 1) := by decide +kernel
theorem dX11_undo_48 : decode cX11_undo 48 = .ok (.iinc 1 1, 3) := by decide +kernel
theorem dX11_undo_51 : decode cX11_undo 51 = .ok (.goto (-29), 3) := by decide +kernel
theorem dX11_undo_54 : decode cX11_undo 54 = .ok (.aload_n 0, 1) := by decide +kernel
theorem dX11_undo_55 : decode cX11_undo 55 = .ok (.getfield 99, 3) := by decide +kernel
theorem dX11_undo_58 : decode cX11_undo 58 = .ok (.ireturn, 1) := by decide +kernel
theorem dX11_keep_0 : decode cX11_keep 0 = .ok (.iload_n 1, 1) := by decide +kernel
theorem dX11_keep_1 : decode cX11_keep 1 = .ok (.iconst 0, 1) := by decide +kernel
theorem dX11_keep_2 : decode cX11_keep 2 = .ok (.iconst 1, 1) := by decide +kernel
theorem dX11_keep_3 : decode cX11_keep 3 = .ok (.invokestatic 41, 3) := by decide +kernel
theorem dX11_keep_6 : decode cX11_keep 6 = .ok (.ifCond .ne 6, 3) := by decide +kernel
theorem dX11_keep_9 : decode cX11_keep 9 = .ok (.bipush (-2), 2) := by decide +kernel
theorem dX11_keep_11 : decode cX11_keep 11 = .ok (.ireturn, 1) := by decide +kernel
theorem dX11_keep_12 : decode cX11_keep 12 = .ok (.iconst 0, 1) := by decide +kernel
theorem dX11_keep_13 : decode cX11_keep 13 = .ok (.istore_n 2, 1) := by decide +kernel
theorem dX11_keep_14 : decode cX11_keep 14 = .ok (.iload_n 2, 1) := by decide +kernel
theorem dX11_keep_15 : decode cX11_keep 15 = .ok (.bipush 55, 2) := by decide +kernel
theorem dX11_keep_17 : decode cX11_keep 17 = .ok (.if_icmp .ge 26, 3) := by decide +kernel
theorem dX11_keep_20 : decode cX11_keep 20 = .ok (.aload_n 0, 1) := by decide +kernel
theorem dX11_keep_21 : decode cX11_keep 21 = .ok (.getfield 25, 3) := by decide +kernel
theorem dX11_keep_24 : decode cX11_keep 24 = .ok (.bipush 55, 2) := by decide +kernel
theorem dX11_keep_26 : decode cX11_keep 26 = .ok (.iload_n 1, 1) := by decide +kernel
theorem dX11_keep_27 : decode cX11_keep 27 = .ok (.imul, 1) := by decide +kernel
theorem dX11_keep_28 : decode cX11_keep 28 = .ok (.iload_n 2, 1) := by decide +kernel
theorem dX11_keep_29 : decode cX11_keep 29 = .ok (.iadd, 1) := by decide +kernel
theorem dX11_keep_30 : decode cX11_keep 30 = .ok (.aload_n 0, 1) := by decide +kernel
theorem dX11_keep_31 : decode cX11_keep 31 = .ok (.getfield 19, 3) := by decide +kernel
theorem dX11_keep_34 : decode cX11_keep 34 = .ok (.iload_n 2, 1) := by decide +kernel
theorem dX11_keep_35 : decode cX11_keep 35 = .ok (.iaload, 1) := by decide +kernel
theorem dX11_keep_36 : decode cX11_keep 36 = .ok (.iastore, 1) := by decide +kernel
theorem dX11_keep_37 : decode cX11_keep 37 = .ok (.iinc 2 1, 3) := by decide +kernel
theorem dX11_keep_40 : decode cX11_keep 40 = .ok (.goto (-26), 3) := by decide +kernel
theorem dX11_keep_43 : decode cX11_keep 43 = .ok (.aload_n 0, 1) := by decide +kernel
theorem dX11_keep_44 : decode cX11_keep 44 = .ok (.getfield 28, 3) := by decide +kernel
theorem dX11_keep_47 : decode cX11_keep 47 = .ok (.iload_n 1, 1) := by decide +kernel
theorem dX11_keep_48 : decode cX11_keep 48 = .ok (.iconst 1, 1) := by decide +kernel
theorem dX11_keep_49 : decode cX11_keep 49 = .ok (.bastore, 1) := by decide +kernel
theorem dX11_keep_50 : decode cX11_keep 50 = .ok (.aload_n 0, 1) := by decide +kernel
theorem dX11_keep_51 : decode cX11_keep 51 = .ok (.getfield 19, 3) := by decide +kernel
theorem dX11_keep_54 : decode cX11_keep 54 = .ok (.bipush 54, 2) := by decide +kernel
theorem dX11_keep_56 : decode cX11_keep 56 = .ok (.iaload, 1) := by decide +kernel
theorem dX11_keep_57 : decode cX11_keep 57 = .ok (.ireturn, 1) := by decide +kernel
theorem dX11_back_0 : decode cX11_back 0 = .ok (.iload_n 1, 1) := by decide +kernel
theorem dX11_back_1 : decode cX11_back 1 = .ok (.iconst 0, 1) := by decide +kernel
theorem dX11_back_2 : decode cX11_back 2 = .ok (.iconst 1, 1) := by decide +kernel
theorem dX11_back_3 : decode cX11_back 3 = .ok (.invokestatic 41, 3) := by decide +kernel
theorem dX11_back_6 : decode cX11_back 6 = .ok (.ifCond .ne 6, 3) := by decide +kernel
theorem dX11_back_9 : decode cX11_back 9 = .ok (.bipush (-2), 2) := by decide +kernel
theorem dX11_back_11 : decode cX11_back 11 = .ok (.ireturn, 1) := by decide +kernel
theorem dX11_back_12 : decode cX11_back 12 = .ok (.aload_n 0, 1) := by decide +kernel
theorem dX11_back_13 : decode cX11_back 13 = .ok (.getfield 28, 3) := by decide +kernel
theorem dX11_back_16 : decode cX11_back 16 = .ok (.iload_n 1, 1) := by decide +kernel
theorem dX11_back_17 : decode cX11_back 17 = .ok (.baload, 1) := by decide +kernel
theorem dX11_back_18 : decode cX11_back 18 = .ok (.ifCond .ne 6, 3) := by decide +kernel
theorem dX11_back_21 : decode cX11_back 21 = .ok (.bipush (-4), 2) := by decide +kernel
theorem dX11_back_23 : decode cX11_back 23 = .ok (.ireturn, 1) := by decide +kernel
theorem dX11_back_24 : decode cX11_back 24 = .ok (.iconst 0, 1) := by decide +kernel
theorem dX11_back_25 : decode cX11_back 25 = .ok (.istore_n 2, 1) := by decide +kernel
theorem dX11_back_26 : decode cX11_back 26 = .ok (.iload_n 2, 1) := by decide +kernel
theorem dX11_back_27 : decode cX11_back 27 = .ok (.bipush 55, 2) := by decide +kernel
theorem dX11_back_29 : decode cX11_back 29 = .ok (.if_icmp .ge 26, 3) := by decide +kernel
theorem dX11_back_32 : decode cX11_back 32 = .ok (.aload_n 0, 1) := by decide +kernel
theorem dX11_back_33 : decode cX11_back 33 = .ok (.getfield 19, 3) := by decide +kernel
theorem dX11_back_36 : decode cX11_back 36 = .ok (.iload_n 2, 1) := by decide +kernel
theorem dX11_back_37 : decode cX11_back 37 = .ok (.aload_n 0, 1) := by decide +kernel
theorem dX11_back_38 : decode cX11_back 38 = .ok (.getfield 25, 3) := by decide +kernel
theorem dX11_back_41 : decode cX11_back 41 = .ok (.bipush 55, 2) := by decide +kernel
theorem dX11_back_43 : decode cX11_back 43 = .ok (.iload_n 1, 1) := by decide +kernel
theorem dX11_back_44 : decode cX11_back 44 = .ok (.imul, 1) := by decide +kernel
theorem dX11_back_45 : decode cX11_back 45 = .ok (.iload_n 2, 1) := by decide +kernel
theorem dX11_back_46 : decode cX11_back 46 = .ok (.iadd, 1) := by decide +kernel
theorem dX11_back_47 : decode cX11_back 47 = .ok (.iaload, 1) := by decide +kernel
theorem dX11_back_48 : decode cX11_back 48 = .ok (.iastore, 1) := by decide +kernel
theorem dX11_back_49 : decode cX11_back 49 = .ok (.iinc 2 1, 3) := by decide +kernel
theorem dX11_back_52 : decode cX11_back 52 = .ok (.goto (-26), 3) := by decide +kernel
theorem dX11_back_55 : decode cX11_back 55 = .ok (.aload_n 0, 1) := by decide +kernel
theorem dX11_back_56 : decode cX11_back 56 = .ok (.iconst 0, 1) := by decide +kernel
theorem dX11_back_57 : decode cX11_back 57 = .ok (.putfield 99, 3) := by decide +kernel
theorem dX11_back_60 : decode cX11_back 60 = .ok (.aload_n 0, 1) := by decide +kernel
theorem dX11_back_61 : decode cX11_back 61 = .ok (.getfield 19, 3) := by decide +kernel
theorem dX11_back_64 : decode cX11_back 64 = .ok (.bipush 54, 2) := by decide +kernel
theorem dX11_back_66 : decode cX11_back 66 = .ok (.iaload, 1) := by decide +kernel
theorem dX11_back_67 : decode cX11_back 67 = .ok (.ireturn, 1) := by decide +kernel
theorem dX11_holds_0 : decode cX11_holds 0 = .ok (.iconst 0, 1) := by decide +kernel
theorem dX11_holds_1 : decode cX11_holds 1 = .ok (.istore_n 1, 1) := by decide +kernel
theorem dX11_holds_2 : decode cX11_holds 2 = .ok (.iload_n 1, 1) := by decide +kernel
theorem dX11_holds_3 : decode cX11_holds 3 = .ok (.bipush 55, 2) := by decide +kernel
theorem dX11_holds_5 : decode cX11_holds 5 = .ok (.if_icmp .ge 21, 3) := by decide +kernel
theorem dX11_holds_8 : decode cX11_holds 8 = .ok (.aload_n 0, 1) := by decide +kernel
theorem dX11_holds_9 : decode cX11_holds 9 = .ok (.getfield 35, 3) := by decide +kernel
theorem dX11_holds_12 : decode cX11_holds 12 = .ok (.iload_n 1, 1) := by decide +kernel
theorem dX11_holds_13 : decode cX11_holds 13 = .ok (.aload_n 0, 1) := by decide +kernel
theorem dX11_holds_14 : decode cX11_holds 14 = .ok (.getfield 19, 3) := by decide +kernel
theorem dX11_holds_17 : decode cX11_holds 17 = .ok (.iload_n 1, 1) := by decide +kernel
theorem dX11_holds_18 : decode cX11_holds 18 = .ok (.iaload, 1) := by decide +kernel
theorem dX11_holds_19 : decode cX11_holds 19 = .ok (.iastore, 1) := by decide +kernel
theorem dX11_holds_20 : decode cX11_holds 20 = .ok (.iinc 1 1, 3) := by decide +kernel
theorem dX11_holds_23 : decode cX11_holds 23 = .ok (.goto (-21), 3) := by decide +kernel
theorem dX11_holds_26 : decode cX11_holds 26 = .ok (.return_, 1) := by decide +kernel
theorem dX11_lets_0 : decode cX11_lets 0 = .ok (.iconst 0, 1) := by decide +kernel
theorem dX11_lets_1 : decode cX11_lets 1 = .ok (.istore_n 1, 1) := by decide +kernel
theorem dX11_lets_2 : decode cX11_lets 2 = .ok (.iload_n 1, 1) := by decide +kernel
theorem dX11_lets_3 : decode cX11_lets 3 = .ok (.bipush 55, 2) := by decide +kernel
theorem dX11_lets_5 : decode cX11_lets 5 = .ok (.if_icmp .ge 21, 3) := by decide +kernel
theorem dX11_lets_8 : decode cX11_lets 8 = .ok (.aload_n 0, 1) := by decide +kernel
theorem dX11_lets_9 : decode cX11_lets 9 = .ok (.getfield 19, 3) := by decide +kernel
theorem dX11_lets_12 : decode cX11_lets 12 = .ok (.iload_n 1, 1) := by decide +kernel
theorem dX11_lets_13 : decode cX11_lets 13 = .ok (.aload_n 0, 1) := by decide +kernel
theorem dX11_lets_14 : decode cX11_lets 14 = .ok (.getfield 35, 3) := by decide +kernel
theorem dX11_lets_17 : decode cX11_lets 17 = .ok (.iload_n 1, 1) := by decide +kernel
theorem dX11_lets_18 : decode cX11_lets 18 = .ok (.iaload, 1) := by decide +kernel
theorem dX11_lets_19 : decode cX11_lets 19 = .ok (.iastore, 1) := by decide +kernel
theorem dX11_lets_20 : decode cX11_lets 20 = .ok (.iinc 1 1, 3) := by decide +kernel
theorem dX11_lets_23 : decode cX11_lets 23 = .ok (.goto (-21), 3) := by decide +kernel
theorem dX11_lets_26 : decode cX11_lets 26 = .ok (.return_, 1) := by decide +kernel
theorem dX11_hears_0 : decode cX11_hears 0 = .ok (.aload_n 0, 1) := by decide +kernel
theorem dX11_hears_1 : decode cX11_hears 1 = .ok (.iload_n 1, 1) := by decide +kernel
theorem dX11_hears_2 : decode cX11_hears 2 = .ok (.invokevirtual 109, 3) := by decide +kernel
theorem dX11_hears_5 : decode cX11_hears 5 = .ok (.ifCond .eq 20, 3) := by decide +kernel
theorem dX11_hears_8 : decode cX11_hears 8 = .ok (.aload_n 0, 1) := by decide +kernel
theorem dX11_hears_9 : decode cX11_hears 9 = .ok (.iload_n 2, 1) := by decide +kernel
theorem dX11_hears_10 : decode cX11_hears 10 = .ok (.invokevirtual 112, 3) := by decide +kernel
theorem dX11_hears_13 : decode cX11_hears 13 = .ok (.ifCond .eq 12, 3) := by decide +kernel
theorem dX11_hears_16 : decode cX11_hears 16 = .ok (.aload_n 0, 1) := by decide +kernel
theorem dX11_hears_17 : decode cX11_hears 17 = .ok (.iload_n 1, 1) := by decide +kernel
theorem dX11_hears_18 : decode cX11_hears 18 = .ok (.iload_n 2, 1) := by decide +kernel
theorem dX11_hears_19 : decode cX11_hears 19 = .ok (.invokevirtual 137, 3) := by decide +kernel
theorem dX11_hears_22 : decode cX11_hears 22 = .ok (.goto 5, 3) := by decide +kernel
theorem dX11_hears_25 : decode cX11_hears 25 = .ok (.bipush (-2), 2) := by decide +kernel
theorem dX11_hears_27 : decode cX11_hears 27 = .ok (.ireturn, 1) := by decide +kernel
theorem dX11_lasts_0 : decode cX11_lasts 0 = .ok (.iload_n 1, 1) := by decide +kernel
theorem dX11_lasts_1 : decode cX11_lasts 1 = .ok (.invokestatic 125, 3) := by decide +kernel
theorem dX11_lasts_4 : decode cX11_lasts 4 = .ok (.ifCond .ne 6, 3) := by decide +kernel
theorem dX11_lasts_7 : decode cX11_lasts 7 = .ok (.bipush (-2), 2) := by decide +kernel
theorem dX11_lasts_9 : decode cX11_lasts 9 = .ok (.ireturn, 1) := by decide +kernel
theorem dX11_lasts_10 : decode cX11_lasts 10 = .ok (.iconst 0, 1) := by decide +kernel
theorem dX11_lasts_11 : decode cX11_lasts 11 = .ok (.istore_n 2, 1) := by decide +kernel
theorem dX11_lasts_12 : decode cX11_lasts 12 = .ok (.iconst 0, 1) := by decide +kernel
theorem dX11_lasts_13 : decode cX11_lasts 13 = .ok (.istore_n 3, 1) := by decide +kernel
theorem dX11_lasts_14 : decode cX11_lasts 14 = .ok (.iload_n 3, 1) := by decide +kernel
theorem dX11_lasts_15 : decode cX11_lasts 15 = .ok (.bipush 24, 2) := by decide +kernel
theorem dX11_lasts_17 : decode cX11_lasts 17 = .ok (.if_icmp .ge 46, 3) := by decide +kernel
theorem dX11_lasts_20 : decode cX11_lasts 20 = .ok (.aload_n 0, 1) := by decide +kernel
theorem dX11_lasts_21 : decode cX11_lasts 21 = .ok (.getfield 19, 3) := by decide +kernel
theorem dX11_lasts_24 : decode cX11_lasts 24 = .ok (.iload_n 3, 1) := by decide +kernel
theorem dX11_lasts_25 : decode cX11_lasts 25 = .ok (.iaload, 1) := by decide +kernel
theorem dX11_lasts_26 : decode cX11_lasts 26 = .ok (.iload_n 1, 1) := by decide +kernel
theorem dX11_lasts_27 : decode cX11_lasts 27 = .ok (.if_icmp .ne 28, 3) := by decide +kernel
theorem dX11_lasts_30 : decode cX11_lasts 30 = .ok (.aload_n 0, 1) := by decide +kernel
theorem dX11_lasts_31 : decode cX11_lasts 31 = .ok (.getfield 19, 3) := by decide +kernel
theorem dX11_lasts_34 : decode cX11_lasts 34 = .ok (.bipush 24, 2) := by decide +kernel
theorem dX11_lasts_36 : decode cX11_lasts 36 = .ok (.iload_n 3, 1) := by decide +kernel
theorem dX11_lasts_37 : decode cX11_lasts 37 = .ok (.iadd, 1) := by decide +kernel
theorem dX11_lasts_38 : decode cX11_lasts 38 = .ok (.iaload, 1) := by decide +kernel
theorem dX11_lasts_39 : decode cX11_lasts 39 = .ok (.iload_n 2, 1) := by decide +kernel
theorem dX11_lasts_40 : decode cX11_lasts 40 = .ok (.if_icmp .le 15, 3) := by decide +kernel
theorem dX11_lasts_43 : decode cX11_lasts 43 = .ok (.aload_n 0, 1) := by decide +kernel
theorem dX11_lasts_44 : decode cX11_lasts 44 = .ok (.getfield 19, 3) := by decide +kernel
theorem dX11_lasts_47 : decode cX11_lasts 47 = .ok (.bipush 24, 2) := by decide +kernel
theorem dX11_lasts_49 : decode cX11_lasts 49 = .ok (.iload_n 3, 1) := by decide +kernel
theorem dX11_lasts_50 : decode cX11_lasts 50 = .ok (.iadd, 1) := by decide +kernel
theorem dX11_lasts_51 : decode cX11_lasts 51 = .ok (.iaload, 1) := by decide +kernel
theorem dX11_lasts_52 : decode cX11_lasts 52 = .ok (.goto 4, 3) := by decide +kernel
theorem dX11_lasts_55 : decode cX11_lasts 55 = .ok (.iload_n 2, 1) := by decide +kernel
theorem dX11_lasts_56 : decode cX11_lasts 56 = .ok (.istore_n 2, 1) := by decide +kernel
theorem dX11_lasts_57 : decode cX11_lasts 57 = .ok (.iinc 3 1, 3) := by decide +kernel
theorem dX11_lasts_60 : decode cX11_lasts 60 = .ok (.goto (-46), 3) := by decide +kernel
theorem dX11_lasts_63 : decode cX11_lasts 63 = .ok (.iload_n 2, 1) := by decide +kernel
theorem dX11_lasts_64 : decode cX11_lasts 64 = .ok (.ireturn, 1) := by decide +kernel
theorem dX11_ones_0 : decode cX11_ones 0 = .ok (.iconst 0, 1) := by decide +kernel
theorem dX11_ones_1 : decode cX11_ones 1 = .ok (.istore_n 1, 1) := by decide +kernel
theorem dX11_ones_2 : decode cX11_ones 2 = .ok (.iconst 0, 1) := by decide +kernel
theorem dX11_ones_3 : decode cX11_ones 3 = .ok (.istore_n 2, 1) := by decide +kernel
theorem dX11_ones_4 : decode cX11_ones 4 = .ok (.iload_n 2, 1) := by decide +kernel
theorem dX11_ones_5 : decode cX11_ones 5 = .ok (.bipush 12, 2) := by decide +kernel
theorem dX11_ones_7 : decode cX11_ones 7 = .ok (.if_icmp .ge 17, 3) := by decide +kernel
theorem dX11_ones_10 : decode cX11_ones 10 = .ok (.iload_n 1, 1) := by decide +kernel
theorem dX11_ones_11 : decode cX11_ones 11 = .ok (.iload_n 0, 1) := by decide +kernel
theorem dX11_ones_12 : decode cX11_ones 12 = .ok (.iload_n 2, 1) := by decide +kernel
theorem dX11_ones_13 : decode cX11_ones 13 = .ok (.ishr, 1) := by decide +kernel
theorem dX11_ones_14 : decode cX11_ones 14 = .ok (.iconst 1, 1) := by decide +kernel
theorem dX11_ones_15 : decode cX11_ones 15 = .ok (.iand, 1) := by decide +kernel
theorem dX11_ones_16 : decode cX11_ones 16 = .ok (.iadd, 1) := by decide +kernel
theorem dX11_ones_17 : decode cX11_ones 17 = .ok (.istore_n 1, 1) := by decide +kernel
theorem dX11_ones_18 : decode cX11_ones 18 = .ok (.iinc 2 1, 3) := by decide +kernel
theorem dX11_ones_21 : decode cX11_ones 21 = .ok (.goto (-17), 3) := by decide +kernel
theorem dX11_ones_24 : decode cX11_ones 24 = .ok (.iload_n 1, 1) := by decide +kernel
theorem dX11_ones_25 : decode cX11_ones 25 = .ok (.ireturn, 1) := by decide +kernel
theorem dX11_send_0 : decode cX11_send 0 = .ok (.aload_n 0, 1) := by decide +kernel
theorem dX11_send_1 : decode cX11_send 1 = .ok (.iload_n 1, 1) := by decide +kernel
theorem dX11_send_2 : decode cX11_send 2 = .ok (.invokevirtual 109, 3) := by decide +kernel
theorem dX11_send_5 : decode cX11_send 5 = .ok (.ifCond .eq 10, 3) := by decide +kernel
theorem dX11_send_8 : decode cX11_send 8 = .ok (.iload_n 2, 1) := by decide +kernel
theorem dX11_send_9 : decode cX11_send 9 = .ok (.invokestatic 125, 3) := by decide +kernel
theorem dX11_send_12 : decode cX11_send 12 = .ok (.ifCond .ne 6, 3) := by decide +kernel
theorem dX11_send_15 : decode cX11_send 15 = .ok (.bipush (-2), 2) := by decide +kernel
theorem dX11_send_17 : decode cX11_send 17 = .ok (.ireturn, 1) := by decide +kernel
theorem dX11_send_18 : decode cX11_send 18 = .ok (.aload_n 0, 1) := by decide +kernel
theorem dX11_send_19 : decode cX11_send 19 = .ok (.invokevirtual 148, 3) := by decide +kernel
theorem dX11_send_22 : decode cX11_send 22 = .ok (.iconst (-1), 1) := by decide +kernel
theorem dX11_send_23 : decode cX11_send 23 = .ok (.istore_n 3, 1) := by decide +kernel
theorem dX11_send_24 : decode cX11_send 24 = .ok (.aload_n 0, 1) := by decide +kernel
theorem dX11_send_25 : decode cX11_send 25 = .ok (.getfield 13, 3) := by decide +kernel
theorem dX11_send_28 : decode cX11_send 28 = .ok (.iconst 0, 1) := by decide +kernel
theorem dX11_send_29 : decode cX11_send 29 = .ok (.iaload, 1) := by decide +kernel
theorem dX11_send_30 : decode cX11_send 30 = .ok (.iconst 1, 1) := by decide +kernel
theorem dX11_send_31 : decode cX11_send 31 = .ok (.isub, 1) := by decide +kernel
theorem dX11_send_32 : decode cX11_send 32 = .ok (.istore 4, 2) := by decide +kernel
theorem dX11_send_34 : decode cX11_send 34 = .ok (.iconst 0, 1) := by decide +kernel
theorem dX11_send_35 : decode cX11_send 35 = .ok (.istore 5, 2) := by decide +kernel
theorem dX11_send_37 : decode cX11_send 37 = .ok (.iload 5, 2) := by decide +kernel
theorem dX11_send_39 : decode cX11_send 39 = .ok (.iconst 1, 1) := by decide +kernel
theorem dX11_send_40 : decode cX11_send 40 = .ok (.aload_n 0, 1) := by decide +kernel
theorem dX11_send_41 : decode cX11_send 41 = .ok (.getfield 13, 3) := by decide +kernel
theorem dX11_send_44 : decode cX11_send 44 = .ok (.iconst 1, 1) := by decide +kernel
theorem dX11_send_45 : decode cX11_send 45 = .ok (.iaload, 1) := by decide +kernel
theorem dX11_send_46 : decode cX11_send 46 = .ok (.ishl, 1) := by decide +kernel
theorem dX11_send_47 : decode cX11_send 47 = .ok (.if_icmp .ge 99, 3) := by decide +kernel
theorem dX11_send_50 : decode cX11_send 50 = .ok (.iload 5, 2) := by decide +kernel
theorem dX11_send_52 : decode cX11_send 52 = .ok (.iload_n 1, 1) := by decide +kernel
theorem dX11_send_53 : decode cX11_send 53 = .ok (.ishr, 1) := by decide +kernel
theorem dX11_send_54 : decode cX11_send 54 = .ok (.iconst 1, 1) := by decide +kernel
theorem dX11_send_55 : decode cX11_send 55 = .ok (.iand, 1) := by decide +kernel
theorem dX11_send_56 : decode cX11_send 56 = .ok (.ifCond .ne 84, 3) := by decide +kernel
theorem dX11_send_59 : decode cX11_send 59 = .ok (.iload_n 3, 1) := by decide +kernel
theorem dX11_send_60 : decode cX11_send 60 = .ok (.iconst (-1), 1) := by decide +kernel
theorem dX11_send_61 : decode cX11_send 61 = .ok (.if_icmp .eq 15, 3) := by decide +kernel
theorem dX11_send_64 : decode cX11_send 64 = .ok (.iload 5, 2) := by decide +kernel
theorem dX11_send_66 : decode cX11_send 66 = .ok (.invokestatic 151, 3) := by decide +kernel
theorem dX11_send_69 : decode cX11_send 69 = .ok (.iload_n 3, 1) := by decide +kernel
theorem dX11_send_70 : decode cX11_send 70 = .ok (.invokestatic 151, 3) := by decide +kernel
theorem dX11_send_73 : decode cX11_send 73 = .ok (.if_icmp .ge 67, 3) := by decide +kernel
theorem dX11_send_76 : decode cX11_send 76 = .ok (.iconst 0, 1) := by decide +kernel
theorem dX11_send_77 : decode cX11_send 77 = .ok (.istore 6, 2) := by decide +kernel
theorem dX11_send_79 : decode cX11_send 79 = .ok (.iload 6, 2) := by decide +kernel
theorem dX11_send_81 : decode cX11_send 81 = .ok (.aload_n 0, 1) := by decide +kernel
theorem dX11_send_82 : decode cX11_send 82 = .ok (.getfield 13, 3) := by decide +kernel
theorem dX11_send_85 : decode cX11_send 85 = .ok (.iconst 1, 1) := by decide +kernel
theorem dX11_send_86 : decode cX11_send 86 = .ok (.iaload, 1) := by decide +kernel
theorem dX11_send_87 : decode cX11_send 87 = .ok (.if_icmp .ge 28, 3) := by decide +kernel
theorem dX11_send_90 : decode cX11_send 90 = .ok (.iload 5, 2) := by decide +kernel
theorem dX11_send_92 : decode cX11_send 92 = .ok (.iload 6, 2) := by decide +kernel
theorem dX11_send_94 : decode cX11_send 94 = .ok (.ishr, 1) := by decide +kernel
theorem dX11_send_95 : decode cX11_send 95 = .ok (.iconst 1, 1) := by decide +kernel
theorem dX11_send_96 : decode cX11_send 96 = .ok (.iand, 1) := by decide +kernel
theorem dX11_send_97 : decode cX11_send 97 = .ok (.iconst 1, 1) := by decide +kernel
theorem dX11_send_98 : decode cX11_send 98 = .ok (.if_icmp .ne 11, 3) := by decide +kernel
theorem dX11_send_101 : decode cX11_send 101 = .ok (.aload_n 0, 1) := by decide +kernel
theorem dX11_send_102 : decode cX11_send 102 = .ok (.iload 6, 2) := by decide +kernel
theorem dX11_send_104 : decode cX11_send 104 = .ok (.iload 4, 2) := by decide +kernel
theorem dX11_send_106 : decode cX11_send 106 = .ok (.invokevirtual 141, 3) := by decide +kernel
theorem dX11_send_109 : decode cX11_send 109 = .ok (.iinc 6 1, 3) := by decide +kernel
theorem dX11_send_112 : decode cX11_send 112 = .ok (.goto (-33), 3) := by decide +kernel
theorem dX11_send_115 : decode cX11_send 115 = .ok (.aload_n 0, 1) := by decide +kernel
theorem dX11_send_116 : decode cX11_send 116 = .ok (.iload_n 1, 1) := by decide +kernel
theorem dX11_send_117 : decode cX11_send 117 = .ok (.iload 4, 2) := by decide +kernel
theorem dX11_send_119 : decode cX11_send 119 = .ok (.invokevirtual 137, 3) := by decide +kernel
theorem dX11_send_122 : decode cX11_send 122 = .ok (.iload_n 2, 1) := by decide +kernel
theorem dX11_send_123 : decode cX11_send 123 = .ok (.ishr, 1) := by decide +kernel
theorem dX11_send_124 : decode cX11_send 124 = .ok (.iconst 1, 1) := by decide +kernel
theorem dX11_send_125 : decode cX11_send 125 = .ok (.iand, 1) := by decide +kernel
theorem dX11_send_126 : decode cX11_send 126 = .ok (.ifCond .ne 8, 3) := by decide +kernel
theorem dX11_send_129 : decode cX11_send 129 = .ok (.iload 5, 2) := by decide +kernel
theorem dX11_send_131 : decode cX11_send 131 = .ok (.goto 4, 3) := by decide +kernel
theorem dX11_send_134 : decode cX11_send 134 = .ok (.iload_n 3, 1) := by decide +kernel
theorem dX11_send_135 : decode cX11_send 135 = .ok (.istore_n 3, 1) := by decide +kernel
theorem dX11_send_136 : decode cX11_send 136 = .ok (.aload_n 0, 1) := by decide +kernel
theorem dX11_send_137 : decode cX11_send 137 = .ok (.invokevirtual 154, 3) := by decide +kernel
theorem dX11_send_140 : decode cX11_send 140 = .ok (.iinc 5 1, 3) := by decide +kernel
theorem dX11_send_143 : decode cX11_send 143 = .ok (.goto (-106), 3) := by decide +kernel
theorem dX11_send_146 : decode cX11_send 146 = .ok (.iload_n 3, 1) := by decide +kernel
theorem dX11_send_147 : decode cX11_send 147 = .ok (.ireturn, 1) := by decide +kernel
theorem dX11_cover_0 : decode cX11_cover 0 = .ok (.aload_n 0, 1) := by decide +kernel
theorem dX11_cover_1 : decode cX11_cover 1 = .ok (.iload_n 1, 1) := by decide +kernel
theorem dX11_cover_2 : decode cX11_cover 2 = .ok (.invokevirtual 112, 3) := by decide +kernel
theorem dX11_cover_5 : decode cX11_cover 5 = .ok (.ifCond .eq 12, 3) := by decide +kernel
theorem dX11_cover_8 : decode cX11_cover 8 = .ok (.iload_n 2, 1) := by decide +kernel
theorem dX11_cover_9 : decode cX11_cover 9 = .ok (.iconst 0, 1) := by decide +kernel
theorem dX11_cover_10 : decode cX11_cover 10 = .ok (.iconst 1, 1) := by decide +kernel
theorem dX11_cover_11 : decode cX11_cover 11 = .ok (.invokestatic 41, 3) := by decide +kernel
theorem dX11_cover_14 : decode cX11_cover 14 = .ok (.ifCond .ne 6, 3) := by decide +kernel
theorem dX11_cover_17 : decode cX11_cover 17 = .ok (.bipush (-2), 2) := by decide +kernel
theorem dX11_cover_19 : decode cX11_cover 19 = .ok (.ireturn, 1) := by decide +kernel
theorem dX11_cover_20 : decode cX11_cover 20 = .ok (.iconst 2, 1) := by decide +kernel
theorem dX11_cover_21 : decode cX11_cover 21 = .ok (.iload_n 1, 1) := by decide +kernel
theorem dX11_cover_22 : decode cX11_cover 22 = .ok (.imul, 1) := by decide +kernel
theorem dX11_cover_23 : decode cX11_cover 23 = .ok (.iload_n 2, 1) := by decide +kernel
theorem dX11_cover_24 : decode cX11_cover 24 = .ok (.iadd, 1) := by decide +kernel
theorem dX11_cover_25 : decode cX11_cover 25 = .ok (.istore_n 3, 1) := by decide +kernel
theorem dX11_cover_26 : decode cX11_cover 26 = .ok (.iconst 0, 1) := by decide +kernel
theorem dX11_cover_27 : decode cX11_cover 27 = .ok (.istore 4, 2) := by decide +kernel
theorem dX11_cover_29 : decode cX11_cover 29 = .ok (.iconst 0, 1) := by decide +kernel
theorem dX11_cover_30 : decode cX11_cover 30 = .ok (.istore 5, 2) := by decide +kernel
theorem dX11_cover_32 : decode cX11_cover 32 = .ok (.iload 5, 2) := by decide +kernel
theorem dX11_cover_34 : decode cX11_cover 34 = .ok (.aload_n 0, 1) := by decide +kernel
theorem dX11_cover_35 : decode cX11_cover 35 = .ok (.getfield 13, 3) := by decide +kernel
theorem dX11_cover_38 : decode cX11_cover 38 = .ok (.iconst 1, 1) := by decide +kernel
theorem dX11_cover_39 : decode cX11_cover 39 = .ok (.iaload, 1) := by decide +kernel
theorem dX11_cover_40 : decode cX11_cover 40 = .ok (.if_icmp .ge 59, 3) := by decide +kernel
theorem dX11_cover_43 : decode cX11_cover 43 = .ok (.iload 4, 2) := by decide +kernel
theorem dX11_cover_45 : decode cX11_cover 45 = .ok (.aload_n 0, 1) := by decide +kernel
theorem dX11_cover_46 : decode cX11_cover 46 = .ok (.getfield 19, 3) := by decide +kernel
theorem dX11_cover_49 : decode cX11_cover 49 = .ok (.iload_n 3, 1) := by decide +kernel
theorem dX11_cover_50 : decode cX11_cover 50 = .ok (.iaload, 1) := by decide +kernel
theorem dX11_cover_51 : decode cX11_cover 51 = .ok (.ifCond .le 38, 3) := by decide +kernel
theorem dX11_cover_54 : decode cX11_cover 54 = .ok (.aload_n 0, 1) := by decide +kernel
theorem dX11_cover_55 : decode cX11_cover 55 = .ok (.iload 5, 2) := by decide +kernel
theorem dX11_cover_57 : decode cX11_cover 57 = .ok (.invokevirtual 118, 3) := by decide +kernel
theorem dX11_cover_60 : decode cX11_cover 60 = .ok (.iload_n 2, 1) := by decide +kernel
theorem dX11_cover_61 : decode cX11_cover 61 = .ok (.if_icmp .ne 28, 3) := by decide +kernel
theorem dX11_cover_64 : decode cX11_cover 64 = .ok (.aload_n 0, 1) := by decide +kernel
theorem dX11_cover_65 : decode cX11_cover 65 = .ok (.iload 5, 2) := by decide +kernel
theorem dX11_cover_67 : decode cX11_cover 67 = .ok (.invokevirtual 115, 3) := by decide +kernel
theorem dX11_cover_70 : decode cX11_cover 70 = .ok (.aload_n 0, 1) := by decide +kernel
theorem dX11_cover_71 : decode cX11_cover 71 = .ok (.getfield 19, 3) := by decide +kernel
theorem dX11_cover_74 : decode cX11_cover 74 = .ok (.bipush 24, 2) := by decide +kernel
theorem dX11_cover_76 : decode cX11_cover 76 = .ok (.iload_n 3, 1) := by decide +kernel
theorem dX11_cover_77 : decode cX11_cover 77 = .ok (.iadd, 1) := by decide +kernel
theorem dX11_cover_78 : decode cX11_cover 78 = .ok (.iaload, 1) := by decide +kernel
theorem dX11_cover_79 : decode cX11_cover 79 = .ok (.if_icmp .lt 10, 3) := by decide +kernel
theorem dX11_cover_82 : decode cX11_cover 82 = .ok (.iconst 1, 1) := by decide +kernel
theorem dX11_cover_83 : decode cX11_cover 83 = .ok (.iload 5, 2) := by decide +kernel
theorem dX11_cover_85 : decode cX11_cover 85 = .ok (.ishl, 1) := by decide +kernel
theorem dX11_cover_86 : decode cX11_cover 86 = .ok (.goto 4, 3) := by decide +kernel
theorem dX11_cover_89 : decode cX11_cover 89 = .ok (.iconst 0, 1) := by decide +kernel
theorem dX11_cover_90 : decode cX11_cover 90 = .ok (.ior, 1) := by decide +kernel
theorem dX11_cover_91 : decode cX11_cover 91 = .ok (.istore 4, 2) := by decide +kernel
theorem dX11_cover_93 : decode cX11_cover 93 = .ok (.iinc 5 1, 3) := by decide +kernel
theorem dX11_cover_96 : decode cX11_cover 96 = .ok (.goto (-64), 3) := by decide +kernel
theorem dX11_cover_99 : decode cX11_cover 99 = .ok (.iload 4, 2) := by decide +kernel
theorem dX11_cover_101 : decode cX11_cover 101 = .ok (.ireturn, 1) := by decide +kernel
theorem dX11_seen_0 : decode cX11_seen 0 = .ok (.aload_n 0, 1) := by decide +kernel
theorem dX11_seen_1 : decode cX11_seen 1 = .ok (.iload_n 1, 1) := by decide +kernel
theorem dX11_seen_2 : decode cX11_seen 2 = .ok (.invokevirtual 109, 3) := by decide +kernel
theorem dX11_seen_5 : decode cX11_seen 5 = .ok (.ifCond .eq 18, 3) := by decide +kernel
theorem dX11_seen_8 : decode cX11_seen 8 = .ok (.aload_n 0, 1) := by decide +kernel
theorem dX11_seen_9 : decode cX11_seen 9 = .ok (.iload_n 2, 1) := by decide +kernel
theorem dX11_seen_10 : decode cX11_seen 10 = .ok (.invokevirtual 112, 3) := by decide +kernel
theorem dX11_seen_13 : decode cX11_seen 13 = .ok (.ifCond .eq 10, 3) := by decide +kernel
theorem dX11_seen_16 : decode cX11_seen 16 = .ok (.iload_n 3, 1) := by decide +kernel
theorem dX11_seen_17 : decode cX11_seen 17 = .ok (.invokestatic 125, 3) := by decide +kernel
theorem dX11_seen_20 : decode cX11_seen 20 = .ok (.ifCond .ne 6, 3) := by decide +kernel
theorem dX11_seen_23 : decode cX11_seen 23 = .ok (.bipush (-2), 2) := by decide +kernel
theorem dX11_seen_25 : decode cX11_seen 25 = .ok (.ireturn, 1) := by decide +kernel
theorem dX11_seen_26 : decode cX11_seen 26 = .ok (.iload 4, 2) := by decide +kernel
theorem dX11_seen_28 : decode cX11_seen 28 = .ok (.iconst 0, 1) := by decide +kernel
theorem dX11_seen_29 : decode cX11_seen 29 = .ok (.iconst 1, 1) := by decide +kernel
theorem dX11_seen_30 : decode cX11_seen 30 = .ok (.invokestatic 41, 3) := by decide +kernel
theorem dX11_seen_33 : decode cX11_seen 33 = .ok (.ifCond .ne 6, 3) := by decide +kernel
theorem dX11_seen_36 : decode cX11_seen 36 = .ok (.bipush (-3), 2) := by decide +kernel
theorem dX11_seen_38 : decode cX11_seen 38 = .ok (.ireturn, 1) := by decide +kernel
theorem dX11_seen_39 : decode cX11_seen 39 = .ok (.aload_n 0, 1) := by decide +kernel
theorem dX11_seen_40 : decode cX11_seen 40 = .ok (.getfield 102, 3) := by decide +kernel
theorem dX11_seen_43 : decode cX11_seen 43 = .ok (.bipush 6, 2) := by decide +kernel
theorem dX11_seen_45 : decode cX11_seen 45 = .ok (.if_icmp .ne 6, 3) := by decide +kernel
theorem dX11_seen_48 : decode cX11_seen 48 = .ok (.bipush (-5), 2) := by decide +kernel
theorem dX11_seen_50 : decode cX11_seen 50 = .ok (.ireturn, 1) := by decide +kernel
theorem dX11_seen_51 : decode cX11_seen 51 = .ok (.aload_n 0, 1) := by decide +kernel
theorem dX11_seen_52 : decode cX11_seen 52 = .ok (.getfield 32, 3) := by decide +kernel
theorem dX11_seen_55 : decode cX11_seen 55 = .ok (.aload_n 0, 1) := by decide +kernel
theorem dX11_seen_56 : decode cX11_seen 56 = .ok (.getfield 102, 3) := by decide +kernel
theorem dX11_seen_59 : decode cX11_seen 59 = .ok (.sipush 1000, 3) := by decide +kernel
theorem dX11_seen_62 : decode cX11_seen 62 = .ok (.iload_n 1, 1) := by decide +kernel
theorem dX11_seen_63 : decode cX11_seen 63 = .ok (.imul, 1) := by decide +kernel
theorem dX11_seen_64 : decode cX11_seen 64 = .ok (.bipush 20, 2) := by decide +kernel
theorem dX11_seen_66 : decode cX11_seen 66 = .ok (.bipush 10, 2) := by decide +kernel
theorem dX11_seen_68 : decode cX11_seen 68 = .ok (.iload 4, 2) := by decide +kernel
theorem dX11_seen_70 : decode cX11_seen 70 = .ok (.imul, 1) := by decide +kernel
theorem dX11_seen_71 : decode cX11_seen 71 = .ok (.iload_n 3, 1) := by decide +kernel
theorem dX11_seen_72 : decode cX11_seen 72 = .ok (.iadd, 1) := by decide +kernel
theorem dX11_seen_73 : decode cX11_seen 73 = .ok (.imul, 1) := by decide +kernel
theorem dX11_seen_74 : decode cX11_seen 74 = .ok (.iadd, 1) := by decide +kernel
theorem dX11_seen_75 : decode cX11_seen 75 = .ok (.iload_n 2, 1) := by decide +kernel
theorem dX11_seen_76 : decode cX11_seen 76 = .ok (.iadd, 1) := by decide +kernel
theorem dX11_seen_77 : decode cX11_seen 77 = .ok (.iastore, 1) := by decide +kernel
theorem dX11_seen_78 : decode cX11_seen 78 = .ok (.aload_n 0, 1) := by decide +kernel
theorem dX11_seen_79 : decode cX11_seen 79 = .ok (.dup, 1) := by decide +kernel
theorem dX11_seen_80 : decode cX11_seen 80 = .ok (.getfield 102, 3) := by decide +kernel
theorem dX11_seen_83 : decode cX11_seen 83 = .ok (.iconst 1, 1) := by decide +kernel
theorem dX11_seen_84 : decode cX11_seen 84 = .ok (.iadd, 1) := by decide +kernel
theorem dX11_seen_85 : decode cX11_seen 85 = .ok (.putfield 102, 3) := by decide +kernel
theorem dX11_seen_88 : decode cX11_seen 88 = .ok (.aload_n 0, 1) := by decide +kernel
theorem dX11_seen_89 : decode cX11_seen 89 = .ok (.getfield 102, 3) := by decide +kernel
theorem dX11_seen_92 : decode cX11_seen 92 = .ok (.ireturn, 1) := by decide +kernel
theorem dX11_forget_0 : decode cX11_forget 0 = .ok (.aload_n 0, 1) := by decide +kernel
theorem dX11_forget_1 : decode cX11_forget 1 = .ok (.getfield 102, 3) := by decide +kernel
theorem dX11_forget_4 : decode cX11_forget 4 = .ok (.istore_n 1, 1) := by decide +kernel
theorem dX11_forget_5 : decode cX11_forget 5 = .ok (.aload_n 0, 1) := by decide +kernel
theorem dX11_forget_6 : decode cX11_forget 6 = .ok (.iconst 0, 1) := by decide +kernel
theorem dX11_forget_7 : decode cX11_forget 7 = .ok (.putfield 102, 3) := by decide +kernel
theorem dX11_forget_10 : decode cX11_forget 10 = .ok (.iload_n 1, 1) := by decide +kernel
theorem dX11_forget_11 : decode cX11_forget 11 = .ok (.ireturn, 1) := by decide +kernel
theorem dX11_isSo_0 : decode cX11_isSo 0 = .ok (.iconst 1, 1) := by decide +kernel
theorem dX11_isSo_1 : decode cX11_isSo 1 = .ok (.istore_n 1, 1) := by decide +kernel
theorem dX11_isSo_2 : decode cX11_isSo 2 = .ok (.iconst 0, 1) := by decide +kernel
theorem dX11_isSo_3 : decode cX11_isSo 3 = .ok (.istore_n 2, 1) := by decide +kernel
theorem dX11_isSo_4 : decode cX11_isSo 4 = .ok (.iload_n 2, 1) := by decide +kernel
theorem dX11_isSo_5 : decode cX11_isSo 5 = .ok (.aload_n 0, 1) := by decide +kernel
theorem dX11_isSo_6 : decode cX11_isSo 6 = .ok (.getfield 102, 3) := by decide +kernel
theorem dX11_isSo_9 : decode cX11_isSo 9 = .ok (.if_icmp .ge 74, 3) := by decide +kernel
theorem dX11_isSo_12 : decode cX11_isSo 12 = .ok (.aload_n 0, 1) := by decide +kernel
theorem dX11_isSo_13 : decode cX11_isSo 13 = .ok (.getfield 32, 3) := by decide +kernel
theorem dX11_isSo_16 : decode cX11_isSo 16 = .ok (.iload_n 2, 1) := by decide +kernel
theorem dX11_isSo_17 : decode cX11_isSo 17 = .ok (.iaload, 1) := by decide +kernel
theorem dX11_isSo_18 : decode cX11_isSo 18 = .ok (.sipush 1000, 3) := by decide +kernel
theorem dX11_isSo_21 : decode cX11_isSo 21 = .ok (.irem, 1) := by decide +kernel
theorem dX11_isSo_22 : decode cX11_isSo 22 = .ok (.bipush 20, 2) := by decide +kernel
theorem dX11_isSo_24 : decode cX11_isSo 24 = .ok (.idiv, 1) := by decide +kernel
theorem dX11_isSo_25 : decode cX11_isSo 25 = .ok (.istore_n 3, 1) := by decide +kernel
theorem dX11_isSo_26 : decode cX11_isSo 26 = .ok (.aload_n 0, 1) := by decide +kernel
theorem dX11_isSo_27 : decode cX11_isSo 27 = .ok (.aload_n 0, 1) := by decide +kernel
theorem dX11_isSo_28 : decode cX11_isSo 28 = .ok (.getfield 32, 3) := by decide +kernel
theorem dX11_isSo_31 : decode cX11_isSo 31 = .ok (.iload_n 2, 1) := by decide +kernel
theorem dX11_isSo_32 : decode cX11_isSo 32 = .ok (.iaload, 1) := by decide +kernel
theorem dX11_isSo_33 : decode cX11_isSo 33 = .ok (.sipush 1000, 3) := by decide +kernel
theorem dX11_isSo_36 : decode cX11_isSo 36 = .ok (.idiv, 1) := by decide +kernel
theorem dX11_isSo_37 : decode cX11_isSo 37 = .ok (.aload_n 0, 1) := by decide +kernel
theorem dX11_isSo_38 : decode cX11_isSo 38 = .ok (.getfield 32, 3) := by decide +kernel
theorem dX11_isSo_41 : decode cX11_isSo 41 = .ok (.iload_n 2, 1) := by decide +kernel
theorem dX11_isSo_42 : decode cX11_isSo 42 = .ok (.iaload, 1) := by decide +kernel
theorem dX11_isSo_43 : decode cX11_isSo 43 = .ok (.bipush 20, 2) := by decide +kernel
theorem dX11_isSo_45 : decode cX11_isSo 45 = .ok (.irem, 1) := by decide +kernel
theorem dX11_isSo_46 : decode cX11_isSo 46 = .ok (.invokevirtual 137, 3) := by decide +kernel
theorem dX11_isSo_49 : decode cX11_isSo 49 = .ok (.istore 4, 2) := by decide +kernel
theorem dX11_isSo_51 : decode cX11_isSo 51 = .ok (.iload_n 1, 1) := by decide +kernel
theorem dX11_isSo_52 : decode cX11_isSo 52 = .ok (.ifCond .eq 23, 3) := by decide +kernel
theorem dX11_isSo_55 : decode cX11_isSo 55 = .ok (.iload 4, 2) := by decide +kernel
theorem dX11_isSo_57 : decode cX11_isSo 57 = .ok (.iload_n 3, 1) := by decide +kernel
theorem dX11_isSo_58 : decode cX11_isSo 58 = .ok (.bipush 10, 2) := by decide +kernel
theorem dX11_isSo_60 : decode cX11_isSo 60 = .ok (.irem, 1) := by decide +kernel
theorem dX11_isSo_61 : decode cX11_isSo 61 = .ok (.ishr, 1) := by decide +kernel
theorem dX11_isSo_62 : decode cX11_isSo 62 = .ok (.iconst 1, 1) := by decide +kernel
theorem dX11_isSo_63 : decode cX11_isSo 63 = .ok (.iand, 1) := by decide +kernel
theorem dX11_isSo_64 : decode cX11_isSo 64 = .ok (.iload_n 3, 1) := by decide +kernel
theorem dX11_isSo_65 : decode cX11_isSo 65 = .ok (.bipush 10, 2) := by decide +kernel
theorem dX11_isSo_67 : decode cX11_isSo 67 = .ok (.idiv, 1) := by decide +kernel
theorem dX11_isSo_68 : decode cX11_isSo 68 = .ok (.if_icmp .ne 7, 3) := by decide +kernel
theorem dX11_isSo_71 : decode cX11_isSo 71 = .ok (.iconst 1, 1) := by decide +kernel
theorem dX11_isSo_72 : decode cX11_isSo 72 = .ok (.goto 4, 3) := by decide +kernel
theorem dX11_isSo_75 : decode cX11_isSo 75 = .ok (.iconst 0, 1) := by decide +kernel
theorem dX11_isSo_76 : decode cX11_isSo 76 = .ok (.istore_n 1, 1) := by decide +kernel
theorem dX11_isSo_77 : decode cX11_isSo 77 = .ok (.iinc 2 1, 3) := by decide +kernel
theorem dX11_isSo_80 : decode cX11_isSo 80 = .ok (.goto (-76), 3) := by decide +kernel
theorem dX11_isSo_83 : decode cX11_isSo 83 = .ok (.iload_n 1, 1) := by decide +kernel
theorem dX11_isSo_84 : decode cX11_isSo 84 = .ok (.ireturn, 1) := by decide +kernel
theorem dX11_said_0 : decode cX11_said 0 = .ok (.aload_n 0, 1) := by decide +kernel
theorem dX11_said_1 : decode cX11_said 1 = .ok (.iload_n 1, 1) := by decide +kernel
theorem dX11_said_2 : decode cX11_said 2 = .ok (.invokevirtual 109, 3) := by decide +kernel
theorem dX11_said_5 : decode cX11_said 5 = .ok (.ifCond .eq 10, 3) := by decide +kernel
theorem dX11_said_8 : decode cX11_said 8 = .ok (.iload_n 2, 1) := by decide +kernel
theorem dX11_said_9 : decode cX11_said 9 = .ok (.invokestatic 125, 3) := by decide +kernel
theorem dX11_said_12 : decode cX11_said 12 = .ok (.ifCond .ne 6, 3) := by decide +kernel
theorem dX11_said_15 : decode cX11_said 15 = .ok (.bipush (-2), 2) := by decide +kernel
theorem dX11_said_17 : decode cX11_said 17 = .ok (.ireturn, 1) := by decide +kernel
theorem dX11_said_18 : decode cX11_said 18 = .ok (.aload_n 0, 1) := by decide +kernel
theorem dX11_said_19 : decode cX11_said 19 = .ok (.invokevirtual 148, 3) := by decide +kernel
theorem dX11_said_22 : decode cX11_said 22 = .ok (.iconst 0, 1) := by decide +kernel
theorem dX11_said_23 : decode cX11_said 23 = .ok (.istore_n 3, 1) := by decide +kernel
theorem dX11_said_24 : decode cX11_said 24 = .ok (.iconst 0, 1) := by decide +kernel
theorem dX11_said_25 : decode cX11_said 25 = .ok (.istore 4, 2) := by decide +kernel
theorem dX11_said_27 : decode cX11_said 27 = .ok (.iload 4, 2) := by decide +kernel
theorem dX11_said_29 : decode cX11_said 29 = .ok (.aload_n 0, 1) := by decide +kernel
theorem dX11_said_30 : decode cX11_said 30 = .ok (.getfield 13, 3) := by decide +kernel
theorem dX11_said_33 : decode cX11_said 33 = .ok (.iconst 0, 1) := by decide +kernel
theorem dX11_said_34 : decode cX11_said 34 = .ok (.iaload, 1) := by decide +kernel
theorem dX11_said_35 : decode cX11_said 35 = .ok (.if_icmp .ge 39, 3) := by decide +kernel
theorem dX11_said_38 : decode cX11_said 38 = .ok (.aload_n 0, 1) := by decide +kernel
theorem dX11_said_39 : decode cX11_said 39 = .ok (.iload_n 1, 1) := by decide +kernel
theorem dX11_said_40 : decode cX11_said 40 = .ok (.iload 4, 2) := by decide +kernel
theorem dX11_said_42 : decode cX11_said 42 = .ok (.iload_n 2, 1) := by decide +kernel
theorem dX11_said_43 : decode cX11_said 43 = .ok (.invokevirtual 131, 3) := by decide +kernel
theorem dX11_said_46 : decode cX11_said 46 = .ok (.iload_n 3, 1) := by decide +kernel
theorem dX11_said_47 : decode cX11_said 47 = .ok (.aload_n 0, 1) := by decide +kernel
theorem dX11_said_48 : decode cX11_said 48 = .ok (.invokevirtual 157, 3) := by decide +kernel
theorem dX11_said_51 : decode cX11_said 51 = .ok (.ifCond .eq 10, 3) := by decide +kernel
theorem dX11_said_54 : decode cX11_said 54 = .ok (.iconst 1, 1) := by decide +kernel
theorem dX11_said_55 : decode cX11_said 55 = .ok (.iload 4, 2) := by decide +kernel
theorem dX11_said_57 : decode cX11_said 57 = .ok (.ishl, 1) := by decide +kernel
theorem dX11_said_58 : decode cX11_said 58 = .ok (.goto 4, 3) := by decide +kernel
theorem dX11_said_61 : decode cX11_said 61 = .ok (.iconst 0, 1) := by decide +kernel
theorem dX11_said_62 : decode cX11_said 62 = .ok (.ior, 1) := by decide +kernel
theorem dX11_said_63 : decode cX11_said 63 = .ok (.istore_n 3, 1) := by decide +kernel
theorem dX11_said_64 : decode cX11_said 64 = .ok (.aload_n 0, 1) := by decide +kernel
theorem dX11_said_65 : decode cX11_said 65 = .ok (.invokevirtual 154, 3) := by decide +kernel
theorem dX11_said_68 : decode cX11_said 68 = .ok (.iinc 4 1, 3) := by decide +kernel
theorem dX11_said_71 : decode cX11_said 71 = .ok (.goto (-44), 3) := by decide +kernel
theorem dX11_said_74 : decode cX11_said 74 = .ok (.iload_n 3, 1) := by decide +kernel
theorem dX11_said_75 : decode cX11_said 75 = .ok (.ireturn, 1) := by decide +kernel
theorem dX11_who_0 : decode cX11_who 0 = .ok (.aload_n 0, 1) := by decide +kernel
theorem dX11_who_1 : decode cX11_who 1 = .ok (.iload_n 1, 1) := by decide +kernel
theorem dX11_who_2 : decode cX11_who 2 = .ok (.invokevirtual 112, 3) := by decide +kernel
theorem dX11_who_5 : decode cX11_who 5 = .ok (.ifCond .eq 10, 3) := by decide +kernel
theorem dX11_who_8 : decode cX11_who 8 = .ok (.iload_n 2, 1) := by decide +kernel
theorem dX11_who_9 : decode cX11_who 9 = .ok (.invokestatic 125, 3) := by decide +kernel
theorem dX11_who_12 : decode cX11_who 12 = .ok (.ifCond .ne 6, 3) := by decide +kernel
theorem dX11_who_15 : decode cX11_who 15 = .ok (.bipush (-2), 2) := by decide +kernel
theorem dX11_who_17 : decode cX11_who 17 = .ok (.ireturn, 1) := by decide +kernel
theorem dX11_who_18 : decode cX11_who 18 = .ok (.aload_n 0, 1) := by decide +kernel
theorem dX11_who_19 : decode cX11_who 19 = .ok (.invokevirtual 148, 3) := by decide +kernel
theorem dX11_who_22 : decode cX11_who 22 = .ok (.iconst 0, 1) := by decide +kernel
theorem dX11_who_23 : decode cX11_who 23 = .ok (.istore_n 3, 1) := by decide +kernel
theorem dX11_who_24 : decode cX11_who 24 = .ok (.iconst 0, 1) := by decide +kernel
theorem dX11_who_25 : decode cX11_who 25 = .ok (.istore 4, 2) := by decide +kernel
theorem dX11_who_27 : decode cX11_who 27 = .ok (.iload 4, 2) := by decide +kernel
theorem dX11_who_29 : decode cX11_who 29 = .ok (.aload_n 0, 1) := by decide +kernel
theorem dX11_who_30 : decode cX11_who 30 = .ok (.getfield 13, 3) := by decide +kernel
theorem dX11_who_33 : decode cX11_who 33 = .ok (.iconst 1, 1) := by decide +kernel
theorem dX11_who_34 : decode cX11_who 34 = .ok (.iaload, 1) := by decide +kernel
theorem dX11_who_35 : decode cX11_who 35 = .ok (.if_icmp .ge 39, 3) := by decide +kernel
theorem dX11_who_38 : decode cX11_who 38 = .ok (.aload_n 0, 1) := by decide +kernel
theorem dX11_who_39 : decode cX11_who 39 = .ok (.iload 4, 2) := by decide +kernel
theorem dX11_who_41 : decode cX11_who 41 = .ok (.iload_n 1, 1) := by decide +kernel
theorem dX11_who_42 : decode cX11_who 42 = .ok (.iload_n 2, 1) := by decide +kernel
theorem dX11_who_43 : decode cX11_who 43 = .ok (.invokevirtual 131, 3) := by decide +kernel
theorem dX11_who_46 : decode cX11_who 46 = .ok (.iload_n 3, 1) := by decide +kernel
theorem dX11_who_47 : decode cX11_who 47 = .ok (.aload_n 0, 1) := by decide +kernel
theorem dX11_who_48 : decode cX11_who 48 = .ok (.invokevirtual 157, 3) := by decide +kernel
theorem dX11_who_51 : decode cX11_who 51 = .ok (.ifCond .eq 10, 3) := by decide +kernel
theorem dX11_who_54 : decode cX11_who 54 = .ok (.iconst 1, 1) := by decide +kernel
theorem dX11_who_55 : decode cX11_who 55 = .ok (.iload 4, 2) := by decide +kernel
theorem dX11_who_57 : decode cX11_who 57 = .ok (.ishl, 1) := by decide +kernel
theorem dX11_who_58 : decode cX11_who 58 = .ok (.goto 4, 3) := by decide +kernel
theorem dX11_who_61 : decode cX11_who 61 = .ok (.iconst 0, 1) := by decide +kernel
theorem dX11_who_62 : decode cX11_who 62 = .ok (.ior, 1) := by decide +kernel
theorem dX11_who_63 : decode cX11_who 63 = .ok (.istore_n 3, 1) := by decide +kernel
theorem dX11_who_64 : decode cX11_who 64 = .ok (.aload_n 0, 1) := by decide +kernel
theorem dX11_who_65 : decode cX11_who 65 = .ok (.invokevirtual 154, 3) := by decide +kernel
theorem dX11_who_68 : decode cX11_who 68 = .ok (.iinc 4 1, 3) := by decide +kernel
theorem dX11_who_71 : decode cX11_who 71 = .ok (.goto (-44), 3) := by decide +kernel
theorem dX11_who_74 : decode cX11_who 74 = .ok (.iload_n 3, 1) := by decide +kernel
theorem dX11_who_75 : decode cX11_who 75 = .ok (.ireturn, 1) := by decide +kernel
theorem dX11_palms_0 : decode cX11_palms 0 = .ok (.aload_n 0, 1) := by decide +kernel
theorem dX11_palms_1 : decode cX11_palms 1 = .ok (.iload_n 1, 1) := by decide +kernel
theorem dX11_palms_2 : decode cX11_palms 2 = .ok (.invokevirtual 112, 3) := by decide +kernel
theorem dX11_palms_5 : decode cX11_palms 5 = .ok (.ifCond .eq 12, 3) := by decide +kernel
theorem dX11_palms_8 : decode cX11_palms 8 = .ok (.iload_n 2, 1) := by decide +kernel
theorem dX11_palms_9 : decode cX11_palms 9 = .ok (.iconst 0, 1) := by decide +kernel
theorem dX11_palms_10 : decode cX11_palms 10 = .ok (.iconst 1, 1) := by decide +kernel
theorem dX11_palms_11 : decode cX11_palms 11 = .ok (.invokestatic 41, 3) := by decide +kernel
theorem dX11_palms_14 : decode cX11_palms 14 = .ok (.ifCond .ne 6, 3) := by decide +kernel
theorem dX11_palms_17 : decode cX11_palms 17 = .ok (.bipush (-2), 2) := by decide +kernel
theorem dX11_palms_19 : decode cX11_palms 19 = .ok (.ireturn, 1) := by decide +kernel
theorem dX11_palms_20 : decode cX11_palms 20 = .ok (.iload_n 3, 1) := by decide +kernel
theorem dX11_palms_21 : decode cX11_palms 21 = .ok (.iconst 0, 1) := by decide +kernel
theorem dX11_palms_22 : decode cX11_palms 22 = .ok (.bipush 6, 2) := by decide +kernel
theorem dX11_palms_24 : decode cX11_palms 24 = .ok (.invokestatic 41, 3) := by decide +kernel
theorem dX11_palms_27 : decode cX11_palms 27 = .ok (.ifCond .eq 24, 3) := by decide +kernel
theorem dX11_palms_30 : decode cX11_palms 30 = .ok (.iload 4, 2) := by decide +kernel
theorem dX11_palms_32 : decode cX11_palms 32 = .ok (.iconst 0, 1) := by decide +kernel
theorem dX11_palms_33 : decode cX11_palms 33 = .ok (.bipush 10, 2) := by decide +kernel
theorem dX11_palms_35 : decode cX11_palms 35 = .ok (.invokestatic 41, 3) := by decide +kernel
theorem dX11_palms_38 : decode cX11_palms 38 = .ok (.ifCond .eq 13, 3) := by decide +kernel
theorem dX11_palms_41 : decode cX11_palms 41 = .ok (.iload 5, 2) := by decide +kernel
theorem dX11_palms_43 : decode cX11_palms 43 = .ok (.iconst 0, 1) := by decide +kernel
theorem dX11_palms_44 : decode cX11_palms 44 = .ok (.iconst 1, 1) := by decide +kernel
theorem dX11_palms_45 : decode cX11_palms 45 = .ok (.invokestatic 41, 3) := by decide +kernel
theorem dX11_palms_48 : decode cX11_palms 48 = .ok (.ifCond .ne 6, 3) := by decide +kernel
theorem dX11_palms_51 : decode cX11_palms 51 = .ok (.bipush (-3), 2) := by decide +kernel
theorem dX11_palms_53 : decode cX11_palms 53 = .ok (.ireturn, 1) := by decide +kernel
theorem dX11_palms_54 : decode cX11_palms 54 = .ok (.aload_n 0, 1) := by decide +kernel
theorem dX11_palms_55 : decode cX11_palms 55 = .ok (.getfield 19, 3) := by decide +kernel
theorem dX11_palms_58 : decode cX11_palms 58 = .ok (.bipush 24, 2) := by decide +kernel
theorem dX11_palms_60 : decode cX11_palms 60 = .ok (.iconst 2, 1) := by decide +kernel
theorem dX11_palms_61 : decode cX11_palms 61 = .ok (.iload_n 1, 1) := by decide +kernel
theorem dX11_palms_62 : decode cX11_palms 62 = .ok (.imul, 1) := by decide +kernel
theorem dX11_palms_63 : decode cX11_palms 63 = .ok (.iadd, 1) := by decide +kernel
theorem dX11_palms_64 : decode cX11_palms 64 = .ok (.iload_n 2, 1) := by decide +kernel
