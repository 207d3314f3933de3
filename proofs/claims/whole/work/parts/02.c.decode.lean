theorem dX10_cover_103 : decode cX10_cover 103 = .ok (.iinc 5 1, 3) := by decide +kernel
theorem dX10_cover_106 : decode cX10_cover 106 = .ok (.goto (-52), 3) := by decide +kernel
theorem dX10_cover_109 : decode cX10_cover 109 = .ok (.iload 4, 2) := by decide +kernel
theorem dX10_cover_111 : decode cX10_cover 111 = .ok (.ireturn, 1) := by decide +kernel
theorem dX10_seen_0 : decode cX10_seen 0 = .ok (.aload_n 0, 1) := by decide +kernel
theorem dX10_seen_1 : decode cX10_seen 1 = .ok (.iload_n 1, 1) := by decide +kernel
theorem dX10_seen_2 : decode cX10_seen 2 = .ok (.invokevirtual 88, 3) := by decide +kernel
theorem dX10_seen_5 : decode cX10_seen 5 = .ok (.astore 5, 2) := by decide +kernel
theorem dX10_seen_7 : decode cX10_seen 7 = .ok (.aload 5, 2) := by decide +kernel
theorem dX10_seen_9 : decode cX10_seen 9 = .ok (.ifnull 18, 3) := by decide +kernel
theorem dX10_seen_12 : decode cX10_seen 12 = .ok (.aload_n 0, 1) := by decide +kernel
theorem dX10_seen_13 : decode cX10_seen 13 = .ok (.iload_n 2, 1) := by decide +kernel
theorem dX10_seen_14 : decode cX10_seen 14 = .ok (.invokevirtual 103, 3) := by decide +kernel
theorem dX10_seen_17 : decode cX10_seen 17 = .ok (.ifCond .eq 10, 3) := by decide +kernel
theorem dX10_seen_20 : decode cX10_seen 20 = .ok (.iload_n 3, 1) := by decide +kernel
theorem dX10_seen_21 : decode cX10_seen 21 = .ok (.invokestatic 126, 3) := by decide +kernel
theorem dX10_seen_24 : decode cX10_seen 24 = .ok (.ifCond .ne 6, 3) := by decide +kernel
theorem dX10_seen_27 : decode cX10_seen 27 = .ok (.bipush (-2), 2) := by decide +kernel
theorem dX10_seen_29 : decode cX10_seen 29 = .ok (.ireturn, 1) := by decide +kernel
theorem dX10_seen_30 : decode cX10_seen 30 = .ok (.iload 4, 2) := by decide +kernel
theorem dX10_seen_32 : decode cX10_seen 32 = .ok (.ifCond .lt 9, 3) := by decide +kernel
theorem dX10_seen_35 : decode cX10_seen 35 = .ok (.iload 4, 2) := by decide +kernel
theorem dX10_seen_37 : decode cX10_seen 37 = .ok (.iconst 1, 1) := by decide +kernel
theorem dX10_seen_38 : decode cX10_seen 38 = .ok (.if_icmp .le 6, 3) := by decide +kernel
theorem dX10_seen_41 : decode cX10_seen 41 = .ok (.bipush (-3), 2) := by decide +kernel
theorem dX10_seen_43 : decode cX10_seen 43 = .ok (.ireturn, 1) := by decide +kernel
theorem dX10_seen_44 : decode cX10_seen 44 = .ok (.aload_n 0, 1) := by decide +kernel
theorem dX10_seen_45 : decode cX10_seen 45 = .ok (.getfield 57, 3) := by decide +kernel
theorem dX10_seen_48 : decode cX10_seen 48 = .ok (.getfield 185, 3) := by decide +kernel
theorem dX10_seen_51 : decode cX10_seen 51 = .ok (.bipush 6, 2) := by decide +kernel
theorem dX10_seen_53 : decode cX10_seen 53 = .ok (.if_icmp .lt 6, 3) := by decide +kernel
theorem dX10_seen_56 : decode cX10_seen 56 = .ok (.bipush (-5), 2) := by decide +kernel
theorem dX10_seen_58 : decode cX10_seen 58 = .ok (.ireturn, 1) := by decide +kernel
theorem dX10_seen_59 : decode cX10_seen 59 = .ok (.aload_n 0, 1) := by decide +kernel
theorem dX10_seen_60 : decode cX10_seen 60 = .ok (.getfield 57, 3) := by decide +kernel
theorem dX10_seen_63 : decode cX10_seen 63 = .ok (.aload 5, 2) := by decide +kernel
theorem dX10_seen_65 : decode cX10_seen 65 = .ok (.iload_n 2, 1) := by decide +kernel
theorem dX10_seen_66 : decode cX10_seen 66 = .ok (.iload_n 3, 1) := by decide +kernel
theorem dX10_seen_67 : decode cX10_seen 67 = .ok (.iload 4, 2) := by decide +kernel
theorem dX10_seen_69 : decode cX10_seen 69 = .ok (.invokevirtual 186, 3) := by decide +kernel
theorem dX10_seen_72 : decode cX10_seen 72 = .ok (.aload_n 0, 1) := by decide +kernel
theorem dX10_seen_73 : decode cX10_seen 73 = .ok (.getfield 57, 3) := by decide +kernel
theorem dX10_seen_76 : decode cX10_seen 76 = .ok (.getfield 185, 3) := by decide +kernel
theorem dX10_seen_79 : decode cX10_seen 79 = .ok (.ireturn, 1) := by decide +kernel
theorem dX10_forget_0 : decode cX10_forget 0 = .ok (.aload_n 0, 1) := by decide +kernel
theorem dX10_forget_1 : decode cX10_forget 1 = .ok (.getfield 57, 3) := by decide +kernel
theorem dX10_forget_4 : decode cX10_forget 4 = .ok (.getfield 185, 3) := by decide +kernel
theorem dX10_forget_7 : decode cX10_forget 7 = .ok (.istore_n 1, 1) := by decide +kernel
theorem dX10_forget_8 : decode cX10_forget 8 = .ok (.aload_n 0, 1) := by decide +kernel
theorem dX10_forget_9 : decode cX10_forget 9 = .ok (.getfield 57, 3) := by decide +kernel
theorem dX10_forget_12 : decode cX10_forget 12 = .ok (.iconst 0, 1) := by decide +kernel
theorem dX10_forget_13 : decode cX10_forget 13 = .ok (.putfield 185, 3) := by decide +kernel
theorem dX10_forget_16 : decode cX10_forget 16 = .ok (.iload_n 1, 1) := by decide +kernel
theorem dX10_forget_17 : decode cX10_forget 17 = .ok (.ireturn, 1) := by decide +kernel
theorem dX10_said_0 : decode cX10_said 0 = .ok (.aload_n 0, 1) := by decide +kernel
theorem dX10_said_1 : decode cX10_said 1 = .ok (.iload_n 1, 1) := by decide +kernel
theorem dX10_said_2 : decode cX10_said 2 = .ok (.invokevirtual 88, 3) := by decide +kernel
theorem dX10_said_5 : decode cX10_said 5 = .ok (.astore_n 3, 1) := by decide +kernel
theorem dX10_said_6 : decode cX10_said 6 = .ok (.aload_n 3, 1) := by decide +kernel
theorem dX10_said_7 : decode cX10_said 7 = .ok (.ifnull 10, 3) := by decide +kernel
theorem dX10_said_10 : decode cX10_said 10 = .ok (.iload_n 2, 1) := by decide +kernel
theorem dX10_said_11 : decode cX10_said 11 = .ok (.invokestatic 126, 3) := by decide +kernel
theorem dX10_said_14 : decode cX10_said 14 = .ok (.ifCond .ne 6, 3) := by decide +kernel
theorem dX10_said_17 : decode cX10_said 17 = .ok (.bipush (-2), 2) := by decide +kernel
theorem dX10_said_19 : decode cX10_said 19 = .ok (.ireturn, 1) := by decide +kernel
theorem dX10_said_20 : decode cX10_said 20 = .ok (.iconst 0, 1) := by decide +kernel
theorem dX10_said_21 : decode cX10_said 21 = .ok (.istore 4, 2) := by decide +kernel
theorem dX10_said_23 : decode cX10_said 23 = .ok (.iconst 0, 1) := by decide +kernel
theorem dX10_said_24 : decode cX10_said 24 = .ok (.istore 5, 2) := by decide +kernel
theorem dX10_said_26 : decode cX10_said 26 = .ok (.iload 5, 2) := by decide +kernel
theorem dX10_said_28 : decode cX10_said 28 = .ok (.aload_n 0, 1) := by decide +kernel
theorem dX10_said_29 : decode cX10_said 29 = .ok (.getfield 61, 3) := by decide +kernel
theorem dX10_said_32 : decode cX10_said 32 = .ok (.if_icmp .ge 29, 3) := by decide +kernel
theorem dX10_said_35 : decode cX10_said 35 = .ok (.aload_n 0, 1) := by decide +kernel
theorem dX10_said_36 : decode cX10_said 36 = .ok (.aload_n 3, 1) := by decide +kernel
theorem dX10_said_37 : decode cX10_said 37 = .ok (.iload 5, 2) := by decide +kernel
theorem dX10_said_39 : decode cX10_said 39 = .ok (.iload_n 2, 1) := by decide +kernel
theorem dX10_said_40 : decode cX10_said 40 = .ok (.invokevirtual 189, 3) := by decide +kernel
theorem dX10_said_43 : decode cX10_said 43 = .ok (.ifCond .eq 12, 3) := by decide +kernel
theorem dX10_said_46 : decode cX10_said 46 = .ok (.iload 4, 2) := by decide +kernel
theorem dX10_said_48 : decode cX10_said 48 = .ok (.iconst 1, 1) := by decide +kernel
theorem dX10_said_49 : decode cX10_said 49 = .ok (.iload 5, 2) := by decide +kernel
theorem dX10_said_51 : decode cX10_said 51 = .ok (.ishl, 1) := by decide +kernel
theorem dX10_said_52 : decode cX10_said 52 = .ok (.ior, 1) := by decide +kernel
theorem dX10_said_53 : decode cX10_said 53 = .ok (.istore 4, 2) := by decide +kernel
theorem dX10_said_55 : decode cX10_said 55 = .ok (.iinc 5 1, 3) := by decide +kernel
theorem dX10_said_58 : decode cX10_said 58 = .ok (.goto (-32), 3) := by decide +kernel
theorem dX10_said_61 : decode cX10_said 61 = .ok (.iload 4, 2) := by decide +kernel
theorem dX10_said_63 : decode cX10_said 63 = .ok (.ireturn, 1) := by decide +kernel
theorem dX10_who_0 : decode cX10_who 0 = .ok (.aload_n 0, 1) := by decide +kernel
theorem dX10_who_1 : decode cX10_who 1 = .ok (.iload_n 1, 1) := by decide +kernel
theorem dX10_who_2 : decode cX10_who 2 = .ok (.invokevirtual 103, 3) := by decide +kernel
theorem dX10_who_5 : decode cX10_who 5 = .ok (.ifCond .eq 10, 3) := by decide +kernel
theorem dX10_who_8 : decode cX10_who 8 = .ok (.iload_n 2, 1) := by decide +kernel
theorem dX10_who_9 : decode cX10_who 9 = .ok (.invokestatic 126, 3) := by decide +kernel
theorem dX10_who_12 : decode cX10_who 12 = .ok (.ifCond .ne 6, 3) := by decide +kernel
theorem dX10_who_15 : decode cX10_who 15 = .ok (.bipush (-2), 2) := by decide +kernel
theorem dX10_who_17 : decode cX10_who 17 = .ok (.ireturn, 1) := by decide +kernel
theorem dX10_who_18 : decode cX10_who 18 = .ok (.iconst 0, 1) := by decide +kernel
theorem dX10_who_19 : decode cX10_who 19 = .ok (.istore_n 3, 1) := by decide +kernel
theorem dX10_who_20 : decode cX10_who 20 = .ok (.iconst 0, 1) := by decide +kernel
theorem dX10_who_21 : decode cX10_who 21 = .ok (.istore 4, 2) := by decide +kernel
theorem dX10_who_23 : decode cX10_who 23 = .ok (.iload 4, 2) := by decide +kernel
theorem dX10_who_25 : decode cX10_who 25 = .ok (.aload_n 0, 1) := by decide +kernel
theorem dX10_who_26 : decode cX10_who 26 = .ok (.getfield 72, 3) := by decide +kernel
theorem dX10_who_29 : decode cX10_who 29 = .ok (.if_icmp .ge 40, 3) := by decide +kernel
theorem dX10_who_32 : decode cX10_who 32 = .ok (.aload_n 0, 1) := by decide +kernel
theorem dX10_who_33 : decode cX10_who 33 = .ok (.iload 4, 2) := by decide +kernel
theorem dX10_who_35 : decode cX10_who 35 = .ok (.invokevirtual 88, 3) := by decide +kernel
theorem dX10_who_38 : decode cX10_who 38 = .ok (.astore 5, 2) := by decide +kernel
theorem dX10_who_40 : decode cX10_who 40 = .ok (.aload 5, 2) := by decide +kernel
theorem dX10_who_42 : decode cX10_who 42 = .ok (.ifnull 21, 3) := by decide +kernel
theorem dX10_who_45 : decode cX10_who 45 = .ok (.aload_n 0, 1) := by decide +kernel
theorem dX10_who_46 : decode cX10_who 46 = .ok (.aload 5, 2) := by decide +kernel
theorem dX10_who_48 : decode cX10_who 48 = .ok (.iload_n 1, 1) := by decide +kernel
theorem dX10_who_49 : decode cX10_who 49 = .ok (.iload_n 2, 1) := by decide +kernel
theorem dX10_who_50 : decode cX10_who 50 = .ok (.invokevirtual 189, 3) := by decide +kernel
theorem dX10_who_53 : decode cX10_who 53 = .ok (.ifCond .eq 10, 3) := by decide +kernel
theorem dX10_who_56 : decode cX10_who 56 = .ok (.iload_n 3, 1) := by decide +kernel
theorem dX10_who_57 : decode cX10_who 57 = .ok (.iconst 1, 1) := by decide +kernel
theorem dX10_who_58 : decode cX10_who 58 = .ok (.iload 4, 2) := by decide +kernel
theorem dX10_who_60 : decode cX10_who 60 = .ok (.ishl, 1) := by decide +kernel
theorem dX10_who_61 : decode cX10_who 61 = .ok (.ior, 1) := by decide +kernel
theorem dX10_who_62 : decode cX10_who 62 = .ok (.istore_n 3, 1) := by decide +kernel
theorem dX10_who_63 : decode cX10_who 63 = .ok (.iinc 4 1, 3) := by decide +kernel
theorem dX10_who_66 : decode cX10_who 66 = .ok (.goto (-43), 3) := by decide +kernel
theorem dX10_who_69 : decode cX10_who 69 = .ok (.iload_n 3, 1) := by decide +kernel
theorem dX10_who_70 : decode cX10_who 70 = .ok (.ireturn, 1) := by decide +kernel
theorem dX10_palms_0 : decode cX10_palms 0 = .ok (.aload_n 0, 1) := by decide +kernel
theorem dX10_palms_1 : decode cX10_palms 1 = .ok (.iload_n 1, 1) := by decide +kernel
theorem dX10_palms_2 : decode cX10_palms 2 = .ok (.invokevirtual 103, 3) := by decide +kernel
theorem dX10_palms_5 : decode cX10_palms 5 = .ok (.ifCond .eq 10, 3) := by decide +kernel
theorem dX10_palms_8 : decode cX10_palms 8 = .ok (.iload_n 2, 1) := by decide +kernel
theorem dX10_palms_9 : decode cX10_palms 9 = .ok (.invokestatic 107, 3) := by decide +kernel
theorem dX10_palms_12 : decode cX10_palms 12 = .ok (.ifCond .ne 6, 3) := by decide +kernel
theorem dX10_palms_15 : decode cX10_palms 15 = .ok (.bipush (-2), 2) := by decide +kernel
theorem dX10_palms_17 : decode cX10_palms 17 = .ok (.ireturn, 1) := by decide +kernel
theorem dX10_palms_18 : decode cX10_palms 18 = .ok (.iload_n 3, 1) := by decide +kernel
theorem dX10_palms_19 : decode cX10_palms 19 = .ok (.ifCond .lt 32, 3) := by decide +kernel
theorem dX10_palms_22 : decode cX10_palms 22 = .ok (.iload_n 3, 1) := by decide +kernel
theorem dX10_palms_23 : decode cX10_palms 23 = .ok (.bipush 6, 2) := by decide +kernel
theorem dX10_palms_25 : decode cX10_palms 25 = .ok (.if_icmp .gt 26, 3) := by decide +kernel
theorem dX10_palms_28 : decode cX10_palms 28 = .ok (.iload 4, 2) := by decide +kernel
theorem dX10_palms_30 : decode cX10_palms 30 = .ok (.ifCond .lt 21, 3) := by decide +kernel
theorem dX10_palms_33 : decode cX10_palms 33 = .ok (.iload 4, 2) := by decide +kernel
theorem dX10_palms_35 : decode cX10_palms 35 = .ok (.bipush 10, 2) := by decide +kernel
theorem dX10_palms_37 : decode cX10_palms 37 = .ok (.if_icmp .gt 14, 3) := by decide +kernel
theorem dX10_palms_40 : decode cX10_palms 40 = .ok (.iload 5, 2) := by decide +kernel
theorem dX10_palms_42 : decode cX10_palms 42 = .ok (.ifCond .lt 9, 3) := by decide +kernel
theorem dX10_palms_45 : decode cX10_palms 45 = .ok (.iload 5, 2) := by decide +kernel
theorem dX10_palms_47 : decode cX10_palms 47 = .ok (.iconst 1, 1) := by decide +kernel
theorem dX10_palms_48 : decode cX10_palms 48 = .ok (.if_icmp .le 6, 3) := by decide +kernel
theorem dX10_palms_51 : decode cX10_palms 51 = .ok (.bipush (-3), 2) := by decide +kernel
theorem dX10_palms_53 : decode cX10_palms 53 = .ok (.ireturn, 1) := by decide +kernel
theorem dX10_palms_54 : decode cX10_palms 54 = .ok (.aload_n 0, 1) := by decide +kernel
theorem dX10_palms_55 : decode cX10_palms 55 = .ok (.getfield 35, 3) := by decide +kernel
theorem dX10_palms_58 : decode cX10_palms 58 = .ok (.getfield 113, 3) := by decide +kernel
theorem dX10_palms_61 : decode cX10_palms 61 = .ok (.iload_n 1, 1) := by decide +kernel
theorem dX10_palms_62 : decode cX10_palms 62 = .ok (.iload_n 2, 1) := by decide +kernel
theorem dX10_palms_63 : decode cX10_palms 63 = .ok (.invokevirtual 116, 3) := by decide +kernel
theorem dX10_palms_66 : decode cX10_palms 66 = .ok (.iload_n 3, 1) := by decide +kernel
theorem dX10_palms_67 : decode cX10_palms 67 = .ok (.isub, 1) := by decide +kernel
theorem dX10_palms_68 : decode cX10_palms 68 = .ok (.iconst 1, 1) := by decide +kernel
theorem dX10_palms_69 : decode cX10_palms 69 = .ok (.isub, 1) := by decide +kernel
theorem dX10_palms_70 : decode cX10_palms 70 = .ok (.istore 6, 2) := by decide +kernel
theorem dX10_palms_72 : decode cX10_palms 72 = .ok (.bipush 10, 2) := by decide +kernel
theorem dX10_palms_74 : decode cX10_palms 74 = .ok (.iload_n 3, 1) := by decide +kernel
theorem dX10_palms_75 : decode cX10_palms 75 = .ok (.invokestatic 193, 3) := by decide +kernel
theorem dX10_palms_78 : decode cX10_palms 78 = .ok (.istore 7, 2) := by decide +kernel
theorem dX10_palms_80 : decode cX10_palms 80 = .ok (.iload 6, 2) := by decide +kernel
theorem dX10_palms_82 : decode cX10_palms 82 = .ok (.iload_n 3, 1) := by decide +kernel
theorem dX10_palms_83 : decode cX10_palms 83 = .ok (.iload 4, 2) := by decide +kernel
theorem dX10_palms_85 : decode cX10_palms 85 = .ok (.invokestatic 196, 3) := by decide +kernel
theorem dX10_palms_88 : decode cX10_palms 88 = .ok (.istore 8, 2) := by decide +kernel
theorem dX10_palms_90 : decode cX10_palms 90 = .ok (.iload 7, 2) := by decide +kernel
theorem dX10_palms_92 : decode cX10_palms 92 = .ok (.iload 8, 2) := by decide +kernel
theorem dX10_palms_94 : decode cX10_palms 94 = .ok (.invokestatic 200, 3) := by decide +kernel
theorem dX10_palms_97 : decode cX10_palms 97 = .ok (.istore 9, 2) := by decide +kernel
theorem dX10_palms_99 : decode cX10_palms 99 = .ok (.iload 5, 2) := by decide +kernel
theorem dX10_palms_101 : decode cX10_palms 101 = .ok (.ifCond .ne 8, 3) := by decide +kernel
theorem dX10_palms_104 : decode cX10_palms 104 = .ok (.iload 8, 2) := by decide +kernel
theorem dX10_palms_106 : decode cX10_palms 106 = .ok (.goto 5, 3) := by decide +kernel
theorem dX10_palms_109 : decode cX10_palms 109 = .ok (.iload 7, 2) := by decide +kernel
theorem dX10_palms_111 : decode cX10_palms 111 = .ok (.iload 9, 2) := by decide +kernel
theorem dX10_palms_113 : decode cX10_palms 113 = .ok (.idiv, 1) := by decide +kernel
theorem dX10_palms_114 : decode cX10_palms 114 = .ok (.ireturn, 1) := by decide +kernel
theorem dX10_count_0 : decode cX10_count 0 = .ok (.iload_n 1, 1) := by decide +kernel
theorem dX10_count_1 : decode cX10_count 1 = .ok (.tableswitch 138 0 9 #[55, 60, 65, 73, 84, 95, 103, 114, 122, 130], 55) := by decide +kernel
theorem dX10_count_56 : decode cX10_count 56 = .ok (.aload_n 0, 1) := by decide +kernel
theorem dX10_count_57 : decode cX10_count 57 = .ok (.getfield 61, 3) := by decide +kernel
theorem dX10_count_60 : decode cX10_count 60 = .ok (.ireturn, 1) := by decide +kernel
theorem dX10_count_61 : decode cX10_count 61 = .ok (.aload_n 0, 1) := by decide +kernel
theorem dX10_count_62 : decode cX10_count 62 = .ok (.getfield 72, 3) := by decide +kernel
theorem dX10_count_65 : decode cX10_count 65 = .ok (.ireturn, 1) := by decide +kernel
theorem dX10_count_66 : decode cX10_count 66 = .ok (.aload_n 0, 1) := by decide +kernel
theorem dX10_count_67 : decode cX10_count 67 = .ok (.getfield 35, 3) := by decide +kernel
theorem dX10_count_70 : decode cX10_count 70 = .ok (.getfield 155, 3) := by decide +kernel
theorem dX10_count_73 : decode cX10_count 73 = .ok (.ireturn, 1) := by decide +kernel
theorem dX10_count_74 : decode cX10_count 74 = .ok (.aload_n 0, 1) := by decide +kernel
theorem dX10_count_75 : decode cX10_count 75 = .ok (.getfield 35, 3) := by decide +kernel
theorem dX10_count_78 : decode cX10_count 78 = .ok (.getfield 113, 3) := by decide +kernel
theorem dX10_count_81 : decode cX10_count 81 = .ok (.invokevirtual 203, 3) := by decide +kernel
theorem dX10_count_84 : decode cX10_count 84 = .ok (.ireturn, 1) := by decide +kernel
theorem dX10_count_85 : decode cX10_count 85 = .ok (.aload_n 0, 1) := by decide +kernel
theorem dX10_count_86 : decode cX10_count 86 = .ok (.getfield 35, 3) := by decide +kernel
theorem dX10_count_89 : decode cX10_count 89 = .ok (.getfield 113, 3) := by decide +kernel
theorem dX10_count_92 : decode cX10_count 92 = .ok (.invokevirtual 206, 3) := by decide +kernel
theorem dX10_count_95 : decode cX10_count 95 = .ok (.ireturn, 1) := by decide +kernel
theorem dX10_count_96 : decode cX10_count 96 = .ok (.aload_n 0, 1) := by decide +kernel
theorem dX10_count_97 : decode cX10_count 97 = .ok (.getfield 35, 3) := by decide +kernel
theorem dX10_count_100 : decode cX10_count 100 = .ok (.invokevirtual 209, 3) := by decide +kernel
theorem dX10_count_103 : decode cX10_count 103 = .ok (.ireturn, 1) := by decide +kernel
theorem dX10_count_104 : decode cX10_count 104 = .ok (.aload_n 0, 1) := by decide +kernel
theorem dX10_count_105 : decode cX10_count 105 = .ok (.getfield 35, 3) := by decide +kernel
theorem dX10_count_108 : decode cX10_count 108 = .ok (.getfield 113, 3) := by decide +kernel
theorem dX10_count_111 : decode cX10_count 111 = .ok (.invokevirtual 212, 3) := by decide +kernel
theorem dX10_count_114 : decode cX10_count 114 = .ok (.ireturn, 1) := by decide +kernel
theorem dX10_count_115 : decode cX10_count 115 = .ok (.aload_n 0, 1) := by decide +kernel
theorem dX10_count_116 : decode cX10_count 116 = .ok (.getfield 57, 3) := by decide +kernel
theorem dX10_count_119 : decode cX10_count 119 = .ok (.getfield 185, 3) := by decide +kernel
theorem dX10_count_122 : decode cX10_count 122 = .ok (.ireturn, 1) := by decide +kernel
theorem dX10_count_123 : decode cX10_count 123 = .ok (.aload_n 0, 1) := by decide +kernel
theorem dX10_count_124 : decode cX10_count 124 = .ok (.getfield 42, 3) := by decide +kernel
theorem dX10_count_127 : decode cX10_count 127 = .ok (.getfield 161, 3) := by decide +kernel
theorem dX10_count_130 : decode cX10_count 130 = .ok (.ireturn, 1) := by decide +kernel
theorem dX10_count_131 : decode cX10_count 131 = .ok (.aload_n 0, 1) := by decide +kernel
theorem dX10_count_132 : decode cX10_count 132 = .ok (.getfield 12, 3) := by decide +kernel
theorem dX10_count_135 : decode cX10_count 135 = .ok (.getfield 65, 3) := by decide +kernel
theorem dX10_count_138 : decode cX10_count 138 = .ok (.ireturn, 1) := by decide +kernel
theorem dX10_count_139 : decode cX10_count 139 = .ok (.bipush (-3), 2) := by decide +kernel
theorem dX10_count_141 : decode cX10_count 141 = .ok (.ireturn, 1) := by decide +kernel
theorem dX10_isStep_0 : decode cX10_isStep 0 = .ok (.iload_n 1, 1) := by decide +kernel
theorem dX10_isStep_1 : decode cX10_isStep 1 = .ok (.ifCond .lt 15, 3) := by decide +kernel
theorem dX10_isStep_4 : decode cX10_isStep 4 = .ok (.iload_n 1, 1) := by decide +kernel
theorem dX10_isStep_5 : decode cX10_isStep 5 = .ok (.aload_n 0, 1) := by decide +kernel
theorem dX10_isStep_6 : decode cX10_isStep 6 = .ok (.getfield 61, 3) := by decide +kernel
theorem dX10_isStep_9 : decode cX10_isStep 9 = .ok (.if_icmp .ge 7, 3) := by decide +kernel
theorem dX10_isStep_12 : decode cX10_isStep 12 = .ok (.iconst 1, 1) := by decide +kernel
theorem dX10_isStep_13 : decode cX10_isStep 13 = .ok (.goto 4, 3) := by decide +kernel
theorem dX10_isStep_16 : decode cX10_isStep 16 = .ok (.iconst 0, 1) := by decide +kernel
theorem dX10_isStep_17 : decode cX10_isStep 17 = .ok (.ireturn, 1) := by decide +kernel
theorem dX10_isHeight_0 : decode cX10_isHeight 0 = .ok (.iload_n 0, 1) := by decide +kernel
theorem dX10_isHeight_1 : decode cX10_isHeight 1 = .ok (.ifCond .eq 8, 3) := by decide +kernel
theorem dX10_isHeight_4 : decode cX10_isHeight 4 = .ok (.iload_n 0, 1) := by decide +kernel
theorem dX10_isHeight_5 : decode cX10_isHeight 5 = .ok (.iconst 1, 1) := by decide +kernel
theorem dX10_isHeight_6 : decode cX10_isHeight 6 = .ok (.if_icmp .ne 7, 3) := by decide +kernel
theorem dX10_isHeight_9 : decode cX10_isHeight 9 = .ok (.iconst 1, 1) := by decide +kernel
theorem dX10_isHeight_10 : decode cX10_isHeight 10 = .ok (.goto 4, 3) := by decide +kernel
theorem dX10_isHeight_13 : decode cX10_isHeight 13 = .ok (.iconst 0, 1) := by decide +kernel
theorem dX10_isHeight_14 : decode cX10_isHeight 14 = .ok (.ireturn, 1) := by decide +kernel
theorem dX10_isSaying_0 : decode cX10_isSaying 0 = .ok (.iload_n 0, 1) := by decide +kernel
theorem dX10_isSaying_1 : decode cX10_isSaying 1 = .ok (.iconst 1, 1) := by decide +kernel
theorem dX10_isSaying_2 : decode cX10_isSaying 2 = .ok (.if_icmp .lt 13, 3) := by decide +kernel
theorem dX10_isSaying_5 : decode cX10_isSaying 5 = .ok (.iload_n 0, 1) := by decide +kernel
theorem dX10_isSaying_6 : decode cX10_isSaying 6 = .ok (.bipush 7, 2) := by decide +kernel
theorem dX10_isSaying_8 : decode cX10_isSaying 8 = .ok (.if_icmp .gt 7, 3) := by decide +kernel
theorem dX10_isSaying_11 : decode cX10_isSaying 11 = .ok (.iconst 1, 1) := by decide +kernel
theorem dX10_isSaying_12 : decode cX10_isSaying 12 = .ok (.goto 4, 3) := by decide +kernel
theorem dX10_isSaying_15 : decode cX10_isSaying 15 = .ok (.iconst 0, 1) := by decide +kernel
theorem dX10_isSaying_16 : decode cX10_isSaying 16 = .ok (.ireturn, 1) := by decide +kernel
theorem dX10_isKeepingPlace_0 : decode cX10_isKeepingPlace 0 = .ok (.iload_n 0, 1) := by decide +kernel
theorem dX10_isKeepingPlace_1 : decode cX10_isKeepingPlace 1 = .ok (.ifCond .lt 12, 3) := by decide +kernel
theorem dX10_isKeepingPlace_4 : decode cX10_isKeepingPlace 4 = .ok (.iload_n 0, 1) := by decide +kernel
theorem dX10_isKeepingPlace_5 : decode cX10_isKeepingPlace 5 = .ok (.iconst 2, 1) := by decide +kernel
theorem dX10_isKeepingPlace_6 : decode cX10_isKeepingPlace 6 = .ok (.if_icmp .ge 7, 3) := by decide +kernel
theorem dX10_isKeepingPlace_9 : decode cX10_isKeepingPlace 9 = .ok (.iconst 1, 1) := by decide +kernel
theorem dX10_isKeepingPlace_10 : decode cX10_isKeepingPlace 10 = .ok (.goto 4, 3) := by decide +kernel
theorem dX10_isKeepingPlace_13 : decode cX10_isKeepingPlace 13 = .ok (.iconst 0, 1) := by decide +kernel
theorem dX10_isKeepingPlace_14 : decode cX10_isKeepingPlace 14 = .ok (.ireturn, 1) := by decide +kernel
theorem dX10_personAt_0 : decode cX10_personAt 0 = .ok (.iload_n 1, 1) := by decide +kernel
theorem dX10_personAt_1 : decode cX10_personAt 1 = .ok (.ifCond .lt 20, 3) := by decide +kernel
theorem dX10_personAt_4 : decode cX10_personAt 4 = .ok (.iload_n 1, 1) := by decide +kernel
theorem dX10_personAt_5 : decode cX10_personAt 5 = .ok (.aload_n 0, 1) := by decide +kernel
theorem dX10_personAt_6 : decode cX10_personAt 6 = .ok (.getfield 72, 3) := by decide +kernel
theorem dX10_personAt_9 : decode cX10_personAt 9 = .ok (.if_icmp .ge 12, 3) := by decide +kernel
theorem dX10_personAt_12 : decode cX10_personAt 12 = .ok (.aload_n 0, 1) := by decide +kernel
theorem dX10_personAt_13 : decode cX10_personAt 13 = .ok (.getfield 18, 3) := by decide +kernel
theorem dX10_personAt_16 : decode cX10_personAt 16 = .ok (.iload_n 1, 1) := by decide +kernel
theorem dX10_personAt_17 : decode cX10_personAt 17 = .ok (.aaload, 1) := by decide +kernel
theorem dX10_personAt_18 : decode cX10_personAt 18 = .ok (.goto 4, 3) := by decide +kernel
theorem dX10_personAt_21 : decode cX10_personAt 21 = .ok (.aconst_null, 1) := by decide +kernel
theorem dX10_personAt_22 : decode cX10_personAt 22 = .ok (.areturn, 1) := by decide +kernel
theorem dX10_sayingOrNone_0 : decode cX10_sayingOrNone 0 = .ok (.aload_n 0, 1) := by decide +kernel
theorem dX10_sayingOrNone_1 : decode cX10_sayingOrNone 1 = .ok (.getfield 35, 3) := by decide +kernel
theorem dX10_sayingOrNone_4 : decode cX10_sayingOrNone 4 = .ok (.getfield 113, 3) := by decide +kernel
theorem dX10_sayingOrNone_7 : decode cX10_sayingOrNone 7 = .ok (.iload_n 1, 1) := by decide +kernel
theorem dX10_sayingOrNone_8 : decode cX10_sayingOrNone 8 = .ok (.iload_n 2, 1) := by decide +kernel
theorem dX10_sayingOrNone_9 : decode cX10_sayingOrNone 9 = .ok (.invokevirtual 148, 3) := by decide +kernel
theorem dX10_sayingOrNone_12 : decode cX10_sayingOrNone 12 = .ok (.istore_n 3, 1) := by decide +kernel
theorem dX10_sayingOrNone_13 : decode cX10_sayingOrNone 13 = .ok (.iload_n 3, 1) := by decide +kernel
theorem dX10_sayingOrNone_14 : decode cX10_sayingOrNone 14 = .ok (.ifCond .ne 7, 3) := by decide +kernel
theorem dX10_sayingOrNone_17 : decode cX10_sayingOrNone 17 = .ok (.iconst (-1), 1) := by decide +kernel
theorem dX10_sayingOrNone_18 : decode cX10_sayingOrNone 18 = .ok (.goto 4, 3) := by decide +kernel
theorem dX10_sayingOrNone_21 : decode cX10_sayingOrNone 21 = .ok (.iload_n 3, 1) := by decide +kernel
theorem dX10_sayingOrNone_22 : decode cX10_sayingOrNone 22 = .ok (.ireturn, 1) := by decide +kernel
theorem dX10_isOfKind_0 : decode cX10_isOfKind 0 = .ok (.iload_n 1, 1) := by decide +kernel
theorem dX10_isOfKind_1 : decode cX10_isOfKind 1 = .ok (.tableswitch 48 0 3 #[31, 33, 38, 43], 31) := by decide +kernel
theorem dX10_isOfKind_32 : decode cX10_isOfKind 32 = .ok (.iconst 1, 1) := by decide +kernel
theorem dX10_isOfKind_33 : decode cX10_isOfKind 33 = .ok (.ireturn, 1) := by decide +kernel
theorem dX10_isOfKind_34 : decode cX10_isOfKind 34 = .ok (.aload_n 0, 1) := by decide +kernel
theorem dX10_isOfKind_35 : decode cX10_isOfKind 35 = .ok (.instanceof 215, 3) := by decide +kernel
theorem dX10_isOfKind_38 : decode cX10_isOfKind 38 = .ok (.ireturn, 1) := by decide +kernel
theorem dX10_isOfKind_39 : decode cX10_isOfKind 39 = .ok (.aload_n 0, 1) := by decide +kernel
theorem dX10_isOfKind_40 : decode cX10_isOfKind 40 = .ok (.instanceof 217, 3) := by decide +kernel
theorem dX10_isOfKind_43 : decode cX10_isOfKind 43 = .ok (.ireturn, 1) := by decide +kernel
theorem dX10_isOfKind_44 : decode cX10_isOfKind 44 = .ok (.aload_n 0, 1) := by decide +kernel
theorem dX10_isOfKind_45 : decode cX10_isOfKind 45 = .ok (.instanceof 219, 3) := by decide +kernel
theorem dX10_isOfKind_48 : decode cX10_isOfKind 48 = .ok (.ireturn, 1) := by decide +kernel
theorem dX10_isOfKind_49 : decode cX10_isOfKind 49 = .ok (.aload_n 0, 1) := by decide +kernel
theorem dX10_isOfKind_50 : decode cX10_isOfKind 50 = .ok (.instanceof 221, 3) := by decide +kernel
theorem dX10_isOfKind_53 : decode cX10_isOfKind 53 = .ok (.ireturn, 1) := by decide +kernel
theorem dX10_doClause_0 : decode cX10_doClause 0 = .ok (.aload_n 0, 1) := by decide +kernel
theorem dX10_doClause_1 : decode cX10_doClause 1 = .ok (.getfield 12, 3) := by decide +kernel
theorem dX10_doClause_4 : decode cX10_doClause 4 = .ok (.iload_n 1, 1) := by decide +kernel
theorem dX10_doClause_5 : decode cX10_doClause 5 = .ok (.iconst 0, 1) := by decide +kernel
theorem dX10_doClause_6 : decode cX10_doClause 6 = .ok (.invokevirtual 223, 3) := by decide +kernel
theorem dX10_doClause_9 : decode cX10_doClause 9 = .ok (.istore_n 2, 1) := by decide +kernel
theorem dX10_doClause_10 : decode cX10_doClause 10 = .ok (.aload_n 0, 1) := by decide +kernel
theorem dX10_doClause_11 : decode cX10_doClause 11 = .ok (.getfield 12, 3) := by decide +kernel
theorem dX10_doClause_14 : decode cX10_doClause 14 = .ok (.iload_n 1, 1) := by decide +kernel
theorem dX10_doClause_15 : decode cX10_doClause 15 = .ok (.invokevirtual 226, 3) := by decide +kernel
theorem dX10_doClause_18 : decode cX10_doClause 18 = .ok (.tableswitch 94 4 6 #[26, 46, 84], 26) := by decide +kernel
theorem dX10_doClause_44 : decode cX10_doClause 44 = .ok (.aload_n 0, 1) := by decide +kernel
theorem dX10_doClause_45 : decode cX10_doClause 45 = .ok (.iload_n 2, 1) := by decide +kernel
theorem dX10_doClause_46 : decode cX10_doClause 46 = .ok (.putfield 61, 3) := by decide +kernel
theorem dX10_doClause_49 : decode cX10_doClause 49 = .ok (.aload_n 0, 1) := by decide +kernel
theorem dX10_doClause_50 : decode cX10_doClause 50 = .ok (.iconst 0, 1) := by decide +kernel
theorem dX10_doClause_51 : decode cX10_doClause 51 = .ok (.putfield 72, 3) := by decide +kernel
theorem dX10_doClause_54 : decode cX10_doClause 54 = .ok (.aload_n 0, 1) := by decide +kernel
theorem dX10_doClause_55 : decode cX10_doClause 55 = .ok (.getfield 25, 3) := by decide +kernel
theorem dX10_doClause_58 : decode cX10_doClause 58 = .ok (.invokevirtual 230, 3) := by decide +kernel
theorem dX10_doClause_61 : decode cX10_doClause 61 = .ok (.goto 64, 3) := by decide +kernel
theorem dX10_doClause_64 : decode cX10_doClause 64 = .ok (.aload_n 0, 1) := by decide +kernel
theorem dX10_doClause_65 : decode cX10_doClause 65 = .ok (.getfield 25, 3) := by decide +kernel
theorem dX10_doClause_68 : decode cX10_doClause 68 = .ok (.iload_n 2, 1) := by decide +kernel
theorem dX10_doClause_69 : decode cX10_doClause 69 = .ok (.aload_n 0, 1) := by decide +kernel
theorem dX10_doClause_70 : decode cX10_doClause 70 = .ok (.getfield 12, 3) := by decide +kernel
theorem dX10_doClause_73 : decode cX10_doClause 73 = .ok (.iload_n 1, 1) := by decide +kernel
theorem dX10_doClause_74 : decode cX10_doClause 74 = .ok (.iconst 1, 1) := by decide +kernel
theorem dX10_doClause_75 : decode cX10_doClause 75 = .ok (.invokevirtual 223, 3) := by decide +kernel
theorem dX10_doClause_78 : decode cX10_doClause 78 = .ok (.aload_n 0, 1) := by decide +kernel
theorem dX10_doClause_79 : decode cX10_doClause 79 = .ok (.getfield 12, 3) := by decide +kernel
theorem dX10_doClause_82 : decode cX10_doClause 82 = .ok (.iload_n 1, 1) := by decide +kernel
theorem dX10_doClause_83 : decode cX10_doClause 83 = .ok (.iconst 2, 1) := by decide +kernel
theorem dX10_doClause_84 : decode cX10_doClause 84 = .ok (.invokevirtual 223, 3) := by decide +kernel
theorem dX10_doClause_87 : decode cX10_doClause 87 = .ok (.aload_n 0, 1) := by decide +kernel
theorem dX10_doClause_88 : decode cX10_doClause 88 = .ok (.getfield 12, 3) := by decide +kernel
theorem dX10_doClause_91 : decode cX10_doClause 91 = .ok (.iload_n 1, 1) := by decide +kernel
theorem dX10_doClause_92 : decode cX10_doClause 92 = .ok (.iconst 3, 1) := by decide +kernel
theorem dX10_doClause_93 : decode cX10_doClause 93 = .ok (.invokevirtual 223, 3) := by decide +kernel
theorem dX10_doClause_96 : decode cX10_doClause 96 = .ok (.invokevirtual 151, 3) := by decide +kernel
theorem dX10_doClause_99 : decode cX10_doClause 99 = .ok (.goto 26, 3) := by decide +kernel
theorem dX10_doClause_102 : decode cX10_doClause 102 = .ok (.aload_n 0, 1) := by decide +kernel
theorem dX10_doClause_103 : decode cX10_doClause 103 = .ok (.getfield 25, 3) := by decide +kernel
theorem dX10_doClause_106 : decode cX10_doClause 106 = .ok (.invokevirtual 230, 3) := by decide +kernel
theorem dX10_doClause_109 : decode cX10_doClause 109 = .ok (.goto 16, 3) := by decide +kernel
theorem dX10_doClause_112 : decode cX10_doClause 112 = .ok (.aload_n 0, 1) := by decide +kernel
theorem dX10_doClause_113 : decode cX10_doClause 113 = .ok (.aload_n 0, 1) := by decide +kernel
theorem dX10_doClause_114 : decode cX10_doClause 114 = .ok (.getfield 12, 3) := by decide +kernel
theorem dX10_doClause_117 : decode cX10_doClause 117 = .ok (.iload_n 1, 1) := by decide +kernel
theorem dX10_doClause_118 : decode cX10_doClause 118 = .ok (.invokevirtual 226, 3) := by decide +kernel
theorem dX10_doClause_121 : decode cX10_doClause 121 = .ok (.iload_n 2, 1) := by decide +kernel
theorem dX10_doClause_122 : decode cX10_doClause 122 = .ok (.invokevirtual 233, 3) := by decide +kernel
theorem dX10_doClause_125 : decode cX10_doClause 125 = .ok (.return_, 1) := by decide +kernel
theorem dX10_addPerson_0 : decode cX10_addPerson 0 = .ok (.aload_n 0, 1) := by decide +kernel
theorem dX10_addPerson_1 : decode cX10_addPerson 1 = .ok (.getfield 72, 3) := by decide +kernel
theorem dX10_addPerson_4 : decode cX10_addPerson 4 = .ok (.bipush 6, 2) := by decide +kernel
theorem dX10_addPerson_6 : decode cX10_addPerson 6 = .ok (.if_icmp .ge 27, 3) := by decide +kernel
theorem dX10_addPerson_9 : decode cX10_addPerson 9 = .ok (.aload_n 0, 1) := by decide +kernel
theorem dX10_addPerson_10 : decode cX10_addPerson 10 = .ok (.getfield 18, 3) := by decide +kernel
theorem dX10_addPerson_13 : decode cX10_addPerson 13 = .ok (.aload_n 0, 1) := by decide +kernel
theorem dX10_addPerson_14 : decode cX10_addPerson 14 = .ok (.getfield 72, 3) := by decide +kernel
theorem dX10_addPerson_17 : decode cX10_addPerson 17 = .ok (.iload_n 1, 1) := by decide +kernel
theorem dX10_addPerson_18 : decode cX10_addPerson 18 = .ok (.iload_n 2, 1) := by decide +kernel
theorem dX10_addPerson_19 : decode cX10_addPerson 19 = .ok (.invokestatic 237, 3) := by decide +kernel
theorem dX10_addPerson_22 : decode cX10_addPerson 22 = .ok (.aastore, 1) := by decide +kernel
theorem dX10_addPerson_23 : decode cX10_addPerson 23 = .ok (.aload_n 0, 1) := by decide +kernel
theorem dX10_addPerson_24 : decode cX10_addPerson 24 = .ok (.dup, 1) := by decide +kernel
theorem dX10_addPerson_25 : decode cX10_addPerson 25 = .ok (.getfield 72, 3) := by decide +kernel
theorem dX10_addPerson_28 : decode cX10_addPerson 28 = .ok (.iconst 1, 1) := by decide +kernel
theorem dX10_addPerson_29 : decode cX10_addPerson 29 = .ok (.iadd, 1) := by decide +kernel
theorem dX10_addPerson_30 : decode cX10_addPerson 30 = .ok (.putfield 72, 3) := by decide +kernel
theorem dX10_addPerson_33 : decode cX10_addPerson 33 = .ok (.return_, 1) := by decide +kernel
theorem dX10_newPerson_0 : decode cX10_newPerson 0 = .ok (.iload_n 0, 1) := by decide +kernel
theorem dX10_newPerson_1 : decode cX10_newPerson 1 = .ok (.tableswitch 54 0 2 #[27, 36, 45], 27) := by decide +kernel
theorem dX10_newPerson_28 : decode cX10_newPerson 28 = .ok (.new 215, 3) := by decide +kernel
theorem dX10_newPerson_31 : decode cX10_newPerson 31 = .ok (.dup, 1) := by decide +kernel
theorem dX10_newPerson_32 : decode cX10_newPerson 32 = .ok (.iload_n 1, 1) := by decide +kernel
theorem dX10_newPerson_33 : decode cX10_newPerson 33 = .ok (.invokespecial 241, 3) := by decide +kernel
theorem dX10_newPerson_36 : decode cX10_newPerson 36 = .ok (.areturn, 1) := by decide +kernel
theorem dX10_newPerson_37 : decode cX10_newPerson 37 = .ok (.new 217, 3) := by decide +kernel
theorem dX10_newPerson_40 : decode cX10_newPerson 40 = .ok (.dup, 1) := by decide +kernel
theorem dX10_newPerson_41 : decode cX10_newPerson 41 = .ok (.iload_n 1, 1) := by decide +kernel
theorem dX10_newPerson_42 : decode cX10_newPerson 42 = .ok (.invokespecial 243, 3) := by decide +kernel
theorem dX10_newPerson_45 : decode cX10_newPerson 45 = .ok (.areturn, 1) := by decide +kernel
theorem dX10_newPerson_46 : decode cX10_newPerson 46 = .ok (.new 219, 3) := by decide +kernel
theorem dX10_newPerson_49 : decode cX10_newPerson 49 = .ok (.dup, 1) := by decide +kernel
theorem dX10_newPerson_50 : decode cX10_newPerson 50 = .ok (.iload_n 1, 1) := by decide +kernel
theorem dX10_newPerson_51 : decode cX10_newPerson 51 = .ok (.invokespecial 244, 3) := by decide +kernel
theorem dX10_newPerson_54 : decode cX10_newPerson 54 = .ok (.areturn, 1) := by decide +kernel
theorem dX10_newPerson_55 : decode cX10_newPerson 55 = .ok (.new 221, 3) := by decide +kernel
theorem dX10_newPerson_58 : decode cX10_newPerson 58 = .ok (.dup, 1) := by decide +kernel
theorem dX10_newPerson_59 : decode cX10_newPerson 59 = .ok (.iload_n 1, 1) := by decide +kernel
theorem dX10_newPerson_60 : decode cX10_newPerson 60 = .ok (.invokespecial 245, 3) := by decide +kernel
theorem dX10_newPerson_63 : decode cX10_newPerson 63 = .ok (.areturn, 1) := by decide +kernel
theorem dX10_beginAsTold_0 : decode cX10_beginAsTold 0 = .ok (.aload_n 0, 1) := by decide +kernel
theorem dX10_beginAsTold_1 : decode cX10_beginAsTold 1 = .ok (.getfield 35, 3) := by decide +kernel
theorem dX10_beginAsTold_4 : decode cX10_beginAsTold 4 = .ok (.aload_n 0, 1) := by decide +kernel
theorem dX10_beginAsTold_5 : decode cX10_beginAsTold 5 = .ok (.getfield 25, 3) := by decide +kernel
theorem dX10_beginAsTold_8 : decode cX10_beginAsTold 8 = .ok (.invokevirtual 246, 3) := by decide +kernel
theorem dX10_beginAsTold_11 : decode cX10_beginAsTold 11 = .ok (.aload_n 0, 1) := by decide +kernel
theorem dX10_beginAsTold_12 : decode cX10_beginAsTold 12 = .ok (.getfield 57, 3) := by decide +kernel
theorem dX10_beginAsTold_15 : decode cX10_beginAsTold 15 = .ok (.iconst 0, 1) := by decide +kernel
theorem dX10_beginAsTold_16 : decode cX10_beginAsTold 16 = .ok (.putfield 185, 3) := by decide +kernel
theorem dX10_beginAsTold_19 : decode cX10_beginAsTold 19 = .ok (.aload_n 0, 1) := by decide +kernel
theorem dX10_beginAsTold_20 : decode cX10_beginAsTold 20 = .ok (.getfield 42, 3) := by decide +kernel
theorem dX10_beginAsTold_23 : decode cX10_beginAsTold 23 = .ok (.iconst 0, 1) := by decide +kernel
theorem dX10_beginAsTold_24 : decode cX10_beginAsTold 24 = .ok (.putfield 161, 3) := by decide +kernel
theorem dX10_beginAsTold_27 : decode cX10_beginAsTold 27 = .ok (.iconst 0, 1) := by decide +kernel
theorem dX10_beginAsTold_28 : decode cX10_beginAsTold 28 = .ok (.istore_n 1, 1) := by decide +kernel
theorem dX10_beginAsTold_29 : decode cX10_beginAsTold 29 = .ok (.iload_n 1, 1) := by decide +kernel
theorem dX10_beginAsTold_30 : decode cX10_beginAsTold 30 = .ok (.iconst 2, 1) := by decide +kernel
theorem dX10_beginAsTold_31 : decode cX10_beginAsTold 31 = .ok (.if_icmp .ge 16, 3) := by decide +kernel
theorem dX10_beginAsTold_34 : decode cX10_beginAsTold 34 = .ok (.aload_n 0, 1) := by decide +kernel
theorem dX10_beginAsTold_35 : decode cX10_beginAsTold 35 = .ok (.getfield 50, 3) := by decide +kernel
theorem dX10_beginAsTold_38 : decode cX10_beginAsTold 38 = .ok (.iload_n 1, 1) := by decide +kernel
theorem dX10_beginAsTold_39 : decode cX10_beginAsTold 39 = .ok (.iconst 0, 1) := by decide +kernel
theorem dX10_beginAsTold_40 : decode cX10_beginAsTold 40 = .ok (.bastore, 1) := by decide +kernel
theorem dX10_beginAsTold_41 : decode cX10_beginAsTold 41 = .ok (.iinc 1 1, 3) := by decide +kernel
theorem dX10_beginAsTold_44 : decode cX10_beginAsTold 44 = .ok (.goto (-15), 3) := by decide +kernel
theorem dX10_beginAsTold_47 : decode cX10_beginAsTold 47 = .ok (.return_, 1) := by decide +kernel
theorem dX10_fitsSights_0 : decode cX10_fitsSights 0 = .ok (.aload_n 0, 1) := by decide +kernel
theorem dX10_fitsSights_1 : decode cX10_fitsSights 1 = .ok (.getfield 29, 3) := by decide +kernel
theorem dX10_fitsSights_4 : decode cX10_fitsSights 4 = .ok (.aload_n 0, 1) := by decide +kernel
theorem dX10_fitsSights_5 : decode cX10_fitsSights 5 = .ok (.getfield 35, 3) := by decide +kernel
theorem dX10_fitsSights_8 : decode cX10_fitsSights 8 = .ok (.getfield 113, 3) := by decide +kernel
theorem dX10_fitsSights_11 : decode cX10_fitsSights 11 = .ok (.invokevirtual 250, 3) := by decide +kernel
theorem dX10_fitsSights_14 : decode cX10_fitsSights 14 = .ok (.aload_n 0, 1) := by decide +kernel
theorem dX10_fitsSights_15 : decode cX10_fitsSights 15 = .ok (.getfield 29, 3) := by decide +kernel
theorem dX10_fitsSights_18 : decode cX10_fitsSights 18 = .ok (.aload_n 1, 1) := by decide +kernel
theorem dX10_fitsSights_19 : decode cX10_fitsSights 19 = .ok (.iload_n 2, 1) := by decide +kernel
theorem dX10_fitsSights_20 : decode cX10_fitsSights 20 = .ok (.iload_n 3, 1) := by decide +kernel
theorem dX10_fitsSights_21 : decode cX10_fitsSights 21 = .ok (.invokevirtual 133, 3) := by decide +kernel
theorem dX10_fitsSights_24 : decode cX10_fitsSights 24 = .ok (.aload_n 0, 1) := by decide +kernel
theorem dX10_fitsSights_25 : decode cX10_fitsSights 25 = .ok (.getfield 57, 3) := by decide +kernel
theorem dX10_fitsSights_28 : decode cX10_fitsSights 28 = .ok (.aload_n 0, 1) := by decide +kernel
theorem dX10_fitsSights_29 : decode cX10_fitsSights 29 = .ok (.getfield 29, 3) := by decide +kernel
theorem dX10_fitsSights_32 : decode cX10_fitsSights 32 = .ok (.invokevirtual 252, 3) := by decide +kernel
theorem dX10_fitsSights_35 : decode cX10_fitsSights 35 = .ok (.ireturn, 1) := by decide +kernel
theorem dX10_waysOfAtMost_0 : decode cX10_waysOfAtMost 0 = .ok (.iconst 0, 1) := by decide +kernel
theorem dX10_waysOfAtMost_1 : decode cX10_waysOfAtMost 1 = .ok (.istore_n 3, 1) := by decide +kernel
theorem dX10_waysOfAtMost_2 : decode cX10_waysOfAtMost 2 = .ok (.iconst 0, 1) := by decide +kernel
theorem dX10_waysOfAtMost_3 : decode cX10_waysOfAtMost 3 = .ok (.istore 4, 2) := by decide +kernel
theorem dX10_waysOfAtMost_5 : decode cX10_waysOfAtMost 5 = .ok (.iload 4, 2) := by decide +kernel
theorem dX10_waysOfAtMost_7 : decode cX10_waysOfAtMost 7 = .ok (.iload_n 1, 1) := by decide +kernel
theorem dX10_waysOfAtMost_8 : decode cX10_waysOfAtMost 8 = .ok (.if_icmp .gt 43, 3) := by decide +kernel
theorem dX10_waysOfAtMost_11 : decode cX10_waysOfAtMost 11 = .ok (.iload 4, 2) := by decide +kernel
theorem dX10_waysOfAtMost_13 : decode cX10_waysOfAtMost 13 = .ok (.iload_n 0, 1) := by decide +kernel
theorem dX10_waysOfAtMost_14 : decode cX10_waysOfAtMost 14 = .ok (.if_icmp .gt 37, 3) := by decide +kernel
theorem dX10_waysOfAtMost_17 : decode cX10_waysOfAtMost 17 = .ok (.iload_n 3, 1) := by decide +kernel
theorem dX10_waysOfAtMost_18 : decode cX10_waysOfAtMost 18 = .ok (.iload_n 1, 1) := by decide +kernel
theorem dX10_waysOfAtMost_19 : decode cX10_waysOfAtMost 19 = .ok (.iload 4, 2) := by decide +kernel
theorem dX10_waysOfAtMost_21 : decode cX10_waysOfAtMost 21 = .ok (.invokestatic 256, 3) := by decide +kernel
theorem dX10_waysOfAtMost_24 : decode cX10_waysOfAtMost 24 = .ok (.iload_n 2, 1) := by decide +kernel
theorem dX10_waysOfAtMost_25 : decode cX10_waysOfAtMost 25 = .ok (.iload 4, 2) := by decide +kernel
theorem dX10_waysOfAtMost_27 : decode cX10_waysOfAtMost 27 = .ok (.invokestatic 193, 3) := by decide +kernel
theorem dX10_waysOfAtMost_30 : decode cX10_waysOfAtMost 30 = .ok (.imul, 1) := by decide +kernel
theorem dX10_waysOfAtMost_31 : decode cX10_waysOfAtMost 31 = .ok (.bipush 10, 2) := by decide +kernel
theorem dX10_waysOfAtMost_33 : decode cX10_waysOfAtMost 33 = .ok (.iload_n 2, 1) := by decide +kernel
theorem dX10_waysOfAtMost_34 : decode cX10_waysOfAtMost 34 = .ok (.isub, 1) := by decide +kernel
theorem dX10_waysOfAtMost_35 : decode cX10_waysOfAtMost 35 = .ok (.iload_n 1, 1) := by decide +kernel
theorem dX10_waysOfAtMost_36 : decode cX10_waysOfAtMost 36 = .ok (.iload 4, 2) := by decide +kernel
theorem dX10_waysOfAtMost_38 : decode cX10_waysOfAtMost 38 = .ok (.isub, 1) := by decide +kernel
theorem dX10_waysOfAtMost_39 : decode cX10_waysOfAtMost 39 = .ok (.invokestatic 193, 3) := by decide +kernel
theorem dX10_waysOfAtMost_42 : decode cX10_waysOfAtMost 42 = .ok (.imul, 1) := by decide +kernel
theorem dX10_waysOfAtMost_43 : decode cX10_waysOfAtMost 43 = .ok (.iadd, 1) := by decide +kernel
theorem dX10_waysOfAtMost_44 : decode cX10_waysOfAtMost 44 = .ok (.istore_n 3, 1) := by decide +kernel
theorem dX10_waysOfAtMost_45 : decode cX10_waysOfAtMost 45 = .ok (.iinc 4 1, 3) := by decide +kernel
theorem dX10_waysOfAtMost_48 : decode cX10_waysOfAtMost 48 = .ok (.goto (-43), 3) := by decide +kernel
theorem dX10_waysOfAtMost_51 : decode cX10_waysOfAtMost 51 = .ok (.iload_n 3, 1) := by decide +kernel
theorem dX10_waysOfAtMost_52 : decode cX10_waysOfAtMost 52 = .ok (.ireturn, 1) := by decide +kernel
theorem dX10_choices_0 : decode cX10_choices 0 = .ok (.iconst 1, 1) := by decide +kernel
theorem dX10_choices_1 : decode cX10_choices 1 = .ok (.istore_n 2, 1) := by decide +kernel
theorem dX10_choices_2 : decode cX10_choices 2 = .ok (.iconst 1, 1) := by decide +kernel
theorem dX10_choices_3 : decode cX10_choices 3 = .ok (.istore_n 3, 1) := by decide +kernel
theorem dX10_choices_4 : decode cX10_choices 4 = .ok (.iload_n 3, 1) := by decide +kernel
theorem dX10_choices_5 : decode cX10_choices 5 = .ok (.iload_n 1, 1) := by decide +kernel
theorem dX10_choices_6 : decode cX10_choices 6 = .ok (.if_icmp .gt 19, 3) := by decide +kernel
theorem dX10_choices_9 : decode cX10_choices 9 = .ok (.iload_n 2, 1) := by decide +kernel
theorem dX10_choices_10 : decode cX10_choices 10 = .ok (.iload_n 0, 1) := by decide +kernel
theorem dX10_choices_11 : decode cX10_choices 11 = .ok (.iload_n 1, 1) := by decide +kernel
theorem dX10_choices_12 : decode cX10_choices 12 = .ok (.isub, 1) := by decide +kernel
theorem dX10_choices_13 : decode cX10_choices 13 = .ok (.iload_n 3, 1) := by decide +kernel
theorem dX10_choices_14 : decode cX10_choices 14 = .ok (.iadd, 1) := by decide +kernel
theorem dX10_choices_15 : decode cX10_choices 15 = .ok (.imul, 1) := by decide +kernel
theorem dX10_choices_16 : decode cX10_choices 16 = .ok (.iload_n 3, 1) := by decide +kernel
theorem dX10_choices_17 : decode cX10_choices 17 = .ok (.idiv, 1) := by decide +kernel
theorem dX10_choices_18 : decode cX10_choices 18 = .ok (.istore_n 2, 1) := by decide +kernel
theorem dX10_choices_19 : decode cX10_choices 19 = .ok (.iinc 3 1, 3) := by decide +kernel
theorem dX10_choices_22 : decode cX10_choices 22 = .ok (.goto (-18), 3) := by decide +kernel
theorem dX10_choices_25 : decode cX10_choices 25 = .ok (.iload_n 2, 1) := by decide +kernel
theorem dX10_choices_26 : decode cX10_choices 26 = .ok (.ireturn, 1) := by decide +kernel
theorem dX10_power_0 : decode cX10_power 0 = .ok (.iconst 1, 1) := by decide +kernel
theorem dX10_power_1 : decode cX10_power 1 = .ok (.istore_n 2, 1) := by decide +kernel
theorem dX10_power_2 : decode cX10_power 2 = .ok (.iconst 0, 1) := by decide +kernel
theorem dX10_power_3 : decode cX10_power 3 = .ok (.istore_n 3, 1) := by decide +kernel
theorem dX10_power_4 : decode cX10_power 4 = .ok (.iload_n 3, 1) := by decide +kernel
theorem dX10_power_5 : decode cX10_power 5 = .ok (.iload_n 1, 1) := by decide +kernel
theorem dX10_power_6 : decode cX10_power 6 = .ok (.if_icmp .ge 13, 3) := by decide +kernel
theorem dX10_power_9 : decode cX10_power 9 = .ok (.iload_n 2, 1) := by decide +kernel
theorem dX10_power_10 : decode cX10_power 10 = .ok (.iload_n 0, 1) := by decide +kernel
theorem dX10_power_11 : decode cX10_power 11 = .ok (.imul, 1) := by decide +kernel
theorem dX10_power_12 : decode cX10_power 12 = .ok (.istore_n 2, 1) := by decide +kernel
theorem dX10_power_13 : decode cX10_power 13 = .ok (.iinc 3 1, 3) := by decide +kernel
theorem dX10_power_16 : decode cX10_power 16 = .ok (.goto (-12), 3) := by decide +kernel
theorem dX10_power_19 : decode cX10_power 19 = .ok (.iload_n 2, 1) := by decide +kernel
theorem dX10_power_20 : decode cX10_power 20 = .ok (.ireturn, 1) := by decide +kernel
theorem dX10_commonDivisor_0 : decode cX10_commonDivisor 0 = .ok (.iload_n 0, 1) := by decide +kernel
theorem dX10_commonDivisor_1 : decode cX10_commonDivisor 1 = .ok (.istore_n 2, 1) := by decide +kernel
theorem dX10_commonDivisor_2 : decode cX10_commonDivisor 2 = .ok (.iload_n 1, 1) := by decide +kernel
theorem dX10_commonDivisor_3 : decode cX10_commonDivisor 3 = .ok (.istore_n 3, 1) := by decide +kernel
theorem dX10_commonDivisor_4 : decode cX10_commonDivisor 4 = .ok (.iconst 0, 1) := by decide +kernel
theorem dX10_commonDivisor_5 : decode cX10_commonDivisor 5 = .ok (.istore 4, 2) := by decide +kernel
theorem dX10_commonDivisor_7 : decode cX10_commonDivisor 7 = .ok (.iload 4, 2) := by decide +kernel
theorem dX10_commonDivisor_9 : decode cX10_commonDivisor 9 = .ok (.bipush 100, 2) := by decide +kernel
theorem dX10_commonDivisor_11 : decode cX10_commonDivisor 11 = .ok (.if_icmp .ge 23, 3) := by decide +kernel
theorem dX10_commonDivisor_14 : decode cX10_commonDivisor 14 = .ok (.iload_n 3, 1) := by decide +kernel
theorem dX10_commonDivisor_15 : decode cX10_commonDivisor 15 = .ok (.ifCond .le 19, 3) := by decide +kernel
theorem dX10_commonDivisor_18 : decode cX10_commonDivisor 18 = .ok (.iload_n 2, 1) := by decide +kernel
theorem dX10_commonDivisor_19 : decode cX10_commonDivisor 19 = .ok (.iload_n 3, 1) := by decide +kernel
theorem dX10_commonDivisor_20 : decode cX10_commonDivisor 20 = .ok (.irem, 1) := by decide +kernel
theorem dX10_commonDivisor_21 : decode cX10_commonDivisor 21 = .ok (.istore 5, 2) := by decide +kernel
theorem dX10_commonDivisor_23 : decode cX10_commonDivisor 23 = .ok (.iload_n 3, 1) := by decide +kernel
theorem dX10_commonDivisor_24 : decode cX10_commonDivisor 24 = .ok (.istore_n 2, 1) := by decide +kernel
theorem dX10_commonDivisor_25 : decode cX10_commonDivisor 25 = .ok (.iload 5, 2) := by decide +kernel
theorem dX10_commonDivisor_27 : decode cX10_commonDivisor 27 = .ok (.istore_n 3, 1) := by decide +kernel
theorem dX10_commonDivisor_28 : decode cX10_commonDivisor 28 = .ok (.iinc 4 1, 3) := by decide +kernel
theorem dX10_commonDivisor_31 : decode cX10_commonDivisor 31 = .ok (.goto (-24), 3) := by decide +kernel
theorem dX10_commonDivisor_34 : decode cX10_commonDivisor 34 = .ok (.iconst 1, 1) := by decide +kernel
theorem dX10_commonDivisor_35 : decode cX10_commonDivisor 35 = .ok (.iload_n 2, 1) := by decide +kernel
theorem dX10_commonDivisor_36 : decode cX10_commonDivisor 36 = .ok (.invokestatic 176, 3) := by decide +kernel
theorem dX10_commonDivisor_39 : decode cX10_commonDivisor 39 = .ok (.ireturn, 1) := by decide +kernel
theorem dX11_init_0 : decode cX11_init 0 = .ok (.aload_n 0, 1) := by decide +kernel
theorem dX11_init_1 : decode cX11_init 1 = .ok (.invokespecial 1, 3) := by decide +kernel
theorem dX11_init_4 : decode cX11_init 4 = .ok (.aload_n 0, 1) := by decide +kernel
theorem dX11_init_5 : decode cX11_init 5 = .ok (.sipush 160, 3) := by decide +kernel
theorem dX11_init_8 : decode cX11_init 8 = .ok (.newarray .int, 2) := by decide +kernel
theorem dX11_init_10 : decode cX11_init 10 = .ok (.putfield 7, 3) := by decide +kernel
theorem dX11_init_13 : decode cX11_init 13 = .ok (.aload_n 0, 1) := by decide +kernel
theorem dX11_init_14 : decode cX11_init 14 = .ok (.bipush 62, 2) := by decide +kernel
theorem dX11_init_16 : decode cX11_init 16 = .ok (.newarray .int, 2) := by decide +kernel
theorem dX11_init_18 : decode cX11_init 18 = .ok (.putfield 13, 3) := by decide +kernel
theorem dX11_init_21 : decode cX11_init 21 = .ok (.aload_n 0, 1) := by decide +kernel
theorem dX11_init_22 : decode cX11_init 22 = .ok (.bipush 62, 2) := by decide +kernel
theorem dX11_init_24 : decode cX11_init 24 = .ok (.newarray .int, 2) := by decide +kernel
theorem dX11_init_26 : decode cX11_init 26 = .ok (.putfield 16, 3) := by decide +kernel
theorem dX11_init_29 : decode cX11_init 29 = .ok (.aload_n 0, 1) := by decide +kernel
theorem dX11_init_30 : decode cX11_init 30 = .ok (.bipush 55, 2) := by decide +kernel
theorem dX11_init_32 : decode cX11_init 32 = .ok (.newarray .int, 2) := by decide +kernel
theorem dX11_init_34 : decode cX11_init 34 = .ok (.putfield 19, 3) := by decide +kernel
theorem dX11_init_37 : decode cX11_init 37 = .ok (.aload_n 0, 1) := by decide +kernel
theorem dX11_init_38 : decode cX11_init 38 = .ok (.sipush 440, 3) := by decide +kernel
theorem dX11_init_41 : decode cX11_init 41 = .ok (.newarray .int, 2) := by decide +kernel
theorem dX11_init_43 : decode cX11_init 43 = .ok (.putfield 22, 3) := by decide +kernel
theorem dX11_init_46 : decode cX11_init 46 = .ok (.aload_n 0, 1) := by decide +kernel
theorem dX11_init_47 : decode cX11_init 47 = .ok (.bipush 110, 2) := by decide +kernel
theorem dX11_init_49 : decode cX11_init 49 = .ok (.newarray .int, 2) := by decide +kernel
theorem dX11_init_51 : decode cX11_init 51 = .ok (.putfield 25, 3) := by decide +kernel
theorem dX11_init_54 : decode cX11_init 54 = .ok (.aload_n 0, 1) := by decide +kernel
theorem dX11_init_55 : decode cX11_init 55 = .ok (.iconst 2, 1) := by decide +kernel
theorem dX11_init_56 : decode cX11_init 56 = .ok (.newarray .boolean, 2) := by decide +kernel
theorem dX11_init_58 : decode cX11_init 58 = .ok (.putfield 28, 3) := by decide +kernel
theorem dX11_init_61 : decode cX11_init 61 = .ok (.aload_n 0, 1) := by decide +kernel
theorem dX11_init_62 : decode cX11_init 62 = .ok (.bipush 6, 2) := by decide +kernel
theorem dX11_init_64 : decode cX11_init 64 = .ok (.newarray .int, 2) := by decide +kernel
theorem dX11_init_66 : decode cX11_init 66 = .ok (.putfield 32, 3) := by decide +kernel
theorem dX11_init_69 : decode cX11_init 69 = .ok (.aload_n 0, 1) := by decide +kernel
theorem dX11_init_70 : decode cX11_init 70 = .ok (.bipush 55, 2) := by decide +kernel
theorem dX11_init_72 : decode cX11_init 72 = .ok (.newarray .int, 2) := by decide +kernel
theorem dX11_init_74 : decode cX11_init 74 = .ok (.putfield 35, 3) := by decide +kernel
theorem dX11_init_77 : decode cX11_init 77 = .ok (.aload_n 0, 1) := by decide +kernel
theorem dX11_init_78 : decode cX11_init 78 = .ok (.getfield 13, 3) := by decide +kernel
theorem dX11_init_81 : decode cX11_init 81 = .ok (.iconst 0, 1) := by decide +kernel
theorem dX11_init_82 : decode cX11_init 82 = .ok (.bipush 8, 2) := by decide +kernel
theorem dX11_init_84 : decode cX11_init 84 = .ok (.iastore, 1) := by decide +kernel
theorem dX11_init_85 : decode cX11_init 85 = .ok (.aload_n 0, 1) := by decide +kernel
theorem dX11_init_86 : decode cX11_init 86 = .ok (.invokevirtual 38, 3) := by decide +kernel
theorem dX11_init_89 : decode cX11_init 89 = .ok (.return_, 1) := by decide +kernel
theorem dX11_in_0 : decode cX11_in 0 = .ok (.iload_n 0, 1) := by decide +kernel
theorem dX11_in_1 : decode cX11_in 1 = .ok (.iload_n 1, 1) := by decide +kernel
theorem dX11_in_2 : decode cX11_in 2 = .ok (.if_icmp .lt 12, 3) := by decide +kernel
theorem dX11_in_5 : decode cX11_in 5 = .ok (.iload_n 0, 1) := by decide +kernel
theorem dX11_in_6 : decode cX11_in 6 = .ok (.iload_n 2, 1) := by decide +kernel
theorem dX11_in_7 : decode cX11_in 7 = .ok (.if_icmp .gt 7, 3) := by decide +kernel
theorem dX11_in_10 : decode cX11_in 10 = .ok (.iconst 1, 1) := by decide +kernel
theorem dX11_in_11 : decode cX11_in 11 = .ok (.goto 4, 3) := by decide +kernel
theorem dX11_in_14 : decode cX11_in 14 = .ok (.iconst 0, 1) := by decide +kernel
theorem dX11_in_15 : decode cX11_in 15 = .ok (.ireturn, 1) := by decide +kernel
theorem dX11_isPerson_0 : decode cX11_isPerson 0 = .ok (.iload_n 1, 1) := by decide +kernel
theorem dX11_isPerson_1 : decode cX11_isPerson 1 = .ok (.iconst 0, 1) := by decide +kernel
theorem dX11_isPerson_2 : decode cX11_isPerson 2 = .ok (.aload_n 0, 1) := by decide +kernel
theorem dX11_isPerson_3 : decode cX11_isPerson 3 = .ok (.getfield 13, 3) := by decide +kernel
theorem dX11_isPerson_6 : decode cX11_isPerson 6 = .ok (.iconst 1, 1) := by decide +kernel
theorem dX11_isPerson_7 : decode cX11_isPerson 7 = .ok (.iaload, 1) := by decide +kernel
theorem dX11_isPerson_8 : decode cX11_isPerson 8 = .ok (.iconst 1, 1) := by decide +kernel
theorem dX11_isPerson_9 : decode cX11_isPerson 9 = .ok (.isub, 1) := by decide +kernel
theorem dX11_isPerson_10 : decode cX11_isPerson 10 = .ok (.invokestatic 41, 3) := by decide +kernel
theorem dX11_isPerson_13 : decode cX11_isPerson 13 = .ok (.ireturn, 1) := by decide +kernel
theorem dX11_isStep_0 : decode cX11_isStep 0 = .ok (.iload_n 1, 1) := by decide +kernel
theorem dX11_isStep_1 : decode cX11_isStep 1 = .ok (.iconst 0, 1) := by decide +kernel
theorem dX11_isStep_2 : decode cX11_isStep 2 = .ok (.aload_n 0, 1) := by decide +kernel
theorem dX11_isStep_3 : decode cX11_isStep 3 = .ok (.getfield 13, 3) := by decide +kernel
theorem dX11_isStep_6 : decode cX11_isStep 6 = .ok (.iconst 0, 1) := by decide +kernel
theorem dX11_isStep_7 : decode cX11_isStep 7 = .ok (.iaload, 1) := by decide +kernel
theorem dX11_isStep_8 : decode cX11_isStep 8 = .ok (.iconst 1, 1) := by decide +kernel
theorem dX11_isStep_9 : decode cX11_isStep 9 = .ok (.isub, 1) := by decide +kernel
theorem dX11_isStep_10 : decode cX11_isStep 10 = .ok (.invokestatic 41, 3) := by decide +kernel
theorem dX11_isStep_13 : decode cX11_isStep 13 = .ok (.ireturn, 1) := by decide +kernel
theorem dX11_isSaying_0 : decode cX11_isSaying 0 = .ok (.iload_n 0, 1) := by decide +kernel
theorem dX11_isSaying_1 : decode cX11_isSaying 1 = .ok (.iconst 1, 1) := by decide +kernel
theorem dX11_isSaying_2 : decode cX11_isSaying 2 = .ok (.bipush 7, 2) := by decide +kernel
theorem dX11_isSaying_4 : decode cX11_isSaying 4 = .ok (.invokestatic 41, 3) := by decide +kernel
theorem dX11_isSaying_7 : decode cX11_isSaying 7 = .ok (.ireturn, 1) := by decide +kernel
theorem dX11_write_0 : decode cX11_write 0 = .ok (.iload_n 1, 1) := by decide +kernel
theorem dX11_write_1 : decode cX11_write 1 = .ok (.iconst 0, 1) := by decide +kernel
theorem dX11_write_2 : decode cX11_write 2 = .ok (.sipush 255, 3) := by decide +kernel
theorem dX11_write_5 : decode cX11_write 5 = .ok (.invokestatic 41, 3) := by decide +kernel
theorem dX11_write_8 : decode cX11_write 8 = .ok (.ifCond .ne 6, 3) := by decide +kernel
theorem dX11_write_11 : decode cX11_write 11 = .ok (.bipush (-3), 2) := by decide +kernel
theorem dX11_write_13 : decode cX11_write 13 = .ok (.ireturn, 1) := by decide +kernel
theorem dX11_write_14 : decode cX11_write 14 = .ok (.aload_n 0, 1) := by decide +kernel
theorem dX11_write_15 : decode cX11_write 15 = .ok (.getfield 45, 3) := by decide +kernel
theorem dX11_write_18 : decode cX11_write 18 = .ok (.sipush 160, 3) := by decide +kernel
theorem dX11_write_21 : decode cX11_write 21 = .ok (.if_icmp .ne 6, 3) := by decide +kernel
theorem dX11_write_24 : decode cX11_write 24 = .ok (.bipush (-5), 2) := by decide +kernel
theorem dX11_write_26 : decode cX11_write 26 = .ok (.ireturn, 1) := by decide +kernel
theorem dX11_write_27 : decode cX11_write 27 = .ok (.aload_n 0, 1) := by decide +kernel
theorem dX11_write_28 : decode cX11_write 28 = .ok (.getfield 7, 3) := by decide +kernel
theorem dX11_write_31 : decode cX11_write 31 = .ok (.aload_n 0, 1) := by decide +kernel
theorem dX11_write_32 : decode cX11_write 32 = .ok (.getfield 45, 3) := by decide +kernel
theorem dX11_write_35 : decode cX11_write 35 = .ok (.iload_n 1, 1) := by decide +kernel
theorem dX11_write_36 : decode cX11_write 36 = .ok (.iastore, 1) := by decide +kernel
theorem dX11_write_37 : decode cX11_write 37 = .ok (.aload_n 0, 1) := by decide +kernel
theorem dX11_write_38 : decode cX11_write 38 = .ok (.dup, 1) := by decide +kernel
theorem dX11_write_39 : decode cX11_write 39 = .ok (.getfield 45, 3) := by decide +kernel
theorem dX11_write_42 : decode cX11_write 42 = .ok (.iconst 1, 1) := by decide +kernel
theorem dX11_write_43 : decode cX11_write 43 = .ok (.iadd, 1) := by decide +kernel
theorem dX11_write_44 : decode cX11_write 44 = .ok (.putfield 45, 3) := by decide +kernel
theorem dX11_write_47 : decode cX11_write 47 = .ok (.aload_n 0, 1) := by decide +kernel
theorem dX11_write_48 : decode cX11_write 48 = .ok (.getfield 45, 3) := by decide +kernel
theorem dX11_write_51 : decode cX11_write 51 = .ok (.ireturn, 1) := by decide +kernel
theorem dX11_erase_0 : decode cX11_erase 0 = .ok (.aload_n 0, 1) := by decide +kernel
theorem dX11_erase_1 : decode cX11_erase 1 = .ok (.getfield 45, 3) := by decide +kernel
theorem dX11_erase_4 : decode cX11_erase 4 = .ok (.istore_n 1, 1) := by decide +kernel
theorem dX11_erase_5 : decode cX11_erase 5 = .ok (.aload_n 0, 1) := by decide +kernel
theorem dX11_erase_6 : decode cX11_erase 6 = .ok (.iconst 0, 1) := by decide +kernel
theorem dX11_erase_7 : decode cX11_erase 7 = .ok (.putfield 45, 3) := by decide +kernel
theorem dX11_erase_10 : decode cX11_erase 10 = .ok (.iload_n 1, 1) := by decide +kernel
theorem dX11_erase_11 : decode cX11_erase 11 = .ok (.ireturn, 1) := by decide +kernel
theorem dX11_letterAt_0 : decode cX11_letterAt 0 = .ok (.iload_n 1, 1) := by decide +kernel
theorem dX11_letterAt_1 : decode cX11_letterAt 1 = .ok (.aload_n 0, 1) := by decide +kernel
theorem dX11_letterAt_2 : decode cX11_letterAt 2 = .ok (.getfield 45, 3) := by decide +kernel
theorem dX11_letterAt_5 : decode cX11_letterAt 5 = .ok (.if_icmp .ge 12, 3) := by decide +kernel
theorem dX11_letterAt_8 : decode cX11_letterAt 8 = .ok (.aload_n 0, 1) := by decide +kernel
theorem dX11_letterAt_9 : decode cX11_letterAt 9 = .ok (.getfield 7, 3) := by decide +kernel
theorem dX11_letterAt_12 : decode cX11_letterAt 12 = .ok (.iload_n 1, 1) := by decide +kernel
theorem dX11_letterAt_13 : decode cX11_letterAt 13 = .ok (.iaload, 1) := by decide +kernel
theorem dX11_letterAt_14 : decode cX11_letterAt 14 = .ok (.goto 4, 3) := by decide +kernel
theorem dX11_letterAt_17 : decode cX11_letterAt 17 = .ok (.iconst (-1), 1) := by decide +kernel
theorem dX11_letterAt_18 : decode cX11_letterAt 18 = .ok (.ireturn, 1) := by decide +kernel
theorem dX11_isLetter_0 : decode cX11_isLetter 0 = .ok (.iload_n 0, 1) := by decide +kernel
theorem dX11_isLetter_1 : decode cX11_isLetter 1 = .ok (.bipush 97, 2) := by decide +kernel
theorem dX11_isLetter_3 : decode cX11_isLetter 3 = .ok (.bipush 122, 2) := by decide +kernel
theorem dX11_isLetter_5 : decode cX11_isLetter 5 = .ok (.invokestatic 41, 3) := by decide +kernel
theorem dX11_isLetter_8 : decode cX11_isLetter 8 = .ok (.ireturn, 1) := by decide +kernel
theorem dX11_isDigit_0 : decode cX11_isDigit 0 = .ok (.iload_n 0, 1) := by decide +kernel
theorem dX11_isDigit_1 : decode cX11_isDigit 1 = .ok (.bipush 48, 2) := by decide +kernel
theorem dX11_isDigit_3 : decode cX11_isDigit 3 = .ok (.bipush 57, 2) := by decide +kernel
theorem dX11_isDigit_5 : decode cX11_isDigit 5 = .ok (.invokestatic 41, 3) := by decide +kernel
theorem dX11_isDigit_8 : decode cX11_isDigit 8 = .ok (.ireturn, 1) := by decide +kernel
theorem dX11_token_0 : decode cX11_token 0 = .ok (.aload_n 0, 1) := by decide +kernel
theorem dX11_token_1 : decode cX11_token 1 = .ok (.aload_n 0, 1) := by decide +kernel
theorem dX11_token_2 : decode cX11_token 2 = .ok (.getfield 49, 3) := by decide +kernel
theorem dX11_token_5 : decode cX11_token 5 = .ok (.invokevirtual 52, 3) := by decide +kernel
theorem dX11_token_8 : decode cX11_token 8 = .ok (.bipush 32, 2) := by decide +kernel
theorem dX11_token_10 : decode cX11_token 10 = .ok (.if_icmp .ne 16, 3) := by decide +kernel
theorem dX11_token_13 : decode cX11_token 13 = .ok (.aload_n 0, 1) := by decide +kernel
theorem dX11_token_14 : decode cX11_token 14 = .ok (.dup, 1) := by decide +kernel
theorem dX11_token_15 : decode cX11_token 15 = .ok (.getfield 49, 3) := by decide +kernel
theorem dX11_token_18 : decode cX11_token 18 = .ok (.iconst 1, 1) := by decide +kernel
theorem dX11_token_19 : decode cX11_token 19 = .ok (.iadd, 1) := by decide +kernel
theorem dX11_token_20 : decode cX11_token 20 = .ok (.putfield 49, 3) := by decide +kernel
theorem dX11_token_23 : decode cX11_token 23 = .ok (.goto (-23), 3) := by decide +kernel
theorem dX11_token_26 : decode cX11_token 26 = .ok (.aload_n 0, 1) := by decide +kernel
theorem dX11_token_27 : decode cX11_token 27 = .ok (.aload_n 0, 1) := by decide +kernel
theorem dX11_token_28 : decode cX11_token 28 = .ok (.getfield 49, 3) := by decide +kernel
theorem dX11_token_31 : decode cX11_token 31 = .ok (.putfield 56, 3) := by decide +kernel
theorem dX11_token_34 : decode cX11_token 34 = .ok (.aload_n 0, 1) := by decide +kernel
theorem dX11_token_35 : decode cX11_token 35 = .ok (.aload_n 0, 1) := by decide +kernel
theorem dX11_token_36 : decode cX11_token 36 = .ok (.getfield 49, 3) := by decide +kernel
theorem dX11_token_39 : decode cX11_token 39 = .ok (.invokevirtual 52, 3) := by decide +kernel
theorem dX11_token_42 : decode cX11_token 42 = .ok (.istore_n 1, 1) := by decide +kernel
theorem dX11_token_43 : decode cX11_token 43 = .ok (.aload_n 0, 1) := by decide +kernel
theorem dX11_token_44 : decode cX11_token 44 = .ok (.iload_n 1, 1) := by decide +kernel
theorem dX11_token_45 : decode cX11_token 45 = .ok (.ifCond .ge 7, 3) := by decide +kernel
theorem dX11_token_48 : decode cX11_token 48 = .ok (.iconst 0, 1) := by decide +kernel
theorem dX11_token_49 : decode cX11_token 49 = .ok (.goto 26, 3) := by decide +kernel
theorem dX11_token_52 : decode cX11_token 52 = .ok (.iload_n 1, 1) := by decide +kernel
theorem dX11_token_53 : decode cX11_token 53 = .ok (.invokestatic 59, 3) := by decide +kernel
theorem dX11_token_56 : decode cX11_token 56 = .ok (.ifCond .eq 7, 3) := by decide +kernel
theorem dX11_token_59 : decode cX11_token 59 = .ok (.iconst 1, 1) := by decide +kernel
theorem dX11_token_60 : decode cX11_token 60 = .ok (.goto 15, 3) := by decide +kernel
theorem dX11_token_63 : decode cX11_token 63 = .ok (.iload_n 1, 1) := by decide +kernel
theorem dX11_token_64 : decode cX11_token 64 = .ok (.invokestatic 63, 3) := by decide +kernel
theorem dX11_token_67 : decode cX11_token 67 = .ok (.ifCond .eq 7, 3) := by decide +kernel
theorem dX11_token_70 : decode cX11_token 70 = .ok (.iconst 2, 1) := by decide +kernel
theorem dX11_token_71 : decode cX11_token 71 = .ok (.goto 4, 3) := by decide +kernel
theorem dX11_token_74 : decode cX11_token 74 = .ok (.iconst 3, 1) := by decide +kernel
theorem dX11_token_75 : decode cX11_token 75 = .ok (.putfield 66, 3) := by decide +kernel
theorem dX11_token_78 : decode cX11_token 78 = .ok (.aload_n 0, 1) := by decide +kernel
theorem dX11_token_79 : decode cX11_token 79 = .ok (.iconst 0, 1) := by decide +kernel
theorem dX11_token_80 : decode cX11_token 80 = .ok (.putfield 69, 3) := by decide +kernel
theorem dX11_token_83 : decode cX11_token 83 = .ok (.aload_n 0, 1) := by decide +kernel
theorem dX11_token_84 : decode cX11_token 84 = .ok (.getfield 66, 3) := by decide +kernel
theorem dX11_token_87 : decode cX11_token 87 = .ok (.iconst 1, 1) := by decide +kernel
theorem dX11_token_88 : decode cX11_token 88 = .ok (.if_icmp .ne 30, 3) := by decide +kernel
theorem dX11_token_91 : decode cX11_token 91 = .ok (.aload_n 0, 1) := by decide +kernel
theorem dX11_token_92 : decode cX11_token 92 = .ok (.aload_n 0, 1) := by decide +kernel
theorem dX11_token_93 : decode cX11_token 93 = .ok (.getfield 49, 3) := by decide +kernel
theorem dX11_token_96 : decode cX11_token 96 = .ok (.invokevirtual 52, 3) := by decide +kernel
theorem dX11_token_99 : decode cX11_token 99 = .ok (.invokestatic 59, 3) := by decide +kernel
theorem dX11_token_102 : decode cX11_token 102 = .ok (.ifCond .eq 16, 3) := by decide +kernel
theorem dX11_token_105 : decode cX11_token 105 = .ok (.aload_n 0, 1) := by decide +kernel
theorem dX11_token_106 : decode cX11_token 106 = .ok (.dup, 1) := by decide +kernel
theorem dX11_token_107 : decode cX11_token 107 = .ok (.getfield 49, 3) := by decide +kernel
theorem dX11_token_110 : decode cX11_token 110 = .ok (.iconst 1, 1) := by decide +kernel
theorem dX11_token_111 : decode cX11_token 111 = .ok (.iadd, 1) := by decide +kernel
theorem dX11_token_112 : decode cX11_token 112 = .ok (.putfield 49, 3) := by decide +kernel
theorem dX11_token_115 : decode cX11_token 115 = .ok (.goto (-32), 3) := by decide +kernel
theorem dX11_token_118 : decode cX11_token 118 = .ok (.aload_n 0, 1) := by decide +kernel
theorem dX11_token_119 : decode cX11_token 119 = .ok (.getfield 66, 3) := by decide +kernel
theorem dX11_token_122 : decode cX11_token 122 = .ok (.iconst 2, 1) := by decide +kernel
theorem dX11_token_123 : decode cX11_token 123 = .ok (.if_icmp .ne 72, 3) := by decide +kernel
theorem dX11_token_126 : decode cX11_token 126 = .ok (.aload_n 0, 1) := by decide +kernel
theorem dX11_token_127 : decode cX11_token 127 = .ok (.aload_n 0, 1) := by decide +kernel
theorem dX11_token_128 : decode cX11_token 128 = .ok (.getfield 49, 3) := by decide +kernel
theorem dX11_token_131 : decode cX11_token 131 = .ok (.invokevirtual 52, 3) := by decide +kernel
theorem dX11_token_134 : decode cX11_token 134 = .ok (.invokestatic 63, 3) := by decide +kernel
theorem dX11_token_137 : decode cX11_token 137 = .ok (.ifCond .eq 58, 3) := by decide +kernel
theorem dX11_token_140 : decode cX11_token 140 = .ok (.aload_n 0, 1) := by decide +kernel
theorem dX11_token_141 : decode cX11_token 141 = .ok (.aload_n 0, 1) := by decide +kernel
theorem dX11_token_142 : decode cX11_token 142 = .ok (.getfield 49, 3) := by decide +kernel
theorem dX11_token_145 : decode cX11_token 145 = .ok (.aload_n 0, 1) := by decide +kernel
theorem dX11_token_146 : decode cX11_token 146 = .ok (.getfield 56, 3) := by decide +kernel
theorem dX11_token_149 : decode cX11_token 149 = .ok (.isub, 1) := by decide +kernel
theorem dX11_token_150 : decode cX11_token 150 = .ok (.iconst 2, 1) := by decide +kernel
theorem dX11_token_151 : decode cX11_token 151 = .ok (.if_icmp .ge 26, 3) := by decide +kernel
theorem dX11_token_154 : decode cX11_token 154 = .ok (.bipush 10, 2) := by decide +kernel
theorem dX11_token_156 : decode cX11_token 156 = .ok (.aload_n 0, 1) := by decide +kernel
theorem dX11_token_157 : decode cX11_token 157 = .ok (.getfield 69, 3) := by decide +kernel
theorem dX11_token_160 : decode cX11_token 160 = .ok (.imul, 1) := by decide +kernel
theorem dX11_token_161 : decode cX11_token 161 = .ok (.aload_n 0, 1) := by decide +kernel
theorem dX11_token_162 : decode cX11_token 162 = .ok (.getfield 7, 3) := by decide +kernel
theorem dX11_token_165 : decode cX11_token 165 = .ok (.aload_n 0, 1) := by decide +kernel
theorem dX11_token_166 : decode cX11_token 166 = .ok (.getfield 49, 3) := by decide +kernel
theorem dX11_token_169 : decode cX11_token 169 = .ok (.iaload, 1) := by decide +kernel
theorem dX11_token_170 : decode cX11_token 170 = .ok (.iadd, 1) := by decide +kernel
theorem dX11_token_171 : decode cX11_token 171 = .ok (.bipush 48, 2) := by decide +kernel
theorem dX11_token_173 : decode cX11_token 173 = .ok (.isub, 1) := by decide +kernel
theorem dX11_token_174 : decode cX11_token 174 = .ok (.goto 5, 3) := by decide +kernel
theorem dX11_token_177 : decode cX11_token 177 = .ok (.bipush 100, 2) := by decide +kernel
theorem dX11_token_179 : decode cX11_token 179 = .ok (.putfield 69, 3) := by decide +kernel
theorem dX11_token_182 : decode cX11_token 182 = .ok (.aload_n 0, 1) := by decide +kernel
theorem dX11_token_183 : decode cX11_token 183 = .ok (.dup, 1) := by decide +kernel
theorem dX11_token_184 : decode cX11_token 184 = .ok (.getfield 49, 3) := by decide +kernel
theorem dX11_token_187 : decode cX11_token 187 = .ok (.iconst 1, 1) := by decide +kernel
theorem dX11_token_188 : decode cX11_token 188 = .ok (.iadd, 1) := by decide +kernel
theorem dX11_token_189 : decode cX11_token 189 = .ok (.putfield 49, 3) := by decide +kernel
theorem dX11_token_192 : decode cX11_token 192 = .ok (.goto (-74), 3) := by decide +kernel
theorem dX11_token_195 : decode cX11_token 195 = .ok (.aload_n 0, 1) := by decide +kernel
theorem dX11_token_196 : decode cX11_token 196 = .ok (.dup, 1) := by decide +kernel
theorem dX11_token_197 : decode cX11_token 197 = .ok (.getfield 49, 3) := by decide +kernel
theorem dX11_token_200 : decode cX11_token 200 = .ok (.aload_n 0, 1) := by decide +kernel
theorem dX11_token_201 : decode cX11_token 201 = .ok (.getfield 66, 3) := by decide +kernel
theorem dX11_token_204 : decode cX11_token 204 = .ok (.iconst 3, 1) := by decide +kernel
theorem dX11_token_205 : decode cX11_token 205 = .ok (.if_icmp .ne 7, 3) := by decide +kernel
theorem dX11_token_208 : decode cX11_token 208 = .ok (.iconst 1, 1) := by decide +kernel
theorem dX11_token_209 : decode cX11_token 209 = .ok (.goto 4, 3) := by decide +kernel
theorem dX11_token_212 : decode cX11_token 212 = .ok (.iconst 0, 1) := by decide +kernel
theorem dX11_token_213 : decode cX11_token 213 = .ok (.iadd, 1) := by decide +kernel
theorem dX11_token_214 : decode cX11_token 214 = .ok (.putfield 49, 3) := by decide +kernel
theorem dX11_token_217 : decode cX11_token 217 = .ok (.return_, 1) := by decide +kernel
theorem dX11_isWord_0 : decode cX11_isWord 0 = .ok (.aload_n 0, 1) := by decide +kernel
theorem dX11_isWord_1 : decode cX11_isWord 1 = .ok (.getfield 66, 3) := by decide +kernel
theorem dX11_isWord_4 : decode cX11_isWord 4 = .ok (.iconst 1, 1) := by decide +kernel
theorem dX11_isWord_5 : decode cX11_isWord 5 = .ok (.if_icmp .ne 21, 3) := by decide +kernel
theorem dX11_isWord_8 : decode cX11_isWord 8 = .ok (.aload_n 0, 1) := by decide +kernel
theorem dX11_isWord_9 : decode cX11_isWord 9 = .ok (.getfield 49, 3) := by decide +kernel
theorem dX11_isWord_12 : decode cX11_isWord 12 = .ok (.aload_n 0, 1) := by decide +kernel
theorem dX11_isWord_13 : decode cX11_isWord 13 = .ok (.getfield 56, 3) := by decide +kernel
