theorem dX11_isWord_16 : decode cX11_isWord 16 = .ok (.isub, 1) := by decide +kernel
theorem dX11_isWord_17 : decode cX11_isWord 17 = .ok (.bipush 7, 2) := by decide +kernel
theorem dX11_isWord_19 : decode cX11_isWord 19 = .ok (.if_icmp .ge 7, 3) := by decide +kernel
theorem dX11_isWord_22 : decode cX11_isWord 22 = .ok (.iconst 1, 1) := by decide +kernel
theorem dX11_isWord_23 : decode cX11_isWord 23 = .ok (.goto 4, 3) := by decide +kernel
theorem dX11_isWord_26 : decode cX11_isWord 26 = .ok (.iconst 0, 1) := by decide +kernel
theorem dX11_isWord_27 : decode cX11_isWord 27 = .ok (.istore 7, 2) := by decide +kernel
theorem dX11_isWord_29 : decode cX11_isWord 29 = .ok (.iconst 0, 1) := by decide +kernel
theorem dX11_isWord_30 : decode cX11_isWord 30 = .ok (.istore 8, 2) := by decide +kernel
theorem dX11_isWord_32 : decode cX11_isWord 32 = .ok (.iload 8, 2) := by decide +kernel
theorem dX11_isWord_34 : decode cX11_isWord 34 = .ok (.bipush 6, 2) := by decide +kernel
theorem dX11_isWord_36 : decode cX11_isWord 36 = .ok (.if_icmp .ge 120, 3) := by decide +kernel
theorem dX11_isWord_39 : decode cX11_isWord 39 = .ok (.iload 7, 2) := by decide +kernel
theorem dX11_isWord_41 : decode cX11_isWord 41 = .ok (.ifCond .eq 115, 3) := by decide +kernel
theorem dX11_isWord_44 : decode cX11_isWord 44 = .ok (.iload 8, 2) := by decide +kernel
theorem dX11_isWord_46 : decode cX11_isWord 46 = .ok (.ifCond .ne 7, 3) := by decide +kernel
theorem dX11_isWord_49 : decode cX11_isWord 49 = .ok (.iload_n 1, 1) := by decide +kernel
theorem dX11_isWord_50 : decode cX11_isWord 50 = .ok (.goto 47, 3) := by decide +kernel
theorem dX11_isWord_53 : decode cX11_isWord 53 = .ok (.iload 8, 2) := by decide +kernel
theorem dX11_isWord_55 : decode cX11_isWord 55 = .ok (.iconst 1, 1) := by decide +kernel
theorem dX11_isWord_56 : decode cX11_isWord 56 = .ok (.if_icmp .ne 7, 3) := by decide +kernel
theorem dX11_isWord_59 : decode cX11_isWord 59 = .ok (.iload_n 2, 1) := by decide +kernel
theorem dX11_isWord_60 : decode cX11_isWord 60 = .ok (.goto 37, 3) := by decide +kernel
theorem dX11_isWord_63 : decode cX11_isWord 63 = .ok (.iload 8, 2) := by decide +kernel
theorem dX11_isWord_65 : decode cX11_isWord 65 = .ok (.iconst 2, 1) := by decide +kernel
theorem dX11_isWord_66 : decode cX11_isWord 66 = .ok (.if_icmp .ne 7, 3) := by decide +kernel
theorem dX11_isWord_69 : decode cX11_isWord 69 = .ok (.iload_n 3, 1) := by decide +kernel
theorem dX11_isWord_70 : decode cX11_isWord 70 = .ok (.goto 27, 3) := by decide +kernel
theorem dX11_isWord_73 : decode cX11_isWord 73 = .ok (.iload 8, 2) := by decide +kernel
theorem dX11_isWord_75 : decode cX11_isWord 75 = .ok (.iconst 3, 1) := by decide +kernel
theorem dX11_isWord_76 : decode cX11_isWord 76 = .ok (.if_icmp .ne 8, 3) := by decide +kernel
theorem dX11_isWord_79 : decode cX11_isWord 79 = .ok (.iload 4, 2) := by decide +kernel
theorem dX11_isWord_81 : decode cX11_isWord 81 = .ok (.goto 16, 3) := by decide +kernel
theorem dX11_isWord_84 : decode cX11_isWord 84 = .ok (.iload 8, 2) := by decide +kernel
theorem dX11_isWord_86 : decode cX11_isWord 86 = .ok (.iconst 4, 1) := by decide +kernel
theorem dX11_isWord_87 : decode cX11_isWord 87 = .ok (.if_icmp .ne 8, 3) := by decide +kernel
theorem dX11_isWord_90 : decode cX11_isWord 90 = .ok (.iload 5, 2) := by decide +kernel
theorem dX11_isWord_92 : decode cX11_isWord 92 = .ok (.goto 5, 3) := by decide +kernel
theorem dX11_isWord_95 : decode cX11_isWord 95 = .ok (.iload 6, 2) := by decide +kernel
theorem dX11_isWord_97 : decode cX11_isWord 97 = .ok (.istore 9, 2) := by decide +kernel
theorem dX11_isWord_99 : decode cX11_isWord 99 = .ok (.aload_n 0, 1) := by decide +kernel
theorem dX11_isWord_100 : decode cX11_isWord 100 = .ok (.getfield 56, 3) := by decide +kernel
theorem dX11_isWord_103 : decode cX11_isWord 103 = .ok (.iload 8, 2) := by decide +kernel
theorem dX11_isWord_105 : decode cX11_isWord 105 = .ok (.iadd, 1) := by decide +kernel
theorem dX11_isWord_106 : decode cX11_isWord 106 = .ok (.aload_n 0, 1) := by decide +kernel
theorem dX11_isWord_107 : decode cX11_isWord 107 = .ok (.getfield 49, 3) := by decide +kernel
theorem dX11_isWord_110 : decode cX11_isWord 110 = .ok (.if_icmp .ge 28, 3) := by decide +kernel
theorem dX11_isWord_113 : decode cX11_isWord 113 = .ok (.aload_n 0, 1) := by decide +kernel
theorem dX11_isWord_114 : decode cX11_isWord 114 = .ok (.getfield 7, 3) := by decide +kernel
theorem dX11_isWord_117 : decode cX11_isWord 117 = .ok (.aload_n 0, 1) := by decide +kernel
theorem dX11_isWord_118 : decode cX11_isWord 118 = .ok (.getfield 56, 3) := by decide +kernel
theorem dX11_isWord_121 : decode cX11_isWord 121 = .ok (.iload 8, 2) := by decide +kernel
theorem dX11_isWord_123 : decode cX11_isWord 123 = .ok (.iadd, 1) := by decide +kernel
theorem dX11_isWord_124 : decode cX11_isWord 124 = .ok (.iaload, 1) := by decide +kernel
theorem dX11_isWord_125 : decode cX11_isWord 125 = .ok (.iload 9, 2) := by decide +kernel
theorem dX11_isWord_127 : decode cX11_isWord 127 = .ok (.if_icmp .ne 7, 3) := by decide +kernel
theorem dX11_isWord_130 : decode cX11_isWord 130 = .ok (.iconst 1, 1) := by decide +kernel
theorem dX11_isWord_131 : decode cX11_isWord 131 = .ok (.goto 17, 3) := by decide +kernel
theorem dX11_isWord_134 : decode cX11_isWord 134 = .ok (.iconst 0, 1) := by decide +kernel
theorem dX11_isWord_135 : decode cX11_isWord 135 = .ok (.goto 13, 3) := by decide +kernel
theorem dX11_isWord_138 : decode cX11_isWord 138 = .ok (.iload 9, 2) := by decide +kernel
theorem dX11_isWord_140 : decode cX11_isWord 140 = .ok (.ifCond .ne 7, 3) := by decide +kernel
theorem dX11_isWord_143 : decode cX11_isWord 143 = .ok (.iconst 1, 1) := by decide +kernel
theorem dX11_isWord_144 : decode cX11_isWord 144 = .ok (.goto 4, 3) := by decide +kernel
theorem dX11_isWord_147 : decode cX11_isWord 147 = .ok (.iconst 0, 1) := by decide +kernel
theorem dX11_isWord_148 : decode cX11_isWord 148 = .ok (.istore 7, 2) := by decide +kernel
theorem dX11_isWord_150 : decode cX11_isWord 150 = .ok (.iinc 8 1, 3) := by decide +kernel
theorem dX11_isWord_153 : decode cX11_isWord 153 = .ok (.goto (-121), 3) := by decide +kernel
theorem dX11_isWord_156 : decode cX11_isWord 156 = .ok (.iload 7, 2) := by decide +kernel
theorem dX11_isWord_158 : decode cX11_isWord 158 = .ok (.ireturn, 1) := by decide +kernel
theorem dX11_number_0 : decode cX11_number 0 = .ok (.aload_n 0, 1) := by decide +kernel
theorem dX11_number_1 : decode cX11_number 1 = .ok (.invokevirtual 72, 3) := by decide +kernel
theorem dX11_number_4 : decode cX11_number 4 = .ok (.aload_n 0, 1) := by decide +kernel
theorem dX11_number_5 : decode cX11_number 5 = .ok (.getfield 66, 3) := by decide +kernel
theorem dX11_number_8 : decode cX11_number 8 = .ok (.iconst 2, 1) := by decide +kernel
theorem dX11_number_9 : decode cX11_number 9 = .ok (.if_icmp .ne 19, 3) := by decide +kernel
theorem dX11_number_12 : decode cX11_number 12 = .ok (.aload_n 0, 1) := by decide +kernel
theorem dX11_number_13 : decode cX11_number 13 = .ok (.getfield 69, 3) := by decide +kernel
theorem dX11_number_16 : decode cX11_number 16 = .ok (.iload_n 1, 1) := by decide +kernel
theorem dX11_number_17 : decode cX11_number 17 = .ok (.iload_n 2, 1) := by decide +kernel
theorem dX11_number_18 : decode cX11_number 18 = .ok (.invokestatic 41, 3) := by decide +kernel
theorem dX11_number_21 : decode cX11_number 21 = .ok (.ifCond .eq 7, 3) := by decide +kernel
theorem dX11_number_24 : decode cX11_number 24 = .ok (.iconst 1, 1) := by decide +kernel
theorem dX11_number_25 : decode cX11_number 25 = .ok (.goto 4, 3) := by decide +kernel
theorem dX11_number_28 : decode cX11_number 28 = .ok (.iconst 0, 1) := by decide +kernel
theorem dX11_number_29 : decode cX11_number 29 = .ok (.ireturn, 1) := by decide +kernel
theorem dX11_cleans_0 : decode cX11_cleans 0 = .ok (.bipush 14, 2) := by decide +kernel
theorem dX11_cleans_2 : decode cX11_cleans 2 = .ok (.istore_n 1, 1) := by decide +kernel
theorem dX11_cleans_3 : decode cX11_cleans 3 = .ok (.iload_n 1, 1) := by decide +kernel
theorem dX11_cleans_4 : decode cX11_cleans 4 = .ok (.bipush 62, 2) := by decide +kernel
theorem dX11_cleans_6 : decode cX11_cleans 6 = .ok (.if_icmp .ge 16, 3) := by decide +kernel
theorem dX11_cleans_9 : decode cX11_cleans 9 = .ok (.aload_n 0, 1) := by decide +kernel
theorem dX11_cleans_10 : decode cX11_cleans 10 = .ok (.getfield 16, 3) := by decide +kernel
theorem dX11_cleans_13 : decode cX11_cleans 13 = .ok (.iload_n 1, 1) := by decide +kernel
theorem dX11_cleans_14 : decode cX11_cleans 14 = .ok (.iconst 0, 1) := by decide +kernel
theorem dX11_cleans_15 : decode cX11_cleans 15 = .ok (.iastore, 1) := by decide +kernel
theorem dX11_cleans_16 : decode cX11_cleans 16 = .ok (.iinc 1 1, 3) := by decide +kernel
theorem dX11_cleans_19 : decode cX11_cleans 19 = .ok (.goto (-16), 3) := by decide +kernel
theorem dX11_cleans_22 : decode cX11_cleans 22 = .ok (.return_, 1) := by decide +kernel
theorem dX11_readsStair_0 : decode cX11_readsStair 0 = .ok (.aload_n 0, 1) := by decide +kernel
theorem dX11_readsStair_1 : decode cX11_readsStair 1 = .ok (.iconst 2, 1) := by decide +kernel
theorem dX11_readsStair_2 : decode cX11_readsStair 2 = .ok (.bipush 12, 2) := by decide +kernel
theorem dX11_readsStair_4 : decode cX11_readsStair 4 = .ok (.invokevirtual 75, 3) := by decide +kernel
theorem dX11_readsStair_7 : decode cX11_readsStair 7 = .ok (.ifCond .ne 5, 3) := by decide +kernel
theorem dX11_readsStair_10 : decode cX11_readsStair 10 = .ok (.iconst 0, 1) := by decide +kernel
theorem dX11_readsStair_11 : decode cX11_readsStair 11 = .ok (.ireturn, 1) := by decide +kernel
theorem dX11_readsStair_12 : decode cX11_readsStair 12 = .ok (.aload_n 0, 1) := by decide +kernel
theorem dX11_readsStair_13 : decode cX11_readsStair 13 = .ok (.getfield 16, 3) := by decide +kernel
theorem dX11_readsStair_16 : decode cX11_readsStair 16 = .ok (.iconst 0, 1) := by decide +kernel
theorem dX11_readsStair_17 : decode cX11_readsStair 17 = .ok (.aload_n 0, 1) := by decide +kernel
theorem dX11_readsStair_18 : decode cX11_readsStair 18 = .ok (.getfield 69, 3) := by decide +kernel
theorem dX11_readsStair_21 : decode cX11_readsStair 21 = .ok (.iastore, 1) := by decide +kernel
theorem dX11_readsStair_22 : decode cX11_readsStair 22 = .ok (.aload_n 0, 1) := by decide +kernel
theorem dX11_readsStair_23 : decode cX11_readsStair 23 = .ok (.getfield 16, 3) := by decide +kernel
theorem dX11_readsStair_26 : decode cX11_readsStair 26 = .ok (.iconst 1, 1) := by decide +kernel
theorem dX11_readsStair_27 : decode cX11_readsStair 27 = .ok (.iconst 0, 1) := by decide +kernel
theorem dX11_readsStair_28 : decode cX11_readsStair 28 = .ok (.iastore, 1) := by decide +kernel
theorem dX11_readsStair_29 : decode cX11_readsStair 29 = .ok (.aload_n 0, 1) := by decide +kernel
theorem dX11_readsStair_30 : decode cX11_readsStair 30 = .ok (.invokevirtual 79, 3) := by decide +kernel
theorem dX11_readsStair_33 : decode cX11_readsStair 33 = .ok (.iconst 1, 1) := by decide +kernel
theorem dX11_readsStair_34 : decode cX11_readsStair 34 = .ok (.ireturn, 1) := by decide +kernel
theorem dX11_readsPerson_0 : decode cX11_readsPerson 0 = .ok (.aload_n 0, 1) := by decide +kernel
theorem dX11_readsPerson_1 : decode cX11_readsPerson 1 = .ok (.getfield 16, 3) := by decide +kernel
theorem dX11_readsPerson_4 : decode cX11_readsPerson 4 = .ok (.iconst 1, 1) := by decide +kernel
theorem dX11_readsPerson_5 : decode cX11_readsPerson 5 = .ok (.iaload, 1) := by decide +kernel
theorem dX11_readsPerson_6 : decode cX11_readsPerson 6 = .ok (.istore_n 2, 1) := by decide +kernel
theorem dX11_readsPerson_7 : decode cX11_readsPerson 7 = .ok (.iload_n 2, 1) := by decide +kernel
theorem dX11_readsPerson_8 : decode cX11_readsPerson 8 = .ok (.bipush 6, 2) := by decide +kernel
theorem dX11_readsPerson_10 : decode cX11_readsPerson 10 = .ok (.if_icmp .eq 13, 3) := by decide +kernel
theorem dX11_readsPerson_13 : decode cX11_readsPerson 13 = .ok (.aload_n 0, 1) := by decide +kernel
theorem dX11_readsPerson_14 : decode cX11_readsPerson 14 = .ok (.iconst 1, 1) := by decide +kernel
theorem dX11_readsPerson_15 : decode cX11_readsPerson 15 = .ok (.bipush 9, 2) := by decide +kernel
theorem dX11_readsPerson_17 : decode cX11_readsPerson 17 = .ok (.invokevirtual 75, 3) := by decide +kernel
theorem dX11_readsPerson_20 : decode cX11_readsPerson 20 = .ok (.ifCond .ne 5, 3) := by decide +kernel
theorem dX11_readsPerson_23 : decode cX11_readsPerson 23 = .ok (.iconst 0, 1) := by decide +kernel
theorem dX11_readsPerson_24 : decode cX11_readsPerson 24 = .ok (.ireturn, 1) := by decide +kernel
theorem dX11_readsPerson_25 : decode cX11_readsPerson 25 = .ok (.aload_n 0, 1) := by decide +kernel
theorem dX11_readsPerson_26 : decode cX11_readsPerson 26 = .ok (.getfield 16, 3) := by decide +kernel
theorem dX11_readsPerson_29 : decode cX11_readsPerson 29 = .ok (.iconst 2, 1) := by decide +kernel
theorem dX11_readsPerson_30 : decode cX11_readsPerson 30 = .ok (.iload_n 2, 1) := by decide +kernel
theorem dX11_readsPerson_31 : decode cX11_readsPerson 31 = .ok (.iadd, 1) := by decide +kernel
theorem dX11_readsPerson_32 : decode cX11_readsPerson 32 = .ok (.iload_n 1, 1) := by decide +kernel
theorem dX11_readsPerson_33 : decode cX11_readsPerson 33 = .ok (.iastore, 1) := by decide +kernel
theorem dX11_readsPerson_34 : decode cX11_readsPerson 34 = .ok (.aload_n 0, 1) := by decide +kernel
theorem dX11_readsPerson_35 : decode cX11_readsPerson 35 = .ok (.getfield 16, 3) := by decide +kernel
theorem dX11_readsPerson_38 : decode cX11_readsPerson 38 = .ok (.bipush 8, 2) := by decide +kernel
theorem dX11_readsPerson_40 : decode cX11_readsPerson 40 = .ok (.iload_n 2, 1) := by decide +kernel
theorem dX11_readsPerson_41 : decode cX11_readsPerson 41 = .ok (.iadd, 1) := by decide +kernel
theorem dX11_readsPerson_42 : decode cX11_readsPerson 42 = .ok (.aload_n 0, 1) := by decide +kernel
theorem dX11_readsPerson_43 : decode cX11_readsPerson 43 = .ok (.getfield 69, 3) := by decide +kernel
theorem dX11_readsPerson_46 : decode cX11_readsPerson 46 = .ok (.iastore, 1) := by decide +kernel
theorem dX11_readsPerson_47 : decode cX11_readsPerson 47 = .ok (.aload_n 0, 1) := by decide +kernel
theorem dX11_readsPerson_48 : decode cX11_readsPerson 48 = .ok (.getfield 16, 3) := by decide +kernel
theorem dX11_readsPerson_51 : decode cX11_readsPerson 51 = .ok (.iconst 1, 1) := by decide +kernel
theorem dX11_readsPerson_52 : decode cX11_readsPerson 52 = .ok (.dup2, 1) := by decide +kernel
theorem dX11_readsPerson_53 : decode cX11_readsPerson 53 = .ok (.iaload, 1) := by decide +kernel
theorem dX11_readsPerson_54 : decode cX11_readsPerson 54 = .ok (.iconst 1, 1) := by decide +kernel
theorem dX11_readsPerson_55 : decode cX11_readsPerson 55 = .ok (.iadd, 1) := by decide +kernel
theorem dX11_readsPerson_56 : decode cX11_readsPerson 56 = .ok (.iastore, 1) := by decide +kernel
theorem dX11_readsPerson_57 : decode cX11_readsPerson 57 = .ok (.iconst 1, 1) := by decide +kernel
theorem dX11_readsPerson_58 : decode cX11_readsPerson 58 = .ok (.ireturn, 1) := by decide +kernel
theorem dX11_readsSaying_0 : decode cX11_readsSaying 0 = .ok (.aload_n 0, 1) := by decide +kernel
theorem dX11_readsSaying_1 : decode cX11_readsSaying 1 = .ok (.iconst 0, 1) := by decide +kernel
theorem dX11_readsSaying_2 : decode cX11_readsSaying 2 = .ok (.aload_n 0, 1) := by decide +kernel
theorem dX11_readsSaying_3 : decode cX11_readsSaying 3 = .ok (.getfield 16, 3) := by decide +kernel
theorem dX11_readsSaying_6 : decode cX11_readsSaying 6 = .ok (.iconst 0, 1) := by decide +kernel
theorem dX11_readsSaying_7 : decode cX11_readsSaying 7 = .ok (.iaload, 1) := by decide +kernel
theorem dX11_readsSaying_8 : decode cX11_readsSaying 8 = .ok (.iconst 1, 1) := by decide +kernel
theorem dX11_readsSaying_9 : decode cX11_readsSaying 9 = .ok (.isub, 1) := by decide +kernel
theorem dX11_readsSaying_10 : decode cX11_readsSaying 10 = .ok (.invokevirtual 75, 3) := by decide +kernel
theorem dX11_readsSaying_13 : decode cX11_readsSaying 13 = .ok (.ifCond .ne 5, 3) := by decide +kernel
theorem dX11_readsSaying_16 : decode cX11_readsSaying 16 = .ok (.iconst 0, 1) := by decide +kernel
theorem dX11_readsSaying_17 : decode cX11_readsSaying 17 = .ok (.ireturn, 1) := by decide +kernel
theorem dX11_readsSaying_18 : decode cX11_readsSaying 18 = .ok (.iconst 2, 1) := by decide +kernel
theorem dX11_readsSaying_19 : decode cX11_readsSaying 19 = .ok (.aload_n 0, 1) := by decide +kernel
theorem dX11_readsSaying_20 : decode cX11_readsSaying 20 = .ok (.getfield 69, 3) := by decide +kernel
theorem dX11_readsSaying_23 : decode cX11_readsSaying 23 = .ok (.imul, 1) := by decide +kernel
theorem dX11_readsSaying_24 : decode cX11_readsSaying 24 = .ok (.istore_n 1, 1) := by decide +kernel
theorem dX11_readsSaying_25 : decode cX11_readsSaying 25 = .ok (.aload_n 0, 1) := by decide +kernel
theorem dX11_readsSaying_26 : decode cX11_readsSaying 26 = .ok (.iconst 0, 1) := by decide +kernel
theorem dX11_readsSaying_27 : decode cX11_readsSaying 27 = .ok (.iconst 1, 1) := by decide +kernel
theorem dX11_readsSaying_28 : decode cX11_readsSaying 28 = .ok (.invokevirtual 75, 3) := by decide +kernel
theorem dX11_readsSaying_31 : decode cX11_readsSaying 31 = .ok (.ifCond .ne 5, 3) := by decide +kernel
theorem dX11_readsSaying_34 : decode cX11_readsSaying 34 = .ok (.iconst 0, 1) := by decide +kernel
theorem dX11_readsSaying_35 : decode cX11_readsSaying 35 = .ok (.ireturn, 1) := by decide +kernel
theorem dX11_readsSaying_36 : decode cX11_readsSaying 36 = .ok (.iload_n 1, 1) := by decide +kernel
theorem dX11_readsSaying_37 : decode cX11_readsSaying 37 = .ok (.aload_n 0, 1) := by decide +kernel
theorem dX11_readsSaying_38 : decode cX11_readsSaying 38 = .ok (.getfield 69, 3) := by decide +kernel
theorem dX11_readsSaying_41 : decode cX11_readsSaying 41 = .ok (.iadd, 1) := by decide +kernel
theorem dX11_readsSaying_42 : decode cX11_readsSaying 42 = .ok (.istore_n 1, 1) := by decide +kernel
theorem dX11_readsSaying_43 : decode cX11_readsSaying 43 = .ok (.aload_n 0, 1) := by decide +kernel
theorem dX11_readsSaying_44 : decode cX11_readsSaying 44 = .ok (.iconst 1, 1) := by decide +kernel
theorem dX11_readsSaying_45 : decode cX11_readsSaying 45 = .ok (.bipush 7, 2) := by decide +kernel
theorem dX11_readsSaying_47 : decode cX11_readsSaying 47 = .ok (.invokevirtual 75, 3) := by decide +kernel
theorem dX11_readsSaying_50 : decode cX11_readsSaying 50 = .ok (.ifCond .ne 5, 3) := by decide +kernel
theorem dX11_readsSaying_53 : decode cX11_readsSaying 53 = .ok (.iconst 0, 1) := by decide +kernel
theorem dX11_readsSaying_54 : decode cX11_readsSaying 54 = .ok (.ireturn, 1) := by decide +kernel
theorem dX11_readsSaying_55 : decode cX11_readsSaying 55 = .ok (.aload_n 0, 1) := by decide +kernel
theorem dX11_readsSaying_56 : decode cX11_readsSaying 56 = .ok (.getfield 69, 3) := by decide +kernel
theorem dX11_readsSaying_59 : decode cX11_readsSaying 59 = .ok (.istore_n 2, 1) := by decide +kernel
theorem dX11_readsSaying_60 : decode cX11_readsSaying 60 = .ok (.aload_n 0, 1) := by decide +kernel
theorem dX11_readsSaying_61 : decode cX11_readsSaying 61 = .ok (.iconst 1, 1) := by decide +kernel
theorem dX11_readsSaying_62 : decode cX11_readsSaying 62 = .ok (.bipush 20, 2) := by decide +kernel
theorem dX11_readsSaying_64 : decode cX11_readsSaying 64 = .ok (.invokevirtual 75, 3) := by decide +kernel
theorem dX11_readsSaying_67 : decode cX11_readsSaying 67 = .ok (.ifCond .ne 5, 3) := by decide +kernel
theorem dX11_readsSaying_70 : decode cX11_readsSaying 70 = .ok (.iconst 0, 1) := by decide +kernel
theorem dX11_readsSaying_71 : decode cX11_readsSaying 71 = .ok (.ireturn, 1) := by decide +kernel
theorem dX11_readsSaying_72 : decode cX11_readsSaying 72 = .ok (.aload_n 0, 1) := by decide +kernel
theorem dX11_readsSaying_73 : decode cX11_readsSaying 73 = .ok (.getfield 16, 3) := by decide +kernel
theorem dX11_readsSaying_76 : decode cX11_readsSaying 76 = .ok (.bipush 14, 2) := by decide +kernel
theorem dX11_readsSaying_78 : decode cX11_readsSaying 78 = .ok (.iload_n 1, 1) := by decide +kernel
theorem dX11_readsSaying_79 : decode cX11_readsSaying 79 = .ok (.iadd, 1) := by decide +kernel
theorem dX11_readsSaying_80 : decode cX11_readsSaying 80 = .ok (.iload_n 2, 1) := by decide +kernel
theorem dX11_readsSaying_81 : decode cX11_readsSaying 81 = .ok (.iastore, 1) := by decide +kernel
theorem dX11_readsSaying_82 : decode cX11_readsSaying 82 = .ok (.aload_n 0, 1) := by decide +kernel
theorem dX11_readsSaying_83 : decode cX11_readsSaying 83 = .ok (.getfield 16, 3) := by decide +kernel
theorem dX11_readsSaying_86 : decode cX11_readsSaying 86 = .ok (.bipush 38, 2) := by decide +kernel
theorem dX11_readsSaying_88 : decode cX11_readsSaying 88 = .ok (.iload_n 1, 1) := by decide +kernel
theorem dX11_readsSaying_89 : decode cX11_readsSaying 89 = .ok (.iadd, 1) := by decide +kernel
theorem dX11_readsSaying_90 : decode cX11_readsSaying 90 = .ok (.aload_n 0, 1) := by decide +kernel
theorem dX11_readsSaying_91 : decode cX11_readsSaying 91 = .ok (.getfield 69, 3) := by decide +kernel
theorem dX11_readsSaying_94 : decode cX11_readsSaying 94 = .ok (.iastore, 1) := by decide +kernel
theorem dX11_readsSaying_95 : decode cX11_readsSaying 95 = .ok (.iconst 1, 1) := by decide +kernel
theorem dX11_readsSaying_96 : decode cX11_readsSaying 96 = .ok (.ireturn, 1) := by decide +kernel
theorem dX11_readsClause_0 : decode cX11_readsClause 0 = .ok (.aload_n 0, 1) := by decide +kernel
theorem dX11_readsClause_1 : decode cX11_readsClause 1 = .ok (.bipush 115, 2) := by decide +kernel
theorem dX11_readsClause_3 : decode cX11_readsClause 3 = .ok (.bipush 116, 2) := by decide +kernel
theorem dX11_readsClause_5 : decode cX11_readsClause 5 = .ok (.bipush 97, 2) := by decide +kernel
theorem dX11_readsClause_7 : decode cX11_readsClause 7 = .ok (.bipush 105, 2) := by decide +kernel
theorem dX11_readsClause_9 : decode cX11_readsClause 9 = .ok (.bipush 114, 2) := by decide +kernel
theorem dX11_readsClause_11 : decode cX11_readsClause 11 = .ok (.iconst 0, 1) := by decide +kernel
theorem dX11_readsClause_12 : decode cX11_readsClause 12 = .ok (.invokevirtual 82, 3) := by decide +kernel
theorem dX11_readsClause_15 : decode cX11_readsClause 15 = .ok (.ifCond .eq 8, 3) := by decide +kernel
theorem dX11_readsClause_18 : decode cX11_readsClause 18 = .ok (.aload_n 0, 1) := by decide +kernel
theorem dX11_readsClause_19 : decode cX11_readsClause 19 = .ok (.invokevirtual 86, 3) := by decide +kernel
theorem dX11_readsClause_22 : decode cX11_readsClause 22 = .ok (.ireturn, 1) := by decide +kernel
theorem dX11_readsClause_23 : decode cX11_readsClause 23 = .ok (.aload_n 0, 1) := by decide +kernel
theorem dX11_readsClause_24 : decode cX11_readsClause 24 = .ok (.bipush 103, 2) := by decide +kernel
theorem dX11_readsClause_26 : decode cX11_readsClause 26 = .ok (.bipush 117, 2) := by decide +kernel
theorem dX11_readsClause_28 : decode cX11_readsClause 28 = .ok (.bipush 101, 2) := by decide +kernel
theorem dX11_readsClause_30 : decode cX11_readsClause 30 = .ok (.bipush 115, 2) := by decide +kernel
theorem dX11_readsClause_32 : decode cX11_readsClause 32 = .ok (.bipush 116, 2) := by decide +kernel
theorem dX11_readsClause_34 : decode cX11_readsClause 34 = .ok (.iconst 0, 1) := by decide +kernel
theorem dX11_readsClause_35 : decode cX11_readsClause 35 = .ok (.invokevirtual 82, 3) := by decide +kernel
theorem dX11_readsClause_38 : decode cX11_readsClause 38 = .ok (.ifCond .eq 9, 3) := by decide +kernel
theorem dX11_readsClause_41 : decode cX11_readsClause 41 = .ok (.aload_n 0, 1) := by decide +kernel
theorem dX11_readsClause_42 : decode cX11_readsClause 42 = .ok (.iconst 0, 1) := by decide +kernel
theorem dX11_readsClause_43 : decode cX11_readsClause 43 = .ok (.invokevirtual 90, 3) := by decide +kernel
theorem dX11_readsClause_46 : decode cX11_readsClause 46 = .ok (.ireturn, 1) := by decide +kernel
theorem dX11_readsClause_47 : decode cX11_readsClause 47 = .ok (.aload_n 0, 1) := by decide +kernel
theorem dX11_readsClause_48 : decode cX11_readsClause 48 = .ok (.bipush 99, 2) := by decide +kernel
theorem dX11_readsClause_50 : decode cX11_readsClause 50 = .ok (.bipush 104, 2) := by decide +kernel
theorem dX11_readsClause_52 : decode cX11_readsClause 52 = .ok (.bipush 105, 2) := by decide +kernel
theorem dX11_readsClause_54 : decode cX11_readsClause 54 = .ok (.bipush 108, 2) := by decide +kernel
theorem dX11_readsClause_56 : decode cX11_readsClause 56 = .ok (.bipush 100, 2) := by decide +kernel
theorem dX11_readsClause_58 : decode cX11_readsClause 58 = .ok (.iconst 0, 1) := by decide +kernel
theorem dX11_readsClause_59 : decode cX11_readsClause 59 = .ok (.invokevirtual 82, 3) := by decide +kernel
theorem dX11_readsClause_62 : decode cX11_readsClause 62 = .ok (.ifCond .eq 9, 3) := by decide +kernel
theorem dX11_readsClause_65 : decode cX11_readsClause 65 = .ok (.aload_n 0, 1) := by decide +kernel
theorem dX11_readsClause_66 : decode cX11_readsClause 66 = .ok (.iconst 1, 1) := by decide +kernel
theorem dX11_readsClause_67 : decode cX11_readsClause 67 = .ok (.invokevirtual 90, 3) := by decide +kernel
theorem dX11_readsClause_70 : decode cX11_readsClause 70 = .ok (.ireturn, 1) := by decide +kernel
theorem dX11_readsClause_71 : decode cX11_readsClause 71 = .ok (.aload_n 0, 1) := by decide +kernel
theorem dX11_readsClause_72 : decode cX11_readsClause 72 = .ok (.bipush 103, 2) := by decide +kernel
theorem dX11_readsClause_74 : decode cX11_readsClause 74 = .ok (.bipush 108, 2) := by decide +kernel
theorem dX11_readsClause_76 : decode cX11_readsClause 76 = .ok (.bipush 111, 2) := by decide +kernel
theorem dX11_readsClause_78 : decode cX11_readsClause 78 = .ok (.bipush 118, 2) := by decide +kernel
theorem dX11_readsClause_80 : decode cX11_readsClause 80 = .ok (.bipush 101, 2) := by decide +kernel
theorem dX11_readsClause_82 : decode cX11_readsClause 82 = .ok (.bipush 100, 2) := by decide +kernel
theorem dX11_readsClause_84 : decode cX11_readsClause 84 = .ok (.invokevirtual 82, 3) := by decide +kernel
theorem dX11_readsClause_87 : decode cX11_readsClause 87 = .ok (.ifCond .eq 9, 3) := by decide +kernel
theorem dX11_readsClause_90 : decode cX11_readsClause 90 = .ok (.aload_n 0, 1) := by decide +kernel
theorem dX11_readsClause_91 : decode cX11_readsClause 91 = .ok (.iconst 2, 1) := by decide +kernel
theorem dX11_readsClause_92 : decode cX11_readsClause 92 = .ok (.invokevirtual 90, 3) := by decide +kernel
theorem dX11_readsClause_95 : decode cX11_readsClause 95 = .ok (.ireturn, 1) := by decide +kernel
theorem dX11_readsClause_96 : decode cX11_readsClause 96 = .ok (.aload_n 0, 1) := by decide +kernel
theorem dX11_readsClause_97 : decode cX11_readsClause 97 = .ok (.bipush 109, 2) := by decide +kernel
theorem dX11_readsClause_99 : decode cX11_readsClause 99 = .ok (.bipush 97, 2) := by decide +kernel
theorem dX11_readsClause_101 : decode cX11_readsClause 101 = .ok (.bipush 105, 2) := by decide +kernel
theorem dX11_readsClause_103 : decode cX11_readsClause 103 = .ok (.bipush 100, 2) := by decide +kernel
theorem dX11_readsClause_105 : decode cX11_readsClause 105 = .ok (.iconst 0, 1) := by decide +kernel
theorem dX11_readsClause_106 : decode cX11_readsClause 106 = .ok (.iconst 0, 1) := by decide +kernel
theorem dX11_readsClause_107 : decode cX11_readsClause 107 = .ok (.invokevirtual 82, 3) := by decide +kernel
theorem dX11_readsClause_110 : decode cX11_readsClause 110 = .ok (.ifCond .eq 9, 3) := by decide +kernel
theorem dX11_readsClause_113 : decode cX11_readsClause 113 = .ok (.aload_n 0, 1) := by decide +kernel
theorem dX11_readsClause_114 : decode cX11_readsClause 114 = .ok (.iconst 3, 1) := by decide +kernel
theorem dX11_readsClause_115 : decode cX11_readsClause 115 = .ok (.invokevirtual 90, 3) := by decide +kernel
theorem dX11_readsClause_118 : decode cX11_readsClause 118 = .ok (.ireturn, 1) := by decide +kernel
theorem dX11_readsClause_119 : decode cX11_readsClause 119 = .ok (.aload_n 0, 1) := by decide +kernel
theorem dX11_readsClause_120 : decode cX11_readsClause 120 = .ok (.bipush 119, 2) := by decide +kernel
theorem dX11_readsClause_122 : decode cX11_readsClause 122 = .ok (.bipush 111, 2) := by decide +kernel
theorem dX11_readsClause_124 : decode cX11_readsClause 124 = .ok (.bipush 114, 2) := by decide +kernel
theorem dX11_readsClause_126 : decode cX11_readsClause 126 = .ok (.bipush 100, 2) := by decide +kernel
theorem dX11_readsClause_128 : decode cX11_readsClause 128 = .ok (.iconst 0, 1) := by decide +kernel
theorem dX11_readsClause_129 : decode cX11_readsClause 129 = .ok (.iconst 0, 1) := by decide +kernel
theorem dX11_readsClause_130 : decode cX11_readsClause 130 = .ok (.invokevirtual 82, 3) := by decide +kernel
theorem dX11_readsClause_133 : decode cX11_readsClause 133 = .ok (.ifCond .eq 8, 3) := by decide +kernel
theorem dX11_readsClause_136 : decode cX11_readsClause 136 = .ok (.aload_n 0, 1) := by decide +kernel
theorem dX11_readsClause_137 : decode cX11_readsClause 137 = .ok (.invokevirtual 93, 3) := by decide +kernel
theorem dX11_readsClause_140 : decode cX11_readsClause 140 = .ok (.ireturn, 1) := by decide +kernel
theorem dX11_readsClause_141 : decode cX11_readsClause 141 = .ok (.aload_n 0, 1) := by decide +kernel
theorem dX11_readsClause_142 : decode cX11_readsClause 142 = .ok (.bipush 99, 2) := by decide +kernel
theorem dX11_readsClause_144 : decode cX11_readsClause 144 = .ok (.bipush 108, 2) := by decide +kernel
theorem dX11_readsClause_146 : decode cX11_readsClause 146 = .ok (.bipush 101, 2) := by decide +kernel
theorem dX11_readsClause_148 : decode cX11_readsClause 148 = .ok (.bipush 97, 2) := by decide +kernel
theorem dX11_readsClause_150 : decode cX11_readsClause 150 = .ok (.bipush 110, 2) := by decide +kernel
theorem dX11_readsClause_152 : decode cX11_readsClause 152 = .ok (.iconst 0, 1) := by decide +kernel
theorem dX11_readsClause_153 : decode cX11_readsClause 153 = .ok (.invokevirtual 82, 3) := by decide +kernel
theorem dX11_readsClause_156 : decode cX11_readsClause 156 = .ok (.ifCond .eq 9, 3) := by decide +kernel
theorem dX11_readsClause_159 : decode cX11_readsClause 159 = .ok (.aload_n 0, 1) := by decide +kernel
theorem dX11_readsClause_160 : decode cX11_readsClause 160 = .ok (.invokevirtual 79, 3) := by decide +kernel
theorem dX11_readsClause_163 : decode cX11_readsClause 163 = .ok (.iconst 1, 1) := by decide +kernel
theorem dX11_readsClause_164 : decode cX11_readsClause 164 = .ok (.ireturn, 1) := by decide +kernel
theorem dX11_readsClause_165 : decode cX11_readsClause 165 = .ok (.iconst 0, 1) := by decide +kernel
theorem dX11_readsClause_166 : decode cX11_readsClause 166 = .ok (.ireturn, 1) := by decide +kernel
theorem dX11_reads_0 : decode cX11_reads 0 = .ok (.iconst 0, 1) := by decide +kernel
theorem dX11_reads_1 : decode cX11_reads 1 = .ok (.istore_n 1, 1) := by decide +kernel
theorem dX11_reads_2 : decode cX11_reads 2 = .ok (.iload_n 1, 1) := by decide +kernel
theorem dX11_reads_3 : decode cX11_reads 3 = .ok (.bipush 62, 2) := by decide +kernel
theorem dX11_reads_5 : decode cX11_reads 5 = .ok (.if_icmp .ge 21, 3) := by decide +kernel
theorem dX11_reads_8 : decode cX11_reads 8 = .ok (.aload_n 0, 1) := by decide +kernel
theorem dX11_reads_9 : decode cX11_reads 9 = .ok (.getfield 16, 3) := by decide +kernel
theorem dX11_reads_12 : decode cX11_reads 12 = .ok (.iload_n 1, 1) := by decide +kernel
theorem dX11_reads_13 : decode cX11_reads 13 = .ok (.aload_n 0, 1) := by decide +kernel
theorem dX11_reads_14 : decode cX11_reads 14 = .ok (.getfield 13, 3) := by decide +kernel
theorem dX11_reads_17 : decode cX11_reads 17 = .ok (.iload_n 1, 1) := by decide +kernel
theorem dX11_reads_18 : decode cX11_reads 18 = .ok (.iaload, 1) := by decide +kernel
theorem dX11_reads_19 : decode cX11_reads 19 = .ok (.iastore, 1) := by decide +kernel
theorem dX11_reads_20 : decode cX11_reads 20 = .ok (.iinc 1 1, 3) := by decide +kernel
theorem dX11_reads_23 : decode cX11_reads 23 = .ok (.goto (-21), 3) := by decide +kernel
theorem dX11_reads_26 : decode cX11_reads 26 = .ok (.aload_n 0, 1) := by decide +kernel
theorem dX11_reads_27 : decode cX11_reads 27 = .ok (.iconst 0, 1) := by decide +kernel
theorem dX11_reads_28 : decode cX11_reads 28 = .ok (.putfield 49, 3) := by decide +kernel
theorem dX11_reads_31 : decode cX11_reads 31 = .ok (.iconst 0, 1) := by decide +kernel
theorem dX11_reads_32 : decode cX11_reads 32 = .ok (.istore_n 1, 1) := by decide +kernel
theorem dX11_reads_33 : decode cX11_reads 33 = .ok (.iconst 1, 1) := by decide +kernel
theorem dX11_reads_34 : decode cX11_reads 34 = .ok (.istore_n 2, 1) := by decide +kernel
theorem dX11_reads_35 : decode cX11_reads 35 = .ok (.iload_n 2, 1) := by decide +kernel
theorem dX11_reads_36 : decode cX11_reads 36 = .ok (.ifCond .eq 70, 3) := by decide +kernel
theorem dX11_reads_39 : decode cX11_reads 39 = .ok (.aload_n 0, 1) := by decide +kernel
theorem dX11_reads_40 : decode cX11_reads 40 = .ok (.invokevirtual 72, 3) := by decide +kernel
theorem dX11_reads_43 : decode cX11_reads 43 = .ok (.aload_n 0, 1) := by decide +kernel
theorem dX11_reads_44 : decode cX11_reads 44 = .ok (.invokevirtual 96, 3) := by decide +kernel
theorem dX11_reads_47 : decode cX11_reads 47 = .ok (.ifCond .ne 5, 3) := by decide +kernel
theorem dX11_reads_50 : decode cX11_reads 50 = .ok (.iconst (-1), 1) := by decide +kernel
theorem dX11_reads_51 : decode cX11_reads 51 = .ok (.ireturn, 1) := by decide +kernel
theorem dX11_reads_52 : decode cX11_reads 52 = .ok (.iinc 1 1, 3) := by decide +kernel
theorem dX11_reads_55 : decode cX11_reads 55 = .ok (.aload_n 0, 1) := by decide +kernel
theorem dX11_reads_56 : decode cX11_reads 56 = .ok (.invokevirtual 72, 3) := by decide +kernel
theorem dX11_reads_59 : decode cX11_reads 59 = .ok (.aload_n 0, 1) := by decide +kernel
theorem dX11_reads_60 : decode cX11_reads 60 = .ok (.getfield 66, 3) := by decide +kernel
theorem dX11_reads_63 : decode cX11_reads 63 = .ok (.ifCond .eq 7, 3) := by decide +kernel
theorem dX11_reads_66 : decode cX11_reads 66 = .ok (.iconst 1, 1) := by decide +kernel
theorem dX11_reads_67 : decode cX11_reads 67 = .ok (.goto 4, 3) := by decide +kernel
theorem dX11_reads_70 : decode cX11_reads 70 = .ok (.iconst 0, 1) := by decide +kernel
theorem dX11_reads_71 : decode cX11_reads 71 = .ok (.istore_n 2, 1) := by decide +kernel
theorem dX11_reads_72 : decode cX11_reads 72 = .ok (.iload_n 2, 1) := by decide +kernel
theorem dX11_reads_73 : decode cX11_reads 73 = .ok (.ifCond .eq (-38), 3) := by decide +kernel
theorem dX11_reads_76 : decode cX11_reads 76 = .ok (.aload_n 0, 1) := by decide +kernel
theorem dX11_reads_77 : decode cX11_reads 77 = .ok (.getfield 66, 3) := by decide +kernel
theorem dX11_reads_80 : decode cX11_reads 80 = .ok (.iconst 3, 1) := by decide +kernel
theorem dX11_reads_81 : decode cX11_reads 81 = .ok (.if_icmp .ne 23, 3) := by decide +kernel
theorem dX11_reads_84 : decode cX11_reads 84 = .ok (.aload_n 0, 1) := by decide +kernel
theorem dX11_reads_85 : decode cX11_reads 85 = .ok (.getfield 7, 3) := by decide +kernel
theorem dX11_reads_88 : decode cX11_reads 88 = .ok (.aload_n 0, 1) := by decide +kernel
theorem dX11_reads_89 : decode cX11_reads 89 = .ok (.getfield 56, 3) := by decide +kernel
theorem dX11_reads_92 : decode cX11_reads 92 = .ok (.iaload, 1) := by decide +kernel
theorem dX11_reads_93 : decode cX11_reads 93 = .ok (.bipush 59, 2) := by decide +kernel
theorem dX11_reads_95 : decode cX11_reads 95 = .ok (.if_icmp .ne 9, 3) := by decide +kernel
theorem dX11_reads_98 : decode cX11_reads 98 = .ok (.iload_n 1, 1) := by decide +kernel
theorem dX11_reads_99 : decode cX11_reads 99 = .ok (.bipush 14, 2) := by decide +kernel
theorem dX11_reads_101 : decode cX11_reads 101 = .ok (.if_icmp .ne (-66), 3) := by decide +kernel
theorem dX11_reads_104 : decode cX11_reads 104 = .ok (.iconst (-1), 1) := by decide +kernel
theorem dX11_reads_105 : decode cX11_reads 105 = .ok (.ireturn, 1) := by decide +kernel
theorem dX11_reads_106 : decode cX11_reads 106 = .ok (.iload_n 1, 1) := by decide +kernel
theorem dX11_reads_107 : decode cX11_reads 107 = .ok (.ireturn, 1) := by decide +kernel
theorem dX11_lays_0 : decode cX11_lays 0 = .ok (.iconst 0, 1) := by decide +kernel
theorem dX11_lays_1 : decode cX11_lays 1 = .ok (.istore_n 1, 1) := by decide +kernel
theorem dX11_lays_2 : decode cX11_lays 2 = .ok (.iload_n 1, 1) := by decide +kernel
theorem dX11_lays_3 : decode cX11_lays 3 = .ok (.bipush 55, 2) := by decide +kernel
theorem dX11_lays_5 : decode cX11_lays 5 = .ok (.if_icmp .ge 34, 3) := by decide +kernel
theorem dX11_lays_8 : decode cX11_lays 8 = .ok (.aload_n 0, 1) := by decide +kernel
theorem dX11_lays_9 : decode cX11_lays 9 = .ok (.getfield 19, 3) := by decide +kernel
theorem dX11_lays_12 : decode cX11_lays 12 = .ok (.iload_n 1, 1) := by decide +kernel
theorem dX11_lays_13 : decode cX11_lays 13 = .ok (.iload_n 1, 1) := by decide +kernel
theorem dX11_lays_14 : decode cX11_lays 14 = .ok (.bipush 48, 2) := by decide +kernel
theorem dX11_lays_16 : decode cX11_lays 16 = .ok (.if_icmp .ge 15, 3) := by decide +kernel
theorem dX11_lays_19 : decode cX11_lays 19 = .ok (.aload_n 0, 1) := by decide +kernel
theorem dX11_lays_20 : decode cX11_lays 20 = .ok (.getfield 13, 3) := by decide +kernel
theorem dX11_lays_23 : decode cX11_lays 23 = .ok (.bipush 14, 2) := by decide +kernel
theorem dX11_lays_25 : decode cX11_lays 25 = .ok (.iload_n 1, 1) := by decide +kernel
theorem dX11_lays_26 : decode cX11_lays 26 = .ok (.iadd, 1) := by decide +kernel
theorem dX11_lays_27 : decode cX11_lays 27 = .ok (.iaload, 1) := by decide +kernel
theorem dX11_lays_28 : decode cX11_lays 28 = .ok (.goto 4, 3) := by decide +kernel
theorem dX11_lays_31 : decode cX11_lays 31 = .ok (.iconst 0, 1) := by decide +kernel
theorem dX11_lays_32 : decode cX11_lays 32 = .ok (.iastore, 1) := by decide +kernel
theorem dX11_lays_33 : decode cX11_lays 33 = .ok (.iinc 1 1, 3) := by decide +kernel
theorem dX11_lays_36 : decode cX11_lays 36 = .ok (.goto (-34), 3) := by decide +kernel
theorem dX11_lays_39 : decode cX11_lays 39 = .ok (.aload_n 0, 1) := by decide +kernel
theorem dX11_lays_40 : decode cX11_lays 40 = .ok (.iconst 0, 1) := by decide +kernel
theorem dX11_lays_41 : decode cX11_lays 41 = .ok (.putfield 99, 3) := by decide +kernel
theorem dX11_lays_44 : decode cX11_lays 44 = .ok (.aload_n 0, 1) := by decide +kernel
theorem dX11_lays_45 : decode cX11_lays 45 = .ok (.iconst 0, 1) := by decide +kernel
theorem dX11_lays_46 : decode cX11_lays 46 = .ok (.putfield 102, 3) := by decide +kernel
theorem dX11_lays_49 : decode cX11_lays 49 = .ok (.aload_n 0, 1) := by decide +kernel
theorem dX11_lays_50 : decode cX11_lays 50 = .ok (.getfield 28, 3) := by decide +kernel
theorem dX11_lays_53 : decode cX11_lays 53 = .ok (.iconst 0, 1) := by decide +kernel
theorem dX11_lays_54 : decode cX11_lays 54 = .ok (.iconst 0, 1) := by decide +kernel
theorem dX11_lays_55 : decode cX11_lays 55 = .ok (.bastore, 1) := by decide +kernel
theorem dX11_lays_56 : decode cX11_lays 56 = .ok (.aload_n 0, 1) := by decide +kernel
theorem dX11_lays_57 : decode cX11_lays 57 = .ok (.getfield 28, 3) := by decide +kernel
theorem dX11_lays_60 : decode cX11_lays 60 = .ok (.iconst 1, 1) := by decide +kernel
theorem dX11_lays_61 : decode cX11_lays 61 = .ok (.iconst 0, 1) := by decide +kernel
theorem dX11_lays_62 : decode cX11_lays 62 = .ok (.bastore, 1) := by decide +kernel
theorem dX11_lays_63 : decode cX11_lays 63 = .ok (.return_, 1) := by decide +kernel
theorem dX11_fault_0 : decode cX11_fault 0 = .ok (.aload_n 0, 1) := by decide +kernel
theorem dX11_fault_1 : decode cX11_fault 1 = .ok (.invokevirtual 105, 3) := by decide +kernel
theorem dX11_fault_4 : decode cX11_fault 4 = .ok (.iconst (-1), 1) := by decide +kernel
theorem dX11_fault_5 : decode cX11_fault 5 = .ok (.if_icmp .ne 10, 3) := by decide +kernel
theorem dX11_fault_8 : decode cX11_fault 8 = .ok (.aload_n 0, 1) := by decide +kernel
theorem dX11_fault_9 : decode cX11_fault 9 = .ok (.getfield 56, 3) := by decide +kernel
theorem dX11_fault_12 : decode cX11_fault 12 = .ok (.goto 4, 3) := by decide +kernel
theorem dX11_fault_15 : decode cX11_fault 15 = .ok (.iconst (-1), 1) := by decide +kernel
theorem dX11_fault_16 : decode cX11_fault 16 = .ok (.ireturn, 1) := by decide +kernel
theorem dX11_house_0 : decode cX11_house 0 = .ok (.aload_n 0, 1) := by decide +kernel
theorem dX11_house_1 : decode cX11_house 1 = .ok (.invokevirtual 105, 3) := by decide +kernel
theorem dX11_house_4 : decode cX11_house 4 = .ok (.istore_n 1, 1) := by decide +kernel
theorem dX11_house_5 : decode cX11_house 5 = .ok (.iload_n 1, 1) := by decide +kernel
theorem dX11_house_6 : decode cX11_house 6 = .ok (.iconst (-1), 1) := by decide +kernel
theorem dX11_house_7 : decode cX11_house 7 = .ok (.if_icmp .ne 6, 3) := by decide +kernel
theorem dX11_house_10 : decode cX11_house 10 = .ok (.bipush (-4), 2) := by decide +kernel
theorem dX11_house_12 : decode cX11_house 12 = .ok (.ireturn, 1) := by decide +kernel
theorem dX11_house_13 : decode cX11_house 13 = .ok (.iconst 0, 1) := by decide +kernel
theorem dX11_house_14 : decode cX11_house 14 = .ok (.istore_n 2, 1) := by decide +kernel
theorem dX11_house_15 : decode cX11_house 15 = .ok (.iload_n 2, 1) := by decide +kernel
theorem dX11_house_16 : decode cX11_house 16 = .ok (.bipush 62, 2) := by decide +kernel
theorem dX11_house_18 : decode cX11_house 18 = .ok (.if_icmp .ge 21, 3) := by decide +kernel
theorem dX11_house_21 : decode cX11_house 21 = .ok (.aload_n 0, 1) := by decide +kernel
theorem dX11_house_22 : decode cX11_house 22 = .ok (.getfield 13, 3) := by decide +kernel
theorem dX11_house_25 : decode cX11_house 25 = .ok (.iload_n 2, 1) := by decide +kernel
theorem dX11_house_26 : decode cX11_house 26 = .ok (.aload_n 0, 1) := by decide +kernel
theorem dX11_house_27 : decode cX11_house 27 = .ok (.getfield 16, 3) := by decide +kernel
theorem dX11_house_30 : decode cX11_house 30 = .ok (.iload_n 2, 1) := by decide +kernel
theorem dX11_house_31 : decode cX11_house 31 = .ok (.iaload, 1) := by decide +kernel
theorem dX11_house_32 : decode cX11_house 32 = .ok (.iastore, 1) := by decide +kernel
theorem dX11_house_33 : decode cX11_house 33 = .ok (.iinc 2 1, 3) := by decide +kernel
theorem dX11_house_36 : decode cX11_house 36 = .ok (.goto (-21), 3) := by decide +kernel
theorem dX11_house_39 : decode cX11_house 39 = .ok (.aload_n 0, 1) := by decide +kernel
theorem dX11_house_40 : decode cX11_house 40 = .ok (.invokevirtual 38, 3) := by decide +kernel
theorem dX11_house_43 : decode cX11_house 43 = .ok (.aload_n 0, 1) := by decide +kernel
theorem dX11_house_44 : decode cX11_house 44 = .ok (.iconst 0, 1) := by decide +kernel
theorem dX11_house_45 : decode cX11_house 45 = .ok (.putfield 45, 3) := by decide +kernel
theorem dX11_house_48 : decode cX11_house 48 = .ok (.iload_n 1, 1) := by decide +kernel
theorem dX11_house_49 : decode cX11_house 49 = .ok (.ireturn, 1) := by decide +kernel
theorem dX11_warmOf_0 : decode cX11_warmOf 0 = .ok (.aload_n 0, 1) := by decide +kernel
theorem dX11_warmOf_1 : decode cX11_warmOf 1 = .ok (.getfield 13, 3) := by decide +kernel
theorem dX11_warmOf_4 : decode cX11_warmOf 4 = .ok (.bipush 8, 2) := by decide +kernel
theorem dX11_warmOf_6 : decode cX11_warmOf 6 = .ok (.iload_n 1, 1) := by decide +kernel
theorem dX11_warmOf_7 : decode cX11_warmOf 7 = .ok (.iadd, 1) := by decide +kernel
theorem dX11_warmOf_8 : decode cX11_warmOf 8 = .ok (.iaload, 1) := by decide +kernel
theorem dX11_warmOf_9 : decode cX11_warmOf 9 = .ok (.istore_n 2, 1) := by decide +kernel
theorem dX11_warmOf_10 : decode cX11_warmOf 10 = .ok (.aload_n 0, 1) := by decide +kernel
theorem dX11_warmOf_11 : decode cX11_warmOf 11 = .ok (.getfield 13, 3) := by decide +kernel
theorem dX11_warmOf_14 : decode cX11_warmOf 14 = .ok (.iconst 2, 1) := by decide +kernel
theorem dX11_warmOf_15 : decode cX11_warmOf 15 = .ok (.iload_n 1, 1) := by decide +kernel
theorem dX11_warmOf_16 : decode cX11_warmOf 16 = .ok (.iadd, 1) := by decide +kernel
theorem dX11_warmOf_17 : decode cX11_warmOf 17 = .ok (.iaload, 1) := by decide +kernel
theorem dX11_warmOf_18 : decode cX11_warmOf 18 = .ok (.istore_n 3, 1) := by decide +kernel
theorem dX11_warmOf_19 : decode cX11_warmOf 19 = .ok (.iload_n 3, 1) := by decide +kernel
theorem dX11_warmOf_20 : decode cX11_warmOf 20 = .ok (.iconst 1, 1) := by decide +kernel
theorem dX11_warmOf_21 : decode cX11_warmOf 21 = .ok (.if_icmp .ne 9, 3) := by decide +kernel
theorem dX11_warmOf_24 : decode cX11_warmOf 24 = .ok (.iconst 2, 1) := by decide +kernel
theorem dX11_warmOf_25 : decode cX11_warmOf 25 = .ok (.iload_n 2, 1) := by decide +kernel
theorem dX11_warmOf_26 : decode cX11_warmOf 26 = .ok (.imul, 1) := by decide +kernel
theorem dX11_warmOf_27 : decode cX11_warmOf 27 = .ok (.goto 24, 3) := by decide +kernel
theorem dX11_warmOf_30 : decode cX11_warmOf 30 = .ok (.iload_n 3, 1) := by decide +kernel
theorem dX11_warmOf_31 : decode cX11_warmOf 31 = .ok (.iconst 2, 1) := by decide +kernel
theorem dX11_warmOf_32 : decode cX11_warmOf 32 = .ok (.if_icmp .ne 9, 3) := by decide +kernel
theorem dX11_warmOf_35 : decode cX11_warmOf 35 = .ok (.iload_n 2, 1) := by decide +kernel
theorem dX11_warmOf_36 : decode cX11_warmOf 36 = .ok (.iconst 2, 1) := by decide +kernel
theorem dX11_warmOf_37 : decode cX11_warmOf 37 = .ok (.idiv, 1) := by decide +kernel
theorem dX11_warmOf_38 : decode cX11_warmOf 38 = .ok (.goto 13, 3) := by decide +kernel
theorem dX11_warmOf_41 : decode cX11_warmOf 41 = .ok (.iload_n 3, 1) := by decide +kernel
theorem dX11_warmOf_42 : decode cX11_warmOf 42 = .ok (.iconst 3, 1) := by decide +kernel
theorem dX11_warmOf_43 : decode cX11_warmOf 43 = .ok (.if_icmp .ne 7, 3) := by decide +kernel
theorem dX11_warmOf_46 : decode cX11_warmOf 46 = .ok (.iconst 0, 1) := by decide +kernel
theorem dX11_warmOf_47 : decode cX11_warmOf 47 = .ok (.goto 4, 3) := by decide +kernel
theorem dX11_warmOf_50 : decode cX11_warmOf 50 = .ok (.iload_n 2, 1) := by decide +kernel
theorem dX11_warmOf_51 : decode cX11_warmOf 51 = .ok (.ireturn, 1) := by decide +kernel
theorem dX11_handOf_0 : decode cX11_handOf 0 = .ok (.aload_n 0, 1) := by decide +kernel
theorem dX11_handOf_1 : decode cX11_handOf 1 = .ok (.getfield 13, 3) := by decide +kernel
theorem dX11_handOf_4 : decode cX11_handOf 4 = .ok (.iconst 2, 1) := by decide +kernel
theorem dX11_handOf_5 : decode cX11_handOf 5 = .ok (.iload_n 1, 1) := by decide +kernel
theorem dX11_handOf_6 : decode cX11_handOf 6 = .ok (.iadd, 1) := by decide +kernel
theorem dX11_handOf_7 : decode cX11_handOf 7 = .ok (.iaload, 1) := by decide +kernel
theorem dX11_handOf_8 : decode cX11_handOf 8 = .ok (.iconst 1, 1) := by decide +kernel
theorem dX11_handOf_9 : decode cX11_handOf 9 = .ok (.if_icmp .ne 7, 3) := by decide +kernel
theorem dX11_handOf_12 : decode cX11_handOf 12 = .ok (.iconst 0, 1) := by decide +kernel
theorem dX11_handOf_13 : decode cX11_handOf 13 = .ok (.goto 4, 3) := by decide +kernel
theorem dX11_handOf_16 : decode cX11_handOf 16 = .ok (.iconst 1, 1) := by decide +kernel
theorem dX11_handOf_17 : decode cX11_handOf 17 = .ok (.ireturn, 1) := by decide +kernel
theorem dX11_feels_0 : decode cX11_feels 0 = .ok (.aload_n 0, 1) := by decide +kernel
theorem dX11_feels_1 : decode cX11_feels 1 = .ok (.getfield 13, 3) := by decide +kernel
theorem dX11_feels_4 : decode cX11_feels 4 = .ok (.iconst 2, 1) := by decide +kernel
theorem dX11_feels_5 : decode cX11_feels 5 = .ok (.iload_n 1, 1) := by decide +kernel
theorem dX11_feels_6 : decode cX11_feels 6 = .ok (.iadd, 1) := by decide +kernel
theorem dX11_feels_7 : decode cX11_feels 7 = .ok (.iaload, 1) := by decide +kernel
theorem dX11_feels_8 : decode cX11_feels 8 = .ok (.iconst 2, 1) := by decide +kernel
theorem dX11_feels_9 : decode cX11_feels 9 = .ok (.if_icmp .ge 7, 3) := by decide +kernel
theorem dX11_feels_12 : decode cX11_feels 12 = .ok (.iconst 1, 1) := by decide +kernel
theorem dX11_feels_13 : decode cX11_feels 13 = .ok (.goto 4, 3) := by decide +kernel
theorem dX11_feels_16 : decode cX11_feels 16 = .ok (.iconst 0, 1) := by decide +kernel
theorem dX11_feels_17 : decode cX11_feels 17 = .ok (.ireturn, 1) := by decide +kernel
theorem dX11_person_0 : decode cX11_person 0 = .ok (.aload_n 0, 1) := by decide +kernel
theorem dX11_person_1 : decode cX11_person 1 = .ok (.iload_n 1, 1) := by decide +kernel
theorem dX11_person_2 : decode cX11_person 2 = .ok (.invokevirtual 109, 3) := by decide +kernel
theorem dX11_person_5 : decode cX11_person 5 = .ok (.ifCond .ne 6, 3) := by decide +kernel
theorem dX11_person_8 : decode cX11_person 8 = .ok (.bipush (-2), 2) := by decide +kernel
theorem dX11_person_10 : decode cX11_person 10 = .ok (.ireturn, 1) := by decide +kernel
theorem dX11_person_11 : decode cX11_person 11 = .ok (.iload_n 2, 1) := by decide +kernel
theorem dX11_person_12 : decode cX11_person 12 = .ok (.tableswitch 57 0 2 #[28, 37, 47], 28) := by decide +kernel
theorem dX11_person_40 : decode cX11_person 40 = .ok (.aload_n 0, 1) := by decide +kernel
theorem dX11_person_41 : decode cX11_person 41 = .ok (.getfield 13, 3) := by decide +kernel
theorem dX11_person_44 : decode cX11_person 44 = .ok (.iconst 2, 1) := by decide +kernel
theorem dX11_person_45 : decode cX11_person 45 = .ok (.iload_n 1, 1) := by decide +kernel
theorem dX11_person_46 : decode cX11_person 46 = .ok (.iadd, 1) := by decide +kernel
theorem dX11_person_47 : decode cX11_person 47 = .ok (.iaload, 1) := by decide +kernel
theorem dX11_person_48 : decode cX11_person 48 = .ok (.ireturn, 1) := by decide +kernel
theorem dX11_person_49 : decode cX11_person 49 = .ok (.aload_n 0, 1) := by decide +kernel
theorem dX11_person_50 : decode cX11_person 50 = .ok (.getfield 13, 3) := by decide +kernel
theorem dX11_person_53 : decode cX11_person 53 = .ok (.bipush 8, 2) := by decide +kernel
theorem dX11_person_55 : decode cX11_person 55 = .ok (.iload_n 1, 1) := by decide +kernel
theorem dX11_person_56 : decode cX11_person 56 = .ok (.iadd, 1) := by decide +kernel
theorem dX11_person_57 : decode cX11_person 57 = .ok (.iaload, 1) := by decide +kernel
theorem dX11_person_58 : decode cX11_person 58 = .ok (.ireturn, 1) := by decide +kernel
theorem dX11_person_59 : decode cX11_person 59 = .ok (.aload_n 0, 1) := by decide +kernel
theorem dX11_person_60 : decode cX11_person 60 = .ok (.getfield 19, 3) := by decide +kernel
theorem dX11_person_63 : decode cX11_person 63 = .ok (.bipush 48, 2) := by decide +kernel
theorem dX11_person_65 : decode cX11_person 65 = .ok (.iload_n 1, 1) := by decide +kernel
theorem dX11_person_66 : decode cX11_person 66 = .ok (.iadd, 1) := by decide +kernel
theorem dX11_person_67 : decode cX11_person 67 = .ok (.iaload, 1) := by decide +kernel
theorem dX11_person_68 : decode cX11_person 68 = .ok (.ireturn, 1) := by decide +kernel
theorem dX11_person_69 : decode cX11_person 69 = .ok (.bipush (-3), 2) := by decide +kernel
theorem dX11_person_71 : decode cX11_person 71 = .ok (.ireturn, 1) := by decide +kernel
theorem dX11_rail_0 : decode cX11_rail 0 = .ok (.aload_n 0, 1) := by decide +kernel
theorem dX11_rail_1 : decode cX11_rail 1 = .ok (.iload_n 1, 1) := by decide +kernel
theorem dX11_rail_2 : decode cX11_rail 2 = .ok (.invokevirtual 112, 3) := by decide +kernel
theorem dX11_rail_5 : decode cX11_rail 5 = .ok (.ifCond .eq 12, 3) := by decide +kernel
theorem dX11_rail_8 : decode cX11_rail 8 = .ok (.iload_n 2, 1) := by decide +kernel
theorem dX11_rail_9 : decode cX11_rail 9 = .ok (.iconst 0, 1) := by decide +kernel
theorem dX11_rail_10 : decode cX11_rail 10 = .ok (.iconst 1, 1) := by decide +kernel
theorem dX11_rail_11 : decode cX11_rail 11 = .ok (.invokestatic 41, 3) := by decide +kernel
theorem dX11_rail_14 : decode cX11_rail 14 = .ok (.ifCond .ne 6, 3) := by decide +kernel
theorem dX11_rail_17 : decode cX11_rail 17 = .ok (.bipush (-2), 2) := by decide +kernel
theorem dX11_rail_19 : decode cX11_rail 19 = .ok (.ireturn, 1) := by decide +kernel
theorem dX11_rail_20 : decode cX11_rail 20 = .ok (.iconst 2, 1) := by decide +kernel
theorem dX11_rail_21 : decode cX11_rail 21 = .ok (.iload_n 1, 1) := by decide +kernel
theorem dX11_rail_22 : decode cX11_rail 22 = .ok (.imul, 1) := by decide +kernel
theorem dX11_rail_23 : decode cX11_rail 23 = .ok (.iload_n 2, 1) := by decide +kernel
theorem dX11_rail_24 : decode cX11_rail 24 = .ok (.iadd, 1) := by decide +kernel
theorem dX11_rail_25 : decode cX11_rail 25 = .ok (.istore 4, 2) := by decide +kernel
theorem dX11_rail_27 : decode cX11_rail 27 = .ok (.iload_n 3, 1) := by decide +kernel
theorem dX11_rail_28 : decode cX11_rail 28 = .ok (.ifCond .ne 27, 3) := by decide +kernel
theorem dX11_rail_31 : decode cX11_rail 31 = .ok (.aload_n 0, 1) := by decide +kernel
theorem dX11_rail_32 : decode cX11_rail 32 = .ok (.getfield 19, 3) := by decide +kernel
theorem dX11_rail_35 : decode cX11_rail 35 = .ok (.iload 4, 2) := by decide +kernel
theorem dX11_rail_37 : decode cX11_rail 37 = .ok (.iaload, 1) := by decide +kernel
theorem dX11_rail_38 : decode cX11_rail 38 = .ok (.ifCond .ne 7, 3) := by decide +kernel
theorem dX11_rail_41 : decode cX11_rail 41 = .ok (.iconst (-1), 1) := by decide +kernel
theorem dX11_rail_42 : decode cX11_rail 42 = .ok (.goto 33, 3) := by decide +kernel
theorem dX11_rail_45 : decode cX11_rail 45 = .ok (.aload_n 0, 1) := by decide +kernel
theorem dX11_rail_46 : decode cX11_rail 46 = .ok (.getfield 19, 3) := by decide +kernel
theorem dX11_rail_49 : decode cX11_rail 49 = .ok (.iload 4, 2) := by decide +kernel
theorem dX11_rail_51 : decode cX11_rail 51 = .ok (.iaload, 1) := by decide +kernel
theorem dX11_rail_52 : decode cX11_rail 52 = .ok (.goto 23, 3) := by decide +kernel
theorem dX11_rail_55 : decode cX11_rail 55 = .ok (.iload_n 3, 1) := by decide +kernel
theorem dX11_rail_56 : decode cX11_rail 56 = .ok (.iconst 1, 1) := by decide +kernel
theorem dX11_rail_57 : decode cX11_rail 57 = .ok (.if_icmp .ne 16, 3) := by decide +kernel
theorem dX11_rail_60 : decode cX11_rail 60 = .ok (.aload_n 0, 1) := by decide +kernel
theorem dX11_rail_61 : decode cX11_rail 61 = .ok (.getfield 19, 3) := by decide +kernel
theorem dX11_rail_64 : decode cX11_rail 64 = .ok (.bipush 24, 2) := by decide +kernel
theorem dX11_rail_66 : decode cX11_rail 66 = .ok (.iload 4, 2) := by decide +kernel
theorem dX11_rail_68 : decode cX11_rail 68 = .ok (.iadd, 1) := by decide +kernel
theorem dX11_rail_69 : decode cX11_rail 69 = .ok (.iaload, 1) := by decide +kernel
theorem dX11_rail_70 : decode cX11_rail 70 = .ok (.goto 5, 3) := by decide +kernel
theorem dX11_rail_73 : decode cX11_rail 73 = .ok (.bipush (-3), 2) := by decide +kernel
theorem dX11_rail_75 : decode cX11_rail 75 = .ok (.ireturn, 1) := by decide +kernel
theorem dX11_as_0 : decode cX11_as 0 = .ok (.aload_n 0, 1) := by decide +kernel
theorem dX11_as_1 : decode cX11_as 1 = .ok (.iload_n 1, 1) := by decide +kernel
theorem dX11_as_2 : decode cX11_as 2 = .ok (.invokevirtual 109, 3) := by decide +kernel
theorem dX11_as_5 : decode cX11_as 5 = .ok (.ifCond .ne 6, 3) := by decide +kernel
theorem dX11_as_8 : decode cX11_as 8 = .ok (.bipush (-2), 2) := by decide +kernel
theorem dX11_as_10 : decode cX11_as 10 = .ok (.ireturn, 1) := by decide +kernel
theorem dX11_as_11 : decode cX11_as 11 = .ok (.iload_n 2, 1) := by decide +kernel
theorem dX11_as_12 : decode cX11_as 12 = .ok (.iconst 0, 1) := by decide +kernel
theorem dX11_as_13 : decode cX11_as 13 = .ok (.iconst 4, 1) := by decide +kernel
theorem dX11_as_14 : decode cX11_as 14 = .ok (.invokestatic 41, 3) := by decide +kernel
theorem dX11_as_17 : decode cX11_as 17 = .ok (.ifCond .ne 6, 3) := by decide +kernel
theorem dX11_as_20 : decode cX11_as 20 = .ok (.bipush (-3), 2) := by decide +kernel
theorem dX11_as_22 : decode cX11_as 22 = .ok (.ireturn, 1) := by decide +kernel
theorem dX11_as_23 : decode cX11_as 23 = .ok (.aload_n 0, 1) := by decide +kernel
theorem dX11_as_24 : decode cX11_as 24 = .ok (.getfield 13, 3) := by decide +kernel
theorem dX11_as_27 : decode cX11_as 27 = .ok (.iconst 2, 1) := by decide +kernel
theorem dX11_as_28 : decode cX11_as 28 = .ok (.iload_n 1, 1) := by decide +kernel
theorem dX11_as_29 : decode cX11_as 29 = .ok (.iadd, 1) := by decide +kernel
theorem dX11_as_30 : decode cX11_as 30 = .ok (.iaload, 1) := by decide +kernel
theorem dX11_as_31 : decode cX11_as 31 = .ok (.istore_n 3, 1) := by decide +kernel
theorem dX11_as_32 : decode cX11_as 32 = .ok (.iload_n 2, 1) := by decide +kernel
theorem dX11_as_33 : decode cX11_as 33 = .ok (.ifCond .eq 20, 3) := by decide +kernel
theorem dX11_as_36 : decode cX11_as 36 = .ok (.iload_n 2, 1) := by decide +kernel
theorem dX11_as_37 : decode cX11_as 37 = .ok (.iload_n 3, 1) := by decide +kernel
theorem dX11_as_38 : decode cX11_as 38 = .ok (.iconst 1, 1) := by decide +kernel
theorem dX11_as_39 : decode cX11_as 39 = .ok (.iadd, 1) := by decide +kernel
theorem dX11_as_40 : decode cX11_as 40 = .ok (.if_icmp .eq 13, 3) := by decide +kernel
theorem dX11_as_43 : decode cX11_as 43 = .ok (.iload_n 2, 1) := by decide +kernel
theorem dX11_as_44 : decode cX11_as 44 = .ok (.iconst 1, 1) := by decide +kernel
theorem dX11_as_45 : decode cX11_as 45 = .ok (.if_icmp .ne 12, 3) := by decide +kernel
theorem dX11_as_48 : decode cX11_as 48 = .ok (.iload_n 3, 1) := by decide +kernel
theorem dX11_as_49 : decode cX11_as 49 = .ok (.iconst 3, 1) := by decide +kernel
theorem dX11_as_50 : decode cX11_as 50 = .ok (.if_icmp .ge 7, 3) := by decide +kernel
theorem dX11_as_53 : decode cX11_as 53 = .ok (.iconst 1, 1) := by decide +kernel
theorem dX11_as_54 : decode cX11_as 54 = .ok (.goto 4, 3) := by decide +kernel
theorem dX11_as_57 : decode cX11_as 57 = .ok (.iconst 0, 1) := by decide +kernel
theorem dX11_as_58 : decode cX11_as 58 = .ok (.istore 4, 2) := by decide +kernel
theorem dX11_as_60 : decode cX11_as 60 = .ok (.iload 4, 2) := by decide +kernel
theorem dX11_as_62 : decode cX11_as 62 = .ok (.ifCond .eq 11, 3) := by decide +kernel
theorem dX11_as_65 : decode cX11_as 65 = .ok (.aload_n 0, 1) := by decide +kernel
theorem dX11_as_66 : decode cX11_as 66 = .ok (.iload_n 1, 1) := by decide +kernel
theorem dX11_as_67 : decode cX11_as 67 = .ok (.invokevirtual 115, 3) := by decide +kernel
theorem dX11_as_70 : decode cX11_as 70 = .ok (.goto 5, 3) := by decide +kernel
theorem dX11_as_73 : decode cX11_as 73 = .ok (.bipush (-4), 2) := by decide +kernel
theorem dX11_as_75 : decode cX11_as 75 = .ok (.ireturn, 1) := by decide +kernel
theorem dX11_keeps_0 : decode cX11_keeps 0 = .ok (.aload_n 0, 1) := by decide +kernel
theorem dX11_keeps_1 : decode cX11_keeps 1 = .ok (.getfield 99, 3) := by decide +kernel
theorem dX11_keeps_4 : decode cX11_keeps 4 = .ok (.bipush 8, 2) := by decide +kernel
theorem dX11_keeps_6 : decode cX11_keeps 6 = .ok (.if_icmp .ne 43, 3) := by decide +kernel
theorem dX11_keeps_9 : decode cX11_keeps 9 = .ok (.iconst 0, 1) := by decide +kernel
theorem dX11_keeps_10 : decode cX11_keeps 10 = .ok (.istore_n 1, 1) := by decide +kernel
theorem dX11_keeps_11 : decode cX11_keeps 11 = .ok (.iload_n 1, 1) := by decide +kernel
theorem dX11_keeps_12 : decode cX11_keeps 12 = .ok (.sipush 385, 3) := by decide +kernel
theorem dX11_keeps_15 : decode cX11_keeps 15 = .ok (.if_icmp .ge 24, 3) := by decide +kernel
theorem dX11_keeps_18 : decode cX11_keeps 18 = .ok (.aload_n 0, 1) := by decide +kernel
theorem dX11_keeps_19 : decode cX11_keeps 19 = .ok (.getfield 22, 3) := by decide +kernel
theorem dX11_keeps_22 : decode cX11_keeps 22 = .ok (.iload_n 1, 1) := by decide +kernel
theorem dX11_keeps_23 : decode cX11_keeps 23 = .ok (.aload_n 0, 1) := by decide +kernel
theorem dX11_keeps_24 : decode cX11_keeps 24 = .ok (.getfield 22, 3) := by decide +kernel
theorem dX11_keeps_27 : decode cX11_keeps 27 = .ok (.iload_n 1, 1) := by decide +kernel
theorem dX11_keeps_28 : decode cX11_keeps 28 = .ok (.bipush 55, 2) := by decide +kernel
theorem dX11_keeps_30 : decode cX11_keeps 30 = .ok (.iadd, 1) := by decide +kernel
theorem dX11_keeps_31 : decode cX11_keeps 31 = .ok (.iaload, 1) := by decide +kernel
theorem dX11_keeps_32 : decode cX11_keeps 32 = .ok (.iastore, 1) := by decide +kernel
theorem dX11_keeps_33 : decode cX11_keeps 33 = .ok (.iinc 1 1, 3) := by decide +kernel
theorem dX11_keeps_36 : decode cX11_keeps 36 = .ok (.goto (-25), 3) := by decide +kernel
theorem dX11_keeps_39 : decode cX11_keeps 39 = .ok (.aload_n 0, 1) := by decide +kernel
theorem dX11_keeps_40 : decode cX11_keeps 40 = .ok (.dup, 1) := by decide +kernel
theorem dX11_keeps_41 : decode cX11_keeps 41 = .ok (.getfield 99, 3) := by decide +kernel
theorem dX11_keeps_44 : decode cX11_keeps 44 = .ok (.iconst 1, 1) := by decide +kernel
theorem dX11_keeps_45 : decode cX11_keeps 45 = .ok (.isub, 1) := by decide +kernel
theorem dX11_keeps_46 : decode cX11_keeps 46 = .ok (.putfield 99, 3) := by decide +kernel
theorem dX11_keeps_49 : decode cX11_keeps 49 = .ok (.iconst 0, 1) := by decide +kernel
theorem dX11_keeps_50 : decode cX11_keeps 50 = .ok (.istore_n 1, 1) := by decide +kernel
theorem dX11_keeps_51 : decode cX11_keeps 51 = .ok (.iload_n 1, 1) := by decide +kernel
theorem dX11_keeps_52 : decode cX11_keeps 52 = .ok (.bipush 55, 2) := by decide +kernel
theorem dX11_keeps_54 : decode cX11_keeps 54 = .ok (.if_icmp .ge 29, 3) := by decide +kernel
theorem dX11_keeps_57 : decode cX11_keeps 57 = .ok (.aload_n 0, 1) := by decide +kernel
theorem dX11_keeps_58 : decode cX11_keeps 58 = .ok (.getfield 22, 3) := by decide +kernel
theorem dX11_keeps_61 : decode cX11_keeps 61 = .ok (.bipush 55, 2) := by decide +kernel
theorem dX11_keeps_63 : decode cX11_keeps 63 = .ok (.aload_n 0, 1) := by decide +kernel
theorem dX11_keeps_64 : decode cX11_keeps 64 = .ok (.getfield 99, 3) := by decide +kernel
theorem dX11_keeps_67 : decode cX11_keeps 67 = .ok (.imul, 1) := by decide +kernel
theorem dX11_keeps_68 : decode cX11_keeps 68 = .ok (.iload_n 1, 1) := by decide +kernel
theorem dX11_keeps_69 : decode cX11_keeps 69 = .ok (.iadd, 1) := by decide +kernel
theorem dX11_keeps_70 : decode cX11_keeps 70 = .ok (.aload_n 0, 1) := by decide +kernel
theorem dX11_keeps_71 : decode cX11_keeps 71 = .ok (.getfield 19, 3) := by decide +kernel
theorem dX11_keeps_74 : decode cX11_keeps 74 = .ok (.iload_n 1, 1) := by decide +kernel
theorem dX11_keeps_75 : decode cX11_keeps 75 = .ok (.iaload, 1) := by decide +kernel
theorem dX11_keeps_76 : decode cX11_keeps 76 = .ok (.iastore, 1) := by decide +kernel
theorem dX11_keeps_77 : decode cX11_keeps 77 = .ok (.iinc 1 1, 3) := by decide +kernel
theorem dX11_keeps_80 : decode cX11_keeps 80 = .ok (.goto (-29), 3) := by decide +kernel
theorem dX11_keeps_83 : decode cX11_keeps 83 = .ok (.aload_n 0, 1) := by decide +kernel
theorem dX11_keeps_84 : decode cX11_keeps 84 = .ok (.dup, 1) := by decide +kernel
theorem dX11_keeps_85 : decode cX11_keeps 85 = .ok (.getfield 99, 3) := by decide +kernel
theorem dX11_keeps_88 : decode cX11_keeps 88 = .ok (.iconst 1, 1) := by decide +kernel
theorem dX11_keeps_89 : decode cX11_keeps 89 = .ok (.iadd, 1) := by decide +kernel
theorem dX11_keeps_90 : decode cX11_keeps 90 = .ok (.putfield 99, 3) := by decide +kernel
theorem dX11_keeps_93 : decode cX11_keeps 93 = .ok (.return_, 1) := by decide +kernel
theorem dX11_firms_0 : decode cX11_firms 0 = .ok (.aload_n 0, 1) := by decide +kernel
theorem dX11_firms_1 : decode cX11_firms 1 = .ok (.getfield 19, 3) := by decide +kernel
theorem dX11_firms_4 : decode cX11_firms 4 = .ok (.iload_n 1, 1) := by decide +kernel
theorem dX11_firms_5 : decode cX11_firms 5 = .ok (.iload_n 3, 1) := by decide +kernel
theorem dX11_firms_6 : decode cX11_firms 6 = .ok (.ifCond .le 7, 3) := by decide +kernel
theorem dX11_firms_9 : decode cX11_firms 9 = .ok (.iload_n 2, 1) := by decide +kernel
theorem dX11_firms_10 : decode cX11_firms 10 = .ok (.goto 4, 3) := by decide +kernel
theorem dX11_firms_13 : decode cX11_firms 13 = .ok (.iconst 0, 1) := by decide +kernel
theorem dX11_firms_14 : decode cX11_firms 14 = .ok (.iastore, 1) := by decide +kernel
theorem dX11_firms_15 : decode cX11_firms 15 = .ok (.aload_n 0, 1) := by decide +kernel
theorem dX11_firms_16 : decode cX11_firms 16 = .ok (.getfield 19, 3) := by decide +kernel
theorem dX11_firms_19 : decode cX11_firms 19 = .ok (.bipush 24, 2) := by decide +kernel
theorem dX11_firms_21 : decode cX11_firms 21 = .ok (.iload_n 1, 1) := by decide +kernel
theorem dX11_firms_22 : decode cX11_firms 22 = .ok (.iadd, 1) := by decide +kernel
theorem dX11_firms_23 : decode cX11_firms 23 = .ok (.iload_n 3, 1) := by decide +kernel
theorem dX11_firms_24 : decode cX11_firms 24 = .ok (.bipush 99, 2) := by decide +kernel
theorem dX11_firms_26 : decode cX11_firms 26 = .ok (.if_icmp .le 8, 3) := by decide +kernel
theorem dX11_firms_29 : decode cX11_firms 29 = .ok (.bipush 99, 2) := by decide +kernel
theorem dX11_firms_31 : decode cX11_firms 31 = .ok (.goto 12, 3) := by decide +kernel
theorem dX11_firms_34 : decode cX11_firms 34 = .ok (.iload_n 3, 1) := by decide +kernel
theorem dX11_firms_35 : decode cX11_firms 35 = .ok (.ifCond .le 7, 3) := by decide +kernel
theorem dX11_firms_38 : decode cX11_firms 38 = .ok (.iload_n 3, 1) := by decide +kernel
theorem dX11_firms_39 : decode cX11_firms 39 = .ok (.goto 4, 3) := by decide +kernel
theorem dX11_firms_42 : decode cX11_firms 42 = .ok (.iconst 0, 1) := by decide +kernel
theorem dX11_firms_43 : decode cX11_firms 43 = .ok (.iastore, 1) := by decide +kernel
theorem dX11_firms_44 : decode cX11_firms 44 = .ok (.return_, 1) := by decide +kernel
theorem dX11_says_0 : decode cX11_says 0 = .ok (.iconst 2, 1) := by decide +kernel
theorem dX11_says_1 : decode cX11_says 1 = .ok (.iload_n 2, 1) := by decide +kernel
theorem dX11_says_2 : decode cX11_says 2 = .ok (.imul, 1) := by decide +kernel
theorem dX11_says_3 : decode cX11_says 3 = .ok (.aload_n 0, 1) := by decide +kernel
theorem dX11_says_4 : decode cX11_says 4 = .ok (.iload_n 1, 1) := by decide +kernel
theorem dX11_says_5 : decode cX11_says 5 = .ok (.invokevirtual 118, 3) := by decide +kernel
theorem dX11_says_8 : decode cX11_says 8 = .ok (.iadd, 1) := by decide +kernel
theorem dX11_says_9 : decode cX11_says 9 = .ok (.istore 4, 2) := by decide +kernel
theorem dX11_says_11 : decode cX11_says 11 = .ok (.aload_n 0, 1) := by decide +kernel
theorem dX11_says_12 : decode cX11_says 12 = .ok (.iload_n 1, 1) := by decide +kernel
theorem dX11_says_13 : decode cX11_says 13 = .ok (.invokevirtual 115, 3) := by decide +kernel
theorem dX11_says_16 : decode cX11_says 16 = .ok (.istore 5, 2) := by decide +kernel
theorem dX11_says_18 : decode cX11_says 18 = .ok (.aload_n 0, 1) := by decide +kernel
theorem dX11_says_19 : decode cX11_says 19 = .ok (.getfield 19, 3) := by decide +kernel
theorem dX11_says_22 : decode cX11_says 22 = .ok (.bipush 24, 2) := by decide +kernel
theorem dX11_says_24 : decode cX11_says 24 = .ok (.iload 4, 2) := by decide +kernel
theorem dX11_says_26 : decode cX11_says 26 = .ok (.iadd, 1) := by decide +kernel
theorem dX11_says_27 : decode cX11_says 27 = .ok (.iaload, 1) := by decide +kernel
theorem dX11_says_28 : decode cX11_says 28 = .ok (.istore 6, 2) := by decide +kernel
theorem dX11_says_30 : decode cX11_says 30 = .ok (.aload_n 0, 1) := by decide +kernel
theorem dX11_says_31 : decode cX11_says 31 = .ok (.getfield 19, 3) := by decide +kernel
theorem dX11_says_34 : decode cX11_says 34 = .ok (.iload 4, 2) := by decide +kernel
theorem dX11_says_36 : decode cX11_says 36 = .ok (.iaload, 1) := by decide +kernel
theorem dX11_says_37 : decode cX11_says 37 = .ok (.ifCond .eq 14, 3) := by decide +kernel
theorem dX11_says_40 : decode cX11_says 40 = .ok (.aload_n 0, 1) := by decide +kernel
theorem dX11_says_41 : decode cX11_says 41 = .ok (.getfield 19, 3) := by decide +kernel
theorem dX11_says_44 : decode cX11_says 44 = .ok (.iload 4, 2) := by decide +kernel
theorem dX11_says_46 : decode cX11_says 46 = .ok (.iaload, 1) := by decide +kernel
theorem dX11_says_47 : decode cX11_says 47 = .ok (.iload_n 3, 1) := by decide +kernel
theorem dX11_says_48 : decode cX11_says 48 = .ok (.if_icmp .ne 18, 3) := by decide +kernel
theorem dX11_says_51 : decode cX11_says 51 = .ok (.aload_n 0, 1) := by decide +kernel
theorem dX11_says_52 : decode cX11_says 52 = .ok (.iload 4, 2) := by decide +kernel
theorem dX11_says_54 : decode cX11_says 54 = .ok (.iload_n 3, 1) := by decide +kernel
theorem dX11_says_55 : decode cX11_says 55 = .ok (.iload 6, 2) := by decide +kernel
theorem dX11_says_57 : decode cX11_says 57 = .ok (.iload 5, 2) := by decide +kernel
theorem dX11_says_59 : decode cX11_says 59 = .ok (.iadd, 1) := by decide +kernel
theorem dX11_says_60 : decode cX11_says 60 = .ok (.invokevirtual 121, 3) := by decide +kernel
theorem dX11_says_63 : decode cX11_says 63 = .ok (.goto 43, 3) := by decide +kernel
theorem dX11_says_66 : decode cX11_says 66 = .ok (.iload 6, 2) := by decide +kernel
theorem dX11_says_68 : decode cX11_says 68 = .ok (.iload 5, 2) := by decide +kernel
theorem dX11_says_70 : decode cX11_says 70 = .ok (.if_icmp .lt 24, 3) := by decide +kernel
theorem dX11_says_73 : decode cX11_says 73 = .ok (.aload_n 0, 1) := by decide +kernel
theorem dX11_says_74 : decode cX11_says 74 = .ok (.iload 4, 2) := by decide +kernel
theorem dX11_says_76 : decode cX11_says 76 = .ok (.aload_n 0, 1) := by decide +kernel
theorem dX11_says_77 : decode cX11_says 77 = .ok (.getfield 19, 3) := by decide +kernel
theorem dX11_says_80 : decode cX11_says 80 = .ok (.iload 4, 2) := by decide +kernel
theorem dX11_says_82 : decode cX11_says 82 = .ok (.iaload, 1) := by decide +kernel
theorem dX11_says_83 : decode cX11_says 83 = .ok (.iload 6, 2) := by decide +kernel
theorem dX11_says_85 : decode cX11_says 85 = .ok (.iload 5, 2) := by decide +kernel
theorem dX11_says_87 : decode cX11_says 87 = .ok (.isub, 1) := by decide +kernel
theorem dX11_says_88 : decode cX11_says 88 = .ok (.invokevirtual 121, 3) := by decide +kernel
theorem dX11_says_91 : decode cX11_says 91 = .ok (.goto 15, 3) := by decide +kernel
theorem dX11_says_94 : decode cX11_says 94 = .ok (.aload_n 0, 1) := by decide +kernel
theorem dX11_says_95 : decode cX11_says 95 = .ok (.iload 4, 2) := by decide +kernel
theorem dX11_says_97 : decode cX11_says 97 = .ok (.iload_n 3, 1) := by decide +kernel
theorem dX11_says_98 : decode cX11_says 98 = .ok (.iload 5, 2) := by decide +kernel
theorem dX11_says_100 : decode cX11_says 100 = .ok (.iload 6, 2) := by decide +kernel
theorem dX11_says_102 : decode cX11_says 102 = .ok (.isub, 1) := by decide +kernel
theorem dX11_says_103 : decode cX11_says 103 = .ok (.invokevirtual 121, 3) := by decide +kernel
theorem dX11_says_106 : decode cX11_says 106 = .ok (.return_, 1) := by decide +kernel
theorem dX11_down_0 : decode cX11_down 0 = .ok (.aload_n 0, 1) := by decide +kernel
theorem dX11_down_1 : decode cX11_down 1 = .ok (.iload_n 1, 1) := by decide +kernel
theorem dX11_down_2 : decode cX11_down 2 = .ok (.invokevirtual 109, 3) := by decide +kernel
theorem dX11_down_5 : decode cX11_down 5 = .ok (.ifCond .eq 18, 3) := by decide +kernel
theorem dX11_down_8 : decode cX11_down 8 = .ok (.aload_n 0, 1) := by decide +kernel
theorem dX11_down_9 : decode cX11_down 9 = .ok (.iload_n 2, 1) := by decide +kernel
theorem dX11_down_10 : decode cX11_down 10 = .ok (.invokevirtual 112, 3) := by decide +kernel
theorem dX11_down_13 : decode cX11_down 13 = .ok (.ifCond .eq 10, 3) := by decide +kernel
theorem dX11_down_16 : decode cX11_down 16 = .ok (.iload_n 3, 1) := by decide +kernel
theorem dX11_down_17 : decode cX11_down 17 = .ok (.invokestatic 125, 3) := by decide +kernel
theorem dX11_down_20 : decode cX11_down 20 = .ok (.ifCond .ne 6, 3) := by decide +kernel
theorem dX11_down_23 : decode cX11_down 23 = .ok (.bipush (-2), 2) := by decide +kernel
theorem dX11_down_25 : decode cX11_down 25 = .ok (.ireturn, 1) := by decide +kernel
theorem dX11_down_26 : decode cX11_down 26 = .ok (.aload_n 0, 1) := by decide +kernel
theorem dX11_down_27 : decode cX11_down 27 = .ok (.invokevirtual 128, 3) := by decide +kernel
theorem dX11_down_30 : decode cX11_down 30 = .ok (.aload_n 0, 1) := by decide +kernel
theorem dX11_down_31 : decode cX11_down 31 = .ok (.iload_n 1, 1) := by decide +kernel
theorem dX11_down_32 : decode cX11_down 32 = .ok (.iload_n 2, 1) := by decide +kernel
theorem dX11_down_33 : decode cX11_down 33 = .ok (.iload_n 3, 1) := by decide +kernel
theorem dX11_down_34 : decode cX11_down 34 = .ok (.invokevirtual 131, 3) := by decide +kernel
theorem dX11_down_37 : decode cX11_down 37 = .ok (.aload_n 0, 1) := by decide +kernel
theorem dX11_down_38 : decode cX11_down 38 = .ok (.getfield 19, 3) := by decide +kernel
theorem dX11_down_41 : decode cX11_down 41 = .ok (.iconst 2, 1) := by decide +kernel
theorem dX11_down_42 : decode cX11_down 42 = .ok (.iload_n 2, 1) := by decide +kernel
theorem dX11_down_43 : decode cX11_down 43 = .ok (.imul, 1) := by decide +kernel
theorem dX11_down_44 : decode cX11_down 44 = .ok (.aload_n 0, 1) := by decide +kernel
theorem dX11_down_45 : decode cX11_down 45 = .ok (.iload_n 1, 1) := by decide +kernel
theorem dX11_down_46 : decode cX11_down 46 = .ok (.invokevirtual 118, 3) := by decide +kernel
