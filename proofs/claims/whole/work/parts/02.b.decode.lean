theorem dX9_skipBlanks_0 : decode cX9_skipBlanks 0 = .ok (.aload_n 0, 1) := by decide +kernel
theorem dX9_skipBlanks_1 : decode cX9_skipBlanks 1 = .ok (.getfield 22, 3) := by decide +kernel
theorem dX9_skipBlanks_4 : decode cX9_skipBlanks 4 = .ok (.aload_n 0, 1) := by decide +kernel
theorem dX9_skipBlanks_5 : decode cX9_skipBlanks 5 = .ok (.getfield 18, 3) := by decide +kernel
theorem dX9_skipBlanks_8 : decode cX9_skipBlanks 8 = .ok (.if_icmp .ge 30, 3) := by decide +kernel
theorem dX9_skipBlanks_11 : decode cX9_skipBlanks 11 = .ok (.aload_n 0, 1) := by decide +kernel
theorem dX9_skipBlanks_12 : decode cX9_skipBlanks 12 = .ok (.getfield 9, 3) := by decide +kernel
theorem dX9_skipBlanks_15 : decode cX9_skipBlanks 15 = .ok (.aload_n 0, 1) := by decide +kernel
theorem dX9_skipBlanks_16 : decode cX9_skipBlanks 16 = .ok (.getfield 22, 3) := by decide +kernel
theorem dX9_skipBlanks_19 : decode cX9_skipBlanks 19 = .ok (.iaload, 1) := by decide +kernel
theorem dX9_skipBlanks_20 : decode cX9_skipBlanks 20 = .ok (.bipush 32, 2) := by decide +kernel
theorem dX9_skipBlanks_22 : decode cX9_skipBlanks 22 = .ok (.if_icmp .ne 16, 3) := by decide +kernel
theorem dX9_skipBlanks_25 : decode cX9_skipBlanks 25 = .ok (.aload_n 0, 1) := by decide +kernel
theorem dX9_skipBlanks_26 : decode cX9_skipBlanks 26 = .ok (.dup, 1) := by decide +kernel
theorem dX9_skipBlanks_27 : decode cX9_skipBlanks 27 = .ok (.getfield 22, 3) := by decide +kernel
theorem dX9_skipBlanks_30 : decode cX9_skipBlanks 30 = .ok (.iconst 1, 1) := by decide +kernel
theorem dX9_skipBlanks_31 : decode cX9_skipBlanks 31 = .ok (.iadd, 1) := by decide +kernel
theorem dX9_skipBlanks_32 : decode cX9_skipBlanks 32 = .ok (.putfield 22, 3) := by decide +kernel
theorem dX9_skipBlanks_35 : decode cX9_skipBlanks 35 = .ok (.goto (-35), 3) := by decide +kernel
theorem dX9_skipBlanks_38 : decode cX9_skipBlanks 38 = .ok (.return_, 1) := by decide +kernel
theorem dX9_readWord_0 : decode cX9_readWord 0 = .ok (.aload_n 0, 1) := by decide +kernel
theorem dX9_readWord_1 : decode cX9_readWord 1 = .ok (.getfield 22, 3) := by decide +kernel
theorem dX9_readWord_4 : decode cX9_readWord 4 = .ok (.istore_n 1, 1) := by decide +kernel
theorem dX9_readWord_5 : decode cX9_readWord 5 = .ok (.aload_n 0, 1) := by decide +kernel
theorem dX9_readWord_6 : decode cX9_readWord 6 = .ok (.getfield 22, 3) := by decide +kernel
theorem dX9_readWord_9 : decode cX9_readWord 9 = .ok (.aload_n 0, 1) := by decide +kernel
theorem dX9_readWord_10 : decode cX9_readWord 10 = .ok (.getfield 18, 3) := by decide +kernel
theorem dX9_readWord_13 : decode cX9_readWord 13 = .ok (.if_icmp .ge 44, 3) := by decide +kernel
theorem dX9_readWord_16 : decode cX9_readWord 16 = .ok (.aload_n 0, 1) := by decide +kernel
theorem dX9_readWord_17 : decode cX9_readWord 17 = .ok (.getfield 9, 3) := by decide +kernel
theorem dX9_readWord_20 : decode cX9_readWord 20 = .ok (.aload_n 0, 1) := by decide +kernel
theorem dX9_readWord_21 : decode cX9_readWord 21 = .ok (.getfield 22, 3) := by decide +kernel
theorem dX9_readWord_24 : decode cX9_readWord 24 = .ok (.iaload, 1) := by decide +kernel
theorem dX9_readWord_25 : decode cX9_readWord 25 = .ok (.bipush 97, 2) := by decide +kernel
theorem dX9_readWord_27 : decode cX9_readWord 27 = .ok (.if_icmp .lt 30, 3) := by decide +kernel
theorem dX9_readWord_30 : decode cX9_readWord 30 = .ok (.aload_n 0, 1) := by decide +kernel
theorem dX9_readWord_31 : decode cX9_readWord 31 = .ok (.getfield 9, 3) := by decide +kernel
theorem dX9_readWord_34 : decode cX9_readWord 34 = .ok (.aload_n 0, 1) := by decide +kernel
theorem dX9_readWord_35 : decode cX9_readWord 35 = .ok (.getfield 22, 3) := by decide +kernel
theorem dX9_readWord_38 : decode cX9_readWord 38 = .ok (.iaload, 1) := by decide +kernel
theorem dX9_readWord_39 : decode cX9_readWord 39 = .ok (.bipush 122, 2) := by decide +kernel
theorem dX9_readWord_41 : decode cX9_readWord 41 = .ok (.if_icmp .gt 16, 3) := by decide +kernel
theorem dX9_readWord_44 : decode cX9_readWord 44 = .ok (.aload_n 0, 1) := by decide +kernel
theorem dX9_readWord_45 : decode cX9_readWord 45 = .ok (.dup, 1) := by decide +kernel
theorem dX9_readWord_46 : decode cX9_readWord 46 = .ok (.getfield 22, 3) := by decide +kernel
theorem dX9_readWord_49 : decode cX9_readWord 49 = .ok (.iconst 1, 1) := by decide +kernel
theorem dX9_readWord_50 : decode cX9_readWord 50 = .ok (.iadd, 1) := by decide +kernel
theorem dX9_readWord_51 : decode cX9_readWord 51 = .ok (.putfield 22, 3) := by decide +kernel
theorem dX9_readWord_54 : decode cX9_readWord 54 = .ok (.goto (-49), 3) := by decide +kernel
theorem dX9_readWord_57 : decode cX9_readWord 57 = .ok (.iconst 0, 1) := by decide +kernel
theorem dX9_readWord_58 : decode cX9_readWord 58 = .ok (.istore_n 2, 1) := by decide +kernel
theorem dX9_readWord_59 : decode cX9_readWord 59 = .ok (.iload_n 2, 1) := by decide +kernel
theorem dX9_readWord_60 : decode cX9_readWord 60 = .ok (.bipush 7, 2) := by decide +kernel
theorem dX9_readWord_62 : decode cX9_readWord 62 = .ok (.if_icmp .ge 27, 3) := by decide +kernel
theorem dX9_readWord_65 : decode cX9_readWord 65 = .ok (.aload_n 0, 1) := by decide +kernel
theorem dX9_readWord_66 : decode cX9_readWord 66 = .ok (.iload_n 1, 1) := by decide +kernel
theorem dX9_readWord_67 : decode cX9_readWord 67 = .ok (.aload_n 0, 1) := by decide +kernel
theorem dX9_readWord_68 : decode cX9_readWord 68 = .ok (.getfield 22, 3) := by decide +kernel
theorem dX9_readWord_71 : decode cX9_readWord 71 = .ok (.iload_n 2, 1) := by decide +kernel
theorem dX9_readWord_72 : decode cX9_readWord 72 = .ok (.invokestatic 66, 3) := by decide +kernel
theorem dX9_readWord_75 : decode cX9_readWord 75 = .ok (.invokevirtual 70, 3) := by decide +kernel
theorem dX9_readWord_78 : decode cX9_readWord 78 = .ok (.ifCond .eq 5, 3) := by decide +kernel
theorem dX9_readWord_81 : decode cX9_readWord 81 = .ok (.iload_n 2, 1) := by decide +kernel
theorem dX9_readWord_82 : decode cX9_readWord 82 = .ok (.ireturn, 1) := by decide +kernel
theorem dX9_readWord_83 : decode cX9_readWord 83 = .ok (.iinc 2 1, 3) := by decide +kernel
theorem dX9_readWord_86 : decode cX9_readWord 86 = .ok (.goto (-27), 3) := by decide +kernel
theorem dX9_readWord_89 : decode cX9_readWord 89 = .ok (.iconst (-1), 1) := by decide +kernel
theorem dX9_readWord_90 : decode cX9_readWord 90 = .ok (.ireturn, 1) := by decide +kernel
theorem dX9_spells_0 : decode cX9_spells 0 = .ok (.iload_n 2, 1) := by decide +kernel
theorem dX9_spells_1 : decode cX9_spells 1 = .ok (.iload_n 1, 1) := by decide +kernel
theorem dX9_spells_2 : decode cX9_spells 2 = .ok (.isub, 1) := by decide +kernel
theorem dX9_spells_3 : decode cX9_spells 3 = .ok (.aload_n 3, 1) := by decide +kernel
theorem dX9_spells_4 : decode cX9_spells 4 = .ok (.invokevirtual 74, 3) := by decide +kernel
theorem dX9_spells_7 : decode cX9_spells 7 = .ok (.if_icmp .eq 5, 3) := by decide +kernel
theorem dX9_spells_10 : decode cX9_spells 10 = .ok (.iconst 0, 1) := by decide +kernel
theorem dX9_spells_11 : decode cX9_spells 11 = .ok (.ireturn, 1) := by decide +kernel
theorem dX9_spells_12 : decode cX9_spells 12 = .ok (.iload_n 1, 1) := by decide +kernel
theorem dX9_spells_13 : decode cX9_spells 13 = .ok (.istore 4, 2) := by decide +kernel
theorem dX9_spells_15 : decode cX9_spells 15 = .ok (.iload 4, 2) := by decide +kernel
theorem dX9_spells_17 : decode cX9_spells 17 = .ok (.iload_n 2, 1) := by decide +kernel
theorem dX9_spells_18 : decode cX9_spells 18 = .ok (.if_icmp .ge 29, 3) := by decide +kernel
theorem dX9_spells_21 : decode cX9_spells 21 = .ok (.aload_n 0, 1) := by decide +kernel
theorem dX9_spells_22 : decode cX9_spells 22 = .ok (.getfield 9, 3) := by decide +kernel
theorem dX9_spells_25 : decode cX9_spells 25 = .ok (.iload 4, 2) := by decide +kernel
theorem dX9_spells_27 : decode cX9_spells 27 = .ok (.iaload, 1) := by decide +kernel
theorem dX9_spells_28 : decode cX9_spells 28 = .ok (.aload_n 3, 1) := by decide +kernel
theorem dX9_spells_29 : decode cX9_spells 29 = .ok (.iload 4, 2) := by decide +kernel
theorem dX9_spells_31 : decode cX9_spells 31 = .ok (.iload_n 1, 1) := by decide +kernel
theorem dX9_spells_32 : decode cX9_spells 32 = .ok (.isub, 1) := by decide +kernel
theorem dX9_spells_33 : decode cX9_spells 33 = .ok (.invokevirtual 78, 3) := by decide +kernel
theorem dX9_spells_36 : decode cX9_spells 36 = .ok (.if_icmp .eq 5, 3) := by decide +kernel
theorem dX9_spells_39 : decode cX9_spells 39 = .ok (.iconst 0, 1) := by decide +kernel
theorem dX9_spells_40 : decode cX9_spells 40 = .ok (.ireturn, 1) := by decide +kernel
theorem dX9_spells_41 : decode cX9_spells 41 = .ok (.iinc 4 1, 3) := by decide +kernel
theorem dX9_spells_44 : decode cX9_spells 44 = .ok (.goto (-29), 3) := by decide +kernel
theorem dX9_spells_47 : decode cX9_spells 47 = .ok (.iconst 1, 1) := by decide +kernel
theorem dX9_spells_48 : decode cX9_spells 48 = .ok (.ireturn, 1) := by decide +kernel
theorem dX9_readNumber_0 : decode cX9_readNumber 0 = .ok (.aload_n 0, 1) := by decide +kernel
theorem dX9_readNumber_1 : decode cX9_readNumber 1 = .ok (.getfield 22, 3) := by decide +kernel
theorem dX9_readNumber_4 : decode cX9_readNumber 4 = .ok (.istore_n 1, 1) := by decide +kernel
theorem dX9_readNumber_5 : decode cX9_readNumber 5 = .ok (.iconst 0, 1) := by decide +kernel
theorem dX9_readNumber_6 : decode cX9_readNumber 6 = .ok (.istore_n 2, 1) := by decide +kernel
theorem dX9_readNumber_7 : decode cX9_readNumber 7 = .ok (.aload_n 0, 1) := by decide +kernel
theorem dX9_readNumber_8 : decode cX9_readNumber 8 = .ok (.getfield 22, 3) := by decide +kernel
theorem dX9_readNumber_11 : decode cX9_readNumber 11 = .ok (.aload_n 0, 1) := by decide +kernel
theorem dX9_readNumber_12 : decode cX9_readNumber 12 = .ok (.getfield 18, 3) := by decide +kernel
theorem dX9_readNumber_15 : decode cX9_readNumber 15 = .ok (.if_icmp .ge 72, 3) := by decide +kernel
theorem dX9_readNumber_18 : decode cX9_readNumber 18 = .ok (.aload_n 0, 1) := by decide +kernel
theorem dX9_readNumber_19 : decode cX9_readNumber 19 = .ok (.getfield 9, 3) := by decide +kernel
theorem dX9_readNumber_22 : decode cX9_readNumber 22 = .ok (.aload_n 0, 1) := by decide +kernel
theorem dX9_readNumber_23 : decode cX9_readNumber 23 = .ok (.getfield 22, 3) := by decide +kernel
theorem dX9_readNumber_26 : decode cX9_readNumber 26 = .ok (.iaload, 1) := by decide +kernel
theorem dX9_readNumber_27 : decode cX9_readNumber 27 = .ok (.bipush 48, 2) := by decide +kernel
theorem dX9_readNumber_29 : decode cX9_readNumber 29 = .ok (.if_icmp .lt 58, 3) := by decide +kernel
theorem dX9_readNumber_32 : decode cX9_readNumber 32 = .ok (.aload_n 0, 1) := by decide +kernel
theorem dX9_readNumber_33 : decode cX9_readNumber 33 = .ok (.getfield 9, 3) := by decide +kernel
theorem dX9_readNumber_36 : decode cX9_readNumber 36 = .ok (.aload_n 0, 1) := by decide +kernel
theorem dX9_readNumber_37 : decode cX9_readNumber 37 = .ok (.getfield 22, 3) := by decide +kernel
theorem dX9_readNumber_40 : decode cX9_readNumber 40 = .ok (.iaload, 1) := by decide +kernel
theorem dX9_readNumber_41 : decode cX9_readNumber 41 = .ok (.bipush 57, 2) := by decide +kernel
theorem dX9_readNumber_43 : decode cX9_readNumber 43 = .ok (.if_icmp .gt 44, 3) := by decide +kernel
theorem dX9_readNumber_46 : decode cX9_readNumber 46 = .ok (.aload_n 0, 1) := by decide +kernel
theorem dX9_readNumber_47 : decode cX9_readNumber 47 = .ok (.getfield 22, 3) := by decide +kernel
theorem dX9_readNumber_50 : decode cX9_readNumber 50 = .ok (.iload_n 1, 1) := by decide +kernel
theorem dX9_readNumber_51 : decode cX9_readNumber 51 = .ok (.isub, 1) := by decide +kernel
theorem dX9_readNumber_52 : decode cX9_readNumber 52 = .ok (.iconst 2, 1) := by decide +kernel
theorem dX9_readNumber_53 : decode cX9_readNumber 53 = .ok (.if_icmp .ge 21, 3) := by decide +kernel
theorem dX9_readNumber_56 : decode cX9_readNumber 56 = .ok (.iload_n 2, 1) := by decide +kernel
theorem dX9_readNumber_57 : decode cX9_readNumber 57 = .ok (.bipush 10, 2) := by decide +kernel
theorem dX9_readNumber_59 : decode cX9_readNumber 59 = .ok (.imul, 1) := by decide +kernel
theorem dX9_readNumber_60 : decode cX9_readNumber 60 = .ok (.aload_n 0, 1) := by decide +kernel
theorem dX9_readNumber_61 : decode cX9_readNumber 61 = .ok (.getfield 9, 3) := by decide +kernel
theorem dX9_readNumber_64 : decode cX9_readNumber 64 = .ok (.aload_n 0, 1) := by decide +kernel
theorem dX9_readNumber_65 : decode cX9_readNumber 65 = .ok (.getfield 22, 3) := by decide +kernel
theorem dX9_readNumber_68 : decode cX9_readNumber 68 = .ok (.iaload, 1) := by decide +kernel
theorem dX9_readNumber_69 : decode cX9_readNumber 69 = .ok (.iadd, 1) := by decide +kernel
theorem dX9_readNumber_70 : decode cX9_readNumber 70 = .ok (.bipush 48, 2) := by decide +kernel
theorem dX9_readNumber_72 : decode cX9_readNumber 72 = .ok (.isub, 1) := by decide +kernel
theorem dX9_readNumber_73 : decode cX9_readNumber 73 = .ok (.istore_n 2, 1) := by decide +kernel
theorem dX9_readNumber_74 : decode cX9_readNumber 74 = .ok (.aload_n 0, 1) := by decide +kernel
theorem dX9_readNumber_75 : decode cX9_readNumber 75 = .ok (.dup, 1) := by decide +kernel
theorem dX9_readNumber_76 : decode cX9_readNumber 76 = .ok (.getfield 22, 3) := by decide +kernel
theorem dX9_readNumber_79 : decode cX9_readNumber 79 = .ok (.iconst 1, 1) := by decide +kernel
theorem dX9_readNumber_80 : decode cX9_readNumber 80 = .ok (.iadd, 1) := by decide +kernel
theorem dX9_readNumber_81 : decode cX9_readNumber 81 = .ok (.putfield 22, 3) := by decide +kernel
theorem dX9_readNumber_84 : decode cX9_readNumber 84 = .ok (.goto (-77), 3) := by decide +kernel
theorem dX9_readNumber_87 : decode cX9_readNumber 87 = .ok (.aload_n 0, 1) := by decide +kernel
theorem dX9_readNumber_88 : decode cX9_readNumber 88 = .ok (.getfield 22, 3) := by decide +kernel
theorem dX9_readNumber_91 : decode cX9_readNumber 91 = .ok (.iload_n 1, 1) := by decide +kernel
theorem dX9_readNumber_92 : decode cX9_readNumber 92 = .ok (.if_icmp .eq 13, 3) := by decide +kernel
theorem dX9_readNumber_95 : decode cX9_readNumber 95 = .ok (.aload_n 0, 1) := by decide +kernel
theorem dX9_readNumber_96 : decode cX9_readNumber 96 = .ok (.getfield 22, 3) := by decide +kernel
theorem dX9_readNumber_99 : decode cX9_readNumber 99 = .ok (.iload_n 1, 1) := by decide +kernel
theorem dX9_readNumber_100 : decode cX9_readNumber 100 = .ok (.isub, 1) := by decide +kernel
theorem dX9_readNumber_101 : decode cX9_readNumber 101 = .ok (.iconst 2, 1) := by decide +kernel
theorem dX9_readNumber_102 : decode cX9_readNumber 102 = .ok (.if_icmp .le 7, 3) := by decide +kernel
theorem dX9_readNumber_105 : decode cX9_readNumber 105 = .ok (.iconst (-1), 1) := by decide +kernel
theorem dX9_readNumber_106 : decode cX9_readNumber 106 = .ok (.goto 4, 3) := by decide +kernel
theorem dX9_readNumber_109 : decode cX9_readNumber 109 = .ok (.iload_n 2, 1) := by decide +kernel
theorem dX9_readNumber_110 : decode cX9_readNumber 110 = .ok (.ireturn, 1) := by decide +kernel
theorem dX9_isPersonWord_0 : decode cX9_isPersonWord 0 = .ok (.iload_n 0, 1) := by decide +kernel
theorem dX9_isPersonWord_1 : decode cX9_isPersonWord 1 = .ok (.ifCond .lt 12, 3) := by decide +kernel
theorem dX9_isPersonWord_4 : decode cX9_isPersonWord 4 = .ok (.iload_n 0, 1) := by decide +kernel
theorem dX9_isPersonWord_5 : decode cX9_isPersonWord 5 = .ok (.iconst 3, 1) := by decide +kernel
theorem dX9_isPersonWord_6 : decode cX9_isPersonWord 6 = .ok (.if_icmp .gt 7, 3) := by decide +kernel
theorem dX9_isPersonWord_9 : decode cX9_isPersonWord 9 = .ok (.iconst 1, 1) := by decide +kernel
theorem dX9_isPersonWord_10 : decode cX9_isPersonWord 10 = .ok (.goto 4, 3) := by decide +kernel
theorem dX9_isPersonWord_13 : decode cX9_isPersonWord 13 = .ok (.iconst 0, 1) := by decide +kernel
theorem dX9_isPersonWord_14 : decode cX9_isPersonWord 14 = .ok (.ireturn, 1) := by decide +kernel
theorem dX9_nameOf_0 : decode cX9_nameOf 0 = .ok (.iload_n 0, 1) := by decide +kernel
theorem dX9_nameOf_1 : decode cX9_nameOf 1 = .ok (.tableswitch 57 0 5 #[39, 42, 45, 48, 51, 54], 39) := by decide +kernel
theorem dX9_nameOf_40 : decode cX9_nameOf 40 = .ok (.ldc 82, 2) := by decide +kernel
theorem dX9_nameOf_42 : decode cX9_nameOf 42 = .ok (.areturn, 1) := by decide +kernel
theorem dX9_nameOf_43 : decode cX9_nameOf 43 = .ok (.ldc 84, 2) := by decide +kernel
theorem dX9_nameOf_45 : decode cX9_nameOf 45 = .ok (.areturn, 1) := by decide +kernel
theorem dX9_nameOf_46 : decode cX9_nameOf 46 = .ok (.ldc 86, 2) := by decide +kernel
theorem dX9_nameOf_48 : decode cX9_nameOf 48 = .ok (.areturn, 1) := by decide +kernel
theorem dX9_nameOf_49 : decode cX9_nameOf 49 = .ok (.ldc 88, 2) := by decide +kernel
theorem dX9_nameOf_51 : decode cX9_nameOf 51 = .ok (.areturn, 1) := by decide +kernel
theorem dX9_nameOf_52 : decode cX9_nameOf 52 = .ok (.ldc 90, 2) := by decide +kernel
theorem dX9_nameOf_54 : decode cX9_nameOf 54 = .ok (.areturn, 1) := by decide +kernel
theorem dX9_nameOf_55 : decode cX9_nameOf 55 = .ok (.ldc 92, 2) := by decide +kernel
theorem dX9_nameOf_57 : decode cX9_nameOf 57 = .ok (.areturn, 1) := by decide +kernel
theorem dX9_nameOf_58 : decode cX9_nameOf 58 = .ok (.ldc 94, 2) := by decide +kernel
theorem dX9_nameOf_60 : decode cX9_nameOf 60 = .ok (.areturn, 1) := by decide +kernel
theorem dX9_numbersBehind_0 : decode cX9_numbersBehind 0 = .ok (.iload_n 0, 1) := by decide +kernel
theorem dX9_numbersBehind_1 : decode cX9_numbersBehind 1 = .ok (.lookupswitch 31 #[(5, 27), (6, 29)], 27) := by decide +kernel
theorem dX9_numbersBehind_28 : decode cX9_numbersBehind 28 = .ok (.iconst 4, 1) := by decide +kernel
theorem dX9_numbersBehind_29 : decode cX9_numbersBehind 29 = .ok (.ireturn, 1) := by decide +kernel
theorem dX9_numbersBehind_30 : decode cX9_numbersBehind 30 = .ok (.iconst 0, 1) := by decide +kernel
theorem dX9_numbersBehind_31 : decode cX9_numbersBehind 31 = .ok (.ireturn, 1) := by decide +kernel
theorem dX9_numbersBehind_32 : decode cX9_numbersBehind 32 = .ok (.iconst 1, 1) := by decide +kernel
theorem dX9_numbersBehind_33 : decode cX9_numbersBehind 33 = .ok (.ireturn, 1) := by decide +kernel
theorem dX9_least_0 : decode cX9_least 0 = .ok (.iload_n 0, 1) := by decide +kernel
theorem dX9_least_1 : decode cX9_least 1 = .ok (.iconst 4, 1) := by decide +kernel
theorem dX9_least_2 : decode cX9_least 2 = .ok (.if_icmp .ne 5, 3) := by decide +kernel
theorem dX9_least_5 : decode cX9_least 5 = .ok (.iconst 2, 1) := by decide +kernel
theorem dX9_least_6 : decode cX9_least 6 = .ok (.ireturn, 1) := by decide +kernel
theorem dX9_least_7 : decode cX9_least 7 = .ok (.iload_n 0, 1) := by decide +kernel
theorem dX9_least_8 : decode cX9_least 8 = .ok (.iconst 5, 1) := by decide +kernel
theorem dX9_least_9 : decode cX9_least 9 = .ok (.if_icmp .ne 12, 3) := by decide +kernel
theorem dX9_least_12 : decode cX9_least 12 = .ok (.iload_n 1, 1) := by decide +kernel
theorem dX9_least_13 : decode cX9_least 13 = .ok (.iconst 2, 1) := by decide +kernel
theorem dX9_least_14 : decode cX9_least 14 = .ok (.if_icmp .ge 7, 3) := by decide +kernel
theorem dX9_least_17 : decode cX9_least 17 = .ok (.iconst 0, 1) := by decide +kernel
theorem dX9_least_18 : decode cX9_least 18 = .ok (.goto 4, 3) := by decide +kernel
theorem dX9_least_21 : decode cX9_least 21 = .ok (.iconst 1, 1) := by decide +kernel
theorem dX9_least_22 : decode cX9_least 22 = .ok (.ireturn, 1) := by decide +kernel
theorem dX9_most_0 : decode cX9_most 0 = .ok (.iload_n 1, 1) := by decide +kernel
theorem dX9_most_1 : decode cX9_most 1 = .ok (.iconst 4, 1) := by decide +kernel
theorem dX9_most_2 : decode cX9_most 2 = .ok (.if_icmp .ne 6, 3) := by decide +kernel
theorem dX9_most_5 : decode cX9_most 5 = .ok (.bipush 12, 2) := by decide +kernel
theorem dX9_most_7 : decode cX9_most 7 = .ok (.ireturn, 1) := by decide +kernel
theorem dX9_most_8 : decode cX9_most 8 = .ok (.iload_n 1, 1) := by decide +kernel
theorem dX9_most_9 : decode cX9_most 9 = .ok (.iconst 5, 1) := by decide +kernel
theorem dX9_most_10 : decode cX9_most 10 = .ok (.if_icmp .eq 6, 3) := by decide +kernel
theorem dX9_most_13 : decode cX9_most 13 = .ok (.bipush 9, 2) := by decide +kernel
theorem dX9_most_15 : decode cX9_most 15 = .ok (.ireturn, 1) := by decide +kernel
theorem dX9_most_16 : decode cX9_most 16 = .ok (.iload_n 2, 1) := by decide +kernel
theorem dX9_most_17 : decode cX9_most 17 = .ok (.tableswitch 39 0 2 #[27, 34, 36], 27) := by decide +kernel
theorem dX9_most_44 : decode cX9_most 44 = .ok (.aload_n 0, 1) := by decide +kernel
theorem dX9_most_45 : decode cX9_most 45 = .ok (.getfield 28, 3) := by decide +kernel
theorem dX9_most_48 : decode cX9_most 48 = .ok (.iconst 1, 1) := by decide +kernel
theorem dX9_most_49 : decode cX9_most 49 = .ok (.isub, 1) := by decide +kernel
theorem dX9_most_50 : decode cX9_most 50 = .ok (.ireturn, 1) := by decide +kernel
theorem dX9_most_51 : decode cX9_most 51 = .ok (.iconst 1, 1) := by decide +kernel
theorem dX9_most_52 : decode cX9_most 52 = .ok (.ireturn, 1) := by decide +kernel
theorem dX9_most_53 : decode cX9_most 53 = .ok (.bipush 7, 2) := by decide +kernel
theorem dX9_most_55 : decode cX9_most 55 = .ok (.ireturn, 1) := by decide +kernel
theorem dX9_most_56 : decode cX9_most 56 = .ok (.bipush 20, 2) := by decide +kernel
theorem dX9_most_58 : decode cX9_most 58 = .ok (.ireturn, 1) := by decide +kernel
theorem dX10_init_0 : decode cX10_init 0 = .ok (.aload_n 0, 1) := by decide +kernel
theorem dX10_init_1 : decode cX10_init 1 = .ok (.invokespecial 3, 3) := by decide +kernel
theorem dX10_init_4 : decode cX10_init 4 = .ok (.aload_n 0, 1) := by decide +kernel
theorem dX10_init_5 : decode cX10_init 5 = .ok (.new 9, 3) := by decide +kernel
theorem dX10_init_8 : decode cX10_init 8 = .ok (.dup, 1) := by decide +kernel
theorem dX10_init_9 : decode cX10_init 9 = .ok (.invokespecial 11, 3) := by decide +kernel
theorem dX10_init_12 : decode cX10_init 12 = .ok (.putfield 12, 3) := by decide +kernel
theorem dX10_init_15 : decode cX10_init 15 = .ok (.aload_n 0, 1) := by decide +kernel
theorem dX10_init_16 : decode cX10_init 16 = .ok (.bipush 6, 2) := by decide +kernel
theorem dX10_init_18 : decode cX10_init 18 = .ok (.anewarray 16, 3) := by decide +kernel
theorem dX10_init_21 : decode cX10_init 21 = .ok (.putfield 18, 3) := by decide +kernel
theorem dX10_init_24 : decode cX10_init 24 = .ok (.aload_n 0, 1) := by decide +kernel
theorem dX10_init_25 : decode cX10_init 25 = .ok (.new 22, 3) := by decide +kernel
theorem dX10_init_28 : decode cX10_init 28 = .ok (.dup, 1) := by decide +kernel
theorem dX10_init_29 : decode cX10_init 29 = .ok (.invokespecial 24, 3) := by decide +kernel
theorem dX10_init_32 : decode cX10_init 32 = .ok (.putfield 25, 3) := by decide +kernel
theorem dX10_init_35 : decode cX10_init 35 = .ok (.aload_n 0, 1) := by decide +kernel
theorem dX10_init_36 : decode cX10_init 36 = .ok (.new 22, 3) := by decide +kernel
theorem dX10_init_39 : decode cX10_init 39 = .ok (.dup, 1) := by decide +kernel
theorem dX10_init_40 : decode cX10_init 40 = .ok (.invokespecial 24, 3) := by decide +kernel
theorem dX10_init_43 : decode cX10_init 43 = .ok (.putfield 29, 3) := by decide +kernel
theorem dX10_init_46 : decode cX10_init 46 = .ok (.aload_n 0, 1) := by decide +kernel
theorem dX10_init_47 : decode cX10_init 47 = .ok (.new 32, 3) := by decide +kernel
theorem dX10_init_50 : decode cX10_init 50 = .ok (.dup, 1) := by decide +kernel
theorem dX10_init_51 : decode cX10_init 51 = .ok (.invokespecial 34, 3) := by decide +kernel
theorem dX10_init_54 : decode cX10_init 54 = .ok (.putfield 35, 3) := by decide +kernel
theorem dX10_init_57 : decode cX10_init 57 = .ok (.aload_n 0, 1) := by decide +kernel
theorem dX10_init_58 : decode cX10_init 58 = .ok (.new 39, 3) := by decide +kernel
theorem dX10_init_61 : decode cX10_init 61 = .ok (.dup, 1) := by decide +kernel
theorem dX10_init_62 : decode cX10_init 62 = .ok (.invokespecial 41, 3) := by decide +kernel
theorem dX10_init_65 : decode cX10_init 65 = .ok (.putfield 42, 3) := by decide +kernel
theorem dX10_init_68 : decode cX10_init 68 = .ok (.aload_n 0, 1) := by decide +kernel
theorem dX10_init_69 : decode cX10_init 69 = .ok (.iconst 2, 1) := by decide +kernel
theorem dX10_init_70 : decode cX10_init 70 = .ok (.anewarray 32, 3) := by decide +kernel
theorem dX10_init_73 : decode cX10_init 73 = .ok (.putfield 46, 3) := by decide +kernel
theorem dX10_init_76 : decode cX10_init 76 = .ok (.aload_n 0, 1) := by decide +kernel
theorem dX10_init_77 : decode cX10_init 77 = .ok (.iconst 2, 1) := by decide +kernel
theorem dX10_init_78 : decode cX10_init 78 = .ok (.newarray .boolean, 2) := by decide +kernel
theorem dX10_init_80 : decode cX10_init 80 = .ok (.putfield 50, 3) := by decide +kernel
theorem dX10_init_83 : decode cX10_init 83 = .ok (.aload_n 0, 1) := by decide +kernel
theorem dX10_init_84 : decode cX10_init 84 = .ok (.new 54, 3) := by decide +kernel
theorem dX10_init_87 : decode cX10_init 87 = .ok (.dup, 1) := by decide +kernel
theorem dX10_init_88 : decode cX10_init 88 = .ok (.invokespecial 56, 3) := by decide +kernel
theorem dX10_init_91 : decode cX10_init 91 = .ok (.putfield 57, 3) := by decide +kernel
theorem dX10_init_94 : decode cX10_init 94 = .ok (.aload_n 0, 1) := by decide +kernel
theorem dX10_init_95 : decode cX10_init 95 = .ok (.bipush 8, 2) := by decide +kernel
theorem dX10_init_97 : decode cX10_init 97 = .ok (.putfield 61, 3) := by decide +kernel
theorem dX10_init_100 : decode cX10_init 100 = .ok (.iconst 0, 1) := by decide +kernel
theorem dX10_init_101 : decode cX10_init 101 = .ok (.istore_n 1, 1) := by decide +kernel
theorem dX10_init_102 : decode cX10_init 102 = .ok (.iload_n 1, 1) := by decide +kernel
theorem dX10_init_103 : decode cX10_init 103 = .ok (.iconst 2, 1) := by decide +kernel
theorem dX10_init_104 : decode cX10_init 104 = .ok (.if_icmp .ge 22, 3) := by decide +kernel
theorem dX10_init_107 : decode cX10_init 107 = .ok (.aload_n 0, 1) := by decide +kernel
theorem dX10_init_108 : decode cX10_init 108 = .ok (.getfield 46, 3) := by decide +kernel
theorem dX10_init_111 : decode cX10_init 111 = .ok (.iload_n 1, 1) := by decide +kernel
theorem dX10_init_112 : decode cX10_init 112 = .ok (.new 32, 3) := by decide +kernel
theorem dX10_init_115 : decode cX10_init 115 = .ok (.dup, 1) := by decide +kernel
theorem dX10_init_116 : decode cX10_init 116 = .ok (.invokespecial 34, 3) := by decide +kernel
theorem dX10_init_119 : decode cX10_init 119 = .ok (.aastore, 1) := by decide +kernel
theorem dX10_init_120 : decode cX10_init 120 = .ok (.iinc 1 1, 3) := by decide +kernel
theorem dX10_init_123 : decode cX10_init 123 = .ok (.goto (-21), 3) := by decide +kernel
theorem dX10_init_126 : decode cX10_init 126 = .ok (.return_, 1) := by decide +kernel
theorem dX10_write_0 : decode cX10_write 0 = .ok (.iload_n 1, 1) := by decide +kernel
theorem dX10_write_1 : decode cX10_write 1 = .ok (.ifCond .lt 10, 3) := by decide +kernel
theorem dX10_write_4 : decode cX10_write 4 = .ok (.iload_n 1, 1) := by decide +kernel
theorem dX10_write_5 : decode cX10_write 5 = .ok (.sipush 255, 3) := by decide +kernel
theorem dX10_write_8 : decode cX10_write 8 = .ok (.if_icmp .le 6, 3) := by decide +kernel
theorem dX10_write_11 : decode cX10_write 11 = .ok (.bipush (-3), 2) := by decide +kernel
theorem dX10_write_13 : decode cX10_write 13 = .ok (.ireturn, 1) := by decide +kernel
theorem dX10_write_14 : decode cX10_write 14 = .ok (.aload_n 0, 1) := by decide +kernel
theorem dX10_write_15 : decode cX10_write 15 = .ok (.getfield 12, 3) := by decide +kernel
theorem dX10_write_18 : decode cX10_write 18 = .ok (.getfield 65, 3) := by decide +kernel
theorem dX10_write_21 : decode cX10_write 21 = .ok (.sipush 160, 3) := by decide +kernel
theorem dX10_write_24 : decode cX10_write 24 = .ok (.if_icmp .lt 6, 3) := by decide +kernel
theorem dX10_write_27 : decode cX10_write 27 = .ok (.bipush (-5), 2) := by decide +kernel
theorem dX10_write_29 : decode cX10_write 29 = .ok (.ireturn, 1) := by decide +kernel
theorem dX10_write_30 : decode cX10_write 30 = .ok (.aload_n 0, 1) := by decide +kernel
theorem dX10_write_31 : decode cX10_write 31 = .ok (.getfield 12, 3) := by decide +kernel
theorem dX10_write_34 : decode cX10_write 34 = .ok (.iload_n 1, 1) := by decide +kernel
theorem dX10_write_35 : decode cX10_write 35 = .ok (.invokevirtual 68, 3) := by decide +kernel
theorem dX10_write_38 : decode cX10_write 38 = .ok (.aload_n 0, 1) := by decide +kernel
theorem dX10_write_39 : decode cX10_write 39 = .ok (.getfield 12, 3) := by decide +kernel
theorem dX10_write_42 : decode cX10_write 42 = .ok (.getfield 65, 3) := by decide +kernel
theorem dX10_write_45 : decode cX10_write 45 = .ok (.ireturn, 1) := by decide +kernel
theorem dX10_erase_0 : decode cX10_erase 0 = .ok (.aload_n 0, 1) := by decide +kernel
theorem dX10_erase_1 : decode cX10_erase 1 = .ok (.getfield 12, 3) := by decide +kernel
theorem dX10_erase_4 : decode cX10_erase 4 = .ok (.getfield 65, 3) := by decide +kernel
theorem dX10_erase_7 : decode cX10_erase 7 = .ok (.istore_n 1, 1) := by decide +kernel
theorem dX10_erase_8 : decode cX10_erase 8 = .ok (.aload_n 0, 1) := by decide +kernel
theorem dX10_erase_9 : decode cX10_erase 9 = .ok (.getfield 12, 3) := by decide +kernel
theorem dX10_erase_12 : decode cX10_erase 12 = .ok (.iconst 0, 1) := by decide +kernel
theorem dX10_erase_13 : decode cX10_erase 13 = .ok (.putfield 65, 3) := by decide +kernel
theorem dX10_erase_16 : decode cX10_erase 16 = .ok (.iload_n 1, 1) := by decide +kernel
theorem dX10_erase_17 : decode cX10_erase 17 = .ok (.ireturn, 1) := by decide +kernel
theorem dX10_fault_0 : decode cX10_fault 0 = .ok (.aload_n 0, 1) := by decide +kernel
theorem dX10_fault_1 : decode cX10_fault 1 = .ok (.getfield 12, 3) := by decide +kernel
theorem dX10_fault_4 : decode cX10_fault 4 = .ok (.aload_n 0, 1) := by decide +kernel
theorem dX10_fault_5 : decode cX10_fault 5 = .ok (.getfield 61, 3) := by decide +kernel
theorem dX10_fault_8 : decode cX10_fault 8 = .ok (.aload_n 0, 1) := by decide +kernel
theorem dX10_fault_9 : decode cX10_fault 9 = .ok (.getfield 72, 3) := by decide +kernel
theorem dX10_fault_12 : decode cX10_fault 12 = .ok (.invokevirtual 75, 3) := by decide +kernel
theorem dX10_fault_15 : decode cX10_fault 15 = .ok (.ireturn, 1) := by decide +kernel
theorem dX10_house_0 : decode cX10_house 0 = .ok (.aload_n 0, 1) := by decide +kernel
theorem dX10_house_1 : decode cX10_house 1 = .ok (.getfield 12, 3) := by decide +kernel
theorem dX10_house_4 : decode cX10_house 4 = .ok (.aload_n 0, 1) := by decide +kernel
theorem dX10_house_5 : decode cX10_house 5 = .ok (.getfield 61, 3) := by decide +kernel
theorem dX10_house_8 : decode cX10_house 8 = .ok (.aload_n 0, 1) := by decide +kernel
theorem dX10_house_9 : decode cX10_house 9 = .ok (.getfield 72, 3) := by decide +kernel
theorem dX10_house_12 : decode cX10_house 12 = .ok (.invokevirtual 75, 3) := by decide +kernel
theorem dX10_house_15 : decode cX10_house 15 = .ok (.iconst (-1), 1) := by decide +kernel
theorem dX10_house_16 : decode cX10_house 16 = .ok (.if_icmp .eq 6, 3) := by decide +kernel
theorem dX10_house_19 : decode cX10_house 19 = .ok (.bipush (-4), 2) := by decide +kernel
theorem dX10_house_21 : decode cX10_house 21 = .ok (.ireturn, 1) := by decide +kernel
theorem dX10_house_22 : decode cX10_house 22 = .ok (.iconst 0, 1) := by decide +kernel
theorem dX10_house_23 : decode cX10_house 23 = .ok (.istore_n 1, 1) := by decide +kernel
theorem dX10_house_24 : decode cX10_house 24 = .ok (.iload_n 1, 1) := by decide +kernel
theorem dX10_house_25 : decode cX10_house 25 = .ok (.aload_n 0, 1) := by decide +kernel
theorem dX10_house_26 : decode cX10_house 26 = .ok (.getfield 12, 3) := by decide +kernel
theorem dX10_house_29 : decode cX10_house 29 = .ok (.getfield 79, 3) := by decide +kernel
theorem dX10_house_32 : decode cX10_house 32 = .ok (.if_icmp .ge 14, 3) := by decide +kernel
theorem dX10_house_35 : decode cX10_house 35 = .ok (.aload_n 0, 1) := by decide +kernel
theorem dX10_house_36 : decode cX10_house 36 = .ok (.iload_n 1, 1) := by decide +kernel
theorem dX10_house_37 : decode cX10_house 37 = .ok (.invokevirtual 82, 3) := by decide +kernel
theorem dX10_house_40 : decode cX10_house 40 = .ok (.iinc 1 1, 3) := by decide +kernel
theorem dX10_house_43 : decode cX10_house 43 = .ok (.goto (-19), 3) := by decide +kernel
theorem dX10_house_46 : decode cX10_house 46 = .ok (.aload_n 0, 1) := by decide +kernel
theorem dX10_house_47 : decode cX10_house 47 = .ok (.getfield 12, 3) := by decide +kernel
theorem dX10_house_50 : decode cX10_house 50 = .ok (.iconst 0, 1) := by decide +kernel
theorem dX10_house_51 : decode cX10_house 51 = .ok (.putfield 65, 3) := by decide +kernel
theorem dX10_house_54 : decode cX10_house 54 = .ok (.aload_n 0, 1) := by decide +kernel
theorem dX10_house_55 : decode cX10_house 55 = .ok (.invokevirtual 85, 3) := by decide +kernel
theorem dX10_house_58 : decode cX10_house 58 = .ok (.aload_n 0, 1) := by decide +kernel
theorem dX10_house_59 : decode cX10_house 59 = .ok (.getfield 12, 3) := by decide +kernel
theorem dX10_house_62 : decode cX10_house 62 = .ok (.getfield 79, 3) := by decide +kernel
theorem dX10_house_65 : decode cX10_house 65 = .ok (.ireturn, 1) := by decide +kernel
theorem dX10_person_0 : decode cX10_person 0 = .ok (.aload_n 0, 1) := by decide +kernel
theorem dX10_person_1 : decode cX10_person 1 = .ok (.iload_n 1, 1) := by decide +kernel
theorem dX10_person_2 : decode cX10_person 2 = .ok (.invokevirtual 88, 3) := by decide +kernel
theorem dX10_person_5 : decode cX10_person 5 = .ok (.astore_n 3, 1) := by decide +kernel
theorem dX10_person_6 : decode cX10_person 6 = .ok (.aload_n 3, 1) := by decide +kernel
theorem dX10_person_7 : decode cX10_person 7 = .ok (.ifnonnull 6, 3) := by decide +kernel
theorem dX10_person_10 : decode cX10_person 10 = .ok (.bipush (-2), 2) := by decide +kernel
theorem dX10_person_12 : decode cX10_person 12 = .ok (.ireturn, 1) := by decide +kernel
theorem dX10_person_13 : decode cX10_person 13 = .ok (.iload_n 2, 1) := by decide +kernel
theorem dX10_person_14 : decode cX10_person 14 = .ok (.tableswitch 46 0 2 #[26, 31, 36], 26) := by decide +kernel
theorem dX10_person_40 : decode cX10_person 40 = .ok (.aload_n 3, 1) := by decide +kernel
theorem dX10_person_41 : decode cX10_person 41 = .ok (.invokevirtual 92, 3) := by decide +kernel
theorem dX10_person_44 : decode cX10_person 44 = .ok (.ireturn, 1) := by decide +kernel
theorem dX10_person_45 : decode cX10_person 45 = .ok (.aload_n 3, 1) := by decide +kernel
theorem dX10_person_46 : decode cX10_person 46 = .ok (.getfield 96, 3) := by decide +kernel
theorem dX10_person_49 : decode cX10_person 49 = .ok (.ireturn, 1) := by decide +kernel
theorem dX10_person_50 : decode cX10_person 50 = .ok (.aload_n 0, 1) := by decide +kernel
theorem dX10_person_51 : decode cX10_person 51 = .ok (.getfield 35, 3) := by decide +kernel
theorem dX10_person_54 : decode cX10_person 54 = .ok (.getfield 99, 3) := by decide +kernel
theorem dX10_person_57 : decode cX10_person 57 = .ok (.iload_n 1, 1) := by decide +kernel
theorem dX10_person_58 : decode cX10_person 58 = .ok (.iaload, 1) := by decide +kernel
theorem dX10_person_59 : decode cX10_person 59 = .ok (.ireturn, 1) := by decide +kernel
theorem dX10_person_60 : decode cX10_person 60 = .ok (.bipush (-3), 2) := by decide +kernel
theorem dX10_person_62 : decode cX10_person 62 = .ok (.ireturn, 1) := by decide +kernel
theorem dX10_rail_0 : decode cX10_rail 0 = .ok (.aload_n 0, 1) := by decide +kernel
theorem dX10_rail_1 : decode cX10_rail 1 = .ok (.iload_n 1, 1) := by decide +kernel
theorem dX10_rail_2 : decode cX10_rail 2 = .ok (.invokevirtual 103, 3) := by decide +kernel
theorem dX10_rail_5 : decode cX10_rail 5 = .ok (.ifCond .eq 10, 3) := by decide +kernel
theorem dX10_rail_8 : decode cX10_rail 8 = .ok (.iload_n 2, 1) := by decide +kernel
theorem dX10_rail_9 : decode cX10_rail 9 = .ok (.invokestatic 107, 3) := by decide +kernel
theorem dX10_rail_12 : decode cX10_rail 12 = .ok (.ifCond .ne 6, 3) := by decide +kernel
theorem dX10_rail_15 : decode cX10_rail 15 = .ok (.bipush (-2), 2) := by decide +kernel
theorem dX10_rail_17 : decode cX10_rail 17 = .ok (.ireturn, 1) := by decide +kernel
theorem dX10_rail_18 : decode cX10_rail 18 = .ok (.iload_n 3, 1) := by decide +kernel
theorem dX10_rail_19 : decode cX10_rail 19 = .ok (.lookupswitch 45 #[(0, 25), (1, 32)], 25) := by decide +kernel
theorem dX10_rail_44 : decode cX10_rail 44 = .ok (.aload_n 0, 1) := by decide +kernel
theorem dX10_rail_45 : decode cX10_rail 45 = .ok (.iload_n 1, 1) := by decide +kernel
theorem dX10_rail_46 : decode cX10_rail 46 = .ok (.iload_n 2, 1) := by decide +kernel
theorem dX10_rail_47 : decode cX10_rail 47 = .ok (.invokevirtual 110, 3) := by decide +kernel
theorem dX10_rail_50 : decode cX10_rail 50 = .ok (.ireturn, 1) := by decide +kernel
theorem dX10_rail_51 : decode cX10_rail 51 = .ok (.aload_n 0, 1) := by decide +kernel
theorem dX10_rail_52 : decode cX10_rail 52 = .ok (.getfield 35, 3) := by decide +kernel
theorem dX10_rail_55 : decode cX10_rail 55 = .ok (.getfield 113, 3) := by decide +kernel
theorem dX10_rail_58 : decode cX10_rail 58 = .ok (.iload_n 1, 1) := by decide +kernel
theorem dX10_rail_59 : decode cX10_rail 59 = .ok (.iload_n 2, 1) := by decide +kernel
theorem dX10_rail_60 : decode cX10_rail 60 = .ok (.invokevirtual 116, 3) := by decide +kernel
theorem dX10_rail_63 : decode cX10_rail 63 = .ok (.ireturn, 1) := by decide +kernel
theorem dX10_rail_64 : decode cX10_rail 64 = .ok (.bipush (-3), 2) := by decide +kernel
theorem dX10_rail_66 : decode cX10_rail 66 = .ok (.ireturn, 1) := by decide +kernel
theorem dX10_as_0 : decode cX10_as 0 = .ok (.aload_n 0, 1) := by decide +kernel
theorem dX10_as_1 : decode cX10_as 1 = .ok (.iload_n 1, 1) := by decide +kernel
theorem dX10_as_2 : decode cX10_as 2 = .ok (.invokevirtual 88, 3) := by decide +kernel
theorem dX10_as_5 : decode cX10_as 5 = .ok (.astore_n 3, 1) := by decide +kernel
theorem dX10_as_6 : decode cX10_as 6 = .ok (.aload_n 3, 1) := by decide +kernel
theorem dX10_as_7 : decode cX10_as 7 = .ok (.ifnonnull 6, 3) := by decide +kernel
theorem dX10_as_10 : decode cX10_as 10 = .ok (.bipush (-2), 2) := by decide +kernel
theorem dX10_as_12 : decode cX10_as 12 = .ok (.ireturn, 1) := by decide +kernel
theorem dX10_as_13 : decode cX10_as 13 = .ok (.iload_n 2, 1) := by decide +kernel
theorem dX10_as_14 : decode cX10_as 14 = .ok (.ifCond .lt 8, 3) := by decide +kernel
theorem dX10_as_17 : decode cX10_as 17 = .ok (.iload_n 2, 1) := by decide +kernel
theorem dX10_as_18 : decode cX10_as 18 = .ok (.iconst 4, 1) := by decide +kernel
theorem dX10_as_19 : decode cX10_as 19 = .ok (.if_icmp .le 6, 3) := by decide +kernel
theorem dX10_as_22 : decode cX10_as 22 = .ok (.bipush (-3), 2) := by decide +kernel
theorem dX10_as_24 : decode cX10_as 24 = .ok (.ireturn, 1) := by decide +kernel
theorem dX10_as_25 : decode cX10_as 25 = .ok (.aload_n 3, 1) := by decide +kernel
theorem dX10_as_26 : decode cX10_as 26 = .ok (.iload_n 2, 1) := by decide +kernel
theorem dX10_as_27 : decode cX10_as 27 = .ok (.invokestatic 119, 3) := by decide +kernel
theorem dX10_as_30 : decode cX10_as 30 = .ok (.ifCond .eq 10, 3) := by decide +kernel
theorem dX10_as_33 : decode cX10_as 33 = .ok (.aload_n 3, 1) := by decide +kernel
theorem dX10_as_34 : decode cX10_as 34 = .ok (.invokevirtual 123, 3) := by decide +kernel
theorem dX10_as_37 : decode cX10_as 37 = .ok (.goto 5, 3) := by decide +kernel
theorem dX10_as_40 : decode cX10_as 40 = .ok (.bipush (-4), 2) := by decide +kernel
theorem dX10_as_42 : decode cX10_as 42 = .ok (.ireturn, 1) := by decide +kernel
theorem dX10_down_0 : decode cX10_down 0 = .ok (.aload_n 0, 1) := by decide +kernel
theorem dX10_down_1 : decode cX10_down 1 = .ok (.iload_n 1, 1) := by decide +kernel
theorem dX10_down_2 : decode cX10_down 2 = .ok (.invokevirtual 88, 3) := by decide +kernel
theorem dX10_down_5 : decode cX10_down 5 = .ok (.astore 4, 2) := by decide +kernel
theorem dX10_down_7 : decode cX10_down 7 = .ok (.aload 4, 2) := by decide +kernel
theorem dX10_down_9 : decode cX10_down 9 = .ok (.ifnull 18, 3) := by decide +kernel
theorem dX10_down_12 : decode cX10_down 12 = .ok (.aload_n 0, 1) := by decide +kernel
theorem dX10_down_13 : decode cX10_down 13 = .ok (.iload_n 2, 1) := by decide +kernel
theorem dX10_down_14 : decode cX10_down 14 = .ok (.invokevirtual 103, 3) := by decide +kernel
theorem dX10_down_17 : decode cX10_down 17 = .ok (.ifCond .eq 10, 3) := by decide +kernel
theorem dX10_down_20 : decode cX10_down 20 = .ok (.iload_n 3, 1) := by decide +kernel
theorem dX10_down_21 : decode cX10_down 21 = .ok (.invokestatic 126, 3) := by decide +kernel
theorem dX10_down_24 : decode cX10_down 24 = .ok (.ifCond .ne 6, 3) := by decide +kernel
theorem dX10_down_27 : decode cX10_down 27 = .ok (.bipush (-2), 2) := by decide +kernel
theorem dX10_down_29 : decode cX10_down 29 = .ok (.ireturn, 1) := by decide +kernel
theorem dX10_down_30 : decode cX10_down 30 = .ok (.aload_n 0, 1) := by decide +kernel
theorem dX10_down_31 : decode cX10_down 31 = .ok (.getfield 42, 3) := by decide +kernel
theorem dX10_down_34 : decode cX10_down 34 = .ok (.aload_n 0, 1) := by decide +kernel
theorem dX10_down_35 : decode cX10_down 35 = .ok (.getfield 35, 3) := by decide +kernel
theorem dX10_down_38 : decode cX10_down 38 = .ok (.invokevirtual 129, 3) := by decide +kernel
theorem dX10_down_41 : decode cX10_down 41 = .ok (.aload_n 0, 1) := by decide +kernel
theorem dX10_down_42 : decode cX10_down 42 = .ok (.getfield 35, 3) := by decide +kernel
theorem dX10_down_45 : decode cX10_down 45 = .ok (.getfield 113, 3) := by decide +kernel
theorem dX10_down_48 : decode cX10_down 48 = .ok (.aload 4, 2) := by decide +kernel
theorem dX10_down_50 : decode cX10_down 50 = .ok (.iload_n 2, 1) := by decide +kernel
theorem dX10_down_51 : decode cX10_down 51 = .ok (.iload_n 3, 1) := by decide +kernel
theorem dX10_down_52 : decode cX10_down 52 = .ok (.invokevirtual 133, 3) := by decide +kernel
theorem dX10_down_55 : decode cX10_down 55 = .ok (.aload_n 0, 1) := by decide +kernel
theorem dX10_down_56 : decode cX10_down 56 = .ok (.iload_n 2, 1) := by decide +kernel
theorem dX10_down_57 : decode cX10_down 57 = .ok (.aload 4, 2) := by decide +kernel
theorem dX10_down_59 : decode cX10_down 59 = .ok (.invokevirtual 137, 3) := by decide +kernel
theorem dX10_down_62 : decode cX10_down 62 = .ok (.invokevirtual 110, 3) := by decide +kernel
theorem dX10_down_65 : decode cX10_down 65 = .ok (.ireturn, 1) := by decide +kernel
theorem dX10_up_0 : decode cX10_up 0 = .ok (.aload_n 0, 1) := by decide +kernel
theorem dX10_up_1 : decode cX10_up 1 = .ok (.iload_n 1, 1) := by decide +kernel
theorem dX10_up_2 : decode cX10_up 2 = .ok (.invokevirtual 88, 3) := by decide +kernel
theorem dX10_up_5 : decode cX10_up 5 = .ok (.astore_n 3, 1) := by decide +kernel
theorem dX10_up_6 : decode cX10_up 6 = .ok (.aload_n 3, 1) := by decide +kernel
theorem dX10_up_7 : decode cX10_up 7 = .ok (.ifnull 11, 3) := by decide +kernel
theorem dX10_up_10 : decode cX10_up 10 = .ok (.aload_n 0, 1) := by decide +kernel
theorem dX10_up_11 : decode cX10_up 11 = .ok (.iload_n 2, 1) := by decide +kernel
theorem dX10_up_12 : decode cX10_up 12 = .ok (.invokevirtual 103, 3) := by decide +kernel
theorem dX10_up_15 : decode cX10_up 15 = .ok (.ifCond .ne 6, 3) := by decide +kernel
theorem dX10_up_18 : decode cX10_up 18 = .ok (.bipush (-2), 2) := by decide +kernel
theorem dX10_up_20 : decode cX10_up 20 = .ok (.ireturn, 1) := by decide +kernel
theorem dX10_up_21 : decode cX10_up 21 = .ok (.aload_n 0, 1) := by decide +kernel
theorem dX10_up_22 : decode cX10_up 22 = .ok (.getfield 42, 3) := by decide +kernel
theorem dX10_up_25 : decode cX10_up 25 = .ok (.aload_n 0, 1) := by decide +kernel
theorem dX10_up_26 : decode cX10_up 26 = .ok (.getfield 35, 3) := by decide +kernel
theorem dX10_up_29 : decode cX10_up 29 = .ok (.invokevirtual 129, 3) := by decide +kernel
theorem dX10_up_32 : decode cX10_up 32 = .ok (.aload_n 0, 1) := by decide +kernel
theorem dX10_up_33 : decode cX10_up 33 = .ok (.getfield 35, 3) := by decide +kernel
theorem dX10_up_36 : decode cX10_up 36 = .ok (.getfield 99, 3) := by decide +kernel
theorem dX10_up_39 : decode cX10_up 39 = .ok (.iload_n 1, 1) := by decide +kernel
theorem dX10_up_40 : decode cX10_up 40 = .ok (.dup2, 1) := by decide +kernel
theorem dX10_up_41 : decode cX10_up 41 = .ok (.iaload, 1) := by decide +kernel
theorem dX10_up_42 : decode cX10_up 42 = .ok (.aload_n 0, 1) := by decide +kernel
theorem dX10_up_43 : decode cX10_up 43 = .ok (.getfield 35, 3) := by decide +kernel
theorem dX10_up_46 : decode cX10_up 46 = .ok (.getfield 113, 3) := by decide +kernel
theorem dX10_up_49 : decode cX10_up 49 = .ok (.aload_n 3, 1) := by decide +kernel
theorem dX10_up_50 : decode cX10_up 50 = .ok (.iload_n 2, 1) := by decide +kernel
theorem dX10_up_51 : decode cX10_up 51 = .ok (.invokevirtual 140, 3) := by decide +kernel
theorem dX10_up_54 : decode cX10_up 54 = .ok (.ior, 1) := by decide +kernel
theorem dX10_up_55 : decode cX10_up 55 = .ok (.iastore, 1) := by decide +kernel
theorem dX10_up_56 : decode cX10_up 56 = .ok (.aload_n 0, 1) := by decide +kernel
theorem dX10_up_57 : decode cX10_up 57 = .ok (.getfield 35, 3) := by decide +kernel
theorem dX10_up_60 : decode cX10_up 60 = .ok (.getfield 113, 3) := by decide +kernel
theorem dX10_up_63 : decode cX10_up 63 = .ok (.aload_n 3, 1) := by decide +kernel
theorem dX10_up_64 : decode cX10_up 64 = .ok (.iload_n 2, 1) := by decide +kernel
theorem dX10_up_65 : decode cX10_up 65 = .ok (.invokevirtual 144, 3) := by decide +kernel
theorem dX10_up_68 : decode cX10_up 68 = .ok (.aload_n 0, 1) := by decide +kernel
theorem dX10_up_69 : decode cX10_up 69 = .ok (.getfield 35, 3) := by decide +kernel
theorem dX10_up_72 : decode cX10_up 72 = .ok (.getfield 99, 3) := by decide +kernel
theorem dX10_up_75 : decode cX10_up 75 = .ok (.iload_n 1, 1) := by decide +kernel
theorem dX10_up_76 : decode cX10_up 76 = .ok (.iaload, 1) := by decide +kernel
theorem dX10_up_77 : decode cX10_up 77 = .ok (.ireturn, 1) := by decide +kernel
theorem dX10_polish_0 : decode cX10_polish 0 = .ok (.aload_n 0, 1) := by decide +kernel
theorem dX10_polish_1 : decode cX10_polish 1 = .ok (.iload_n 1, 1) := by decide +kernel
theorem dX10_polish_2 : decode cX10_polish 2 = .ok (.invokevirtual 103, 3) := by decide +kernel
theorem dX10_polish_5 : decode cX10_polish 5 = .ok (.ifCond .ne 6, 3) := by decide +kernel
theorem dX10_polish_8 : decode cX10_polish 8 = .ok (.bipush (-2), 2) := by decide +kernel
theorem dX10_polish_10 : decode cX10_polish 10 = .ok (.ireturn, 1) := by decide +kernel
theorem dX10_polish_11 : decode cX10_polish 11 = .ok (.aload_n 0, 1) := by decide +kernel
theorem dX10_polish_12 : decode cX10_polish 12 = .ok (.getfield 42, 3) := by decide +kernel
theorem dX10_polish_15 : decode cX10_polish 15 = .ok (.aload_n 0, 1) := by decide +kernel
theorem dX10_polish_16 : decode cX10_polish 16 = .ok (.getfield 35, 3) := by decide +kernel
theorem dX10_polish_19 : decode cX10_polish 19 = .ok (.invokevirtual 129, 3) := by decide +kernel
theorem dX10_polish_22 : decode cX10_polish 22 = .ok (.iconst 0, 1) := by decide +kernel
theorem dX10_polish_23 : decode cX10_polish 23 = .ok (.istore_n 2, 1) := by decide +kernel
theorem dX10_polish_24 : decode cX10_polish 24 = .ok (.iconst 0, 1) := by decide +kernel
theorem dX10_polish_25 : decode cX10_polish 25 = .ok (.istore_n 3, 1) := by decide +kernel
theorem dX10_polish_26 : decode cX10_polish 26 = .ok (.iload_n 3, 1) := by decide +kernel
theorem dX10_polish_27 : decode cX10_polish 27 = .ok (.iconst 2, 1) := by decide +kernel
theorem dX10_polish_28 : decode cX10_polish 28 = .ok (.if_icmp .ge 41, 3) := by decide +kernel
theorem dX10_polish_31 : decode cX10_polish 31 = .ok (.aload_n 0, 1) := by decide +kernel
theorem dX10_polish_32 : decode cX10_polish 32 = .ok (.getfield 35, 3) := by decide +kernel
theorem dX10_polish_35 : decode cX10_polish 35 = .ok (.getfield 113, 3) := by decide +kernel
theorem dX10_polish_38 : decode cX10_polish 38 = .ok (.iload_n 1, 1) := by decide +kernel
theorem dX10_polish_39 : decode cX10_polish 39 = .ok (.iload_n 3, 1) := by decide +kernel
theorem dX10_polish_40 : decode cX10_polish 40 = .ok (.invokevirtual 148, 3) := by decide +kernel
theorem dX10_polish_43 : decode cX10_polish 43 = .ok (.ifCond .eq 6, 3) := by decide +kernel
theorem dX10_polish_46 : decode cX10_polish 46 = .ok (.iinc 2 1, 3) := by decide +kernel
theorem dX10_polish_49 : decode cX10_polish 49 = .ok (.aload_n 0, 1) := by decide +kernel
theorem dX10_polish_50 : decode cX10_polish 50 = .ok (.getfield 35, 3) := by decide +kernel
theorem dX10_polish_53 : decode cX10_polish 53 = .ok (.getfield 113, 3) := by decide +kernel
theorem dX10_polish_56 : decode cX10_polish 56 = .ok (.iload_n 1, 1) := by decide +kernel
theorem dX10_polish_57 : decode cX10_polish 57 = .ok (.iload_n 3, 1) := by decide +kernel
theorem dX10_polish_58 : decode cX10_polish 58 = .ok (.iconst 0, 1) := by decide +kernel
theorem dX10_polish_59 : decode cX10_polish 59 = .ok (.iconst 0, 1) := by decide +kernel
theorem dX10_polish_60 : decode cX10_polish 60 = .ok (.invokevirtual 151, 3) := by decide +kernel
theorem dX10_polish_63 : decode cX10_polish 63 = .ok (.iinc 3 1, 3) := by decide +kernel
theorem dX10_polish_66 : decode cX10_polish 66 = .ok (.goto (-40), 3) := by decide +kernel
theorem dX10_polish_69 : decode cX10_polish 69 = .ok (.iload_n 2, 1) := by decide +kernel
theorem dX10_polish_70 : decode cX10_polish 70 = .ok (.ireturn, 1) := by decide +kernel
theorem dX10_night_0 : decode cX10_night 0 = .ok (.aload_n 0, 1) := by decide +kernel
theorem dX10_night_1 : decode cX10_night 1 = .ok (.getfield 35, 3) := by decide +kernel
theorem dX10_night_4 : decode cX10_night 4 = .ok (.getfield 155, 3) := by decide +kernel
theorem dX10_night_7 : decode cX10_night 7 = .ok (.sipush 999, 3) := by decide +kernel
theorem dX10_night_10 : decode cX10_night 10 = .ok (.if_icmp .lt 6, 3) := by decide +kernel
theorem dX10_night_13 : decode cX10_night 13 = .ok (.bipush (-5), 2) := by decide +kernel
theorem dX10_night_15 : decode cX10_night 15 = .ok (.ireturn, 1) := by decide +kernel
theorem dX10_night_16 : decode cX10_night 16 = .ok (.aload_n 0, 1) := by decide +kernel
theorem dX10_night_17 : decode cX10_night 17 = .ok (.getfield 42, 3) := by decide +kernel
theorem dX10_night_20 : decode cX10_night 20 = .ok (.aload_n 0, 1) := by decide +kernel
theorem dX10_night_21 : decode cX10_night 21 = .ok (.getfield 35, 3) := by decide +kernel
theorem dX10_night_24 : decode cX10_night 24 = .ok (.invokevirtual 129, 3) := by decide +kernel
theorem dX10_night_27 : decode cX10_night 27 = .ok (.aload_n 0, 1) := by decide +kernel
theorem dX10_night_28 : decode cX10_night 28 = .ok (.getfield 35, 3) := by decide +kernel
theorem dX10_night_31 : decode cX10_night 31 = .ok (.getfield 113, 3) := by decide +kernel
theorem dX10_night_34 : decode cX10_night 34 = .ok (.invokevirtual 158, 3) := by decide +kernel
theorem dX10_night_37 : decode cX10_night 37 = .ok (.aload_n 0, 1) := by decide +kernel
theorem dX10_night_38 : decode cX10_night 38 = .ok (.getfield 35, 3) := by decide +kernel
theorem dX10_night_41 : decode cX10_night 41 = .ok (.dup, 1) := by decide +kernel
theorem dX10_night_42 : decode cX10_night 42 = .ok (.getfield 155, 3) := by decide +kernel
theorem dX10_night_45 : decode cX10_night 45 = .ok (.iconst 1, 1) := by decide +kernel
theorem dX10_night_46 : decode cX10_night 46 = .ok (.iadd, 1) := by decide +kernel
theorem dX10_night_47 : decode cX10_night 47 = .ok (.putfield 155, 3) := by decide +kernel
theorem dX10_night_50 : decode cX10_night 50 = .ok (.aload_n 0, 1) := by decide +kernel
theorem dX10_night_51 : decode cX10_night 51 = .ok (.getfield 35, 3) := by decide +kernel
theorem dX10_night_54 : decode cX10_night 54 = .ok (.getfield 155, 3) := by decide +kernel
theorem dX10_night_57 : decode cX10_night 57 = .ok (.ireturn, 1) := by decide +kernel
theorem dX10_undo_0 : decode cX10_undo 0 = .ok (.aload_n 0, 1) := by decide +kernel
theorem dX10_undo_1 : decode cX10_undo 1 = .ok (.getfield 42, 3) := by decide +kernel
theorem dX10_undo_4 : decode cX10_undo 4 = .ok (.getfield 161, 3) := by decide +kernel
theorem dX10_undo_7 : decode cX10_undo 7 = .ok (.ifCond .ne 6, 3) := by decide +kernel
theorem dX10_undo_10 : decode cX10_undo 10 = .ok (.bipush (-4), 2) := by decide +kernel
theorem dX10_undo_12 : decode cX10_undo 12 = .ok (.ireturn, 1) := by decide +kernel
theorem dX10_undo_13 : decode cX10_undo 13 = .ok (.aload_n 0, 1) := by decide +kernel
theorem dX10_undo_14 : decode cX10_undo 14 = .ok (.getfield 42, 3) := by decide +kernel
theorem dX10_undo_17 : decode cX10_undo 17 = .ok (.aload_n 0, 1) := by decide +kernel
theorem dX10_undo_18 : decode cX10_undo 18 = .ok (.getfield 35, 3) := by decide +kernel
theorem dX10_undo_21 : decode cX10_undo 21 = .ok (.invokevirtual 164, 3) := by decide +kernel
theorem dX10_undo_24 : decode cX10_undo 24 = .ok (.aload_n 0, 1) := by decide +kernel
theorem dX10_undo_25 : decode cX10_undo 25 = .ok (.getfield 42, 3) := by decide +kernel
theorem dX10_undo_28 : decode cX10_undo 28 = .ok (.getfield 161, 3) := by decide +kernel
theorem dX10_undo_31 : decode cX10_undo 31 = .ok (.ireturn, 1) := by decide +kernel
theorem dX10_keep_0 : decode cX10_keep 0 = .ok (.iload_n 1, 1) := by decide +kernel
theorem dX10_keep_1 : decode cX10_keep 1 = .ok (.invokestatic 167, 3) := by decide +kernel
theorem dX10_keep_4 : decode cX10_keep 4 = .ok (.ifCond .ne 6, 3) := by decide +kernel
theorem dX10_keep_7 : decode cX10_keep 7 = .ok (.bipush (-2), 2) := by decide +kernel
theorem dX10_keep_9 : decode cX10_keep 9 = .ok (.ireturn, 1) := by decide +kernel
theorem dX10_keep_10 : decode cX10_keep 10 = .ok (.aload_n 0, 1) := by decide +kernel
theorem dX10_keep_11 : decode cX10_keep 11 = .ok (.getfield 46, 3) := by decide +kernel
theorem dX10_keep_14 : decode cX10_keep 14 = .ok (.iload_n 1, 1) := by decide +kernel
theorem dX10_keep_15 : decode cX10_keep 15 = .ok (.aaload, 1) := by decide +kernel
theorem dX10_keep_16 : decode cX10_keep 16 = .ok (.aload_n 0, 1) := by decide +kernel
theorem dX10_keep_17 : decode cX10_keep 17 = .ok (.getfield 35, 3) := by decide +kernel
theorem dX10_keep_20 : decode cX10_keep 20 = .ok (.invokevirtual 170, 3) := by decide +kernel
theorem dX10_keep_23 : decode cX10_keep 23 = .ok (.aload_n 0, 1) := by decide +kernel
theorem dX10_keep_24 : decode cX10_keep 24 = .ok (.getfield 50, 3) := by decide +kernel
theorem dX10_keep_27 : decode cX10_keep 27 = .ok (.iload_n 1, 1) := by decide +kernel
theorem dX10_keep_28 : decode cX10_keep 28 = .ok (.iconst 1, 1) := by decide +kernel
theorem dX10_keep_29 : decode cX10_keep 29 = .ok (.bastore, 1) := by decide +kernel
theorem dX10_keep_30 : decode cX10_keep 30 = .ok (.aload_n 0, 1) := by decide +kernel
theorem dX10_keep_31 : decode cX10_keep 31 = .ok (.getfield 35, 3) := by decide +kernel
theorem dX10_keep_34 : decode cX10_keep 34 = .ok (.getfield 155, 3) := by decide +kernel
theorem dX10_keep_37 : decode cX10_keep 37 = .ok (.ireturn, 1) := by decide +kernel
theorem dX10_back_0 : decode cX10_back 0 = .ok (.iload_n 1, 1) := by decide +kernel
theorem dX10_back_1 : decode cX10_back 1 = .ok (.invokestatic 167, 3) := by decide +kernel
theorem dX10_back_4 : decode cX10_back 4 = .ok (.ifCond .ne 6, 3) := by decide +kernel
theorem dX10_back_7 : decode cX10_back 7 = .ok (.bipush (-2), 2) := by decide +kernel
theorem dX10_back_9 : decode cX10_back 9 = .ok (.ireturn, 1) := by decide +kernel
theorem dX10_back_10 : decode cX10_back 10 = .ok (.aload_n 0, 1) := by decide +kernel
theorem dX10_back_11 : decode cX10_back 11 = .ok (.getfield 50, 3) := by decide +kernel
theorem dX10_back_14 : decode cX10_back 14 = .ok (.iload_n 1, 1) := by decide +kernel
theorem dX10_back_15 : decode cX10_back 15 = .ok (.baload, 1) := by decide +kernel
theorem dX10_back_16 : decode cX10_back 16 = .ok (.ifCond .ne 6, 3) := by decide +kernel
theorem dX10_back_19 : decode cX10_back 19 = .ok (.bipush (-4), 2) := by decide +kernel
theorem dX10_back_21 : decode cX10_back 21 = .ok (.ireturn, 1) := by decide +kernel
theorem dX10_back_22 : decode cX10_back 22 = .ok (.aload_n 0, 1) := by decide +kernel
theorem dX10_back_23 : decode cX10_back 23 = .ok (.getfield 35, 3) := by decide +kernel
theorem dX10_back_26 : decode cX10_back 26 = .ok (.aload_n 0, 1) := by decide +kernel
theorem dX10_back_27 : decode cX10_back 27 = .ok (.getfield 46, 3) := by decide +kernel
theorem dX10_back_30 : decode cX10_back 30 = .ok (.iload_n 1, 1) := by decide +kernel
theorem dX10_back_31 : decode cX10_back 31 = .ok (.aaload, 1) := by decide +kernel
theorem dX10_back_32 : decode cX10_back 32 = .ok (.invokevirtual 170, 3) := by decide +kernel
theorem dX10_back_35 : decode cX10_back 35 = .ok (.aload_n 0, 1) := by decide +kernel
theorem dX10_back_36 : decode cX10_back 36 = .ok (.getfield 42, 3) := by decide +kernel
theorem dX10_back_39 : decode cX10_back 39 = .ok (.iconst 0, 1) := by decide +kernel
theorem dX10_back_40 : decode cX10_back 40 = .ok (.putfield 161, 3) := by decide +kernel
theorem dX10_back_43 : decode cX10_back 43 = .ok (.aload_n 0, 1) := by decide +kernel
theorem dX10_back_44 : decode cX10_back 44 = .ok (.getfield 35, 3) := by decide +kernel
theorem dX10_back_47 : decode cX10_back 47 = .ok (.getfield 155, 3) := by decide +kernel
theorem dX10_back_50 : decode cX10_back 50 = .ok (.ireturn, 1) := by decide +kernel
theorem dX10_hears_0 : decode cX10_hears 0 = .ok (.aload_n 0, 1) := by decide +kernel
theorem dX10_hears_1 : decode cX10_hears 1 = .ok (.iload_n 1, 1) := by decide +kernel
theorem dX10_hears_2 : decode cX10_hears 2 = .ok (.invokevirtual 88, 3) := by decide +kernel
theorem dX10_hears_5 : decode cX10_hears 5 = .ok (.astore_n 3, 1) := by decide +kernel
theorem dX10_hears_6 : decode cX10_hears 6 = .ok (.aload_n 3, 1) := by decide +kernel
theorem dX10_hears_7 : decode cX10_hears 7 = .ok (.ifnull 11, 3) := by decide +kernel
theorem dX10_hears_10 : decode cX10_hears 10 = .ok (.aload_n 0, 1) := by decide +kernel
theorem dX10_hears_11 : decode cX10_hears 11 = .ok (.iload_n 2, 1) := by decide +kernel
theorem dX10_hears_12 : decode cX10_hears 12 = .ok (.invokevirtual 103, 3) := by decide +kernel
theorem dX10_hears_15 : decode cX10_hears 15 = .ok (.ifCond .ne 6, 3) := by decide +kernel
theorem dX10_hears_18 : decode cX10_hears 18 = .ok (.bipush (-2), 2) := by decide +kernel
theorem dX10_hears_20 : decode cX10_hears 20 = .ok (.ireturn, 1) := by decide +kernel
theorem dX10_hears_21 : decode cX10_hears 21 = .ok (.aload_n 0, 1) := by decide +kernel
theorem dX10_hears_22 : decode cX10_hears 22 = .ok (.getfield 35, 3) := by decide +kernel
theorem dX10_hears_25 : decode cX10_hears 25 = .ok (.getfield 113, 3) := by decide +kernel
theorem dX10_hears_28 : decode cX10_hears 28 = .ok (.aload_n 3, 1) := by decide +kernel
theorem dX10_hears_29 : decode cX10_hears 29 = .ok (.iload_n 2, 1) := by decide +kernel
theorem dX10_hears_30 : decode cX10_hears 30 = .ok (.invokevirtual 140, 3) := by decide +kernel
theorem dX10_hears_33 : decode cX10_hears 33 = .ok (.ireturn, 1) := by decide +kernel
theorem dX10_lasts_0 : decode cX10_lasts 0 = .ok (.iload_n 1, 1) := by decide +kernel
theorem dX10_lasts_1 : decode cX10_lasts 1 = .ok (.invokestatic 126, 3) := by decide +kernel
theorem dX10_lasts_4 : decode cX10_lasts 4 = .ok (.ifCond .ne 6, 3) := by decide +kernel
theorem dX10_lasts_7 : decode cX10_lasts 7 = .ok (.bipush (-2), 2) := by decide +kernel
theorem dX10_lasts_9 : decode cX10_lasts 9 = .ok (.ireturn, 1) := by decide +kernel
theorem dX10_lasts_10 : decode cX10_lasts 10 = .ok (.aload_n 0, 1) := by decide +kernel
theorem dX10_lasts_11 : decode cX10_lasts 11 = .ok (.getfield 35, 3) := by decide +kernel
theorem dX10_lasts_14 : decode cX10_lasts 14 = .ok (.getfield 113, 3) := by decide +kernel
theorem dX10_lasts_17 : decode cX10_lasts 17 = .ok (.iload_n 1, 1) := by decide +kernel
theorem dX10_lasts_18 : decode cX10_lasts 18 = .ok (.iconst 0, 1) := by decide +kernel
theorem dX10_lasts_19 : decode cX10_lasts 19 = .ok (.invokevirtual 173, 3) := by decide +kernel
theorem dX10_lasts_22 : decode cX10_lasts 22 = .ok (.aload_n 0, 1) := by decide +kernel
theorem dX10_lasts_23 : decode cX10_lasts 23 = .ok (.getfield 35, 3) := by decide +kernel
theorem dX10_lasts_26 : decode cX10_lasts 26 = .ok (.getfield 113, 3) := by decide +kernel
theorem dX10_lasts_29 : decode cX10_lasts 29 = .ok (.iload_n 1, 1) := by decide +kernel
theorem dX10_lasts_30 : decode cX10_lasts 30 = .ok (.iconst 1, 1) := by decide +kernel
theorem dX10_lasts_31 : decode cX10_lasts 31 = .ok (.invokevirtual 173, 3) := by decide +kernel
theorem dX10_lasts_34 : decode cX10_lasts 34 = .ok (.invokestatic 176, 3) := by decide +kernel
theorem dX10_lasts_37 : decode cX10_lasts 37 = .ok (.ireturn, 1) := by decide +kernel
theorem dX10_send_0 : decode cX10_send 0 = .ok (.aload_n 0, 1) := by decide +kernel
theorem dX10_send_1 : decode cX10_send 1 = .ok (.iload_n 1, 1) := by decide +kernel
theorem dX10_send_2 : decode cX10_send 2 = .ok (.invokevirtual 88, 3) := by decide +kernel
theorem dX10_send_5 : decode cX10_send 5 = .ok (.astore_n 3, 1) := by decide +kernel
theorem dX10_send_6 : decode cX10_send 6 = .ok (.aload_n 3, 1) := by decide +kernel
theorem dX10_send_7 : decode cX10_send 7 = .ok (.ifnull 10, 3) := by decide +kernel
theorem dX10_send_10 : decode cX10_send 10 = .ok (.iload_n 2, 1) := by decide +kernel
theorem dX10_send_11 : decode cX10_send 11 = .ok (.invokestatic 126, 3) := by decide +kernel
theorem dX10_send_14 : decode cX10_send 14 = .ok (.ifCond .ne 6, 3) := by decide +kernel
theorem dX10_send_17 : decode cX10_send 17 = .ok (.bipush (-2), 2) := by decide +kernel
theorem dX10_send_19 : decode cX10_send 19 = .ok (.ireturn, 1) := by decide +kernel
theorem dX10_send_20 : decode cX10_send 20 = .ok (.aload_n 3, 1) := by decide +kernel
theorem dX10_send_21 : decode cX10_send 21 = .ok (.invokevirtual 181, 3) := by decide +kernel
theorem dX10_send_24 : decode cX10_send 24 = .ok (.ifCond .eq 21, 3) := by decide +kernel
theorem dX10_send_27 : decode cX10_send 27 = .ok (.aload_n 0, 1) := by decide +kernel
theorem dX10_send_28 : decode cX10_send 28 = .ok (.getfield 35, 3) := by decide +kernel
theorem dX10_send_31 : decode cX10_send 31 = .ok (.getfield 113, 3) := by decide +kernel
theorem dX10_send_34 : decode cX10_send 34 = .ok (.iload_n 2, 1) := by decide +kernel
theorem dX10_send_35 : decode cX10_send 35 = .ok (.aload_n 3, 1) := by decide +kernel
theorem dX10_send_36 : decode cX10_send 36 = .ok (.invokevirtual 137, 3) := by decide +kernel
theorem dX10_send_39 : decode cX10_send 39 = .ok (.invokevirtual 173, 3) := by decide +kernel
theorem dX10_send_42 : decode cX10_send 42 = .ok (.goto 4, 3) := by decide +kernel
theorem dX10_send_45 : decode cX10_send 45 = .ok (.iconst 0, 1) := by decide +kernel
theorem dX10_send_46 : decode cX10_send 46 = .ok (.istore 4, 2) := by decide +kernel
theorem dX10_send_48 : decode cX10_send 48 = .ok (.iconst 0, 1) := by decide +kernel
theorem dX10_send_49 : decode cX10_send 49 = .ok (.istore 5, 2) := by decide +kernel
theorem dX10_send_51 : decode cX10_send 51 = .ok (.iconst 0, 1) := by decide +kernel
theorem dX10_send_52 : decode cX10_send 52 = .ok (.istore 6, 2) := by decide +kernel
theorem dX10_send_54 : decode cX10_send 54 = .ok (.iload 6, 2) := by decide +kernel
theorem dX10_send_56 : decode cX10_send 56 = .ok (.aload_n 0, 1) := by decide +kernel
theorem dX10_send_57 : decode cX10_send 57 = .ok (.getfield 72, 3) := by decide +kernel
theorem dX10_send_60 : decode cX10_send 60 = .ok (.if_icmp .ge 65, 3) := by decide +kernel
theorem dX10_send_63 : decode cX10_send 63 = .ok (.iload 4, 2) := by decide +kernel
theorem dX10_send_65 : decode cX10_send 65 = .ok (.ifCond .le 60, 3) := by decide +kernel
theorem dX10_send_68 : decode cX10_send 68 = .ok (.aload_n 0, 1) := by decide +kernel
theorem dX10_send_69 : decode cX10_send 69 = .ok (.iload 6, 2) := by decide +kernel
theorem dX10_send_71 : decode cX10_send 71 = .ok (.invokevirtual 88, 3) := by decide +kernel
theorem dX10_send_74 : decode cX10_send 74 = .ok (.astore 7, 2) := by decide +kernel
theorem dX10_send_76 : decode cX10_send 76 = .ok (.aload 7, 2) := by decide +kernel
theorem dX10_send_78 : decode cX10_send 78 = .ok (.ifnull 41, 3) := by decide +kernel
theorem dX10_send_81 : decode cX10_send 81 = .ok (.iload 6, 2) := by decide +kernel
theorem dX10_send_83 : decode cX10_send 83 = .ok (.iload_n 1, 1) := by decide +kernel
theorem dX10_send_84 : decode cX10_send 84 = .ok (.if_icmp .eq 35, 3) := by decide +kernel
theorem dX10_send_87 : decode cX10_send 87 = .ok (.aload 7, 2) := by decide +kernel
theorem dX10_send_89 : decode cX10_send 89 = .ok (.invokevirtual 181, 3) := by decide +kernel
theorem dX10_send_92 : decode cX10_send 92 = .ok (.ifCond .eq 27, 3) := by decide +kernel
theorem dX10_send_95 : decode cX10_send 95 = .ok (.aload 7, 2) := by decide +kernel
theorem dX10_send_97 : decode cX10_send 97 = .ok (.invokevirtual 137, 3) := by decide +kernel
theorem dX10_send_100 : decode cX10_send 100 = .ok (.aload_n 3, 1) := by decide +kernel
theorem dX10_send_101 : decode cX10_send 101 = .ok (.invokevirtual 137, 3) := by decide +kernel
theorem dX10_send_104 : decode cX10_send 104 = .ok (.if_icmp .ne 15, 3) := by decide +kernel
theorem dX10_send_107 : decode cX10_send 107 = .ok (.iload 5, 2) := by decide +kernel
theorem dX10_send_109 : decode cX10_send 109 = .ok (.iconst 1, 1) := by decide +kernel
theorem dX10_send_110 : decode cX10_send 110 = .ok (.iload 6, 2) := by decide +kernel
theorem dX10_send_112 : decode cX10_send 112 = .ok (.ishl, 1) := by decide +kernel
theorem dX10_send_113 : decode cX10_send 113 = .ok (.ior, 1) := by decide +kernel
theorem dX10_send_114 : decode cX10_send 114 = .ok (.istore 5, 2) := by decide +kernel
theorem dX10_send_116 : decode cX10_send 116 = .ok (.iinc 4 (-1), 3) := by decide +kernel
theorem dX10_send_119 : decode cX10_send 119 = .ok (.iinc 6 1, 3) := by decide +kernel
theorem dX10_send_122 : decode cX10_send 122 = .ok (.goto (-68), 3) := by decide +kernel
theorem dX10_send_125 : decode cX10_send 125 = .ok (.iload 4, 2) := by decide +kernel
theorem dX10_send_127 : decode cX10_send 127 = .ok (.ifCond .le 7, 3) := by decide +kernel
theorem dX10_send_130 : decode cX10_send 130 = .ok (.iconst (-1), 1) := by decide +kernel
theorem dX10_send_131 : decode cX10_send 131 = .ok (.goto 5, 3) := by decide +kernel
theorem dX10_send_134 : decode cX10_send 134 = .ok (.iload 5, 2) := by decide +kernel
theorem dX10_send_136 : decode cX10_send 136 = .ok (.ireturn, 1) := by decide +kernel
theorem dX10_cover_0 : decode cX10_cover 0 = .ok (.aload_n 0, 1) := by decide +kernel
theorem dX10_cover_1 : decode cX10_cover 1 = .ok (.iload_n 1, 1) := by decide +kernel
theorem dX10_cover_2 : decode cX10_cover 2 = .ok (.invokevirtual 103, 3) := by decide +kernel
theorem dX10_cover_5 : decode cX10_cover 5 = .ok (.ifCond .eq 10, 3) := by decide +kernel
theorem dX10_cover_8 : decode cX10_cover 8 = .ok (.iload_n 2, 1) := by decide +kernel
theorem dX10_cover_9 : decode cX10_cover 9 = .ok (.invokestatic 107, 3) := by decide +kernel
theorem dX10_cover_12 : decode cX10_cover 12 = .ok (.ifCond .ne 6, 3) := by decide +kernel
theorem dX10_cover_15 : decode cX10_cover 15 = .ok (.bipush (-2), 2) := by decide +kernel
theorem dX10_cover_17 : decode cX10_cover 17 = .ok (.ireturn, 1) := by decide +kernel
theorem dX10_cover_18 : decode cX10_cover 18 = .ok (.aload_n 0, 1) := by decide +kernel
theorem dX10_cover_19 : decode cX10_cover 19 = .ok (.getfield 35, 3) := by decide +kernel
theorem dX10_cover_22 : decode cX10_cover 22 = .ok (.getfield 113, 3) := by decide +kernel
theorem dX10_cover_25 : decode cX10_cover 25 = .ok (.iload_n 1, 1) := by decide +kernel
theorem dX10_cover_26 : decode cX10_cover 26 = .ok (.iload_n 2, 1) := by decide +kernel
theorem dX10_cover_27 : decode cX10_cover 27 = .ok (.invokevirtual 148, 3) := by decide +kernel
theorem dX10_cover_30 : decode cX10_cover 30 = .ok (.ifCond .ne 5, 3) := by decide +kernel
theorem dX10_cover_33 : decode cX10_cover 33 = .ok (.iconst 0, 1) := by decide +kernel
theorem dX10_cover_34 : decode cX10_cover 34 = .ok (.ireturn, 1) := by decide +kernel
theorem dX10_cover_35 : decode cX10_cover 35 = .ok (.aload_n 0, 1) := by decide +kernel
theorem dX10_cover_36 : decode cX10_cover 36 = .ok (.getfield 35, 3) := by decide +kernel
theorem dX10_cover_39 : decode cX10_cover 39 = .ok (.getfield 113, 3) := by decide +kernel
theorem dX10_cover_42 : decode cX10_cover 42 = .ok (.iload_n 1, 1) := by decide +kernel
theorem dX10_cover_43 : decode cX10_cover 43 = .ok (.iload_n 2, 1) := by decide +kernel
theorem dX10_cover_44 : decode cX10_cover 44 = .ok (.invokevirtual 116, 3) := by decide +kernel
theorem dX10_cover_47 : decode cX10_cover 47 = .ok (.istore_n 3, 1) := by decide +kernel
theorem dX10_cover_48 : decode cX10_cover 48 = .ok (.iconst 0, 1) := by decide +kernel
theorem dX10_cover_49 : decode cX10_cover 49 = .ok (.istore 4, 2) := by decide +kernel
theorem dX10_cover_51 : decode cX10_cover 51 = .ok (.iconst 0, 1) := by decide +kernel
theorem dX10_cover_52 : decode cX10_cover 52 = .ok (.istore 5, 2) := by decide +kernel
theorem dX10_cover_54 : decode cX10_cover 54 = .ok (.iload 5, 2) := by decide +kernel
theorem dX10_cover_56 : decode cX10_cover 56 = .ok (.aload_n 0, 1) := by decide +kernel
theorem dX10_cover_57 : decode cX10_cover 57 = .ok (.getfield 72, 3) := by decide +kernel
theorem dX10_cover_60 : decode cX10_cover 60 = .ok (.if_icmp .ge 49, 3) := by decide +kernel
theorem dX10_cover_63 : decode cX10_cover 63 = .ok (.aload_n 0, 1) := by decide +kernel
theorem dX10_cover_64 : decode cX10_cover 64 = .ok (.iload 5, 2) := by decide +kernel
theorem dX10_cover_66 : decode cX10_cover 66 = .ok (.invokevirtual 88, 3) := by decide +kernel
theorem dX10_cover_69 : decode cX10_cover 69 = .ok (.astore 6, 2) := by decide +kernel
theorem dX10_cover_71 : decode cX10_cover 71 = .ok (.aload 6, 2) := by decide +kernel
theorem dX10_cover_73 : decode cX10_cover 73 = .ok (.ifnull 30, 3) := by decide +kernel
theorem dX10_cover_76 : decode cX10_cover 76 = .ok (.aload 6, 2) := by decide +kernel
theorem dX10_cover_78 : decode cX10_cover 78 = .ok (.invokevirtual 137, 3) := by decide +kernel
theorem dX10_cover_81 : decode cX10_cover 81 = .ok (.iload_n 2, 1) := by decide +kernel
theorem dX10_cover_82 : decode cX10_cover 82 = .ok (.if_icmp .ne 21, 3) := by decide +kernel
theorem dX10_cover_85 : decode cX10_cover 85 = .ok (.aload 6, 2) := by decide +kernel
theorem dX10_cover_87 : decode cX10_cover 87 = .ok (.invokevirtual 123, 3) := by decide +kernel
theorem dX10_cover_90 : decode cX10_cover 90 = .ok (.iload_n 3, 1) := by decide +kernel
theorem dX10_cover_91 : decode cX10_cover 91 = .ok (.if_icmp .lt 12, 3) := by decide +kernel
theorem dX10_cover_94 : decode cX10_cover 94 = .ok (.iload 4, 2) := by decide +kernel
theorem dX10_cover_96 : decode cX10_cover 96 = .ok (.iconst 1, 1) := by decide +kernel
theorem dX10_cover_97 : decode cX10_cover 97 = .ok (.iload 5, 2) := by decide +kernel
theorem dX10_cover_99 : decode cX10_cover 99 = .ok (.ishl, 1) := by decide +kernel
theorem dX10_cover_100 : decode cX10_cover 100 = .ok (.ior, 1) := by decide +kernel
theorem dX10_cover_101 : decode cX10_cover 101 = .ok (.istore 4, 2) := by decide +kernel
