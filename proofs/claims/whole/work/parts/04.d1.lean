theorem dX8_hasPerson_9 : decode cX8_hasPerson 9 = .ok (.if_icmp .ge 7, 3) := by decide +kernel
theorem dX8_hasPerson_12 : decode cX8_hasPerson 12 = .ok (.iconst 1, 1) := by decide +kernel
theorem dX8_hasPerson_13 : decode cX8_hasPerson 13 = .ok (.goto 4, 3) := by decide +kernel
theorem dX8_hasPerson_16 : decode cX8_hasPerson 16 = .ok (.iconst 0, 1) := by decide +kernel
theorem dX8_hasPerson_17 : decode cX8_hasPerson 17 = .ok (.ireturn, 1) := by decide +kernel
theorem dX8_hasDeed_0 : decode cX8_hasDeed 0 = .ok (.iload_n 1, 1) := by decide +kernel
theorem dX8_hasDeed_1 : decode cX8_hasDeed 1 = .ok (.ifCond .lt 15, 3) := by decide +kernel
theorem dX8_hasDeed_4 : decode cX8_hasDeed 4 = .ok (.iload_n 1, 1) := by decide +kernel
theorem dX8_hasDeed_5 : decode cX8_hasDeed 5 = .ok (.aload_n 0, 1) := by decide +kernel
theorem dX8_hasDeed_6 : decode cX8_hasDeed 6 = .ok (.getfield 37, 3) := by decide +kernel
theorem dX8_hasDeed_9 : decode cX8_hasDeed 9 = .ok (.if_icmp .ge 7, 3) := by decide +kernel
theorem dX8_hasDeed_12 : decode cX8_hasDeed 12 = .ok (.iconst 1, 1) := by decide +kernel
theorem dX8_hasDeed_13 : decode cX8_hasDeed 13 = .ok (.goto 4, 3) := by decide +kernel
theorem dX8_hasDeed_16 : decode cX8_hasDeed 16 = .ok (.iconst 0, 1) := by decide +kernel
theorem dX8_hasDeed_17 : decode cX8_hasDeed 17 = .ok (.ireturn, 1) := by decide +kernel
theorem dX8_hasBoth_0 : decode cX8_hasBoth 0 = .ok (.aload_n 0, 1) := by decide +kernel
theorem dX8_hasBoth_1 : decode cX8_hasBoth 1 = .ok (.iload_n 1, 1) := by decide +kernel
theorem dX8_hasBoth_2 : decode cX8_hasBoth 2 = .ok (.invokevirtual 40, 3) := by decide +kernel
theorem dX8_hasBoth_5 : decode cX8_hasBoth 5 = .ok (.ifCond .eq 15, 3) := by decide +kernel
theorem dX8_hasBoth_8 : decode cX8_hasBoth 8 = .ok (.aload_n 0, 1) := by decide +kernel
theorem dX8_hasBoth_9 : decode cX8_hasBoth 9 = .ok (.iload_n 2, 1) := by decide +kernel
theorem dX8_hasBoth_10 : decode cX8_hasBoth 10 = .ok (.invokevirtual 44, 3) := by decide +kernel
theorem dX8_hasBoth_13 : decode cX8_hasBoth 13 = .ok (.ifCond .eq 7, 3) := by decide +kernel
theorem dX8_hasBoth_16 : decode cX8_hasBoth 16 = .ok (.iconst 1, 1) := by decide +kernel
theorem dX8_hasBoth_17 : decode cX8_hasBoth 17 = .ok (.goto 4, 3) := by decide +kernel
theorem dX8_hasBoth_20 : decode cX8_hasBoth 20 = .ok (.iconst 0, 1) := by decide +kernel
theorem dX8_hasBoth_21 : decode cX8_hasBoth 21 = .ok (.ireturn, 1) := by decide +kernel
theorem dX8_weightOf_0 : decode cX8_weightOf 0 = .ok (.iconst 0, 1) := by decide +kernel
theorem dX8_weightOf_1 : decode cX8_weightOf 1 = .ok (.istore_n 2, 1) := by decide +kernel
theorem dX8_weightOf_2 : decode cX8_weightOf 2 = .ok (.iconst 0, 1) := by decide +kernel
theorem dX8_weightOf_3 : decode cX8_weightOf 3 = .ok (.istore_n 3, 1) := by decide +kernel
theorem dX8_weightOf_4 : decode cX8_weightOf 4 = .ok (.iload_n 3, 1) := by decide +kernel
theorem dX8_weightOf_5 : decode cX8_weightOf 5 = .ok (.aload_n 0, 1) := by decide +kernel
theorem dX8_weightOf_6 : decode cX8_weightOf 6 = .ok (.getfield 37, 3) := by decide +kernel
theorem dX8_weightOf_9 : decode cX8_weightOf 9 = .ok (.if_icmp .ge 27, 3) := by decide +kernel
theorem dX8_weightOf_12 : decode cX8_weightOf 12 = .ok (.iload_n 1, 1) := by decide +kernel
theorem dX8_weightOf_13 : decode cX8_weightOf 13 = .ok (.iload_n 3, 1) := by decide +kernel
theorem dX8_weightOf_14 : decode cX8_weightOf 14 = .ok (.ishr, 1) := by decide +kernel
theorem dX8_weightOf_15 : decode cX8_weightOf 15 = .ok (.iconst 1, 1) := by decide +kernel
theorem dX8_weightOf_16 : decode cX8_weightOf 16 = .ok (.iand, 1) := by decide +kernel
theorem dX8_weightOf_17 : decode cX8_weightOf 17 = .ok (.iconst 1, 1) := by decide +kernel
theorem dX8_weightOf_18 : decode cX8_weightOf 18 = .ok (.if_icmp .ne 12, 3) := by decide +kernel
theorem dX8_weightOf_21 : decode cX8_weightOf 21 = .ok (.iload_n 2, 1) := by decide +kernel
theorem dX8_weightOf_22 : decode cX8_weightOf 22 = .ok (.aload_n 0, 1) := by decide +kernel
theorem dX8_weightOf_23 : decode cX8_weightOf 23 = .ok (.getfield 21, 3) := by decide +kernel
theorem dX8_weightOf_26 : decode cX8_weightOf 26 = .ok (.iload_n 3, 1) := by decide +kernel
theorem dX8_weightOf_27 : decode cX8_weightOf 27 = .ok (.iaload, 1) := by decide +kernel
theorem dX8_weightOf_28 : decode cX8_weightOf 28 = .ok (.iadd, 1) := by decide +kernel
theorem dX8_weightOf_29 : decode cX8_weightOf 29 = .ok (.istore_n 2, 1) := by decide +kernel
theorem dX8_weightOf_30 : decode cX8_weightOf 30 = .ok (.iinc 3 1, 3) := by decide +kernel
theorem dX8_weightOf_33 : decode cX8_weightOf 33 = .ok (.goto (-29), 3) := by decide +kernel
theorem dX8_weightOf_36 : decode cX8_weightOf 36 = .ok (.iload_n 2, 1) := by decide +kernel
theorem dX8_weightOf_37 : decode cX8_weightOf 37 = .ok (.ireturn, 1) := by decide +kernel
theorem dX8_harmOf_0 : decode cX8_harmOf 0 = .ok (.iconst 0, 1) := by decide +kernel
theorem dX8_harmOf_1 : decode cX8_harmOf 1 = .ok (.istore_n 2, 1) := by decide +kernel
theorem dX8_harmOf_2 : decode cX8_harmOf 2 = .ok (.iconst 0, 1) := by decide +kernel
theorem dX8_harmOf_3 : decode cX8_harmOf 3 = .ok (.istore_n 3, 1) := by decide +kernel
theorem dX8_harmOf_4 : decode cX8_harmOf 4 = .ok (.iload_n 3, 1) := by decide +kernel
theorem dX8_harmOf_5 : decode cX8_harmOf 5 = .ok (.aload_n 0, 1) := by decide +kernel
theorem dX8_harmOf_6 : decode cX8_harmOf 6 = .ok (.getfield 37, 3) := by decide +kernel
theorem dX8_harmOf_9 : decode cX8_harmOf 9 = .ok (.if_icmp .ge 27, 3) := by decide +kernel
theorem dX8_harmOf_12 : decode cX8_harmOf 12 = .ok (.iload_n 1, 1) := by decide +kernel
theorem dX8_harmOf_13 : decode cX8_harmOf 13 = .ok (.iload_n 3, 1) := by decide +kernel
theorem dX8_harmOf_14 : decode cX8_harmOf 14 = .ok (.ishr, 1) := by decide +kernel
theorem dX8_harmOf_15 : decode cX8_harmOf 15 = .ok (.iconst 1, 1) := by decide +kernel
theorem dX8_harmOf_16 : decode cX8_harmOf 16 = .ok (.iand, 1) := by decide +kernel
theorem dX8_harmOf_17 : decode cX8_harmOf 17 = .ok (.iconst 1, 1) := by decide +kernel
theorem dX8_harmOf_18 : decode cX8_harmOf 18 = .ok (.if_icmp .ne 12, 3) := by decide +kernel
theorem dX8_harmOf_21 : decode cX8_harmOf 21 = .ok (.iload_n 2, 1) := by decide +kernel
theorem dX8_harmOf_22 : decode cX8_harmOf 22 = .ok (.aload_n 0, 1) := by decide +kernel
theorem dX8_harmOf_23 : decode cX8_harmOf 23 = .ok (.getfield 24, 3) := by decide +kernel
theorem dX8_harmOf_26 : decode cX8_harmOf 26 = .ok (.iload_n 3, 1) := by decide +kernel
theorem dX8_harmOf_27 : decode cX8_harmOf 27 = .ok (.iaload, 1) := by decide +kernel
theorem dX8_harmOf_28 : decode cX8_harmOf 28 = .ok (.iadd, 1) := by decide +kernel
theorem dX8_harmOf_29 : decode cX8_harmOf 29 = .ok (.istore_n 2, 1) := by decide +kernel
theorem dX8_harmOf_30 : decode cX8_harmOf 30 = .ok (.iinc 3 1, 3) := by decide +kernel
theorem dX8_harmOf_33 : decode cX8_harmOf 33 = .ok (.goto (-29), 3) := by decide +kernel
theorem dX8_harmOf_36 : decode cX8_harmOf 36 = .ok (.iload_n 2, 1) := by decide +kernel
theorem dX8_harmOf_37 : decode cX8_harmOf 37 = .ok (.ireturn, 1) := by decide +kernel
theorem dX8_become_0 : decode cX8_become 0 = .ok (.aload_n 1, 1) := by decide +kernel
theorem dX8_become_1 : decode cX8_become 1 = .ok (.getfield 9, 3) := by decide +kernel
theorem dX8_become_4 : decode cX8_become 4 = .ok (.iconst 0, 1) := by decide +kernel
theorem dX8_become_5 : decode cX8_become 5 = .ok (.aload_n 0, 1) := by decide +kernel
theorem dX8_become_6 : decode cX8_become 6 = .ok (.getfield 9, 3) := by decide +kernel
theorem dX8_become_9 : decode cX8_become 9 = .ok (.iconst 0, 1) := by decide +kernel
theorem dX8_become_10 : decode cX8_become 10 = .ok (.bipush 6, 2) := by decide +kernel
theorem dX8_become_12 : decode cX8_become 12 = .ok (.invokestatic 47, 3) := by decide +kernel
theorem dX8_become_15 : decode cX8_become 15 = .ok (.aload_n 1, 1) := by decide +kernel
theorem dX8_become_16 : decode cX8_become 16 = .ok (.getfield 15, 3) := by decide +kernel
theorem dX8_become_19 : decode cX8_become 19 = .ok (.iconst 0, 1) := by decide +kernel
theorem dX8_become_20 : decode cX8_become 20 = .ok (.aload_n 0, 1) := by decide +kernel
theorem dX8_become_21 : decode cX8_become 21 = .ok (.getfield 15, 3) := by decide +kernel
theorem dX8_become_24 : decode cX8_become 24 = .ok (.iconst 0, 1) := by decide +kernel
theorem dX8_become_25 : decode cX8_become 25 = .ok (.bipush 6, 2) := by decide +kernel
theorem dX8_become_27 : decode cX8_become 27 = .ok (.invokestatic 47, 3) := by decide +kernel
theorem dX8_become_30 : decode cX8_become 30 = .ok (.aload_n 1, 1) := by decide +kernel
theorem dX8_become_31 : decode cX8_become 31 = .ok (.getfield 18, 3) := by decide +kernel
theorem dX8_become_34 : decode cX8_become 34 = .ok (.iconst 0, 1) := by decide +kernel
theorem dX8_become_35 : decode cX8_become 35 = .ok (.aload_n 0, 1) := by decide +kernel
theorem dX8_become_36 : decode cX8_become 36 = .ok (.getfield 18, 3) := by decide +kernel
theorem dX8_become_39 : decode cX8_become 39 = .ok (.iconst 0, 1) := by decide +kernel
theorem dX8_become_40 : decode cX8_become 40 = .ok (.bipush 6, 2) := by decide +kernel
theorem dX8_become_42 : decode cX8_become 42 = .ok (.invokestatic 47, 3) := by decide +kernel
theorem dX8_become_45 : decode cX8_become 45 = .ok (.aload_n 1, 1) := by decide +kernel
theorem dX8_become_46 : decode cX8_become 46 = .ok (.getfield 21, 3) := by decide +kernel
theorem dX8_become_49 : decode cX8_become 49 = .ok (.iconst 0, 1) := by decide +kernel
theorem dX8_become_50 : decode cX8_become 50 = .ok (.aload_n 0, 1) := by decide +kernel
theorem dX8_become_51 : decode cX8_become 51 = .ok (.getfield 21, 3) := by decide +kernel
theorem dX8_become_54 : decode cX8_become 54 = .ok (.iconst 0, 1) := by decide +kernel
theorem dX8_become_55 : decode cX8_become 55 = .ok (.bipush 8, 2) := by decide +kernel
theorem dX8_become_57 : decode cX8_become 57 = .ok (.invokestatic 47, 3) := by decide +kernel
theorem dX8_become_60 : decode cX8_become 60 = .ok (.aload_n 1, 1) := by decide +kernel
theorem dX8_become_61 : decode cX8_become 61 = .ok (.getfield 24, 3) := by decide +kernel
theorem dX8_become_64 : decode cX8_become 64 = .ok (.iconst 0, 1) := by decide +kernel
theorem dX8_become_65 : decode cX8_become 65 = .ok (.aload_n 0, 1) := by decide +kernel
theorem dX8_become_66 : decode cX8_become 66 = .ok (.getfield 24, 3) := by decide +kernel
theorem dX8_become_69 : decode cX8_become 69 = .ok (.iconst 0, 1) := by decide +kernel
theorem dX8_become_70 : decode cX8_become 70 = .ok (.bipush 8, 2) := by decide +kernel
theorem dX8_become_72 : decode cX8_become 72 = .ok (.invokestatic 47, 3) := by decide +kernel
theorem dX8_become_75 : decode cX8_become 75 = .ok (.aload_n 1, 1) := by decide +kernel
theorem dX8_become_76 : decode cX8_become 76 = .ok (.getfield 27, 3) := by decide +kernel
theorem dX8_become_79 : decode cX8_become 79 = .ok (.iconst 0, 1) := by decide +kernel
theorem dX8_become_80 : decode cX8_become 80 = .ok (.aload_n 0, 1) := by decide +kernel
theorem dX8_become_81 : decode cX8_become 81 = .ok (.getfield 27, 3) := by decide +kernel
theorem dX8_become_84 : decode cX8_become 84 = .ok (.iconst 0, 1) := by decide +kernel
theorem dX8_become_85 : decode cX8_become 85 = .ok (.bipush 8, 2) := by decide +kernel
theorem dX8_become_87 : decode cX8_become 87 = .ok (.invokestatic 47, 3) := by decide +kernel
theorem dX8_become_90 : decode cX8_become 90 = .ok (.aload_n 0, 1) := by decide +kernel
theorem dX8_become_91 : decode cX8_become 91 = .ok (.aload_n 1, 1) := by decide +kernel
theorem dX8_become_92 : decode cX8_become 92 = .ok (.getfield 33, 3) := by decide +kernel
theorem dX8_become_95 : decode cX8_become 95 = .ok (.putfield 33, 3) := by decide +kernel
theorem dX8_become_98 : decode cX8_become 98 = .ok (.aload_n 0, 1) := by decide +kernel
theorem dX8_become_99 : decode cX8_become 99 = .ok (.aload_n 1, 1) := by decide +kernel
theorem dX8_become_100 : decode cX8_become 100 = .ok (.getfield 37, 3) := by decide +kernel
theorem dX8_become_103 : decode cX8_become 103 = .ok (.putfield 37, 3) := by decide +kernel
theorem dX8_become_106 : decode cX8_become 106 = .ok (.aload_n 0, 1) := by decide +kernel
theorem dX8_become_107 : decode cX8_become 107 = .ok (.aload_n 1, 1) := by decide +kernel
theorem dX8_become_108 : decode cX8_become 108 = .ok (.getfield 53, 3) := by decide +kernel
theorem dX8_become_111 : decode cX8_become 111 = .ok (.putfield 53, 3) := by decide +kernel
theorem dX8_become_114 : decode cX8_become 114 = .ok (.aload_n 0, 1) := by decide +kernel
theorem dX8_become_115 : decode cX8_become 115 = .ok (.aload_n 1, 1) := by decide +kernel
theorem dX8_become_116 : decode cX8_become 116 = .ok (.getfield 56, 3) := by decide +kernel
theorem dX8_become_119 : decode cX8_become 119 = .ok (.putfield 56, 3) := by decide +kernel
theorem dX8_become_122 : decode cX8_become 122 = .ok (.return_, 1) := by decide +kernel
theorem dX8_faultIn_0 : decode cX8_faultIn 0 = .ok (.aload_n 1, 1) := by decide +kernel
theorem dX8_faultIn_1 : decode cX8_faultIn 1 = .ok (.iconst 0, 1) := by decide +kernel
theorem dX8_faultIn_2 : decode cX8_faultIn 2 = .ok (.putfield 59, 3) := by decide +kernel
theorem dX8_faultIn_5 : decode cX8_faultIn 5 = .ok (.aload_n 0, 1) := by decide +kernel
theorem dX8_faultIn_6 : decode cX8_faultIn 6 = .ok (.iconst 0, 1) := by decide +kernel
theorem dX8_faultIn_7 : decode cX8_faultIn 7 = .ok (.putfield 33, 3) := by decide +kernel
theorem dX8_faultIn_10 : decode cX8_faultIn 10 = .ok (.aload_n 0, 1) := by decide +kernel
theorem dX8_faultIn_11 : decode cX8_faultIn 11 = .ok (.iconst 0, 1) := by decide +kernel
theorem dX8_faultIn_12 : decode cX8_faultIn 12 = .ok (.putfield 37, 3) := by decide +kernel
theorem dX8_faultIn_15 : decode cX8_faultIn 15 = .ok (.aload_n 0, 1) := by decide +kernel
theorem dX8_faultIn_16 : decode cX8_faultIn 16 = .ok (.iconst 0, 1) := by decide +kernel
theorem dX8_faultIn_17 : decode cX8_faultIn 17 = .ok (.putfield 64, 3) := by decide +kernel
theorem dX8_faultIn_20 : decode cX8_faultIn 20 = .ok (.aload_n 0, 1) := by decide +kernel
theorem dX8_faultIn_21 : decode cX8_faultIn 21 = .ok (.getstatic 68, 3) := by decide +kernel
theorem dX8_faultIn_24 : decode cX8_faultIn 24 = .ok (.iconst 0, 1) := by decide +kernel
theorem dX8_faultIn_25 : decode cX8_faultIn 25 = .ok (.iaload, 1) := by decide +kernel
theorem dX8_faultIn_26 : decode cX8_faultIn 26 = .ok (.putfield 53, 3) := by decide +kernel
theorem dX8_faultIn_29 : decode cX8_faultIn 29 = .ok (.aload_n 0, 1) := by decide +kernel
theorem dX8_faultIn_30 : decode cX8_faultIn 30 = .ok (.getstatic 68, 3) := by decide +kernel
theorem dX8_faultIn_33 : decode cX8_faultIn 33 = .ok (.iconst 1, 1) := by decide +kernel
theorem dX8_faultIn_34 : decode cX8_faultIn 34 = .ok (.iaload, 1) := by decide +kernel
theorem dX8_faultIn_35 : decode cX8_faultIn 35 = .ok (.putfield 56, 3) := by decide +kernel
theorem dX8_faultIn_38 : decode cX8_faultIn 38 = .ok (.aload_n 0, 1) := by decide +kernel
theorem dX8_faultIn_39 : decode cX8_faultIn 39 = .ok (.aload_n 1, 1) := by decide +kernel
theorem dX8_faultIn_40 : decode cX8_faultIn 40 = .ok (.invokevirtual 71, 3) := by decide +kernel
theorem dX8_faultIn_43 : decode cX8_faultIn 43 = .ok (.ifCond .eq 29, 3) := by decide +kernel
theorem dX8_faultIn_46 : decode cX8_faultIn 46 = .ok (.aload_n 1, 1) := by decide +kernel
theorem dX8_faultIn_47 : decode cX8_faultIn 47 = .ok (.invokevirtual 75, 3) := by decide +kernel
theorem dX8_faultIn_50 : decode cX8_faultIn 50 = .ok (.iconst (-1), 1) := by decide +kernel
theorem dX8_faultIn_51 : decode cX8_faultIn 51 = .ok (.if_icmp .ne 21, 3) := by decide +kernel
theorem dX8_faultIn_54 : decode cX8_faultIn 54 = .ok (.aload_n 0, 1) := by decide +kernel
theorem dX8_faultIn_55 : decode cX8_faultIn 55 = .ok (.getfield 33, 3) := by decide +kernel
theorem dX8_faultIn_58 : decode cX8_faultIn 58 = .ok (.ifCond .le 14, 3) := by decide +kernel
theorem dX8_faultIn_61 : decode cX8_faultIn 61 = .ok (.aload_n 0, 1) := by decide +kernel
theorem dX8_faultIn_62 : decode cX8_faultIn 62 = .ok (.getfield 37, 3) := by decide +kernel
theorem dX8_faultIn_65 : decode cX8_faultIn 65 = .ok (.ifCond .le 7, 3) := by decide +kernel
theorem dX8_faultIn_68 : decode cX8_faultIn 68 = .ok (.iconst 1, 1) := by decide +kernel
theorem dX8_faultIn_69 : decode cX8_faultIn 69 = .ok (.goto 4, 3) := by decide +kernel
theorem dX8_faultIn_72 : decode cX8_faultIn 72 = .ok (.iconst 0, 1) := by decide +kernel
theorem dX8_faultIn_73 : decode cX8_faultIn 73 = .ok (.istore_n 2, 1) := by decide +kernel
theorem dX8_faultIn_74 : decode cX8_faultIn 74 = .ok (.iload_n 2, 1) := by decide +kernel
theorem dX8_faultIn_75 : decode cX8_faultIn 75 = .ok (.ifCond .eq 7, 3) := by decide +kernel
theorem dX8_faultIn_78 : decode cX8_faultIn 78 = .ok (.iconst (-1), 1) := by decide +kernel
theorem dX8_faultIn_79 : decode cX8_faultIn 79 = .ok (.goto 7, 3) := by decide +kernel
theorem dX8_faultIn_82 : decode cX8_faultIn 82 = .ok (.aload_n 1, 1) := by decide +kernel
theorem dX8_faultIn_83 : decode cX8_faultIn 83 = .ok (.getfield 59, 3) := by decide +kernel
theorem dX8_faultIn_86 : decode cX8_faultIn 86 = .ok (.ireturn, 1) := by decide +kernel
theorem dX8_readsClauses_0 : decode cX8_readsClauses 0 = .ok (.iconst 0, 1) := by decide +kernel
theorem dX8_readsClauses_1 : decode cX8_readsClauses 1 = .ok (.istore_n 2, 1) := by decide +kernel
theorem dX8_readsClauses_2 : decode cX8_readsClauses 2 = .ok (.iload_n 2, 1) := by decide +kernel
theorem dX8_readsClauses_3 : decode cX8_readsClauses 3 = .ok (.bipush 15, 2) := by decide +kernel
theorem dX8_readsClauses_5 : decode cX8_readsClauses 5 = .ok (.if_icmp .gt 60, 3) := by decide +kernel
theorem dX8_readsClauses_8 : decode cX8_readsClauses 8 = .ok (.iload_n 2, 1) := by decide +kernel
theorem dX8_readsClauses_9 : decode cX8_readsClauses 9 = .ok (.ifCond .le 14, 3) := by decide +kernel
theorem dX8_readsClauses_12 : decode cX8_readsClauses 12 = .ok (.aload_n 1, 1) := by decide +kernel
theorem dX8_readsClauses_13 : decode cX8_readsClauses 13 = .ok (.bipush 59, 2) := by decide +kernel
theorem dX8_readsClauses_15 : decode cX8_readsClauses 15 = .ok (.invokevirtual 79, 3) := by decide +kernel
theorem dX8_readsClauses_18 : decode cX8_readsClauses 18 = .ok (.ifCond .ne 5, 3) := by decide +kernel
theorem dX8_readsClauses_21 : decode cX8_readsClauses 21 = .ok (.iconst 1, 1) := by decide +kernel
theorem dX8_readsClauses_22 : decode cX8_readsClauses 22 = .ok (.ireturn, 1) := by decide +kernel
theorem dX8_readsClauses_23 : decode cX8_readsClauses 23 = .ok (.aload_n 0, 1) := by decide +kernel
theorem dX8_readsClauses_24 : decode cX8_readsClauses 24 = .ok (.aload_n 1, 1) := by decide +kernel
theorem dX8_readsClauses_25 : decode cX8_readsClauses 25 = .ok (.invokevirtual 75, 3) := by decide +kernel
theorem dX8_readsClauses_28 : decode cX8_readsClauses 28 = .ok (.invokevirtual 83, 3) := by decide +kernel
theorem dX8_readsClauses_31 : decode cX8_readsClauses 31 = .ok (.istore_n 3, 1) := by decide +kernel
theorem dX8_readsClauses_32 : decode cX8_readsClauses 32 = .ok (.iload_n 3, 1) := by decide +kernel
theorem dX8_readsClauses_33 : decode cX8_readsClauses 33 = .ok (.iconst (-1), 1) := by decide +kernel
theorem dX8_readsClauses_34 : decode cX8_readsClauses 34 = .ok (.if_icmp .ne 5, 3) := by decide +kernel
theorem dX8_readsClauses_37 : decode cX8_readsClauses 37 = .ok (.iconst 0, 1) := by decide +kernel
theorem dX8_readsClauses_38 : decode cX8_readsClauses 38 = .ok (.ireturn, 1) := by decide +kernel
theorem dX8_readsClauses_39 : decode cX8_readsClauses 39 = .ok (.aload_n 1, 1) := by decide +kernel
theorem dX8_readsClauses_40 : decode cX8_readsClauses 40 = .ok (.invokevirtual 87, 3) := by decide +kernel
theorem dX8_readsClauses_43 : decode cX8_readsClauses 43 = .ok (.aload_n 0, 1) := by decide +kernel
theorem dX8_readsClauses_44 : decode cX8_readsClauses 44 = .ok (.aload_n 1, 1) := by decide +kernel
theorem dX8_readsClauses_45 : decode cX8_readsClauses 45 = .ok (.iload_n 3, 1) := by decide +kernel
theorem dX8_readsClauses_46 : decode cX8_readsClauses 46 = .ok (.invokevirtual 90, 3) := by decide +kernel
theorem dX8_readsClauses_49 : decode cX8_readsClauses 49 = .ok (.ifCond .ne 5, 3) := by decide +kernel
theorem dX8_readsClauses_52 : decode cX8_readsClauses 52 = .ok (.iconst 0, 1) := by decide +kernel
theorem dX8_readsClauses_53 : decode cX8_readsClauses 53 = .ok (.ireturn, 1) := by decide +kernel
theorem dX8_readsClauses_54 : decode cX8_readsClauses 54 = .ok (.aload_n 0, 1) := by decide +kernel
theorem dX8_readsClauses_55 : decode cX8_readsClauses 55 = .ok (.iload_n 3, 1) := by decide +kernel
theorem dX8_readsClauses_56 : decode cX8_readsClauses 56 = .ok (.invokevirtual 94, 3) := by decide +kernel
theorem dX8_readsClauses_59 : decode cX8_readsClauses 59 = .ok (.iinc 2 1, 3) := by decide +kernel
theorem dX8_readsClauses_62 : decode cX8_readsClauses 62 = .ok (.goto (-60), 3) := by decide +kernel
theorem dX8_readsClauses_65 : decode cX8_readsClauses 65 = .ok (.iconst 1, 1) := by decide +kernel
theorem dX8_readsClauses_66 : decode cX8_readsClauses 66 = .ok (.ireturn, 1) := by decide +kernel
theorem dX8_kindOf_0 : decode cX8_kindOf 0 = .ok (.iload_n 1, 1) := by decide +kernel
theorem dX8_kindOf_1 : decode cX8_kindOf 1 = .ok (.lookupswitch 78 #[(100, 63), (112, 48), (115, 35)], 35) := by decide +kernel
theorem dX8_kindOf_36 : decode cX8_kindOf 36 = .ok (.aload_n 0, 1) := by decide +kernel
theorem dX8_kindOf_37 : decode cX8_kindOf 37 = .ok (.getfield 64, 3) := by decide +kernel
theorem dX8_kindOf_40 : decode cX8_kindOf 40 = .ok (.ifCond .eq 7, 3) := by decide +kernel
theorem dX8_kindOf_43 : decode cX8_kindOf 43 = .ok (.iconst (-1), 1) := by decide +kernel
theorem dX8_kindOf_44 : decode cX8_kindOf 44 = .ok (.goto 4, 3) := by decide +kernel
theorem dX8_kindOf_47 : decode cX8_kindOf 47 = .ok (.iconst 0, 1) := by decide +kernel
theorem dX8_kindOf_48 : decode cX8_kindOf 48 = .ok (.ireturn, 1) := by decide +kernel
theorem dX8_kindOf_49 : decode cX8_kindOf 49 = .ok (.aload_n 0, 1) := by decide +kernel
theorem dX8_kindOf_50 : decode cX8_kindOf 50 = .ok (.getfield 33, 3) := by decide +kernel
theorem dX8_kindOf_53 : decode cX8_kindOf 53 = .ok (.bipush 6, 2) := by decide +kernel
theorem dX8_kindOf_55 : decode cX8_kindOf 55 = .ok (.if_icmp .ge 7, 3) := by decide +kernel
theorem dX8_kindOf_58 : decode cX8_kindOf 58 = .ok (.iconst 1, 1) := by decide +kernel
theorem dX8_kindOf_59 : decode cX8_kindOf 59 = .ok (.goto 4, 3) := by decide +kernel
theorem dX8_kindOf_62 : decode cX8_kindOf 62 = .ok (.iconst (-1), 1) := by decide +kernel
theorem dX8_kindOf_63 : decode cX8_kindOf 63 = .ok (.ireturn, 1) := by decide +kernel
theorem dX8_kindOf_64 : decode cX8_kindOf 64 = .ok (.aload_n 0, 1) := by decide +kernel
theorem dX8_kindOf_65 : decode cX8_kindOf 65 = .ok (.getfield 37, 3) := by decide +kernel
theorem dX8_kindOf_68 : decode cX8_kindOf 68 = .ok (.bipush 8, 2) := by decide +kernel
theorem dX8_kindOf_70 : decode cX8_kindOf 70 = .ok (.if_icmp .ge 7, 3) := by decide +kernel
theorem dX8_kindOf_73 : decode cX8_kindOf 73 = .ok (.iconst 2, 1) := by decide +kernel
theorem dX8_kindOf_74 : decode cX8_kindOf 74 = .ok (.goto 4, 3) := by decide +kernel
theorem dX8_kindOf_77 : decode cX8_kindOf 77 = .ok (.iconst (-1), 1) := by decide +kernel
theorem dX8_kindOf_78 : decode cX8_kindOf 78 = .ok (.ireturn, 1) := by decide +kernel
theorem dX8_kindOf_79 : decode cX8_kindOf 79 = .ok (.iconst (-1), 1) := by decide +kernel
theorem dX8_kindOf_80 : decode cX8_kindOf 80 = .ok (.ireturn, 1) := by decide +kernel
theorem dX8_readsItems_0 : decode cX8_readsItems 0 = .ok (.iconst 0, 1) := by decide +kernel
theorem dX8_readsItems_1 : decode cX8_readsItems 1 = .ok (.istore_n 3, 1) := by decide +kernel
theorem dX8_readsItems_2 : decode cX8_readsItems 2 = .ok (.iload_n 3, 1) := by decide +kernel
theorem dX8_readsItems_3 : decode cX8_readsItems 3 = .ok (.iconst 3, 1) := by decide +kernel
theorem dX8_readsItems_4 : decode cX8_readsItems 4 = .ok (.if_icmp .ge 24, 3) := by decide +kernel
theorem dX8_readsItems_7 : decode cX8_readsItems 7 = .ok (.aload_n 0, 1) := by decide +kernel
theorem dX8_readsItems_8 : decode cX8_readsItems 8 = .ok (.getfield 30, 3) := by decide +kernel
theorem dX8_readsItems_11 : decode cX8_readsItems 11 = .ok (.iload_n 3, 1) := by decide +kernel
theorem dX8_readsItems_12 : decode cX8_readsItems 12 = .ok (.getstatic 68, 3) := by decide +kernel
theorem dX8_readsItems_15 : decode cX8_readsItems 15 = .ok (.iload_n 2, 1) := by decide +kernel
theorem dX8_readsItems_16 : decode cX8_readsItems 16 = .ok (.iconst 3, 1) := by decide +kernel
theorem dX8_readsItems_17 : decode cX8_readsItems 17 = .ok (.imul, 1) := by decide +kernel
theorem dX8_readsItems_18 : decode cX8_readsItems 18 = .ok (.iload_n 3, 1) := by decide +kernel
theorem dX8_readsItems_19 : decode cX8_readsItems 19 = .ok (.iadd, 1) := by decide +kernel
theorem dX8_readsItems_20 : decode cX8_readsItems 20 = .ok (.iaload, 1) := by decide +kernel
theorem dX8_readsItems_21 : decode cX8_readsItems 21 = .ok (.iastore, 1) := by decide +kernel
theorem dX8_readsItems_22 : decode cX8_readsItems 22 = .ok (.iinc 3 1, 3) := by decide +kernel
theorem dX8_readsItems_25 : decode cX8_readsItems 25 = .ok (.goto (-23), 3) := by decide +kernel
theorem dX8_readsItems_28 : decode cX8_readsItems 28 = .ok (.iconst 0, 1) := by decide +kernel
theorem dX8_readsItems_29 : decode cX8_readsItems 29 = .ok (.istore_n 3, 1) := by decide +kernel
theorem dX8_readsItems_30 : decode cX8_readsItems 30 = .ok (.iconst 0, 1) := by decide +kernel
theorem dX8_readsItems_31 : decode cX8_readsItems 31 = .ok (.istore 4, 2) := by decide +kernel
theorem dX8_readsItems_33 : decode cX8_readsItems 33 = .ok (.iload 4, 2) := by decide +kernel
theorem dX8_readsItems_35 : decode cX8_readsItems 35 = .ok (.iconst 3, 1) := by decide +kernel
theorem dX8_readsItems_36 : decode cX8_readsItems 36 = .ok (.if_icmp .gt 108, 3) := by decide +kernel
theorem dX8_readsItems_39 : decode cX8_readsItems 39 = .ok (.aload_n 1, 1) := by decide +kernel
theorem dX8_readsItems_40 : decode cX8_readsItems 40 = .ok (.invokevirtual 75, 3) := by decide +kernel
theorem dX8_readsItems_43 : decode cX8_readsItems 43 = .ok (.istore 5, 2) := by decide +kernel
theorem dX8_readsItems_45 : decode cX8_readsItems 45 = .ok (.iload 5, 2) := by decide +kernel
theorem dX8_readsItems_47 : decode cX8_readsItems 47 = .ok (.bipush 59, 2) := by decide +kernel
theorem dX8_readsItems_49 : decode cX8_readsItems 49 = .ok (.if_icmp .eq 9, 3) := by decide +kernel
theorem dX8_readsItems_52 : decode cX8_readsItems 52 = .ok (.iload 5, 2) := by decide +kernel
theorem dX8_readsItems_54 : decode cX8_readsItems 54 = .ok (.iconst (-1), 1) := by decide +kernel
theorem dX8_readsItems_55 : decode cX8_readsItems 55 = .ok (.if_icmp .ne 5, 3) := by decide +kernel
theorem dX8_readsItems_58 : decode cX8_readsItems 58 = .ok (.iconst 1, 1) := by decide +kernel
theorem dX8_readsItems_59 : decode cX8_readsItems 59 = .ok (.ireturn, 1) := by decide +kernel
theorem dX8_readsItems_60 : decode cX8_readsItems 60 = .ok (.iload_n 2, 1) := by decide +kernel
theorem dX8_readsItems_61 : decode cX8_readsItems 61 = .ok (.iload 5, 2) := by decide +kernel
theorem dX8_readsItems_63 : decode cX8_readsItems 63 = .ok (.invokestatic 98, 3) := by decide +kernel
theorem dX8_readsItems_66 : decode cX8_readsItems 66 = .ok (.istore 6, 2) := by decide +kernel
theorem dX8_readsItems_68 : decode cX8_readsItems 68 = .ok (.iload 6, 2) := by decide +kernel
theorem dX8_readsItems_70 : decode cX8_readsItems 70 = .ok (.iconst (-1), 1) := by decide +kernel
theorem dX8_readsItems_71 : decode cX8_readsItems 71 = .ok (.if_icmp .eq 13, 3) := by decide +kernel
theorem dX8_readsItems_74 : decode cX8_readsItems 74 = .ok (.iload_n 3, 1) := by decide +kernel
theorem dX8_readsItems_75 : decode cX8_readsItems 75 = .ok (.iload 6, 2) := by decide +kernel
theorem dX8_readsItems_77 : decode cX8_readsItems 77 = .ok (.ishr, 1) := by decide +kernel
theorem dX8_readsItems_78 : decode cX8_readsItems 78 = .ok (.iconst 1, 1) := by decide +kernel
theorem dX8_readsItems_79 : decode cX8_readsItems 79 = .ok (.iand, 1) := by decide +kernel
theorem dX8_readsItems_80 : decode cX8_readsItems 80 = .ok (.iconst 1, 1) := by decide +kernel
theorem dX8_readsItems_81 : decode cX8_readsItems 81 = .ok (.if_icmp .ne 5, 3) := by decide +kernel
theorem dX8_readsItems_84 : decode cX8_readsItems 84 = .ok (.iconst 0, 1) := by decide +kernel
theorem dX8_readsItems_85 : decode cX8_readsItems 85 = .ok (.ireturn, 1) := by decide +kernel
theorem dX8_readsItems_86 : decode cX8_readsItems 86 = .ok (.aload_n 1, 1) := by decide +kernel
theorem dX8_readsItems_87 : decode cX8_readsItems 87 = .ok (.invokevirtual 87, 3) := by decide +kernel
theorem dX8_readsItems_90 : decode cX8_readsItems 90 = .ok (.iload_n 2, 1) := by decide +kernel
theorem dX8_readsItems_91 : decode cX8_readsItems 91 = .ok (.iconst 3, 1) := by decide +kernel
theorem dX8_readsItems_92 : decode cX8_readsItems 92 = .ok (.imul, 1) := by decide +kernel
theorem dX8_readsItems_93 : decode cX8_readsItems 93 = .ok (.iload 6, 2) := by decide +kernel
theorem dX8_readsItems_95 : decode cX8_readsItems 95 = .ok (.iadd, 1) := by decide +kernel
theorem dX8_readsItems_96 : decode cX8_readsItems 96 = .ok (.istore 7, 2) := by decide +kernel
theorem dX8_readsItems_98 : decode cX8_readsItems 98 = .ok (.aload_n 1, 1) := by decide +kernel
theorem dX8_readsItems_99 : decode cX8_readsItems 99 = .ok (.iconst 2, 1) := by decide +kernel
theorem dX8_readsItems_100 : decode cX8_readsItems 100 = .ok (.getstatic 102, 3) := by decide +kernel
theorem dX8_readsItems_103 : decode cX8_readsItems 103 = .ok (.iload 7, 2) := by decide +kernel
theorem dX8_readsItems_105 : decode cX8_readsItems 105 = .ok (.iaload, 1) := by decide +kernel
theorem dX8_readsItems_106 : decode cX8_readsItems 106 = .ok (.getstatic 105, 3) := by decide +kernel
theorem dX8_readsItems_109 : decode cX8_readsItems 109 = .ok (.iload 7, 2) := by decide +kernel
theorem dX8_readsItems_111 : decode cX8_readsItems 111 = .ok (.iaload, 1) := by decide +kernel
theorem dX8_readsItems_112 : decode cX8_readsItems 112 = .ok (.invokevirtual 108, 3) := by decide +kernel
theorem dX8_readsItems_115 : decode cX8_readsItems 115 = .ok (.ifCond .ne 5, 3) := by decide +kernel
theorem dX8_readsItems_118 : decode cX8_readsItems 118 = .ok (.iconst 0, 1) := by decide +kernel
theorem dX8_readsItems_119 : decode cX8_readsItems 119 = .ok (.ireturn, 1) := by decide +kernel
theorem dX8_readsItems_120 : decode cX8_readsItems 120 = .ok (.aload_n 0, 1) := by decide +kernel
theorem dX8_readsItems_121 : decode cX8_readsItems 121 = .ok (.getfield 30, 3) := by decide +kernel
theorem dX8_readsItems_124 : decode cX8_readsItems 124 = .ok (.iload 6, 2) := by decide +kernel
theorem dX8_readsItems_126 : decode cX8_readsItems 126 = .ok (.aload_n 1, 1) := by decide +kernel
theorem dX8_readsItems_127 : decode cX8_readsItems 127 = .ok (.getfield 112, 3) := by decide +kernel
theorem dX8_readsItems_130 : decode cX8_readsItems 130 = .ok (.iastore, 1) := by decide +kernel
theorem dX8_readsItems_131 : decode cX8_readsItems 131 = .ok (.iload_n 3, 1) := by decide +kernel
theorem dX8_readsItems_132 : decode cX8_readsItems 132 = .ok (.iconst 1, 1) := by decide +kernel
theorem dX8_readsItems_133 : decode cX8_readsItems 133 = .ok (.iload 6, 2) := by decide +kernel
theorem dX8_readsItems_135 : decode cX8_readsItems 135 = .ok (.ishl, 1) := by decide +kernel
theorem dX8_readsItems_136 : decode cX8_readsItems 136 = .ok (.ior, 1) := by decide +kernel
theorem dX8_readsItems_137 : decode cX8_readsItems 137 = .ok (.istore_n 3, 1) := by decide +kernel
theorem dX8_readsItems_138 : decode cX8_readsItems 138 = .ok (.iinc 4 1, 3) := by decide +kernel
theorem dX8_readsItems_141 : decode cX8_readsItems 141 = .ok (.goto (-108), 3) := by decide +kernel
theorem dX8_readsItems_144 : decode cX8_readsItems 144 = .ok (.iconst 0, 1) := by decide +kernel
theorem dX8_readsItems_145 : decode cX8_readsItems 145 = .ok (.ireturn, 1) := by decide +kernel
theorem dX8_itemOf_0 : decode cX8_itemOf 0 = .ok (.iconst 0, 1) := by decide +kernel
theorem dX8_itemOf_1 : decode cX8_itemOf 1 = .ok (.istore_n 2, 1) := by decide +kernel
theorem dX8_itemOf_2 : decode cX8_itemOf 2 = .ok (.iload_n 2, 1) := by decide +kernel
theorem dX8_itemOf_3 : decode cX8_itemOf 3 = .ok (.iconst 3, 1) := by decide +kernel
theorem dX8_itemOf_4 : decode cX8_itemOf 4 = .ok (.if_icmp .ge 25, 3) := by decide +kernel
theorem dX8_itemOf_7 : decode cX8_itemOf 7 = .ok (.ldc 115, 2) := by decide +kernel
theorem dX8_itemOf_9 : decode cX8_itemOf 9 = .ok (.iload_n 0, 1) := by decide +kernel
theorem dX8_itemOf_10 : decode cX8_itemOf 10 = .ok (.iconst 3, 1) := by decide +kernel
theorem dX8_itemOf_11 : decode cX8_itemOf 11 = .ok (.imul, 1) := by decide +kernel
theorem dX8_itemOf_12 : decode cX8_itemOf 12 = .ok (.iload_n 2, 1) := by decide +kernel
theorem dX8_itemOf_13 : decode cX8_itemOf 13 = .ok (.iadd, 1) := by decide +kernel
theorem dX8_itemOf_14 : decode cX8_itemOf 14 = .ok (.invokevirtual 117, 3) := by decide +kernel
theorem dX8_itemOf_17 : decode cX8_itemOf 17 = .ok (.iload_n 1, 1) := by decide +kernel
theorem dX8_itemOf_18 : decode cX8_itemOf 18 = .ok (.if_icmp .ne 5, 3) := by decide +kernel
theorem dX8_itemOf_21 : decode cX8_itemOf 21 = .ok (.iload_n 2, 1) := by decide +kernel
theorem dX8_itemOf_22 : decode cX8_itemOf 22 = .ok (.ireturn, 1) := by decide +kernel
theorem dX8_itemOf_23 : decode cX8_itemOf 23 = .ok (.iinc 2 1, 3) := by decide +kernel
theorem dX8_itemOf_26 : decode cX8_itemOf 26 = .ok (.goto (-24), 3) := by decide +kernel
theorem dX8_itemOf_29 : decode cX8_itemOf 29 = .ok (.iconst (-1), 1) := by decide +kernel
theorem dX8_itemOf_30 : decode cX8_itemOf 30 = .ok (.ireturn, 1) := by decide +kernel
theorem dX8_settle_0 : decode cX8_settle 0 = .ok (.iload_n 1, 1) := by decide +kernel
theorem dX8_settle_1 : decode cX8_settle 1 = .ok (.ifCond .ne 31, 3) := by decide +kernel
theorem dX8_settle_4 : decode cX8_settle 4 = .ok (.aload_n 0, 1) := by decide +kernel
theorem dX8_settle_5 : decode cX8_settle 5 = .ok (.iconst 1, 1) := by decide +kernel
theorem dX8_settle_6 : decode cX8_settle 6 = .ok (.putfield 64, 3) := by decide +kernel
theorem dX8_settle_9 : decode cX8_settle 9 = .ok (.aload_n 0, 1) := by decide +kernel
theorem dX8_settle_10 : decode cX8_settle 10 = .ok (.aload_n 0, 1) := by decide +kernel
theorem dX8_settle_11 : decode cX8_settle 11 = .ok (.getfield 30, 3) := by decide +kernel
theorem dX8_settle_14 : decode cX8_settle 14 = .ok (.iconst 0, 1) := by decide +kernel
theorem dX8_settle_15 : decode cX8_settle 15 = .ok (.iaload, 1) := by decide +kernel
theorem dX8_settle_16 : decode cX8_settle 16 = .ok (.putfield 53, 3) := by decide +kernel
theorem dX8_settle_19 : decode cX8_settle 19 = .ok (.aload_n 0, 1) := by decide +kernel
theorem dX8_settle_20 : decode cX8_settle 20 = .ok (.aload_n 0, 1) := by decide +kernel
theorem dX8_settle_21 : decode cX8_settle 21 = .ok (.getfield 30, 3) := by decide +kernel
theorem dX8_settle_24 : decode cX8_settle 24 = .ok (.iconst 1, 1) := by decide +kernel
theorem dX8_settle_25 : decode cX8_settle 25 = .ok (.iaload, 1) := by decide +kernel
theorem dX8_settle_26 : decode cX8_settle 26 = .ok (.putfield 56, 3) := by decide +kernel
theorem dX8_settle_29 : decode cX8_settle 29 = .ok (.goto 121, 3) := by decide +kernel
theorem dX8_settle_32 : decode cX8_settle 32 = .ok (.iload_n 1, 1) := by decide +kernel
theorem dX8_settle_33 : decode cX8_settle 33 = .ok (.iconst 1, 1) := by decide +kernel
theorem dX8_settle_34 : decode cX8_settle 34 = .ok (.if_icmp .ne 61, 3) := by decide +kernel
theorem dX8_settle_37 : decode cX8_settle 37 = .ok (.aload_n 0, 1) := by decide +kernel
theorem dX8_settle_38 : decode cX8_settle 38 = .ok (.getfield 9, 3) := by decide +kernel
theorem dX8_settle_41 : decode cX8_settle 41 = .ok (.aload_n 0, 1) := by decide +kernel
theorem dX8_settle_42 : decode cX8_settle 42 = .ok (.getfield 33, 3) := by decide +kernel
theorem dX8_settle_45 : decode cX8_settle 45 = .ok (.aload_n 0, 1) := by decide +kernel
theorem dX8_settle_46 : decode cX8_settle 46 = .ok (.getfield 30, 3) := by decide +kernel
theorem dX8_settle_49 : decode cX8_settle 49 = .ok (.iconst 0, 1) := by decide +kernel
theorem dX8_settle_50 : decode cX8_settle 50 = .ok (.iaload, 1) := by decide +kernel
theorem dX8_settle_51 : decode cX8_settle 51 = .ok (.iastore, 1) := by decide +kernel
theorem dX8_settle_52 : decode cX8_settle 52 = .ok (.aload_n 0, 1) := by decide +kernel
theorem dX8_settle_53 : decode cX8_settle 53 = .ok (.getfield 15, 3) := by decide +kernel
theorem dX8_settle_56 : decode cX8_settle 56 = .ok (.aload_n 0, 1) := by decide +kernel
theorem dX8_settle_57 : decode cX8_settle 57 = .ok (.getfield 33, 3) := by decide +kernel
theorem dX8_settle_60 : decode cX8_settle 60 = .ok (.aload_n 0, 1) := by decide +kernel
theorem dX8_settle_61 : decode cX8_settle 61 = .ok (.getfield 30, 3) := by decide +kernel
theorem dX8_settle_64 : decode cX8_settle 64 = .ok (.iconst 1, 1) := by decide +kernel
theorem dX8_settle_65 : decode cX8_settle 65 = .ok (.iaload, 1) := by decide +kernel
theorem dX8_settle_66 : decode cX8_settle 66 = .ok (.iastore, 1) := by decide +kernel
theorem dX8_settle_67 : decode cX8_settle 67 = .ok (.aload_n 0, 1) := by decide +kernel
theorem dX8_settle_68 : decode cX8_settle 68 = .ok (.getfield 18, 3) := by decide +kernel
theorem dX8_settle_71 : decode cX8_settle 71 = .ok (.aload_n 0, 1) := by decide +kernel
theorem dX8_settle_72 : decode cX8_settle 72 = .ok (.getfield 33, 3) := by decide +kernel
theorem dX8_settle_75 : decode cX8_settle 75 = .ok (.aload_n 0, 1) := by decide +kernel
theorem dX8_settle_76 : decode cX8_settle 76 = .ok (.getfield 30, 3) := by decide +kernel
theorem dX8_settle_79 : decode cX8_settle 79 = .ok (.iconst 2, 1) := by decide +kernel
theorem dX8_settle_80 : decode cX8_settle 80 = .ok (.iaload, 1) := by decide +kernel
theorem dX8_settle_81 : decode cX8_settle 81 = .ok (.iastore, 1) := by decide +kernel
theorem dX8_settle_82 : decode cX8_settle 82 = .ok (.aload_n 0, 1) := by decide +kernel
theorem dX8_settle_83 : decode cX8_settle 83 = .ok (.dup, 1) := by decide +kernel
theorem dX8_settle_84 : decode cX8_settle 84 = .ok (.getfield 33, 3) := by decide +kernel
theorem dX8_settle_87 : decode cX8_settle 87 = .ok (.iconst 1, 1) := by decide +kernel
theorem dX8_settle_88 : decode cX8_settle 88 = .ok (.iadd, 1) := by decide +kernel
theorem dX8_settle_89 : decode cX8_settle 89 = .ok (.putfield 33, 3) := by decide +kernel
theorem dX8_settle_92 : decode cX8_settle 92 = .ok (.goto 58, 3) := by decide +kernel
theorem dX8_settle_95 : decode cX8_settle 95 = .ok (.aload_n 0, 1) := by decide +kernel
theorem dX8_settle_96 : decode cX8_settle 96 = .ok (.getfield 21, 3) := by decide +kernel
theorem dX8_settle_99 : decode cX8_settle 99 = .ok (.aload_n 0, 1) := by decide +kernel
theorem dX8_settle_100 : decode cX8_settle 100 = .ok (.getfield 37, 3) := by decide +kernel
theorem dX8_settle_103 : decode cX8_settle 103 = .ok (.aload_n 0, 1) := by decide +kernel
theorem dX8_settle_104 : decode cX8_settle 104 = .ok (.getfield 30, 3) := by decide +kernel
theorem dX8_settle_107 : decode cX8_settle 107 = .ok (.iconst 0, 1) := by decide +kernel
theorem dX8_settle_108 : decode cX8_settle 108 = .ok (.iaload, 1) := by decide +kernel
theorem dX8_settle_109 : decode cX8_settle 109 = .ok (.iastore, 1) := by decide +kernel
theorem dX8_settle_110 : decode cX8_settle 110 = .ok (.aload_n 0, 1) := by decide +kernel
theorem dX8_settle_111 : decode cX8_settle 111 = .ok (.getfield 24, 3) := by decide +kernel
theorem dX8_settle_114 : decode cX8_settle 114 = .ok (.aload_n 0, 1) := by decide +kernel
theorem dX8_settle_115 : decode cX8_settle 115 = .ok (.getfield 37, 3) := by decide +kernel
theorem dX8_settle_118 : decode cX8_settle 118 = .ok (.aload_n 0, 1) := by decide +kernel
theorem dX8_settle_119 : decode cX8_settle 119 = .ok (.getfield 30, 3) := by decide +kernel
theorem dX8_settle_122 : decode cX8_settle 122 = .ok (.iconst 1, 1) := by decide +kernel
theorem dX8_settle_123 : decode cX8_settle 123 = .ok (.iaload, 1) := by decide +kernel
theorem dX8_settle_124 : decode cX8_settle 124 = .ok (.iastore, 1) := by decide +kernel
theorem dX8_settle_125 : decode cX8_settle 125 = .ok (.aload_n 0, 1) := by decide +kernel
theorem dX8_settle_126 : decode cX8_settle 126 = .ok (.getfield 27, 3) := by decide +kernel
theorem dX8_settle_129 : decode cX8_settle 129 = .ok (.aload_n 0, 1) := by decide +kernel
theorem dX8_settle_130 : decode cX8_settle 130 = .ok (.getfield 37, 3) := by decide +kernel
theorem dX8_settle_133 : decode cX8_settle 133 = .ok (.aload_n 0, 1) := by decide +kernel
theorem dX8_settle_134 : decode cX8_settle 134 = .ok (.getfield 30, 3) := by decide +kernel
theorem dX8_settle_137 : decode cX8_settle 137 = .ok (.iconst 2, 1) := by decide +kernel
theorem dX8_settle_138 : decode cX8_settle 138 = .ok (.iaload, 1) := by decide +kernel
theorem dX8_settle_139 : decode cX8_settle 139 = .ok (.iastore, 1) := by decide +kernel
theorem dX8_settle_140 : decode cX8_settle 140 = .ok (.aload_n 0, 1) := by decide +kernel
theorem dX8_settle_141 : decode cX8_settle 141 = .ok (.dup, 1) := by decide +kernel
theorem dX8_settle_142 : decode cX8_settle 142 = .ok (.getfield 37, 3) := by decide +kernel
theorem dX8_settle_145 : decode cX8_settle 145 = .ok (.iconst 1, 1) := by decide +kernel
theorem dX8_settle_146 : decode cX8_settle 146 = .ok (.iadd, 1) := by decide +kernel
theorem dX8_settle_147 : decode cX8_settle 147 = .ok (.putfield 37, 3) := by decide +kernel
theorem dX8_settle_150 : decode cX8_settle 150 = .ok (.return_, 1) := by decide +kernel
theorem dX9_init_0 : decode cX9_init 0 = .ok (.aload_n 0, 1) := by decide +kernel
theorem dX9_init_1 : decode cX9_init 1 = .ok (.invokespecial 3, 3) := by decide +kernel
theorem dX9_init_4 : decode cX9_init 4 = .ok (.aload_n 0, 1) := by decide +kernel
theorem dX9_init_5 : decode cX9_init 5 = .ok (.bipush 16, 2) := by decide +kernel
theorem dX9_init_7 : decode cX9_init 7 = .ok (.newarray .int, 2) := by decide +kernel
theorem dX9_init_9 : decode cX9_init 9 = .ok (.putfield 9, 3) := by decide +kernel
theorem dX9_init_12 : decode cX9_init 12 = .ok (.aload_n 0, 1) := by decide +kernel
theorem dX9_init_13 : decode cX9_init 13 = .ok (.bipush 16, 2) := by decide +kernel
theorem dX9_init_15 : decode cX9_init 15 = .ok (.newarray .int, 2) := by decide +kernel
theorem dX9_init_17 : decode cX9_init 17 = .ok (.putfield 15, 3) := by decide +kernel
theorem dX9_init_20 : decode cX9_init 20 = .ok (.aload_n 0, 1) := by decide +kernel
theorem dX9_init_21 : decode cX9_init 21 = .ok (.bipush 16, 2) := by decide +kernel
theorem dX9_init_23 : decode cX9_init 23 = .ok (.newarray .int, 2) := by decide +kernel
theorem dX9_init_25 : decode cX9_init 25 = .ok (.putfield 18, 3) := by decide +kernel
theorem dX9_init_28 : decode cX9_init 28 = .ok (.return_, 1) := by decide +kernel
theorem dX9_faultIn_0 : decode cX9_faultIn 0 = .ok (.aload_n 1, 1) := by decide +kernel
theorem dX9_faultIn_1 : decode cX9_faultIn 1 = .ok (.iconst 0, 1) := by decide +kernel
theorem dX9_faultIn_2 : decode cX9_faultIn 2 = .ok (.putfield 21, 3) := by decide +kernel
theorem dX9_faultIn_5 : decode cX9_faultIn 5 = .ok (.aload_n 0, 1) := by decide +kernel
theorem dX9_faultIn_6 : decode cX9_faultIn 6 = .ok (.iconst 0, 1) := by decide +kernel
theorem dX9_faultIn_7 : decode cX9_faultIn 7 = .ok (.putfield 27, 3) := by decide +kernel
theorem dX9_faultIn_10 : decode cX9_faultIn 10 = .ok (.aload_n 0, 1) := by decide +kernel
theorem dX9_faultIn_11 : decode cX9_faultIn 11 = .ok (.aload_n 1, 1) := by decide +kernel
theorem dX9_faultIn_12 : decode cX9_faultIn 12 = .ok (.invokevirtual 30, 3) := by decide +kernel
theorem dX9_faultIn_15 : decode cX9_faultIn 15 = .ok (.ifCond .eq 15, 3) := by decide +kernel
theorem dX9_faultIn_18 : decode cX9_faultIn 18 = .ok (.aload_n 1, 1) := by decide +kernel
theorem dX9_faultIn_19 : decode cX9_faultIn 19 = .ok (.invokevirtual 34, 3) := by decide +kernel
theorem dX9_faultIn_22 : decode cX9_faultIn 22 = .ok (.iconst (-1), 1) := by decide +kernel
theorem dX9_faultIn_23 : decode cX9_faultIn 23 = .ok (.if_icmp .ne 7, 3) := by decide +kernel
theorem dX9_faultIn_26 : decode cX9_faultIn 26 = .ok (.iconst (-1), 1) := by decide +kernel
theorem dX9_faultIn_27 : decode cX9_faultIn 27 = .ok (.goto 7, 3) := by decide +kernel
theorem dX9_faultIn_30 : decode cX9_faultIn 30 = .ok (.aload_n 1, 1) := by decide +kernel
theorem dX9_faultIn_31 : decode cX9_faultIn 31 = .ok (.getfield 21, 3) := by decide +kernel
theorem dX9_faultIn_34 : decode cX9_faultIn 34 = .ok (.ireturn, 1) := by decide +kernel
theorem dX9_readsSteps_0 : decode cX9_readsSteps 0 = .ok (.iconst 0, 1) := by decide +kernel
theorem dX9_readsSteps_1 : decode cX9_readsSteps 1 = .ok (.istore_n 2, 1) := by decide +kernel
theorem dX9_readsSteps_2 : decode cX9_readsSteps 2 = .ok (.iload_n 2, 1) := by decide +kernel
theorem dX9_readsSteps_3 : decode cX9_readsSteps 3 = .ok (.bipush 16, 2) := by decide +kernel
theorem dX9_readsSteps_5 : decode cX9_readsSteps 5 = .ok (.if_icmp .ge 45, 3) := by decide +kernel
theorem dX9_readsSteps_8 : decode cX9_readsSteps 8 = .ok (.iload_n 2, 1) := by decide +kernel
theorem dX9_readsSteps_9 : decode cX9_readsSteps 9 = .ok (.ifCond .le 14, 3) := by decide +kernel
theorem dX9_readsSteps_12 : decode cX9_readsSteps 12 = .ok (.aload_n 1, 1) := by decide +kernel
theorem dX9_readsSteps_13 : decode cX9_readsSteps 13 = .ok (.bipush 59, 2) := by decide +kernel
theorem dX9_readsSteps_15 : decode cX9_readsSteps 15 = .ok (.invokevirtual 38, 3) := by decide +kernel
theorem dX9_readsSteps_18 : decode cX9_readsSteps 18 = .ok (.ifCond .ne 5, 3) := by decide +kernel
theorem dX9_readsSteps_21 : decode cX9_readsSteps 21 = .ok (.iconst 1, 1) := by decide +kernel
theorem dX9_readsSteps_22 : decode cX9_readsSteps 22 = .ok (.ireturn, 1) := by decide +kernel
theorem dX9_readsSteps_23 : decode cX9_readsSteps 23 = .ok (.aload_n 0, 1) := by decide +kernel
theorem dX9_readsSteps_24 : decode cX9_readsSteps 24 = .ok (.aload_n 1, 1) := by decide +kernel
theorem dX9_readsSteps_25 : decode cX9_readsSteps 25 = .ok (.iload_n 2, 1) := by decide +kernel
theorem dX9_readsSteps_26 : decode cX9_readsSteps 26 = .ok (.invokevirtual 42, 3) := by decide +kernel
theorem dX9_readsSteps_29 : decode cX9_readsSteps 29 = .ok (.ifCond .ne 5, 3) := by decide +kernel
theorem dX9_readsSteps_32 : decode cX9_readsSteps 32 = .ok (.iconst 0, 1) := by decide +kernel
theorem dX9_readsSteps_33 : decode cX9_readsSteps 33 = .ok (.ireturn, 1) := by decide +kernel
theorem dX9_readsSteps_34 : decode cX9_readsSteps 34 = .ok (.aload_n 0, 1) := by decide +kernel
theorem dX9_readsSteps_35 : decode cX9_readsSteps 35 = .ok (.dup, 1) := by decide +kernel
theorem dX9_readsSteps_36 : decode cX9_readsSteps 36 = .ok (.getfield 27, 3) := by decide +kernel
theorem dX9_readsSteps_39 : decode cX9_readsSteps 39 = .ok (.iconst 1, 1) := by decide +kernel
theorem dX9_readsSteps_40 : decode cX9_readsSteps 40 = .ok (.iadd, 1) := by decide +kernel
theorem dX9_readsSteps_41 : decode cX9_readsSteps 41 = .ok (.putfield 27, 3) := by decide +kernel
theorem dX9_readsSteps_44 : decode cX9_readsSteps 44 = .ok (.iinc 2 1, 3) := by decide +kernel
theorem dX9_readsSteps_47 : decode cX9_readsSteps 47 = .ok (.goto (-45), 3) := by decide +kernel
theorem dX9_readsSteps_50 : decode cX9_readsSteps 50 = .ok (.iconst 1, 1) := by decide +kernel
theorem dX9_readsSteps_51 : decode cX9_readsSteps 51 = .ok (.ireturn, 1) := by decide +kernel
theorem dX9_readsStep_0 : decode cX9_readsStep 0 = .ok (.aload_n 1, 1) := by decide +kernel
theorem dX9_readsStep_1 : decode cX9_readsStep 1 = .ok (.invokevirtual 34, 3) := by decide +kernel
theorem dX9_readsStep_4 : decode cX9_readsStep 4 = .ok (.istore_n 3, 1) := by decide +kernel
theorem dX9_readsStep_5 : decode cX9_readsStep 5 = .ok (.iload_n 3, 1) := by decide +kernel
theorem dX9_readsStep_6 : decode cX9_readsStep 6 = .ok (.iconst (-1), 1) := by decide +kernel
theorem dX9_readsStep_7 : decode cX9_readsStep 7 = .ok (.if_icmp .ne 7, 3) := by decide +kernel
theorem dX9_readsStep_10 : decode cX9_readsStep 10 = .ok (.iconst (-1), 1) := by decide +kernel
theorem dX9_readsStep_11 : decode cX9_readsStep 11 = .ok (.goto 10, 3) := by decide +kernel
theorem dX9_readsStep_14 : decode cX9_readsStep 14 = .ok (.ldc 46, 2) := by decide +kernel
theorem dX9_readsStep_16 : decode cX9_readsStep 16 = .ok (.iload_n 3, 1) := by decide +kernel
theorem dX9_readsStep_17 : decode cX9_readsStep 17 = .ok (.i2c, 1) := by decide +kernel
theorem dX9_readsStep_18 : decode cX9_readsStep 18 = .ok (.invokevirtual 48, 3) := by decide +kernel
theorem dX9_readsStep_21 : decode cX9_readsStep 21 = .ok (.istore 4, 2) := by decide +kernel
theorem dX9_readsStep_23 : decode cX9_readsStep 23 = .ok (.iload 4, 2) := by decide +kernel
theorem dX9_readsStep_25 : decode cX9_readsStep 25 = .ok (.ifCond .ge 5, 3) := by decide +kernel
theorem dX9_readsStep_28 : decode cX9_readsStep 28 = .ok (.iconst 0, 1) := by decide +kernel
theorem dX9_readsStep_29 : decode cX9_readsStep 29 = .ok (.ireturn, 1) := by decide +kernel
theorem dX9_readsStep_30 : decode cX9_readsStep 30 = .ok (.aload_n 1, 1) := by decide +kernel
theorem dX9_readsStep_31 : decode cX9_readsStep 31 = .ok (.invokevirtual 54, 3) := by decide +kernel
theorem dX9_readsStep_34 : decode cX9_readsStep 34 = .ok (.aload_n 0, 1) := by decide +kernel
theorem dX9_readsStep_35 : decode cX9_readsStep 35 = .ok (.getfield 9, 3) := by decide +kernel
theorem dX9_readsStep_38 : decode cX9_readsStep 38 = .ok (.iload_n 2, 1) := by decide +kernel
theorem dX9_readsStep_39 : decode cX9_readsStep 39 = .ok (.iload 4, 2) := by decide +kernel
theorem dX9_readsStep_41 : decode cX9_readsStep 41 = .ok (.iastore, 1) := by decide +kernel
theorem dX9_readsStep_42 : decode cX9_readsStep 42 = .ok (.aload_n 0, 1) := by decide +kernel
theorem dX9_readsStep_43 : decode cX9_readsStep 43 = .ok (.getfield 15, 3) := by decide +kernel
theorem dX9_readsStep_46 : decode cX9_readsStep 46 = .ok (.iload_n 2, 1) := by decide +kernel
theorem dX9_readsStep_47 : decode cX9_readsStep 47 = .ok (.iconst (-1), 1) := by decide +kernel
theorem dX9_readsStep_48 : decode cX9_readsStep 48 = .ok (.iastore, 1) := by decide +kernel
theorem dX9_readsStep_49 : decode cX9_readsStep 49 = .ok (.aload_n 0, 1) := by decide +kernel
theorem dX9_readsStep_50 : decode cX9_readsStep 50 = .ok (.getfield 18, 3) := by decide +kernel
theorem dX9_readsStep_53 : decode cX9_readsStep 53 = .ok (.iload_n 2, 1) := by decide +kernel
theorem dX9_readsStep_54 : decode cX9_readsStep 54 = .ok (.iconst (-1), 1) := by decide +kernel
theorem dX9_readsStep_55 : decode cX9_readsStep 55 = .ok (.iastore, 1) := by decide +kernel
theorem dX9_readsStep_56 : decode cX9_readsStep 56 = .ok (.iload 4, 2) := by decide +kernel
theorem dX9_readsStep_58 : decode cX9_readsStep 58 = .ok (.iconst 3, 1) := by decide +kernel
theorem dX9_readsStep_59 : decode cX9_readsStep 59 = .ok (.if_icmp .ne 5, 3) := by decide +kernel
theorem dX9_readsStep_62 : decode cX9_readsStep 62 = .ok (.iconst 1, 1) := by decide +kernel
theorem dX9_readsStep_63 : decode cX9_readsStep 63 = .ok (.ireturn, 1) := by decide +kernel
theorem dX9_readsStep_64 : decode cX9_readsStep 64 = .ok (.aload_n 1, 1) := by decide +kernel
theorem dX9_readsStep_65 : decode cX9_readsStep 65 = .ok (.invokevirtual 57, 3) := by decide +kernel
theorem dX9_readsStep_68 : decode cX9_readsStep 68 = .ok (.ifCond .ne 5, 3) := by decide +kernel
theorem dX9_readsStep_71 : decode cX9_readsStep 71 = .ok (.iconst 0, 1) := by decide +kernel
theorem dX9_readsStep_72 : decode cX9_readsStep 72 = .ok (.ireturn, 1) := by decide +kernel
theorem dX9_readsStep_73 : decode cX9_readsStep 73 = .ok (.aload_n 0, 1) := by decide +kernel
theorem dX9_readsStep_74 : decode cX9_readsStep 74 = .ok (.getfield 15, 3) := by decide +kernel
theorem dX9_readsStep_77 : decode cX9_readsStep 77 = .ok (.iload_n 2, 1) := by decide +kernel
theorem dX9_readsStep_78 : decode cX9_readsStep 78 = .ok (.aload_n 1, 1) := by decide +kernel
theorem dX9_readsStep_79 : decode cX9_readsStep 79 = .ok (.getfield 61, 3) := by decide +kernel
theorem dX9_readsStep_82 : decode cX9_readsStep 82 = .ok (.iastore, 1) := by decide +kernel
theorem dX9_readsStep_83 : decode cX9_readsStep 83 = .ok (.iload 4, 2) := by decide +kernel
theorem dX9_readsStep_85 : decode cX9_readsStep 85 = .ok (.iconst 1, 1) := by decide +kernel
theorem dX9_readsStep_86 : decode cX9_readsStep 86 = .ok (.if_icmp .ne 5, 3) := by decide +kernel
theorem dX9_readsStep_89 : decode cX9_readsStep 89 = .ok (.iconst 1, 1) := by decide +kernel
theorem dX9_readsStep_90 : decode cX9_readsStep 90 = .ok (.ireturn, 1) := by decide +kernel
theorem dX9_readsStep_91 : decode cX9_readsStep 91 = .ok (.aload_n 1, 1) := by decide +kernel
theorem dX9_readsStep_92 : decode cX9_readsStep 92 = .ok (.invokevirtual 57, 3) := by decide +kernel
theorem dX9_readsStep_95 : decode cX9_readsStep 95 = .ok (.ifCond .ne 5, 3) := by decide +kernel
theorem dX9_readsStep_98 : decode cX9_readsStep 98 = .ok (.iconst 0, 1) := by decide +kernel
theorem dX9_readsStep_99 : decode cX9_readsStep 99 = .ok (.ireturn, 1) := by decide +kernel
theorem dX9_readsStep_100 : decode cX9_readsStep 100 = .ok (.aload_n 0, 1) := by decide +kernel
theorem dX9_readsStep_101 : decode cX9_readsStep 101 = .ok (.getfield 18, 3) := by decide +kernel
theorem dX9_readsStep_104 : decode cX9_readsStep 104 = .ok (.iload_n 2, 1) := by decide +kernel
theorem dX9_readsStep_105 : decode cX9_readsStep 105 = .ok (.aload_n 1, 1) := by decide +kernel
theorem dX9_readsStep_106 : decode cX9_readsStep 106 = .ok (.getfield 61, 3) := by decide +kernel
theorem dX9_readsStep_109 : decode cX9_readsStep 109 = .ok (.iastore, 1) := by decide +kernel
theorem dX9_readsStep_110 : decode cX9_readsStep 110 = .ok (.iconst 1, 1) := by decide +kernel
theorem dX9_readsStep_111 : decode cX9_readsStep 111 = .ok (.ireturn, 1) := by decide +kernel
theorem dX10_init_0 : decode cX10_init 0 = .ok (.aload_n 0, 1) := by decide +kernel
theorem dX10_init_1 : decode cX10_init 1 = .ok (.invokespecial 1, 3) := by decide +kernel
theorem dX10_init_4 : decode cX10_init 4 = .ok (.aload_n 0, 1) := by decide +kernel
theorem dX10_init_5 : decode cX10_init 5 = .ok (.new 7, 3) := by decide +kernel
theorem dX10_init_8 : decode cX10_init 8 = .ok (.dup, 1) := by decide +kernel
theorem dX10_init_9 : decode cX10_init 9 = .ok (.invokespecial 9, 3) := by decide +kernel
theorem dX10_init_12 : decode cX10_init 12 = .ok (.putfield 10, 3) := by decide +kernel
theorem dX10_init_15 : decode cX10_init 15 = .ok (.aload_n 0, 1) := by decide +kernel
theorem dX10_init_16 : decode cX10_init 16 = .ok (.new 16, 3) := by decide +kernel
theorem dX10_init_19 : decode cX10_init 19 = .ok (.dup, 1) := by decide +kernel
theorem dX10_init_20 : decode cX10_init 20 = .ok (.invokespecial 18, 3) := by decide +kernel
theorem dX10_init_23 : decode cX10_init 23 = .ok (.putfield 19, 3) := by decide +kernel
theorem dX10_init_26 : decode cX10_init 26 = .ok (.aload_n 0, 1) := by decide +kernel
theorem dX10_init_27 : decode cX10_init 27 = .ok (.new 16, 3) := by decide +kernel
theorem dX10_init_30 : decode cX10_init 30 = .ok (.dup, 1) := by decide +kernel
theorem dX10_init_31 : decode cX10_init 31 = .ok (.invokespecial 18, 3) := by decide +kernel
theorem dX10_init_34 : decode cX10_init 34 = .ok (.putfield 23, 3) := by decide +kernel
theorem dX10_init_37 : decode cX10_init 37 = .ok (.aload_n 0, 1) := by decide +kernel
theorem dX10_init_38 : decode cX10_init 38 = .ok (.new 26, 3) := by decide +kernel
theorem dX10_init_41 : decode cX10_init 41 = .ok (.dup, 1) := by decide +kernel
theorem dX10_init_42 : decode cX10_init 42 = .ok (.aload_n 0, 1) := by decide +kernel
theorem dX10_init_43 : decode cX10_init 43 = .ok (.getfield 10, 3) := by decide +kernel
theorem dX10_init_46 : decode cX10_init 46 = .ok (.invokespecial 28, 3) := by decide +kernel
theorem dX10_init_49 : decode cX10_init 49 = .ok (.putfield 31, 3) := by decide +kernel
theorem dX10_init_52 : decode cX10_init 52 = .ok (.aload_n 0, 1) := by decide +kernel
theorem dX10_init_53 : decode cX10_init 53 = .ok (.new 35, 3) := by decide +kernel
theorem dX10_init_56 : decode cX10_init 56 = .ok (.dup, 1) := by decide +kernel
theorem dX10_init_57 : decode cX10_init 57 = .ok (.aload_n 0, 1) := by decide +kernel
theorem dX10_init_58 : decode cX10_init 58 = .ok (.getfield 19, 3) := by decide +kernel
theorem dX10_init_61 : decode cX10_init 61 = .ok (.invokespecial 37, 3) := by decide +kernel
theorem dX10_init_64 : decode cX10_init 64 = .ok (.putfield 40, 3) := by decide +kernel
theorem dX10_init_67 : decode cX10_init 67 = .ok (.aload_n 0, 1) := by decide +kernel
theorem dX10_init_68 : decode cX10_init 68 = .ok (.iconst 4, 1) := by decide +kernel
theorem dX10_init_69 : decode cX10_init 69 = .ok (.anewarray 44, 3) := by decide +kernel
theorem dX10_init_72 : decode cX10_init 72 = .ok (.putfield 46, 3) := by decide +kernel
theorem dX10_init_75 : decode cX10_init 75 = .ok (.aload_n 0, 1) := by decide +kernel
theorem dX10_init_76 : decode cX10_init 76 = .ok (.new 44, 3) := by decide +kernel
theorem dX10_init_79 : decode cX10_init 79 = .ok (.dup, 1) := by decide +kernel
theorem dX10_init_80 : decode cX10_init 80 = .ok (.invokespecial 50, 3) := by decide +kernel
theorem dX10_init_83 : decode cX10_init 83 = .ok (.putfield 51, 3) := by decide +kernel
theorem dX10_init_86 : decode cX10_init 86 = .ok (.aload_n 0, 1) := by decide +kernel
theorem dX10_init_87 : decode cX10_init 87 = .ok (.new 55, 3) := by decide +kernel
theorem dX10_init_90 : decode cX10_init 90 = .ok (.dup, 1) := by decide +kernel
theorem dX10_init_91 : decode cX10_init 91 = .ok (.aload_n 0, 1) := by decide +kernel
theorem dX10_init_92 : decode cX10_init 92 = .ok (.getfield 19, 3) := by decide +kernel
theorem dX10_init_95 : decode cX10_init 95 = .ok (.invokespecial 57, 3) := by decide +kernel
theorem dX10_init_98 : decode cX10_init 98 = .ok (.putfield 58, 3) := by decide +kernel
theorem dX10_init_101 : decode cX10_init 101 = .ok (.aload_n 0, 1) := by decide +kernel
theorem dX10_init_102 : decode cX10_init 102 = .ok (.new 55, 3) := by decide +kernel
theorem dX10_init_105 : decode cX10_init 105 = .ok (.dup, 1) := by decide +kernel
theorem dX10_init_106 : decode cX10_init 106 = .ok (.aload_n 0, 1) := by decide +kernel
theorem dX10_init_107 : decode cX10_init 107 = .ok (.getfield 19, 3) := by decide +kernel
theorem dX10_init_110 : decode cX10_init 110 = .ok (.invokespecial 57, 3) := by decide +kernel
theorem dX10_init_113 : decode cX10_init 113 = .ok (.putfield 62, 3) := by decide +kernel
theorem dX10_init_116 : decode cX10_init 116 = .ok (.aload_n 0, 1) := by decide +kernel
theorem dX10_init_117 : decode cX10_init 117 = .ok (.new 55, 3) := by decide +kernel
theorem dX10_init_120 : decode cX10_init 120 = .ok (.dup, 1) := by decide +kernel
theorem dX10_init_121 : decode cX10_init 121 = .ok (.aload_n 0, 1) := by decide +kernel
theorem dX10_init_122 : decode cX10_init 122 = .ok (.getfield 19, 3) := by decide +kernel
theorem dX10_init_125 : decode cX10_init 125 = .ok (.invokespecial 57, 3) := by decide +kernel
theorem dX10_init_128 : decode cX10_init 128 = .ok (.putfield 65, 3) := by decide +kernel
theorem dX10_init_131 : decode cX10_init 131 = .ok (.aload_n 0, 1) := by decide +kernel
theorem dX10_init_132 : decode cX10_init 132 = .ok (.new 68, 3) := by decide +kernel
theorem dX10_init_135 : decode cX10_init 135 = .ok (.dup, 1) := by decide +kernel
theorem dX10_init_136 : decode cX10_init 136 = .ok (.invokespecial 70, 3) := by decide +kernel
theorem dX10_init_139 : decode cX10_init 139 = .ok (.putfield 71, 3) := by decide +kernel
theorem dX10_init_142 : decode cX10_init 142 = .ok (.aload_n 0, 1) := by decide +kernel
theorem dX10_init_143 : decode cX10_init 143 = .ok (.new 75, 3) := by decide +kernel
theorem dX10_init_146 : decode cX10_init 146 = .ok (.dup, 1) := by decide +kernel
theorem dX10_init_147 : decode cX10_init 147 = .ok (.aload_n 0, 1) := by decide +kernel
theorem dX10_init_148 : decode cX10_init 148 = .ok (.getfield 19, 3) := by decide +kernel
theorem dX10_init_151 : decode cX10_init 151 = .ok (.aload_n 0, 1) := by decide +kernel
theorem dX10_init_152 : decode cX10_init 152 = .ok (.getfield 40, 3) := by decide +kernel
theorem dX10_init_155 : decode cX10_init 155 = .ok (.invokespecial 77, 3) := by decide +kernel
theorem dX10_init_158 : decode cX10_init 158 = .ok (.putfield 80, 3) := by decide +kernel
theorem dX10_init_161 : decode cX10_init 161 = .ok (.aload_n 0, 1) := by decide +kernel
theorem dX10_init_162 : decode cX10_init 162 = .ok (.new 84, 3) := by decide +kernel
theorem dX10_init_165 : decode cX10_init 165 = .ok (.dup, 1) := by decide +kernel
theorem dX10_init_166 : decode cX10_init 166 = .ok (.invokespecial 86, 3) := by decide +kernel
theorem dX10_init_169 : decode cX10_init 169 = .ok (.putfield 87, 3) := by decide +kernel
theorem dX10_init_172 : decode cX10_init 172 = .ok (.aload_n 0, 1) := by decide +kernel
theorem dX10_init_173 : decode cX10_init 173 = .ok (.iconst 5, 1) := by decide +kernel
theorem dX10_init_174 : decode cX10_init 174 = .ok (.putfield 91, 3) := by decide +kernel
theorem dX10_init_177 : decode cX10_init 177 = .ok (.return_, 1) := by decide +kernel
theorem dX10_feed_0 : decode cX10_feed 0 = .ok (.iload_n 1, 1) := by decide +kernel
theorem dX10_feed_1 : decode cX10_feed 1 = .ok (.invokestatic 95, 3) := by decide +kernel
theorem dX10_feed_4 : decode cX10_feed 4 = .ok (.iload_n 2, 1) := by decide +kernel
theorem dX10_feed_5 : decode cX10_feed 5 = .ok (.invokestatic 95, 3) := by decide +kernel
theorem dX10_feed_8 : decode cX10_feed 8 = .ok (.iadd, 1) := by decide +kernel
theorem dX10_feed_9 : decode cX10_feed 9 = .ok (.iload_n 3, 1) := by decide +kernel
theorem dX10_feed_10 : decode cX10_feed 10 = .ok (.invokestatic 95, 3) := by decide +kernel
theorem dX10_feed_13 : decode cX10_feed 13 = .ok (.iadd, 1) := by decide +kernel
theorem dX10_feed_14 : decode cX10_feed 14 = .ok (.iload 4, 2) := by decide +kernel
theorem dX10_feed_16 : decode cX10_feed 16 = .ok (.invokestatic 95, 3) := by decide +kernel
theorem dX10_feed_19 : decode cX10_feed 19 = .ok (.iadd, 1) := by decide +kernel
theorem dX10_feed_20 : decode cX10_feed 20 = .ok (.iload 5, 2) := by decide +kernel
theorem dX10_feed_22 : decode cX10_feed 22 = .ok (.invokestatic 95, 3) := by decide +kernel
theorem dX10_feed_25 : decode cX10_feed 25 = .ok (.iadd, 1) := by decide +kernel
theorem dX10_feed_26 : decode cX10_feed 26 = .ok (.istore 6, 2) := by decide +kernel
theorem dX10_feed_28 : decode cX10_feed 28 = .ok (.aload_n 0, 1) := by decide +kernel
theorem dX10_feed_29 : decode cX10_feed 29 = .ok (.getfield 10, 3) := by decide +kernel
theorem dX10_feed_32 : decode cX10_feed 32 = .ok (.getfield 99, 3) := by decide +kernel
theorem dX10_feed_35 : decode cX10_feed 35 = .ok (.iload 6, 2) := by decide +kernel
theorem dX10_feed_37 : decode cX10_feed 37 = .ok (.iadd, 1) := by decide +kernel
theorem dX10_feed_38 : decode cX10_feed 38 = .ok (.sipush 240, 3) := by decide +kernel
theorem dX10_feed_41 : decode cX10_feed 41 = .ok (.if_icmp .le 5, 3) := by decide +kernel
theorem dX10_feed_44 : decode cX10_feed 44 = .ok (.iconst (-1), 1) := by decide +kernel
theorem dX10_feed_45 : decode cX10_feed 45 = .ok (.ireturn, 1) := by decide +kernel
theorem dX10_feed_46 : decode cX10_feed 46 = .ok (.aload_n 0, 1) := by decide +kernel
theorem dX10_feed_47 : decode cX10_feed 47 = .ok (.getfield 10, 3) := by decide +kernel
theorem dX10_feed_50 : decode cX10_feed 50 = .ok (.iload_n 1, 1) := by decide +kernel
theorem dX10_feed_51 : decode cX10_feed 51 = .ok (.invokevirtual 102, 3) := by decide +kernel
theorem dX10_feed_54 : decode cX10_feed 54 = .ok (.aload_n 0, 1) := by decide +kernel
theorem dX10_feed_55 : decode cX10_feed 55 = .ok (.getfield 10, 3) := by decide +kernel
theorem dX10_feed_58 : decode cX10_feed 58 = .ok (.iload_n 2, 1) := by decide +kernel
theorem dX10_feed_59 : decode cX10_feed 59 = .ok (.invokevirtual 102, 3) := by decide +kernel
theorem dX10_feed_62 : decode cX10_feed 62 = .ok (.aload_n 0, 1) := by decide +kernel
theorem dX10_feed_63 : decode cX10_feed 63 = .ok (.getfield 10, 3) := by decide +kernel
theorem dX10_feed_66 : decode cX10_feed 66 = .ok (.iload_n 3, 1) := by decide +kernel
theorem dX10_feed_67 : decode cX10_feed 67 = .ok (.invokevirtual 102, 3) := by decide +kernel
theorem dX10_feed_70 : decode cX10_feed 70 = .ok (.aload_n 0, 1) := by decide +kernel
theorem dX10_feed_71 : decode cX10_feed 71 = .ok (.getfield 10, 3) := by decide +kernel
theorem dX10_feed_74 : decode cX10_feed 74 = .ok (.iload 4, 2) := by decide +kernel
theorem dX10_feed_76 : decode cX10_feed 76 = .ok (.invokevirtual 102, 3) := by decide +kernel
theorem dX10_feed_79 : decode cX10_feed 79 = .ok (.aload_n 0, 1) := by decide +kernel
theorem dX10_feed_80 : decode cX10_feed 80 = .ok (.getfield 10, 3) := by decide +kernel
theorem dX10_feed_83 : decode cX10_feed 83 = .ok (.iload 5, 2) := by decide +kernel
theorem dX10_feed_85 : decode cX10_feed 85 = .ok (.invokevirtual 102, 3) := by decide +kernel
theorem dX10_feed_88 : decode cX10_feed 88 = .ok (.aload_n 0, 1) := by decide +kernel
theorem dX10_feed_89 : decode cX10_feed 89 = .ok (.getfield 10, 3) := by decide +kernel
theorem dX10_feed_92 : decode cX10_feed 92 = .ok (.getfield 99, 3) := by decide +kernel
theorem dX10_feed_95 : decode cX10_feed 95 = .ok (.ireturn, 1) := by decide +kernel
theorem dX10_end_0 : decode cX10_end 0 = .ok (.iload_n 1, 1) := by decide +kernel
theorem dX10_end_1 : decode cX10_end 1 = .ok (.ifCond .lt 14, 3) := by decide +kernel
theorem dX10_end_4 : decode cX10_end 4 = .ok (.iload_n 1, 1) := by decide +kernel
theorem dX10_end_5 : decode cX10_end 5 = .ok (.aload_n 0, 1) := by decide +kernel
theorem dX10_end_6 : decode cX10_end 6 = .ok (.getfield 10, 3) := by decide +kernel
theorem dX10_end_9 : decode cX10_end 9 = .ok (.getfield 99, 3) := by decide +kernel
theorem dX10_end_12 : decode cX10_end 12 = .ok (.if_icmp .le 5, 3) := by decide +kernel
theorem dX10_end_15 : decode cX10_end 15 = .ok (.iconst 0, 1) := by decide +kernel
theorem dX10_end_16 : decode cX10_end 16 = .ok (.ireturn, 1) := by decide +kernel
theorem dX10_end_17 : decode cX10_end 17 = .ok (.aload_n 0, 1) := by decide +kernel
theorem dX10_end_18 : decode cX10_end 18 = .ok (.getfield 10, 3) := by decide +kernel
theorem dX10_end_21 : decode cX10_end 21 = .ok (.iload_n 1, 1) := by decide +kernel
theorem dX10_end_22 : decode cX10_end 22 = .ok (.putfield 99, 3) := by decide +kernel
theorem dX10_end_25 : decode cX10_end 25 = .ok (.iconst 1, 1) := by decide +kernel
theorem dX10_end_26 : decode cX10_end 26 = .ok (.ireturn, 1) := by decide +kernel
theorem dX10_fault_0 : decode cX10_fault 0 = .ok (.iload_n 1, 1) := by decide +kernel
theorem dX10_fault_1 : decode cX10_fault 1 = .ok (.tableswitch 59 0 2 #[27, 39, 47], 27) := by decide +kernel
theorem dX10_fault_28 : decode cX10_fault 28 = .ok (.aload_n 0, 1) := by decide +kernel
theorem dX10_fault_29 : decode cX10_fault 29 = .ok (.getfield 23, 3) := by decide +kernel
theorem dX10_fault_32 : decode cX10_fault 32 = .ok (.aload_n 0, 1) := by decide +kernel
theorem dX10_fault_33 : decode cX10_fault 33 = .ok (.getfield 10, 3) := by decide +kernel
theorem dX10_fault_36 : decode cX10_fault 36 = .ok (.invokevirtual 106, 3) := by decide +kernel
theorem dX10_fault_39 : decode cX10_fault 39 = .ok (.ireturn, 1) := by decide +kernel
theorem dX10_fault_40 : decode cX10_fault 40 = .ok (.aload_n 0, 1) := by decide +kernel
theorem dX10_fault_41 : decode cX10_fault 41 = .ok (.getfield 31, 3) := by decide +kernel
theorem dX10_fault_44 : decode cX10_fault 44 = .ok (.invokevirtual 110, 3) := by decide +kernel
theorem dX10_fault_47 : decode cX10_fault 47 = .ok (.ireturn, 1) := by decide +kernel
theorem dX10_fault_48 : decode cX10_fault 48 = .ok (.aload_n 0, 1) := by decide +kernel
theorem dX10_fault_49 : decode cX10_fault 49 = .ok (.getfield 51, 3) := by decide +kernel
theorem dX10_fault_52 : decode cX10_fault 52 = .ok (.aload_n 0, 1) := by decide +kernel
theorem dX10_fault_53 : decode cX10_fault 53 = .ok (.getfield 10, 3) := by decide +kernel
theorem dX10_fault_56 : decode cX10_fault 56 = .ok (.invokevirtual 114, 3) := by decide +kernel
theorem dX10_fault_59 : decode cX10_fault 59 = .ok (.ireturn, 1) := by decide +kernel
theorem dX10_fault_60 : decode cX10_fault 60 = .ok (.bipush (-2), 2) := by decide +kernel
theorem dX10_fault_62 : decode cX10_fault 62 = .ok (.ireturn, 1) := by decide +kernel
theorem dX10_text_0 : decode cX10_text 0 = .ok (.aload_n 0, 1) := by decide +kernel
theorem dX10_text_1 : decode cX10_text 1 = .ok (.iload_n 1, 1) := by decide +kernel
theorem dX10_text_2 : decode cX10_text 2 = .ok (.invokevirtual 115, 3) := by decide +kernel
theorem dX10_text_5 : decode cX10_text 5 = .ok (.iconst (-1), 1) := by decide +kernel
theorem dX10_text_6 : decode cX10_text 6 = .ok (.if_icmp .eq 5, 3) := by decide +kernel
theorem dX10_text_9 : decode cX10_text 9 = .ok (.iconst (-1), 1) := by decide +kernel
theorem dX10_text_10 : decode cX10_text 10 = .ok (.ireturn, 1) := by decide +kernel
theorem dX10_text_11 : decode cX10_text 11 = .ok (.iload_n 1, 1) := by decide +kernel
theorem dX10_text_12 : decode cX10_text 12 = .ok (.lookupswitch 38 #[(0, 28), (1, 33)], 28) := by decide +kernel
theorem dX10_text_40 : decode cX10_text 40 = .ok (.aload_n 0, 1) := by decide +kernel
theorem dX10_text_41 : decode cX10_text 41 = .ok (.invokevirtual 118, 3) := by decide +kernel
theorem dX10_text_44 : decode cX10_text 44 = .ok (.ireturn, 1) := by decide +kernel
theorem dX10_text_45 : decode cX10_text 45 = .ok (.aload_n 0, 1) := by decide +kernel
theorem dX10_text_46 : decode cX10_text 46 = .ok (.invokevirtual 121, 3) := by decide +kernel
theorem dX10_text_49 : decode cX10_text 49 = .ok (.ireturn, 1) := by decide +kernel
theorem dX10_text_50 : decode cX10_text 50 = .ok (.aload_n 0, 1) := by decide +kernel
theorem dX10_text_51 : decode cX10_text 51 = .ok (.invokevirtual 124, 3) := by decide +kernel
theorem dX10_text_54 : decode cX10_text 54 = .ok (.ireturn, 1) := by decide +kernel
theorem dX10_foundTown_0 : decode cX10_foundTown 0 = .ok (.aload_n 0, 1) := by decide +kernel
theorem dX10_foundTown_1 : decode cX10_foundTown 1 = .ok (.getfield 19, 3) := by decide +kernel
theorem dX10_foundTown_4 : decode cX10_foundTown 4 = .ok (.aload_n 0, 1) := by decide +kernel
theorem dX10_foundTown_5 : decode cX10_foundTown 5 = .ok (.getfield 23, 3) := by decide +kernel
theorem dX10_foundTown_8 : decode cX10_foundTown 8 = .ok (.invokevirtual 127, 3) := by decide +kernel
theorem dX10_foundTown_11 : decode cX10_foundTown 11 = .ok (.aload_n 0, 1) := by decide +kernel
theorem dX10_foundTown_12 : decode cX10_foundTown 12 = .ok (.getfield 58, 3) := by decide +kernel
theorem dX10_foundTown_15 : decode cX10_foundTown 15 = .ok (.invokevirtual 130, 3) := by decide +kernel
theorem dX10_foundTown_18 : decode cX10_foundTown 18 = .ok (.aload_n 0, 1) := by decide +kernel
theorem dX10_foundTown_19 : decode cX10_foundTown 19 = .ok (.getfield 71, 3) := by decide +kernel
theorem dX10_foundTown_22 : decode cX10_foundTown 22 = .ok (.invokevirtual 133, 3) := by decide +kernel
theorem dX10_foundTown_25 : decode cX10_foundTown 25 = .ok (.aload_n 0, 1) := by decide +kernel
theorem dX10_foundTown_26 : decode cX10_foundTown 26 = .ok (.getfield 80, 3) := by decide +kernel
theorem dX10_foundTown_29 : decode cX10_foundTown 29 = .ok (.invokevirtual 136, 3) := by decide +kernel
theorem dX10_foundTown_32 : decode cX10_foundTown 32 = .ok (.aload_n 0, 1) := by decide +kernel
theorem dX10_foundTown_33 : decode cX10_foundTown 33 = .ok (.iconst 0, 1) := by decide +kernel
theorem dX10_foundTown_34 : decode cX10_foundTown 34 = .ok (.putfield 137, 3) := by decide +kernel
theorem dX10_foundTown_37 : decode cX10_foundTown 37 = .ok (.aload_n 0, 1) := by decide +kernel
theorem dX10_foundTown_38 : decode cX10_foundTown 38 = .ok (.getfield 10, 3) := by decide +kernel
theorem dX10_foundTown_41 : decode cX10_foundTown 41 = .ok (.iconst 0, 1) := by decide +kernel
theorem dX10_foundTown_42 : decode cX10_foundTown 42 = .ok (.putfield 99, 3) := by decide +kernel
theorem dX10_foundTown_45 : decode cX10_foundTown 45 = .ok (.aload_n 0, 1) := by decide +kernel
theorem dX10_foundTown_46 : decode cX10_foundTown 46 = .ok (.getfield 19, 3) := by decide +kernel
theorem dX10_foundTown_49 : decode cX10_foundTown 49 = .ok (.getfield 141, 3) := by decide +kernel
theorem dX10_foundTown_52 : decode cX10_foundTown 52 = .ok (.ireturn, 1) := by decide +kernel
theorem dX10_addLaw_0 : decode cX10_addLaw 0 = .ok (.aload_n 0, 1) := by decide +kernel
theorem dX10_addLaw_1 : decode cX10_addLaw 1 = .ok (.getfield 40, 3) := by decide +kernel
theorem dX10_addLaw_4 : decode cX10_addLaw 4 = .ok (.getfield 144, 3) := by decide +kernel
theorem dX10_addLaw_7 : decode cX10_addLaw 7 = .ok (.iconst 4, 1) := by decide +kernel
theorem dX10_addLaw_8 : decode cX10_addLaw 8 = .ok (.if_icmp .ne 5, 3) := by decide +kernel
theorem dX10_addLaw_11 : decode cX10_addLaw 11 = .ok (.iconst (-1), 1) := by decide +kernel
theorem dX10_addLaw_12 : decode cX10_addLaw 12 = .ok (.ireturn, 1) := by decide +kernel
theorem dX10_addLaw_13 : decode cX10_addLaw 13 = .ok (.aload_n 0, 1) := by decide +kernel
theorem dX10_addLaw_14 : decode cX10_addLaw 14 = .ok (.getfield 10, 3) := by decide +kernel
theorem dX10_addLaw_17 : decode cX10_addLaw 17 = .ok (.iconst 0, 1) := by decide +kernel
theorem dX10_addLaw_18 : decode cX10_addLaw 18 = .ok (.putfield 99, 3) := by decide +kernel
theorem dX10_addLaw_21 : decode cX10_addLaw 21 = .ok (.aload_n 0, 1) := by decide +kernel
theorem dX10_addLaw_22 : decode cX10_addLaw 22 = .ok (.getfield 40, 3) := by decide +kernel
theorem dX10_addLaw_25 : decode cX10_addLaw 25 = .ok (.aload_n 0, 1) := by decide +kernel
theorem dX10_addLaw_26 : decode cX10_addLaw 26 = .ok (.getfield 31, 3) := by decide +kernel
theorem dX10_addLaw_29 : decode cX10_addLaw 29 = .ok (.invokevirtual 147, 3) := by decide +kernel
theorem dX10_addLaw_32 : decode cX10_addLaw 32 = .ok (.invokevirtual 151, 3) := by decide +kernel
theorem dX10_addLaw_35 : decode cX10_addLaw 35 = .ok (.ireturn, 1) := by decide +kernel
theorem dX10_addWeek_0 : decode cX10_addWeek 0 = .ok (.aload_n 0, 1) := by decide +kernel
theorem dX10_addWeek_1 : decode cX10_addWeek 1 = .ok (.getfield 155, 3) := by decide +kernel
theorem dX10_addWeek_4 : decode cX10_addWeek 4 = .ok (.iconst 4, 1) := by decide +kernel
theorem dX10_addWeek_5 : decode cX10_addWeek 5 = .ok (.if_icmp .ne 5, 3) := by decide +kernel
theorem dX10_addWeek_8 : decode cX10_addWeek 8 = .ok (.iconst (-1), 1) := by decide +kernel
theorem dX10_addWeek_9 : decode cX10_addWeek 9 = .ok (.ireturn, 1) := by decide +kernel
theorem dX10_addWeek_10 : decode cX10_addWeek 10 = .ok (.aload_n 0, 1) := by decide +kernel
theorem dX10_addWeek_11 : decode cX10_addWeek 11 = .ok (.getfield 46, 3) := by decide +kernel
theorem dX10_addWeek_14 : decode cX10_addWeek 14 = .ok (.aload_n 0, 1) := by decide +kernel
theorem dX10_addWeek_15 : decode cX10_addWeek 15 = .ok (.getfield 155, 3) := by decide +kernel
theorem dX10_addWeek_18 : decode cX10_addWeek 18 = .ok (.aload_n 0, 1) := by decide +kernel
theorem dX10_addWeek_19 : decode cX10_addWeek 19 = .ok (.getfield 51, 3) := by decide +kernel
theorem dX10_addWeek_22 : decode cX10_addWeek 22 = .ok (.aastore, 1) := by decide +kernel
theorem dX10_addWeek_23 : decode cX10_addWeek 23 = .ok (.aload_n 0, 1) := by decide +kernel
theorem dX10_addWeek_24 : decode cX10_addWeek 24 = .ok (.new 44, 3) := by decide +kernel
theorem dX10_addWeek_27 : decode cX10_addWeek 27 = .ok (.dup, 1) := by decide +kernel
theorem dX10_addWeek_28 : decode cX10_addWeek 28 = .ok (.invokespecial 50, 3) := by decide +kernel
theorem dX10_addWeek_31 : decode cX10_addWeek 31 = .ok (.putfield 51, 3) := by decide +kernel
theorem dX10_addWeek_34 : decode cX10_addWeek 34 = .ok (.aload_n 0, 1) := by decide +kernel
theorem dX10_addWeek_35 : decode cX10_addWeek 35 = .ok (.getfield 10, 3) := by decide +kernel
theorem dX10_addWeek_38 : decode cX10_addWeek 38 = .ok (.iconst 0, 1) := by decide +kernel
theorem dX10_addWeek_39 : decode cX10_addWeek 39 = .ok (.putfield 99, 3) := by decide +kernel
theorem dX10_addWeek_42 : decode cX10_addWeek 42 = .ok (.aload_n 0, 1) := by decide +kernel
theorem dX10_addWeek_43 : decode cX10_addWeek 43 = .ok (.dup, 1) := by decide +kernel
theorem dX10_addWeek_44 : decode cX10_addWeek 44 = .ok (.getfield 155, 3) := by decide +kernel
theorem dX10_addWeek_47 : decode cX10_addWeek 47 = .ok (.iconst 1, 1) := by decide +kernel
theorem dX10_addWeek_48 : decode cX10_addWeek 48 = .ok (.iadd, 1) := by decide +kernel
theorem dX10_addWeek_49 : decode cX10_addWeek 49 = .ok (.putfield 155, 3) := by decide +kernel
theorem dX10_addWeek_52 : decode cX10_addWeek 52 = .ok (.aload_n 0, 1) := by decide +kernel
theorem dX10_addWeek_53 : decode cX10_addWeek 53 = .ok (.getfield 155, 3) := by decide +kernel
theorem dX10_addWeek_56 : decode cX10_addWeek 56 = .ok (.iconst 1, 1) := by decide +kernel
theorem dX10_addWeek_57 : decode cX10_addWeek 57 = .ok (.isub, 1) := by decide +kernel
theorem dX10_addWeek_58 : decode cX10_addWeek 58 = .ok (.ireturn, 1) := by decide +kernel
theorem dX10_person_0 : decode cX10_person 0 = .ok (.aload_n 0, 1) := by decide +kernel
theorem dX10_person_1 : decode cX10_person 1 = .ok (.getfield 19, 3) := by decide +kernel
theorem dX10_person_4 : decode cX10_person 4 = .ok (.iload_n 1, 1) := by decide +kernel
theorem dX10_person_5 : decode cX10_person 5 = .ok (.invokevirtual 158, 3) := by decide +kernel
theorem dX10_person_8 : decode cX10_person 8 = .ok (.ifCond .eq 12, 3) := by decide +kernel
theorem dX10_person_11 : decode cX10_person 11 = .ok (.iload_n 2, 1) := by decide +kernel
theorem dX10_person_12 : decode cX10_person 12 = .ok (.ifCond .lt 8, 3) := by decide +kernel
theorem dX10_person_15 : decode cX10_person 15 = .ok (.iload_n 2, 1) := by decide +kernel
theorem dX10_person_16 : decode cX10_person 16 = .ok (.iconst 4, 1) := by decide +kernel
theorem dX10_person_17 : decode cX10_person 17 = .ok (.if_icmp .le 11, 3) := by decide +kernel
theorem dX10_person_20 : decode cX10_person 20 = .ok (.new 162, 3) := by decide +kernel
theorem dX10_person_23 : decode cX10_person 23 = .ok (.dup, 1) := by decide +kernel
theorem dX10_person_24 : decode cX10_person 24 = .ok (.invokespecial 164, 3) := by decide +kernel
theorem dX10_person_27 : decode cX10_person 27 = .ok (.athrow, 1) := by decide +kernel
theorem dX10_person_28 : decode cX10_person 28 = .ok (.iload_n 2, 1) := by decide +kernel
theorem dX10_person_29 : decode cX10_person 29 = .ok (.tableswitch 69 0 3 #[31, 40, 50, 60], 31) := by decide +kernel
theorem dX10_person_60 : decode cX10_person 60 = .ok (.aload_n 0, 1) := by decide +kernel
theorem dX10_person_61 : decode cX10_person 61 = .ok (.getfield 58, 3) := by decide +kernel
theorem dX10_person_64 : decode cX10_person 64 = .ok (.iload_n 1, 1) := by decide +kernel
theorem dX10_person_65 : decode cX10_person 65 = .ok (.invokevirtual 165, 3) := by decide +kernel
theorem dX10_person_68 : decode cX10_person 68 = .ok (.ireturn, 1) := by decide +kernel
theorem dX10_person_69 : decode cX10_person 69 = .ok (.aload_n 0, 1) := by decide +kernel
theorem dX10_person_70 : decode cX10_person 70 = .ok (.getfield 19, 3) := by decide +kernel
theorem dX10_person_73 : decode cX10_person 73 = .ok (.getfield 168, 3) := by decide +kernel
theorem dX10_person_76 : decode cX10_person 76 = .ok (.iload_n 1, 1) := by decide +kernel
theorem dX10_person_77 : decode cX10_person 77 = .ok (.iaload, 1) := by decide +kernel
theorem dX10_person_78 : decode cX10_person 78 = .ok (.ireturn, 1) := by decide +kernel
theorem dX10_person_79 : decode cX10_person 79 = .ok (.aload_n 0, 1) := by decide +kernel
theorem dX10_person_80 : decode cX10_person 80 = .ok (.getfield 19, 3) := by decide +kernel
theorem dX10_person_83 : decode cX10_person 83 = .ok (.getfield 172, 3) := by decide +kernel
theorem dX10_person_86 : decode cX10_person 86 = .ok (.iload_n 1, 1) := by decide +kernel
theorem dX10_person_87 : decode cX10_person 87 = .ok (.iaload, 1) := by decide +kernel
theorem dX10_person_88 : decode cX10_person 88 = .ok (.ireturn, 1) := by decide +kernel
theorem dX10_person_89 : decode cX10_person 89 = .ok (.aload_n 0, 1) := by decide +kernel
theorem dX10_person_90 : decode cX10_person 90 = .ok (.getfield 58, 3) := by decide +kernel
theorem dX10_person_93 : decode cX10_person 93 = .ok (.iload_n 1, 1) := by decide +kernel
theorem dX10_person_94 : decode cX10_person 94 = .ok (.invokevirtual 175, 3) := by decide +kernel
theorem dX10_person_97 : decode cX10_person 97 = .ok (.ireturn, 1) := by decide +kernel
theorem dX10_person_98 : decode cX10_person 98 = .ok (.aload_n 0, 1) := by decide +kernel
theorem dX10_person_99 : decode cX10_person 99 = .ok (.getfield 58, 3) := by decide +kernel
theorem dX10_person_102 : decode cX10_person 102 = .ok (.iload_n 1, 1) := by decide +kernel
theorem dX10_person_103 : decode cX10_person 103 = .ok (.invokevirtual 178, 3) := by decide +kernel
theorem dX10_person_106 : decode cX10_person 106 = .ok (.ifCond .eq 7, 3) := by decide +kernel
theorem dX10_person_109 : decode cX10_person 109 = .ok (.iconst 1, 1) := by decide +kernel
theorem dX10_person_110 : decode cX10_person 110 = .ok (.goto 4, 3) := by decide +kernel
theorem dX10_person_113 : decode cX10_person 113 = .ok (.iconst 0, 1) := by decide +kernel
theorem dX10_person_114 : decode cX10_person 114 = .ok (.ireturn, 1) := by decide +kernel
theorem dX10_deed_0 : decode cX10_deed 0 = .ok (.aload_n 0, 1) := by decide +kernel
theorem dX10_deed_1 : decode cX10_deed 1 = .ok (.getfield 19, 3) := by decide +kernel
theorem dX10_deed_4 : decode cX10_deed 4 = .ok (.iload_n 1, 1) := by decide +kernel
theorem dX10_deed_5 : decode cX10_deed 5 = .ok (.invokevirtual 181, 3) := by decide +kernel
theorem dX10_deed_8 : decode cX10_deed 8 = .ok (.ifCond .ne 5, 3) := by decide +kernel
theorem dX10_deed_11 : decode cX10_deed 11 = .ok (.iconst (-1), 1) := by decide +kernel
theorem dX10_deed_12 : decode cX10_deed 12 = .ok (.ireturn, 1) := by decide +kernel
theorem dX10_deed_13 : decode cX10_deed 13 = .ok (.iload_n 2, 1) := by decide +kernel
theorem dX10_deed_14 : decode cX10_deed 14 = .ok (.tableswitch 56 0 2 #[26, 36, 46], 26) := by decide +kernel
theorem dX10_deed_40 : decode cX10_deed 40 = .ok (.aload_n 0, 1) := by decide +kernel
theorem dX10_deed_41 : decode cX10_deed 41 = .ok (.getfield 19, 3) := by decide +kernel
theorem dX10_deed_44 : decode cX10_deed 44 = .ok (.getfield 184, 3) := by decide +kernel
theorem dX10_deed_47 : decode cX10_deed 47 = .ok (.iload_n 1, 1) := by decide +kernel
theorem dX10_deed_48 : decode cX10_deed 48 = .ok (.iaload, 1) := by decide +kernel
theorem dX10_deed_49 : decode cX10_deed 49 = .ok (.ireturn, 1) := by decide +kernel
theorem dX10_deed_50 : decode cX10_deed 50 = .ok (.aload_n 0, 1) := by decide +kernel
theorem dX10_deed_51 : decode cX10_deed 51 = .ok (.getfield 19, 3) := by decide +kernel
theorem dX10_deed_54 : decode cX10_deed 54 = .ok (.getfield 187, 3) := by decide +kernel
theorem dX10_deed_57 : decode cX10_deed 57 = .ok (.iload_n 1, 1) := by decide +kernel
theorem dX10_deed_58 : decode cX10_deed 58 = .ok (.iaload, 1) := by decide +kernel
theorem dX10_deed_59 : decode cX10_deed 59 = .ok (.ireturn, 1) := by decide +kernel
theorem dX10_deed_60 : decode cX10_deed 60 = .ok (.aload_n 0, 1) := by decide +kernel
theorem dX10_deed_61 : decode cX10_deed 61 = .ok (.getfield 19, 3) := by decide +kernel
theorem dX10_deed_64 : decode cX10_deed 64 = .ok (.getfield 190, 3) := by decide +kernel
theorem dX10_deed_67 : decode cX10_deed 67 = .ok (.iload_n 1, 1) := by decide +kernel
theorem dX10_deed_68 : decode cX10_deed 68 = .ok (.iaload, 1) := by decide +kernel
theorem dX10_deed_69 : decode cX10_deed 69 = .ok (.ireturn, 1) := by decide +kernel
theorem dX10_deed_70 : decode cX10_deed 70 = .ok (.iconst (-1), 1) := by decide +kernel
theorem dX10_deed_71 : decode cX10_deed 71 = .ok (.ireturn, 1) := by decide +kernel
theorem dX10_left_0 : decode cX10_left 0 = .ok (.aload_n 0, 1) := by decide +kernel
theorem dX10_left_1 : decode cX10_left 1 = .ok (.getfield 19, 3) := by decide +kernel
theorem dX10_left_4 : decode cX10_left 4 = .ok (.iload_n 1, 1) := by decide +kernel
theorem dX10_left_5 : decode cX10_left 5 = .ok (.iload_n 2, 1) := by decide +kernel
theorem dX10_left_6 : decode cX10_left 6 = .ok (.invokevirtual 193, 3) := by decide +kernel
theorem dX10_left_9 : decode cX10_left 9 = .ok (.ifCond .eq 15, 3) := by decide +kernel
theorem dX10_left_12 : decode cX10_left 12 = .ok (.aload_n 0, 1) := by decide +kernel
theorem dX10_left_13 : decode cX10_left 13 = .ok (.getfield 58, 3) := by decide +kernel
theorem dX10_left_16 : decode cX10_left 16 = .ok (.iload_n 1, 1) := by decide +kernel
theorem dX10_left_17 : decode cX10_left 17 = .ok (.iload_n 2, 1) := by decide +kernel
theorem dX10_left_18 : decode cX10_left 18 = .ok (.invokevirtual 197, 3) := by decide +kernel
theorem dX10_left_21 : decode cX10_left 21 = .ok (.goto 4, 3) := by decide +kernel
theorem dX10_left_24 : decode cX10_left 24 = .ok (.iconst (-1), 1) := by decide +kernel
theorem dX10_left_25 : decode cX10_left 25 = .ok (.ireturn, 1) := by decide +kernel
theorem dX10_law_0 : decode cX10_law 0 = .ok (.aload_n 0, 1) := by decide +kernel
theorem dX10_law_1 : decode cX10_law 1 = .ok (.getfield 40, 3) := by decide +kernel
theorem dX10_law_4 : decode cX10_law 4 = .ok (.iload_n 1, 1) := by decide +kernel
theorem dX10_law_5 : decode cX10_law 5 = .ok (.invokevirtual 201, 3) := by decide +kernel
theorem dX10_law_8 : decode cX10_law 8 = .ok (.ireturn, 1) := by decide +kernel
theorem dX10_rumour_0 : decode cX10_rumour 0 = .ok (.iload_n 1, 1) := by decide +kernel
theorem dX10_rumour_1 : decode cX10_rumour 1 = .ok (.ifCond .lt 17, 3) := by decide +kernel
theorem dX10_rumour_4 : decode cX10_rumour 4 = .ok (.iload_n 1, 1) := by decide +kernel
theorem dX10_rumour_5 : decode cX10_rumour 5 = .ok (.bipush 9, 2) := by decide +kernel
theorem dX10_rumour_7 : decode cX10_rumour 7 = .ok (.if_icmp .gt 11, 3) := by decide +kernel
theorem dX10_rumour_10 : decode cX10_rumour 10 = .ok (.iload_n 1, 1) := by decide +kernel
theorem dX10_rumour_11 : decode cX10_rumour 11 = .ok (.aload_n 0, 1) := by decide +kernel
theorem dX10_rumour_12 : decode cX10_rumour 12 = .ok (.getfield 91, 3) := by decide +kernel
theorem dX10_rumour_15 : decode cX10_rumour 15 = .ok (.if_icmp .ne 5, 3) := by decide +kernel
theorem dX10_rumour_18 : decode cX10_rumour 18 = .ok (.iconst 0, 1) := by decide +kernel
theorem dX10_rumour_19 : decode cX10_rumour 19 = .ok (.ireturn, 1) := by decide +kernel
theorem dX10_rumour_20 : decode cX10_rumour 20 = .ok (.aload_n 0, 1) := by decide +kernel
theorem dX10_rumour_21 : decode cX10_rumour 21 = .ok (.iload_n 1, 1) := by decide +kernel
theorem dX10_rumour_22 : decode cX10_rumour 22 = .ok (.putfield 91, 3) := by decide +kernel
theorem dX10_rumour_25 : decode cX10_rumour 25 = .ok (.iconst 1, 1) := by decide +kernel
theorem dX10_rumour_26 : decode cX10_rumour 26 = .ok (.ireturn, 1) := by decide +kernel
theorem dX10_commit_0 : decode cX10_commit 0 = .ok (.aload_n 0, 1) := by decide +kernel
theorem dX10_commit_1 : decode cX10_commit 1 = .ok (.getfield 58, 3) := by decide +kernel
theorem dX10_commit_4 : decode cX10_commit 4 = .ok (.iload_n 1, 1) := by decide +kernel
theorem dX10_commit_5 : decode cX10_commit 5 = .ok (.iload_n 2, 1) := by decide +kernel
theorem dX10_commit_6 : decode cX10_commit 6 = .ok (.invokevirtual 204, 3) := by decide +kernel
theorem dX10_commit_9 : decode cX10_commit 9 = .ok (.ifCond .ne 5, 3) := by decide +kernel
theorem dX10_commit_12 : decode cX10_commit 12 = .ok (.iconst (-1), 1) := by decide +kernel
theorem dX10_commit_13 : decode cX10_commit 13 = .ok (.ireturn, 1) := by decide +kernel
theorem dX10_commit_14 : decode cX10_commit 14 = .ok (.aload_n 0, 1) := by decide +kernel
theorem dX10_commit_15 : decode cX10_commit 15 = .ok (.getfield 71, 3) := by decide +kernel
theorem dX10_commit_18 : decode cX10_commit 18 = .ok (.aload_n 0, 1) := by decide +kernel
theorem dX10_commit_19 : decode cX10_commit 19 = .ok (.getfield 58, 3) := by decide +kernel
theorem dX10_commit_22 : decode cX10_commit 22 = .ok (.invokevirtual 207, 3) := by decide +kernel
theorem dX10_commit_25 : decode cX10_commit 25 = .ok (.aload_n 0, 1) := by decide +kernel
theorem dX10_commit_26 : decode cX10_commit 26 = .ok (.getfield 58, 3) := by decide +kernel
theorem dX10_commit_29 : decode cX10_commit 29 = .ok (.iload_n 1, 1) := by decide +kernel
theorem dX10_commit_30 : decode cX10_commit 30 = .ok (.iload_n 2, 1) := by decide +kernel
theorem dX10_commit_31 : decode cX10_commit 31 = .ok (.invokevirtual 211, 3) := by decide +kernel
theorem dX10_commit_34 : decode cX10_commit 34 = .ok (.aload_n 0, 1) := by decide +kernel
theorem dX10_commit_35 : decode cX10_commit 35 = .ok (.getfield 58, 3) := by decide +kernel
theorem dX10_commit_38 : decode cX10_commit 38 = .ok (.iload_n 1, 1) := by decide +kernel
theorem dX10_commit_39 : decode cX10_commit 39 = .ok (.invokevirtual 215, 3) := by decide +kernel
theorem dX10_commit_42 : decode cX10_commit 42 = .ok (.ireturn, 1) := by decide +kernel
theorem dX10_sell_0 : decode cX10_sell 0 = .ok (.aload_n 0, 1) := by decide +kernel
theorem dX10_sell_1 : decode cX10_sell 1 = .ok (.getfield 58, 3) := by decide +kernel
theorem dX10_sell_4 : decode cX10_sell 4 = .ok (.iload_n 1, 1) := by decide +kernel
theorem dX10_sell_5 : decode cX10_sell 5 = .ok (.iload_n 2, 1) := by decide +kernel
theorem dX10_sell_6 : decode cX10_sell 6 = .ok (.iload_n 3, 1) := by decide +kernel
theorem dX10_sell_7 : decode cX10_sell 7 = .ok (.invokevirtual 218, 3) := by decide +kernel
theorem dX10_sell_10 : decode cX10_sell 10 = .ok (.ifCond .ne 5, 3) := by decide +kernel
theorem dX10_sell_13 : decode cX10_sell 13 = .ok (.iconst (-1), 1) := by decide +kernel
theorem dX10_sell_14 : decode cX10_sell 14 = .ok (.ireturn, 1) := by decide +kernel
theorem dX10_sell_15 : decode cX10_sell 15 = .ok (.aload_n 0, 1) := by decide +kernel
theorem dX10_sell_16 : decode cX10_sell 16 = .ok (.getfield 71, 3) := by decide +kernel
theorem dX10_sell_19 : decode cX10_sell 19 = .ok (.aload_n 0, 1) := by decide +kernel
theorem dX10_sell_20 : decode cX10_sell 20 = .ok (.getfield 58, 3) := by decide +kernel
theorem dX10_sell_23 : decode cX10_sell 23 = .ok (.invokevirtual 207, 3) := by decide +kernel
theorem dX10_sell_26 : decode cX10_sell 26 = .ok (.aload_n 0, 1) := by decide +kernel
theorem dX10_sell_27 : decode cX10_sell 27 = .ok (.getfield 58, 3) := by decide +kernel
theorem dX10_sell_30 : decode cX10_sell 30 = .ok (.iload_n 1, 1) := by decide +kernel
theorem dX10_sell_31 : decode cX10_sell 31 = .ok (.iload_n 2, 1) := by decide +kernel
theorem dX10_sell_32 : decode cX10_sell 32 = .ok (.iload_n 3, 1) := by decide +kernel
theorem dX10_sell_33 : decode cX10_sell 33 = .ok (.invokevirtual 222, 3) := by decide +kernel
theorem dX10_sell_36 : decode cX10_sell 36 = .ok (.aload_n 0, 1) := by decide +kernel
theorem dX10_sell_37 : decode cX10_sell 37 = .ok (.getfield 58, 3) := by decide +kernel
theorem dX10_sell_40 : decode cX10_sell 40 = .ok (.iload_n 2, 1) := by decide +kernel
theorem dX10_sell_41 : decode cX10_sell 41 = .ok (.iload_n 3, 1) := by decide +kernel
theorem dX10_sell_42 : decode cX10_sell 42 = .ok (.invokevirtual 197, 3) := by decide +kernel
theorem dX10_sell_45 : decode cX10_sell 45 = .ok (.ireturn, 1) := by decide +kernel
theorem dX10_atone_0 : decode cX10_atone 0 = .ok (.aload_n 0, 1) := by decide +kernel
theorem dX10_atone_1 : decode cX10_atone 1 = .ok (.getfield 58, 3) := by decide +kernel
theorem dX10_atone_4 : decode cX10_atone 4 = .ok (.iload_n 1, 1) := by decide +kernel
theorem dX10_atone_5 : decode cX10_atone 5 = .ok (.iload_n 2, 1) := by decide +kernel
theorem dX10_atone_6 : decode cX10_atone 6 = .ok (.invokevirtual 226, 3) := by decide +kernel
theorem dX10_atone_9 : decode cX10_atone 9 = .ok (.ifCond .ne 5, 3) := by decide +kernel
theorem dX10_atone_12 : decode cX10_atone 12 = .ok (.iconst (-1), 1) := by decide +kernel
theorem dX10_atone_13 : decode cX10_atone 13 = .ok (.ireturn, 1) := by decide +kernel
theorem dX10_atone_14 : decode cX10_atone 14 = .ok (.aload_n 0, 1) := by decide +kernel
theorem dX10_atone_15 : decode cX10_atone 15 = .ok (.getfield 71, 3) := by decide +kernel
theorem dX10_atone_18 : decode cX10_atone 18 = .ok (.aload_n 0, 1) := by decide +kernel
theorem dX10_atone_19 : decode cX10_atone 19 = .ok (.getfield 58, 3) := by decide +kernel
theorem dX10_atone_22 : decode cX10_atone 22 = .ok (.invokevirtual 207, 3) := by decide +kernel
theorem dX10_atone_25 : decode cX10_atone 25 = .ok (.aload_n 0, 1) := by decide +kernel
theorem dX10_atone_26 : decode cX10_atone 26 = .ok (.getfield 58, 3) := by decide +kernel
theorem dX10_atone_29 : decode cX10_atone 29 = .ok (.iload_n 1, 1) := by decide +kernel
theorem dX10_atone_30 : decode cX10_atone 30 = .ok (.iload_n 2, 1) := by decide +kernel
theorem dX10_atone_31 : decode cX10_atone 31 = .ok (.invokevirtual 229, 3) := by decide +kernel
theorem dX10_atone_34 : decode cX10_atone 34 = .ok (.aload_n 0, 1) := by decide +kernel
theorem dX10_atone_35 : decode cX10_atone 35 = .ok (.getfield 58, 3) := by decide +kernel
theorem dX10_atone_38 : decode cX10_atone 38 = .ok (.iload_n 1, 1) := by decide +kernel
theorem dX10_atone_39 : decode cX10_atone 39 = .ok (.invokevirtual 215, 3) := by decide +kernel
theorem dX10_atone_42 : decode cX10_atone 42 = .ok (.ireturn, 1) := by decide +kernel
theorem dX10_shave_0 : decode cX10_shave 0 = .ok (.aload_n 0, 1) := by decide +kernel
theorem dX10_shave_1 : decode cX10_shave 1 = .ok (.getfield 58, 3) := by decide +kernel
theorem dX10_shave_4 : decode cX10_shave 4 = .ok (.iload_n 1, 1) := by decide +kernel
theorem dX10_shave_5 : decode cX10_shave 5 = .ok (.invokevirtual 232, 3) := by decide +kernel
theorem dX10_shave_8 : decode cX10_shave 8 = .ok (.ifCond .ne 5, 3) := by decide +kernel
theorem dX10_shave_11 : decode cX10_shave 11 = .ok (.iconst (-1), 1) := by decide +kernel
theorem dX10_shave_12 : decode cX10_shave 12 = .ok (.ireturn, 1) := by decide +kernel
theorem dX10_shave_13 : decode cX10_shave 13 = .ok (.aload_n 0, 1) := by decide +kernel
theorem dX10_shave_14 : decode cX10_shave 14 = .ok (.getfield 71, 3) := by decide +kernel
theorem dX10_shave_17 : decode cX10_shave 17 = .ok (.aload_n 0, 1) := by decide +kernel
theorem dX10_shave_18 : decode cX10_shave 18 = .ok (.getfield 58, 3) := by decide +kernel
theorem dX10_shave_21 : decode cX10_shave 21 = .ok (.invokevirtual 207, 3) := by decide +kernel
theorem dX10_shave_24 : decode cX10_shave 24 = .ok (.aload_n 0, 1) := by decide +kernel
theorem dX10_shave_25 : decode cX10_shave 25 = .ok (.aload_n 0, 1) := by decide +kernel
theorem dX10_shave_26 : decode cX10_shave 26 = .ok (.getfield 58, 3) := by decide +kernel
theorem dX10_shave_29 : decode cX10_shave 29 = .ok (.iload_n 1, 1) := by decide +kernel
theorem dX10_shave_30 : decode cX10_shave 30 = .ok (.invokevirtual 235, 3) := by decide +kernel
theorem dX10_shave_33 : decode cX10_shave 33 = .ok (.ifCond .eq 7, 3) := by decide +kernel
theorem dX10_shave_36 : decode cX10_shave 36 = .ok (.iconst 1, 1) := by decide +kernel
theorem dX10_shave_37 : decode cX10_shave 37 = .ok (.goto 4, 3) := by decide +kernel
theorem dX10_shave_40 : decode cX10_shave 40 = .ok (.iconst 0, 1) := by decide +kernel
theorem dX10_shave_41 : decode cX10_shave 41 = .ok (.ireturn, 1) := by decide +kernel
theorem dX10_goToBarber_0 : decode cX10_goToBarber 0 = .ok (.aload_n 0, 1) := by decide +kernel
theorem dX10_goToBarber_1 : decode cX10_goToBarber 1 = .ok (.getfield 40, 3) := by decide +kernel
theorem dX10_goToBarber_4 : decode cX10_goToBarber 4 = .ok (.aload_n 1, 1) := by decide +kernel
theorem dX10_goToBarber_5 : decode cX10_goToBarber 5 = .ok (.iload_n 2, 1) := by decide +kernel
theorem dX10_goToBarber_6 : decode cX10_goToBarber 6 = .ok (.aload_n 1, 1) := by decide +kernel
theorem dX10_goToBarber_7 : decode cX10_goToBarber 7 = .ok (.iload_n 2, 1) := by decide +kernel
theorem dX10_goToBarber_8 : decode cX10_goToBarber 8 = .ok (.invokevirtual 239, 3) := by decide +kernel
theorem dX10_goToBarber_11 : decode cX10_goToBarber 11 = .ok (.invokevirtual 242, 3) := by decide +kernel
theorem dX10_goToBarber_14 : decode cX10_goToBarber 14 = .ok (.istore_n 3, 1) := by decide +kernel
theorem dX10_goToBarber_15 : decode cX10_goToBarber 15 = .ok (.aload_n 1, 1) := by decide +kernel
theorem dX10_goToBarber_16 : decode cX10_goToBarber 16 = .ok (.iload_n 2, 1) := by decide +kernel
theorem dX10_goToBarber_17 : decode cX10_goToBarber 17 = .ok (.iload_n 3, 1) := by decide +kernel
theorem dX10_goToBarber_18 : decode cX10_goToBarber 18 = .ok (.invokevirtual 246, 3) := by decide +kernel
theorem dX10_goToBarber_21 : decode cX10_goToBarber 21 = .ok (.iload_n 3, 1) := by decide +kernel
theorem dX10_goToBarber_22 : decode cX10_goToBarber 22 = .ok (.ireturn, 1) := by decide +kernel
theorem dX10_give_0 : decode cX10_give 0 = .ok (.aload_n 0, 1) := by decide +kernel
theorem dX10_give_1 : decode cX10_give 1 = .ok (.invokevirtual 250, 3) := by decide +kernel
theorem dX10_give_4 : decode cX10_give 4 = .ok (.ifCond .ne 31, 3) := by decide +kernel
theorem dX10_give_7 : decode cX10_give 7 = .ok (.iload_n 1, 1) := by decide +kernel
theorem dX10_give_8 : decode cX10_give 8 = .ok (.iconst 1, 1) := by decide +kernel
theorem dX10_give_9 : decode cX10_give 9 = .ok (.if_icmp .lt 26, 3) := by decide +kernel
theorem dX10_give_12 : decode cX10_give 12 = .ok (.iload_n 1, 1) := by decide +kernel
theorem dX10_give_13 : decode cX10_give 13 = .ok (.bipush 50, 2) := by decide +kernel
theorem dX10_give_15 : decode cX10_give 15 = .ok (.if_icmp .gt 20, 3) := by decide +kernel
theorem dX10_give_18 : decode cX10_give 18 = .ok (.aload_n 0, 1) := by decide +kernel
theorem dX10_give_19 : decode cX10_give 19 = .ok (.getfield 58, 3) := by decide +kernel
theorem dX10_give_22 : decode cX10_give 22 = .ok (.bipush 65, 2) := by decide +kernel
theorem dX10_give_24 : decode cX10_give 24 = .ok (.invokevirtual 254, 3) := by decide +kernel
theorem dX10_give_27 : decode cX10_give 27 = .ok (.iload_n 1, 1) := by decide +kernel
theorem dX10_give_28 : decode cX10_give 28 = .ok (.iadd, 1) := by decide +kernel
theorem dX10_give_29 : decode cX10_give 29 = .ok (.sipush 999, 3) := by decide +kernel
theorem dX10_give_32 : decode cX10_give 32 = .ok (.if_icmp .le 5, 3) := by decide +kernel
theorem dX10_give_35 : decode cX10_give 35 = .ok (.iconst (-1), 1) := by decide +kernel
theorem dX10_give_36 : decode cX10_give 36 = .ok (.ireturn, 1) := by decide +kernel
theorem dX10_give_37 : decode cX10_give 37 = .ok (.aload_n 0, 1) := by decide +kernel
theorem dX10_give_38 : decode cX10_give 38 = .ok (.getfield 71, 3) := by decide +kernel
theorem dX10_give_41 : decode cX10_give 41 = .ok (.aload_n 0, 1) := by decide +kernel
theorem dX10_give_42 : decode cX10_give 42 = .ok (.getfield 58, 3) := by decide +kernel
theorem dX10_give_45 : decode cX10_give 45 = .ok (.invokevirtual 207, 3) := by decide +kernel
theorem dX10_give_48 : decode cX10_give 48 = .ok (.aload_n 0, 1) := by decide +kernel
theorem dX10_give_49 : decode cX10_give 49 = .ok (.getfield 58, 3) := by decide +kernel
theorem dX10_give_52 : decode cX10_give 52 = .ok (.iload_n 1, 1) := by decide +kernel
theorem dX10_give_53 : decode cX10_give 53 = .ok (.invokevirtual 257, 3) := by decide +kernel
theorem dX10_give_56 : decode cX10_give 56 = .ok (.aload_n 0, 1) := by decide +kernel
theorem dX10_give_57 : decode cX10_give 57 = .ok (.getfield 58, 3) := by decide +kernel
theorem dX10_give_60 : decode cX10_give 60 = .ok (.bipush 65, 2) := by decide +kernel
theorem dX10_give_62 : decode cX10_give 62 = .ok (.invokevirtual 254, 3) := by decide +kernel
theorem dX10_give_65 : decode cX10_give 65 = .ok (.ireturn, 1) := by decide +kernel
theorem dX10_noTown_0 : decode cX10_noTown 0 = .ok (.aload_n 0, 1) := by decide +kernel
theorem dX10_noTown_1 : decode cX10_noTown 1 = .ok (.getfield 19, 3) := by decide +kernel
theorem dX10_noTown_4 : decode cX10_noTown 4 = .ok (.getfield 141, 3) := by decide +kernel
theorem dX10_noTown_7 : decode cX10_noTown 7 = .ok (.ifCond .ne 7, 3) := by decide +kernel
theorem dX10_noTown_10 : decode cX10_noTown 10 = .ok (.iconst 1, 1) := by decide +kernel
theorem dX10_noTown_11 : decode cX10_noTown 11 = .ok (.goto 4, 3) := by decide +kernel
theorem dX10_noTown_14 : decode cX10_noTown 14 = .ok (.iconst 0, 1) := by decide +kernel
theorem dX10_noTown_15 : decode cX10_noTown 15 = .ok (.ireturn, 1) := by decide +kernel
theorem dX10_day_0 : decode cX10_day 0 = .ok (.aload_n 0, 1) := by decide +kernel
theorem dX10_day_1 : decode cX10_day 1 = .ok (.getfield 58, 3) := by decide +kernel
theorem dX10_day_4 : decode cX10_day 4 = .ok (.invokevirtual 260, 3) := by decide +kernel
theorem dX10_day_7 : decode cX10_day 7 = .ok (.ifCond .ne 5, 3) := by decide +kernel
theorem dX10_day_10 : decode cX10_day 10 = .ok (.iconst (-1), 1) := by decide +kernel
theorem dX10_day_11 : decode cX10_day 11 = .ok (.ireturn, 1) := by decide +kernel
theorem dX10_day_12 : decode cX10_day 12 = .ok (.aload_n 0, 1) := by decide +kernel
theorem dX10_day_13 : decode cX10_day 13 = .ok (.getfield 71, 3) := by decide +kernel
theorem dX10_day_16 : decode cX10_day 16 = .ok (.aload_n 0, 1) := by decide +kernel
theorem dX10_day_17 : decode cX10_day 17 = .ok (.getfield 58, 3) := by decide +kernel
theorem dX10_day_20 : decode cX10_day 20 = .ok (.invokevirtual 207, 3) := by decide +kernel
theorem dX10_day_23 : decode cX10_day 23 = .ok (.aload_n 0, 1) := by decide +kernel
theorem dX10_day_24 : decode cX10_day 24 = .ok (.getfield 58, 3) := by decide +kernel
theorem dX10_day_27 : decode cX10_day 27 = .ok (.invokevirtual 263, 3) := by decide +kernel
theorem dX10_day_30 : decode cX10_day 30 = .ok (.istore_n 1, 1) := by decide +kernel
theorem dX10_day_31 : decode cX10_day 31 = .ok (.aload_n 0, 1) := by decide +kernel
theorem dX10_day_32 : decode cX10_day 32 = .ok (.getfield 58, 3) := by decide +kernel
theorem dX10_day_35 : decode cX10_day 35 = .ok (.invokevirtual 266, 3) := by decide +kernel
theorem dX10_day_38 : decode cX10_day 38 = .ok (.iload_n 1, 1) := by decide +kernel
theorem dX10_day_39 : decode cX10_day 39 = .ok (.invokestatic 269, 3) := by decide +kernel
theorem dX10_day_42 : decode cX10_day 42 = .ok (.ireturn, 1) := by decide +kernel
theorem dX10_years_0 : decode cX10_years 0 = .ok (.aload_n 0, 1) := by decide +kernel
theorem dX10_years_1 : decode cX10_years 1 = .ok (.invokevirtual 250, 3) := by decide +kernel
theorem dX10_years_4 : decode cX10_years 4 = .ok (.ifCond .ne 31, 3) := by decide +kernel
theorem dX10_years_7 : decode cX10_years 7 = .ok (.iload_n 1, 1) := by decide +kernel
theorem dX10_years_8 : decode cX10_years 8 = .ok (.iconst 1, 1) := by decide +kernel
theorem dX10_years_9 : decode cX10_years 9 = .ok (.if_icmp .lt 26, 3) := by decide +kernel
theorem dX10_years_12 : decode cX10_years 12 = .ok (.iload_n 1, 1) := by decide +kernel
theorem dX10_years_13 : decode cX10_years 13 = .ok (.bipush 30, 2) := by decide +kernel
theorem dX10_years_15 : decode cX10_years 15 = .ok (.if_icmp .gt 20, 3) := by decide +kernel
theorem dX10_years_18 : decode cX10_years 18 = .ok (.aload_n 0, 1) := by decide +kernel
theorem dX10_years_19 : decode cX10_years 19 = .ok (.getfield 58, 3) := by decide +kernel
theorem dX10_years_22 : decode cX10_years 22 = .ok (.bipush 66, 2) := by decide +kernel
theorem dX10_years_24 : decode cX10_years 24 = .ok (.invokevirtual 254, 3) := by decide +kernel
theorem dX10_years_27 : decode cX10_years 27 = .ok (.iload_n 1, 1) := by decide +kernel
theorem dX10_years_28 : decode cX10_years 28 = .ok (.iadd, 1) := by decide +kernel
theorem dX10_years_29 : decode cX10_years 29 = .ok (.sipush 999, 3) := by decide +kernel
theorem dX10_years_32 : decode cX10_years 32 = .ok (.if_icmp .le 5, 3) := by decide +kernel
theorem dX10_years_35 : decode cX10_years 35 = .ok (.iconst (-1), 1) := by decide +kernel
theorem dX10_years_36 : decode cX10_years 36 = .ok (.ireturn, 1) := by decide +kernel
theorem dX10_years_37 : decode cX10_years 37 = .ok (.aload_n 0, 1) := by decide +kernel
theorem dX10_years_38 : decode cX10_years 38 = .ok (.getfield 87, 3) := by decide +kernel
theorem dX10_years_41 : decode cX10_years 41 = .ok (.lload_n 2, 1) := by decide +kernel
theorem dX10_years_42 : decode cX10_years 42 = .ok (.invokevirtual 274, 3) := by decide +kernel
theorem dX10_years_45 : decode cX10_years 45 = .ok (.iconst 0, 1) := by decide +kernel
theorem dX10_years_46 : decode cX10_years 46 = .ok (.istore 4, 2) := by decide +kernel
theorem dX10_years_48 : decode cX10_years 48 = .ok (.iload 4, 2) := by decide +kernel
theorem dX10_years_50 : decode cX10_years 50 = .ok (.iload_n 1, 1) := by decide +kernel
theorem dX10_years_51 : decode cX10_years 51 = .ok (.if_icmp .ge 31, 3) := by decide +kernel
theorem dX10_years_54 : decode cX10_years 54 = .ok (.aload_n 0, 1) := by decide +kernel
theorem dX10_years_55 : decode cX10_years 55 = .ok (.getfield 71, 3) := by decide +kernel
theorem dX10_years_58 : decode cX10_years 58 = .ok (.aload_n 0, 1) := by decide +kernel
theorem dX10_years_59 : decode cX10_years 59 = .ok (.getfield 58, 3) := by decide +kernel
theorem dX10_years_62 : decode cX10_years 62 = .ok (.invokevirtual 207, 3) := by decide +kernel
theorem dX10_years_65 : decode cX10_years 65 = .ok (.aload_n 0, 1) := by decide +kernel
theorem dX10_years_66 : decode cX10_years 66 = .ok (.invokevirtual 277, 3) := by decide +kernel
theorem dX10_years_69 : decode cX10_years 69 = .ok (.aload_n 0, 1) := by decide +kernel
theorem dX10_years_70 : decode cX10_years 70 = .ok (.getfield 58, 3) := by decide +kernel
theorem dX10_years_73 : decode cX10_years 73 = .ok (.invokevirtual 266, 3) := by decide +kernel
theorem dX10_years_76 : decode cX10_years 76 = .ok (.iinc 4 1, 3) := by decide +kernel
theorem dX10_years_79 : decode cX10_years 79 = .ok (.goto (-31), 3) := by decide +kernel
theorem dX10_years_82 : decode cX10_years 82 = .ok (.aload_n 0, 1) := by decide +kernel
theorem dX10_years_83 : decode cX10_years 83 = .ok (.getfield 58, 3) := by decide +kernel
theorem dX10_years_86 : decode cX10_years 86 = .ok (.bipush 66, 2) := by decide +kernel
theorem dX10_years_88 : decode cX10_years 88 = .ok (.invokevirtual 254, 3) := by decide +kernel
theorem dX10_years_91 : decode cX10_years 91 = .ok (.ireturn, 1) := by decide +kernel
theorem dX10_liveByDraws_0 : decode cX10_liveByDraws 0 = .ok (.aload_n 0, 1) := by decide +kernel
theorem dX10_liveByDraws_1 : decode cX10_liveByDraws 1 = .ok (.getfield 87, 3) := by decide +kernel
theorem dX10_liveByDraws_4 : decode cX10_liveByDraws 4 = .ok (.aload_n 0, 1) := by decide +kernel
theorem dX10_liveByDraws_5 : decode cX10_liveByDraws 5 = .ok (.getfield 19, 3) := by decide +kernel
theorem dX10_liveByDraws_8 : decode cX10_liveByDraws 8 = .ok (.getfield 141, 3) := by decide +kernel
theorem dX10_liveByDraws_11 : decode cX10_liveByDraws 11 = .ok (.invokevirtual 280, 3) := by decide +kernel
theorem dX10_liveByDraws_14 : decode cX10_liveByDraws 14 = .ok (.istore_n 1, 1) := by decide +kernel
theorem dX10_liveByDraws_15 : decode cX10_liveByDraws 15 = .ok (.aload_n 0, 1) := by decide +kernel
theorem dX10_liveByDraws_16 : decode cX10_liveByDraws 16 = .ok (.getfield 87, 3) := by decide +kernel
theorem dX10_liveByDraws_19 : decode cX10_liveByDraws 19 = .ok (.aload_n 0, 1) := by decide +kernel
theorem dX10_liveByDraws_20 : decode cX10_liveByDraws 20 = .ok (.getfield 19, 3) := by decide +kernel
theorem dX10_liveByDraws_23 : decode cX10_liveByDraws 23 = .ok (.getfield 283, 3) := by decide +kernel
theorem dX10_liveByDraws_26 : decode cX10_liveByDraws 26 = .ok (.invokevirtual 280, 3) := by decide +kernel
theorem dX10_liveByDraws_29 : decode cX10_liveByDraws 29 = .ok (.istore_n 2, 1) := by decide +kernel
theorem dX10_liveByDraws_30 : decode cX10_liveByDraws 30 = .ok (.aload_n 0, 1) := by decide +kernel
theorem dX10_liveByDraws_31 : decode cX10_liveByDraws 31 = .ok (.getfield 58, 3) := by decide +kernel
theorem dX10_liveByDraws_34 : decode cX10_liveByDraws 34 = .ok (.iload_n 1, 1) := by decide +kernel
theorem dX10_liveByDraws_35 : decode cX10_liveByDraws 35 = .ok (.iload_n 2, 1) := by decide +kernel
theorem dX10_liveByDraws_36 : decode cX10_liveByDraws 36 = .ok (.invokevirtual 204, 3) := by decide +kernel
theorem dX10_liveByDraws_39 : decode cX10_liveByDraws 39 = .ok (.ifCond .eq 12, 3) := by decide +kernel
theorem dX10_liveByDraws_42 : decode cX10_liveByDraws 42 = .ok (.aload_n 0, 1) := by decide +kernel
theorem dX10_liveByDraws_43 : decode cX10_liveByDraws 43 = .ok (.getfield 58, 3) := by decide +kernel
theorem dX10_liveByDraws_46 : decode cX10_liveByDraws 46 = .ok (.iload_n 1, 1) := by decide +kernel
theorem dX10_liveByDraws_47 : decode cX10_liveByDraws 47 = .ok (.iload_n 2, 1) := by decide +kernel
theorem dX10_liveByDraws_48 : decode cX10_liveByDraws 48 = .ok (.invokevirtual 211, 3) := by decide +kernel
theorem dX10_liveByDraws_51 : decode cX10_liveByDraws 51 = .ok (.aload_n 0, 1) := by decide +kernel
theorem dX10_liveByDraws_52 : decode cX10_liveByDraws 52 = .ok (.getfield 87, 3) := by decide +kernel
theorem dX10_liveByDraws_55 : decode cX10_liveByDraws 55 = .ok (.bipush 10, 2) := by decide +kernel
theorem dX10_liveByDraws_57 : decode cX10_liveByDraws 57 = .ok (.invokevirtual 280, 3) := by decide +kernel
theorem dX10_liveByDraws_60 : decode cX10_liveByDraws 60 = .ok (.aload_n 0, 1) := by decide +kernel
theorem dX10_liveByDraws_61 : decode cX10_liveByDraws 61 = .ok (.getfield 91, 3) := by decide +kernel
theorem dX10_liveByDraws_64 : decode cX10_liveByDraws 64 = .ok (.if_icmp .ge 39, 3) := by decide +kernel
theorem dX10_liveByDraws_67 : decode cX10_liveByDraws 67 = .ok (.aload_n 0, 1) := by decide +kernel
theorem dX10_liveByDraws_68 : decode cX10_liveByDraws 68 = .ok (.getfield 87, 3) := by decide +kernel
theorem dX10_liveByDraws_71 : decode cX10_liveByDraws 71 = .ok (.aload_n 0, 1) := by decide +kernel
theorem dX10_liveByDraws_72 : decode cX10_liveByDraws 72 = .ok (.getfield 19, 3) := by decide +kernel
theorem dX10_liveByDraws_75 : decode cX10_liveByDraws 75 = .ok (.getfield 141, 3) := by decide +kernel
theorem dX10_liveByDraws_78 : decode cX10_liveByDraws 78 = .ok (.invokevirtual 280, 3) := by decide +kernel
theorem dX10_liveByDraws_81 : decode cX10_liveByDraws 81 = .ok (.istore_n 3, 1) := by decide +kernel
theorem dX10_liveByDraws_82 : decode cX10_liveByDraws 82 = .ok (.aload_n 0, 1) := by decide +kernel
theorem dX10_liveByDraws_83 : decode cX10_liveByDraws 83 = .ok (.getfield 58, 3) := by decide +kernel
theorem dX10_liveByDraws_86 : decode cX10_liveByDraws 86 = .ok (.iload_n 3, 1) := by decide +kernel
theorem dX10_liveByDraws_87 : decode cX10_liveByDraws 87 = .ok (.invokevirtual 232, 3) := by decide +kernel
theorem dX10_liveByDraws_90 : decode cX10_liveByDraws 90 = .ok (.ifCond .eq 13, 3) := by decide +kernel
theorem dX10_liveByDraws_93 : decode cX10_liveByDraws 93 = .ok (.aload_n 0, 1) := by decide +kernel
theorem dX10_liveByDraws_94 : decode cX10_liveByDraws 94 = .ok (.aload_n 0, 1) := by decide +kernel
theorem dX10_liveByDraws_95 : decode cX10_liveByDraws 95 = .ok (.getfield 58, 3) := by decide +kernel
theorem dX10_liveByDraws_98 : decode cX10_liveByDraws 98 = .ok (.iload_n 3, 1) := by decide +kernel
theorem dX10_liveByDraws_99 : decode cX10_liveByDraws 99 = .ok (.invokevirtual 235, 3) := by decide +kernel
theorem dX10_liveByDraws_102 : decode cX10_liveByDraws 102 = .ok (.pop, 1) := by decide +kernel
theorem dX10_liveByDraws_103 : decode cX10_liveByDraws 103 = .ok (.return_, 1) := by decide +kernel
theorem dX10_undo_0 : decode cX10_undo 0 = .ok (.aload_n 0, 1) := by decide +kernel
theorem dX10_undo_1 : decode cX10_undo 1 = .ok (.getfield 71, 3) := by decide +kernel
theorem dX10_undo_4 : decode cX10_undo 4 = .ok (.aload_n 0, 1) := by decide +kernel
theorem dX10_undo_5 : decode cX10_undo 5 = .ok (.getfield 58, 3) := by decide +kernel
theorem dX10_undo_8 : decode cX10_undo 8 = .ok (.invokevirtual 286, 3) := by decide +kernel
theorem dX10_undo_11 : decode cX10_undo 11 = .ok (.ireturn, 1) := by decide +kernel
theorem dX10_log_0 : decode cX10_log 0 = .ok (.iload_n 1, 1) := by decide +kernel
theorem dX10_log_1 : decode cX10_log 1 = .ok (.ifCond .lt 23, 3) := by decide +kernel
theorem dX10_log_4 : decode cX10_log 4 = .ok (.iload_n 1, 1) := by decide +kernel
theorem dX10_log_5 : decode cX10_log 5 = .ok (.aload_n 0, 1) := by decide +kernel
theorem dX10_log_6 : decode cX10_log 6 = .ok (.getfield 58, 3) := by decide +kernel
theorem dX10_log_9 : decode cX10_log 9 = .ok (.invokevirtual 290, 3) := by decide +kernel
theorem dX10_log_12 : decode cX10_log 12 = .ok (.if_icmp .ge 12, 3) := by decide +kernel
theorem dX10_log_15 : decode cX10_log 15 = .ok (.iload_n 2, 1) := by decide +kernel
theorem dX10_log_16 : decode cX10_log 16 = .ok (.ifCond .lt 8, 3) := by decide +kernel
theorem dX10_log_19 : decode cX10_log 19 = .ok (.iload_n 2, 1) := by decide +kernel
theorem dX10_log_20 : decode cX10_log 20 = .ok (.iconst 2, 1) := by decide +kernel
theorem dX10_log_21 : decode cX10_log 21 = .ok (.if_icmp .le 5, 3) := by decide +kernel
theorem dX10_log_24 : decode cX10_log 24 = .ok (.iconst (-1), 1) := by decide +kernel
theorem dX10_log_25 : decode cX10_log 25 = .ok (.ireturn, 1) := by decide +kernel
theorem dX10_log_26 : decode cX10_log 26 = .ok (.aload_n 0, 1) := by decide +kernel
theorem dX10_log_27 : decode cX10_log 27 = .ok (.getfield 58, 3) := by decide +kernel
theorem dX10_log_30 : decode cX10_log 30 = .ok (.iload_n 1, 1) := by decide +kernel
theorem dX10_log_31 : decode cX10_log 31 = .ok (.iload_n 2, 1) := by decide +kernel
theorem dX10_log_32 : decode cX10_log 32 = .ok (.invokevirtual 293, 3) := by decide +kernel
theorem dX10_log_35 : decode cX10_log 35 = .ok (.ireturn, 1) := by decide +kernel
theorem dX10_weekOf_0 : decode cX10_weekOf 0 = .ok (.iload_n 1, 1) := by decide +kernel
theorem dX10_weekOf_1 : decode cX10_weekOf 1 = .ok (.ifCond .lt 20, 3) := by decide +kernel
theorem dX10_weekOf_4 : decode cX10_weekOf 4 = .ok (.iload_n 1, 1) := by decide +kernel
theorem dX10_weekOf_5 : decode cX10_weekOf 5 = .ok (.aload_n 0, 1) := by decide +kernel
theorem dX10_weekOf_6 : decode cX10_weekOf 6 = .ok (.getfield 155, 3) := by decide +kernel
theorem dX10_weekOf_9 : decode cX10_weekOf 9 = .ok (.if_icmp .ge 12, 3) := by decide +kernel
theorem dX10_weekOf_12 : decode cX10_weekOf 12 = .ok (.aload_n 0, 1) := by decide +kernel
theorem dX10_weekOf_13 : decode cX10_weekOf 13 = .ok (.getfield 46, 3) := by decide +kernel
theorem dX10_weekOf_16 : decode cX10_weekOf 16 = .ok (.iload_n 1, 1) := by decide +kernel
theorem dX10_weekOf_17 : decode cX10_weekOf 17 = .ok (.aaload, 1) := by decide +kernel
theorem dX10_weekOf_18 : decode cX10_weekOf 18 = .ok (.goto 4, 3) := by decide +kernel
theorem dX10_weekOf_21 : decode cX10_weekOf 21 = .ok (.aconst_null, 1) := by decide +kernel
theorem dX10_weekOf_22 : decode cX10_weekOf 22 = .ok (.areturn, 1) := by decide +kernel
theorem dX10_step_0 : decode cX10_step 0 = .ok (.aload_n 0, 1) := by decide +kernel
theorem dX10_step_1 : decode cX10_step 1 = .ok (.iload_n 1, 1) := by decide +kernel
theorem dX10_step_2 : decode cX10_step 2 = .ok (.invokevirtual 296, 3) := by decide +kernel
theorem dX10_step_5 : decode cX10_step 5 = .ok (.astore 4, 2) := by decide +kernel
theorem dX10_step_7 : decode cX10_step 7 = .ok (.aload 4, 2) := by decide +kernel
theorem dX10_step_9 : decode cX10_step 9 = .ok (.ifnull 16, 3) := by decide +kernel
theorem dX10_step_12 : decode cX10_step 12 = .ok (.iload_n 2, 1) := by decide +kernel
theorem dX10_step_13 : decode cX10_step 13 = .ok (.ifCond .lt 12, 3) := by decide +kernel
theorem dX10_step_16 : decode cX10_step 16 = .ok (.iload_n 2, 1) := by decide +kernel
theorem dX10_step_17 : decode cX10_step 17 = .ok (.aload 4, 2) := by decide +kernel
theorem dX10_step_19 : decode cX10_step 19 = .ok (.getfield 300, 3) := by decide +kernel
theorem dX10_step_22 : decode cX10_step 22 = .ok (.if_icmp .lt 7, 3) := by decide +kernel
theorem dX10_step_25 : decode cX10_step 25 = .ok (.ldc_w 301, 3) := by decide +kernel
theorem dX10_step_28 : decode cX10_step 28 = .ok (.ireturn, 1) := by decide +kernel
theorem dX10_step_29 : decode cX10_step 29 = .ok (.iload_n 3, 1) := by decide +kernel
theorem dX10_step_30 : decode cX10_step 30 = .ok (.tableswitch 50 0 2 #[26, 34, 42], 26) := by decide +kernel
theorem dX10_step_56 : decode cX10_step 56 = .ok (.aload 4, 2) := by decide +kernel
theorem dX10_step_58 : decode cX10_step 58 = .ok (.getfield 302, 3) := by decide +kernel
theorem dX10_step_61 : decode cX10_step 61 = .ok (.iload_n 2, 1) := by decide +kernel
theorem dX10_step_62 : decode cX10_step 62 = .ok (.iaload, 1) := by decide +kernel
theorem dX10_step_63 : decode cX10_step 63 = .ok (.ireturn, 1) := by decide +kernel
theorem dX10_step_64 : decode cX10_step 64 = .ok (.aload 4, 2) := by decide +kernel
theorem dX10_step_66 : decode cX10_step 66 = .ok (.getfield 305, 3) := by decide +kernel
theorem dX10_step_69 : decode cX10_step 69 = .ok (.iload_n 2, 1) := by decide +kernel
theorem dX10_step_70 : decode cX10_step 70 = .ok (.iaload, 1) := by decide +kernel
theorem dX10_step_71 : decode cX10_step 71 = .ok (.ireturn, 1) := by decide +kernel
theorem dX10_step_72 : decode cX10_step 72 = .ok (.aload 4, 2) := by decide +kernel
theorem dX10_step_74 : decode cX10_step 74 = .ok (.getfield 307, 3) := by decide +kernel
theorem dX10_step_77 : decode cX10_step 77 = .ok (.iload_n 2, 1) := by decide +kernel
theorem dX10_step_78 : decode cX10_step 78 = .ok (.iaload, 1) := by decide +kernel
theorem dX10_step_79 : decode cX10_step 79 = .ok (.ireturn, 1) := by decide +kernel
theorem dX10_step_80 : decode cX10_step 80 = .ok (.ldc_w 301, 3) := by decide +kernel
theorem dX10_step_83 : decode cX10_step 83 = .ok (.ireturn, 1) := by decide +kernel
theorem dX10_run_0 : decode cX10_run 0 = .ok (.aload_n 0, 1) := by decide +kernel
theorem dX10_run_1 : decode cX10_run 1 = .ok (.iload_n 1, 1) := by decide +kernel
theorem dX10_run_2 : decode cX10_run 2 = .ok (.invokevirtual 296, 3) := by decide +kernel
theorem dX10_run_5 : decode cX10_run 5 = .ok (.astore_n 3, 1) := by decide +kernel
theorem dX10_run_6 : decode cX10_run 6 = .ok (.aload_n 3, 1) := by decide +kernel
theorem dX10_run_7 : decode cX10_run 7 = .ok (.ifnull 19, 3) := by decide +kernel
theorem dX10_run_10 : decode cX10_run 10 = .ok (.aload_n 0, 1) := by decide +kernel
theorem dX10_run_11 : decode cX10_run 11 = .ok (.invokevirtual 250, 3) := by decide +kernel
theorem dX10_run_14 : decode cX10_run 14 = .ok (.ifCond .ne 12, 3) := by decide +kernel
theorem dX10_run_17 : decode cX10_run 17 = .ok (.iload_n 2, 1) := by decide +kernel
theorem dX10_run_18 : decode cX10_run 18 = .ok (.ifCond .lt 8, 3) := by decide +kernel
theorem dX10_run_21 : decode cX10_run 21 = .ok (.iload_n 2, 1) := by decide +kernel
theorem dX10_run_22 : decode cX10_run 22 = .ok (.iconst 1, 1) := by decide +kernel
theorem dX10_run_23 : decode cX10_run 23 = .ok (.if_icmp .le 7, 3) := by decide +kernel
theorem dX10_run_26 : decode cX10_run 26 = .ok (.ldc_w 301, 3) := by decide +kernel
theorem dX10_run_29 : decode cX10_run 29 = .ok (.ireturn, 1) := by decide +kernel
theorem dX10_run_30 : decode cX10_run 30 = .ok (.aload_n 0, 1) := by decide +kernel
theorem dX10_run_31 : decode cX10_run 31 = .ok (.getfield 62, 3) := by decide +kernel
theorem dX10_run_34 : decode cX10_run 34 = .ok (.aload_n 0, 1) := by decide +kernel
theorem dX10_run_35 : decode cX10_run 35 = .ok (.getfield 58, 3) := by decide +kernel
theorem dX10_run_38 : decode cX10_run 38 = .ok (.invokevirtual 309, 3) := by decide +kernel
theorem dX10_run_41 : decode cX10_run 41 = .ok (.iconst 0, 1) := by decide +kernel
theorem dX10_run_42 : decode cX10_run 42 = .ok (.istore 4, 2) := by decide +kernel
theorem dX10_run_44 : decode cX10_run 44 = .ok (.iload 4, 2) := by decide +kernel
theorem dX10_run_46 : decode cX10_run 46 = .ok (.aload_n 3, 1) := by decide +kernel
theorem dX10_run_47 : decode cX10_run 47 = .ok (.getfield 300, 3) := by decide +kernel
theorem dX10_run_50 : decode cX10_run 50 = .ok (.if_icmp .ge 34, 3) := by decide +kernel
theorem dX10_run_53 : decode cX10_run 53 = .ok (.aload_n 0, 1) := by decide +kernel
theorem dX10_run_54 : decode cX10_run 54 = .ok (.aload_n 0, 1) := by decide +kernel
theorem dX10_run_55 : decode cX10_run 55 = .ok (.getfield 62, 3) := by decide +kernel
theorem dX10_run_58 : decode cX10_run 58 = .ok (.aload_n 3, 1) := by decide +kernel
theorem dX10_run_59 : decode cX10_run 59 = .ok (.iload 4, 2) := by decide +kernel
theorem dX10_run_61 : decode cX10_run 61 = .ok (.invokevirtual 312, 3) := by decide +kernel
theorem dX10_run_64 : decode cX10_run 64 = .ok (.ifCond .eq 20, 3) := by decide +kernel
theorem dX10_run_67 : decode cX10_run 67 = .ok (.aload_n 0, 1) := by decide +kernel
theorem dX10_run_68 : decode cX10_run 68 = .ok (.aload_n 0, 1) := by decide +kernel
theorem dX10_run_69 : decode cX10_run 69 = .ok (.getfield 62, 3) := by decide +kernel
theorem dX10_run_72 : decode cX10_run 72 = .ok (.aload_n 3, 1) := by decide +kernel
theorem dX10_run_73 : decode cX10_run 73 = .ok (.iload 4, 2) := by decide +kernel
theorem dX10_run_75 : decode cX10_run 75 = .ok (.invokevirtual 316, 3) := by decide +kernel
theorem dX10_run_78 : decode cX10_run 78 = .ok (.iinc 4 1, 3) := by decide +kernel
theorem dX10_run_81 : decode cX10_run 81 = .ok (.goto (-37), 3) := by decide +kernel
theorem dX10_run_84 : decode cX10_run 84 = .ok (.iload_n 2, 1) := by decide +kernel
theorem dX10_run_85 : decode cX10_run 85 = .ok (.iconst 1, 1) := by decide +kernel
theorem dX10_run_86 : decode cX10_run 86 = .ok (.if_icmp .ne 23, 3) := by decide +kernel
theorem dX10_run_89 : decode cX10_run 89 = .ok (.aload_n 0, 1) := by decide +kernel
theorem dX10_run_90 : decode cX10_run 90 = .ok (.getfield 62, 3) := by decide +kernel
theorem dX10_run_93 : decode cX10_run 93 = .ok (.bipush 62, 2) := by decide +kernel
theorem dX10_run_95 : decode cX10_run 95 = .ok (.invokevirtual 254, 3) := by decide +kernel
theorem dX10_run_98 : decode cX10_run 98 = .ok (.aload_n 0, 1) := by decide +kernel
theorem dX10_run_99 : decode cX10_run 99 = .ok (.getfield 58, 3) := by decide +kernel
theorem dX10_run_102 : decode cX10_run 102 = .ok (.bipush 62, 2) := by decide +kernel
theorem dX10_run_104 : decode cX10_run 104 = .ok (.invokevirtual 254, 3) := by decide +kernel
theorem dX10_run_107 : decode cX10_run 107 = .ok (.isub, 1) := by decide +kernel
theorem dX10_run_108 : decode cX10_run 108 = .ok (.ireturn, 1) := by decide +kernel
theorem dX10_run_109 : decode cX10_run 109 = .ok (.iload 4, 2) := by decide +kernel
theorem dX10_run_111 : decode cX10_run 111 = .ok (.aload_n 3, 1) := by decide +kernel
theorem dX10_run_112 : decode cX10_run 112 = .ok (.getfield 300, 3) := by decide +kernel
theorem dX10_run_115 : decode cX10_run 115 = .ok (.if_icmp .ne 7, 3) := by decide +kernel
theorem dX10_run_118 : decode cX10_run 118 = .ok (.iconst (-1), 1) := by decide +kernel
theorem dX10_run_119 : decode cX10_run 119 = .ok (.goto 5, 3) := by decide +kernel
theorem dX10_run_122 : decode cX10_run 122 = .ok (.iload 4, 2) := by decide +kernel
theorem dX10_run_124 : decode cX10_run 124 = .ok (.ireturn, 1) := by decide +kernel
theorem dX10_perform_0 : decode cX10_perform 0 = .ok (.aload_n 0, 1) := by decide +kernel
theorem dX10_perform_1 : decode cX10_perform 1 = .ok (.iload_n 1, 1) := by decide +kernel
theorem dX10_perform_2 : decode cX10_perform 2 = .ok (.invokevirtual 296, 3) := by decide +kernel
theorem dX10_perform_5 : decode cX10_perform 5 = .ok (.astore_n 2, 1) := by decide +kernel
theorem dX10_perform_6 : decode cX10_perform 6 = .ok (.aload_n 2, 1) := by decide +kernel
theorem dX10_perform_7 : decode cX10_perform 7 = .ok (.ifnull 10, 3) := by decide +kernel
theorem dX10_perform_10 : decode cX10_perform 10 = .ok (.aload_n 0, 1) := by decide +kernel
theorem dX10_perform_11 : decode cX10_perform 11 = .ok (.invokevirtual 250, 3) := by decide +kernel
theorem dX10_perform_14 : decode cX10_perform 14 = .ok (.ifCond .eq 5, 3) := by decide +kernel
theorem dX10_perform_17 : decode cX10_perform 17 = .ok (.iconst (-1), 1) := by decide +kernel
theorem dX10_perform_18 : decode cX10_perform 18 = .ok (.ireturn, 1) := by decide +kernel
theorem dX10_perform_19 : decode cX10_perform 19 = .ok (.iconst 0, 1) := by decide +kernel
theorem dX10_perform_20 : decode cX10_perform 20 = .ok (.istore_n 3, 1) := by decide +kernel
theorem dX10_perform_21 : decode cX10_perform 21 = .ok (.iload_n 3, 1) := by decide +kernel
theorem dX10_perform_22 : decode cX10_perform 22 = .ok (.aload_n 2, 1) := by decide +kernel
theorem dX10_perform_23 : decode cX10_perform 23 = .ok (.getfield 300, 3) := by decide +kernel
theorem dX10_perform_26 : decode cX10_perform 26 = .ok (.if_icmp .ge 43, 3) := by decide +kernel
theorem dX10_perform_29 : decode cX10_perform 29 = .ok (.aload_n 0, 1) := by decide +kernel
theorem dX10_perform_30 : decode cX10_perform 30 = .ok (.aload_n 0, 1) := by decide +kernel
theorem dX10_perform_31 : decode cX10_perform 31 = .ok (.getfield 58, 3) := by decide +kernel
theorem dX10_perform_34 : decode cX10_perform 34 = .ok (.aload_n 2, 1) := by decide +kernel
theorem dX10_perform_35 : decode cX10_perform 35 = .ok (.iload_n 3, 1) := by decide +kernel
theorem dX10_perform_36 : decode cX10_perform 36 = .ok (.invokevirtual 312, 3) := by decide +kernel
theorem dX10_perform_39 : decode cX10_perform 39 = .ok (.ifCond .eq 30, 3) := by decide +kernel
theorem dX10_perform_42 : decode cX10_perform 42 = .ok (.aload_n 0, 1) := by decide +kernel
theorem dX10_perform_43 : decode cX10_perform 43 = .ok (.getfield 71, 3) := by decide +kernel
theorem dX10_perform_46 : decode cX10_perform 46 = .ok (.aload_n 0, 1) := by decide +kernel
theorem dX10_perform_47 : decode cX10_perform 47 = .ok (.getfield 58, 3) := by decide +kernel
theorem dX10_perform_50 : decode cX10_perform 50 = .ok (.invokevirtual 207, 3) := by decide +kernel
theorem dX10_perform_53 : decode cX10_perform 53 = .ok (.aload_n 0, 1) := by decide +kernel
theorem dX10_perform_54 : decode cX10_perform 54 = .ok (.aload_n 0, 1) := by decide +kernel
theorem dX10_perform_55 : decode cX10_perform 55 = .ok (.getfield 58, 3) := by decide +kernel
theorem dX10_perform_58 : decode cX10_perform 58 = .ok (.aload_n 2, 1) := by decide +kernel
theorem dX10_perform_59 : decode cX10_perform 59 = .ok (.iload_n 3, 1) := by decide +kernel
theorem dX10_perform_60 : decode cX10_perform 60 = .ok (.invokevirtual 316, 3) := by decide +kernel
theorem dX10_perform_63 : decode cX10_perform 63 = .ok (.iinc 3 1, 3) := by decide +kernel
theorem dX10_perform_66 : decode cX10_perform 66 = .ok (.goto (-45), 3) := by decide +kernel
theorem dX10_perform_69 : decode cX10_perform 69 = .ok (.iload_n 3, 1) := by decide +kernel
theorem dX10_perform_70 : decode cX10_perform 70 = .ok (.ireturn, 1) := by decide +kernel
theorem dX10_mayTakeStep_0 : decode cX10_mayTakeStep 0 = .ok (.aload_n 2, 1) := by decide +kernel
theorem dX10_mayTakeStep_1 : decode cX10_mayTakeStep 1 = .ok (.getfield 302, 3) := by decide +kernel
theorem dX10_mayTakeStep_4 : decode cX10_mayTakeStep 4 = .ok (.iload_n 3, 1) := by decide +kernel
theorem dX10_mayTakeStep_5 : decode cX10_mayTakeStep 5 = .ok (.iaload, 1) := by decide +kernel
theorem dX10_mayTakeStep_6 : decode cX10_mayTakeStep 6 = .ok (.tableswitch 71 0 2 #[26, 43, 54], 26) := by decide +kernel
theorem dX10_mayTakeStep_32 : decode cX10_mayTakeStep 32 = .ok (.aload_n 1, 1) := by decide +kernel
theorem dX10_mayTakeStep_33 : decode cX10_mayTakeStep 33 = .ok (.aload_n 2, 1) := by decide +kernel
theorem dX10_mayTakeStep_34 : decode cX10_mayTakeStep 34 = .ok (.getfield 305, 3) := by decide +kernel
theorem dX10_mayTakeStep_37 : decode cX10_mayTakeStep 37 = .ok (.iload_n 3, 1) := by decide +kernel
theorem dX10_mayTakeStep_38 : decode cX10_mayTakeStep 38 = .ok (.iaload, 1) := by decide +kernel
theorem dX10_mayTakeStep_39 : decode cX10_mayTakeStep 39 = .ok (.aload_n 2, 1) := by decide +kernel
theorem dX10_mayTakeStep_40 : decode cX10_mayTakeStep 40 = .ok (.getfield 307, 3) := by decide +kernel
theorem dX10_mayTakeStep_43 : decode cX10_mayTakeStep 43 = .ok (.iload_n 3, 1) := by decide +kernel
theorem dX10_mayTakeStep_44 : decode cX10_mayTakeStep 44 = .ok (.iaload, 1) := by decide +kernel
theorem dX10_mayTakeStep_45 : decode cX10_mayTakeStep 45 = .ok (.invokevirtual 204, 3) := by decide +kernel
theorem dX10_mayTakeStep_48 : decode cX10_mayTakeStep 48 = .ok (.ireturn, 1) := by decide +kernel
theorem dX10_mayTakeStep_49 : decode cX10_mayTakeStep 49 = .ok (.aload_n 1, 1) := by decide +kernel
theorem dX10_mayTakeStep_50 : decode cX10_mayTakeStep 50 = .ok (.aload_n 2, 1) := by decide +kernel
theorem dX10_mayTakeStep_51 : decode cX10_mayTakeStep 51 = .ok (.getfield 305, 3) := by decide +kernel
theorem dX10_mayTakeStep_54 : decode cX10_mayTakeStep 54 = .ok (.iload_n 3, 1) := by decide +kernel
theorem dX10_mayTakeStep_55 : decode cX10_mayTakeStep 55 = .ok (.iaload, 1) := by decide +kernel
theorem dX10_mayTakeStep_56 : decode cX10_mayTakeStep 56 = .ok (.invokevirtual 232, 3) := by decide +kernel
theorem dX10_mayTakeStep_59 : decode cX10_mayTakeStep 59 = .ok (.ireturn, 1) := by decide +kernel
theorem dX10_mayTakeStep_60 : decode cX10_mayTakeStep 60 = .ok (.aload_n 1, 1) := by decide +kernel
theorem dX10_mayTakeStep_61 : decode cX10_mayTakeStep 61 = .ok (.aload_n 2, 1) := by decide +kernel
theorem dX10_mayTakeStep_62 : decode cX10_mayTakeStep 62 = .ok (.getfield 305, 3) := by decide +kernel
theorem dX10_mayTakeStep_65 : decode cX10_mayTakeStep 65 = .ok (.iload_n 3, 1) := by decide +kernel
theorem dX10_mayTakeStep_66 : decode cX10_mayTakeStep 66 = .ok (.iaload, 1) := by decide +kernel
theorem dX10_mayTakeStep_67 : decode cX10_mayTakeStep 67 = .ok (.aload_n 2, 1) := by decide +kernel
theorem dX10_mayTakeStep_68 : decode cX10_mayTakeStep 68 = .ok (.getfield 307, 3) := by decide +kernel
theorem dX10_mayTakeStep_71 : decode cX10_mayTakeStep 71 = .ok (.iload_n 3, 1) := by decide +kernel
theorem dX10_mayTakeStep_72 : decode cX10_mayTakeStep 72 = .ok (.iaload, 1) := by decide +kernel
theorem dX10_mayTakeStep_73 : decode cX10_mayTakeStep 73 = .ok (.invokevirtual 226, 3) := by decide +kernel
theorem dX10_mayTakeStep_76 : decode cX10_mayTakeStep 76 = .ok (.ireturn, 1) := by decide +kernel
theorem dX10_mayTakeStep_77 : decode cX10_mayTakeStep 77 = .ok (.aload_n 1, 1) := by decide +kernel
theorem dX10_mayTakeStep_78 : decode cX10_mayTakeStep 78 = .ok (.invokevirtual 260, 3) := by decide +kernel
theorem dX10_mayTakeStep_81 : decode cX10_mayTakeStep 81 = .ok (.ireturn, 1) := by decide +kernel
theorem dX10_takeStep_0 : decode cX10_takeStep 0 = .ok (.aload_n 2, 1) := by decide +kernel
theorem dX10_takeStep_1 : decode cX10_takeStep 1 = .ok (.getfield 302, 3) := by decide +kernel
theorem dX10_takeStep_4 : decode cX10_takeStep 4 = .ok (.iload_n 3, 1) := by decide +kernel
theorem dX10_takeStep_5 : decode cX10_takeStep 5 = .ok (.iaload, 1) := by decide +kernel
theorem dX10_takeStep_6 : decode cX10_takeStep 6 = .ok (.tableswitch 79 0 2 #[26, 45, 60], 26) := by decide +kernel
theorem dX10_takeStep_32 : decode cX10_takeStep 32 = .ok (.aload_n 1, 1) := by decide +kernel
theorem dX10_takeStep_33 : decode cX10_takeStep 33 = .ok (.aload_n 2, 1) := by decide +kernel
theorem dX10_takeStep_34 : decode cX10_takeStep 34 = .ok (.getfield 305, 3) := by decide +kernel
theorem dX10_takeStep_37 : decode cX10_takeStep 37 = .ok (.iload_n 3, 1) := by decide +kernel
theorem dX10_takeStep_38 : decode cX10_takeStep 38 = .ok (.iaload, 1) := by decide +kernel
theorem dX10_takeStep_39 : decode cX10_takeStep 39 = .ok (.aload_n 2, 1) := by decide +kernel
theorem dX10_takeStep_40 : decode cX10_takeStep 40 = .ok (.getfield 307, 3) := by decide +kernel
theorem dX10_takeStep_43 : decode cX10_takeStep 43 = .ok (.iload_n 3, 1) := by decide +kernel
theorem dX10_takeStep_44 : decode cX10_takeStep 44 = .ok (.iaload, 1) := by decide +kernel
theorem dX10_takeStep_45 : decode cX10_takeStep 45 = .ok (.invokevirtual 211, 3) := by decide +kernel
theorem dX10_takeStep_48 : decode cX10_takeStep 48 = .ok (.goto 41, 3) := by decide +kernel
theorem dX10_takeStep_51 : decode cX10_takeStep 51 = .ok (.aload_n 0, 1) := by decide +kernel
theorem dX10_takeStep_52 : decode cX10_takeStep 52 = .ok (.aload_n 1, 1) := by decide +kernel
theorem dX10_takeStep_53 : decode cX10_takeStep 53 = .ok (.aload_n 2, 1) := by decide +kernel
theorem dX10_takeStep_54 : decode cX10_takeStep 54 = .ok (.getfield 305, 3) := by decide +kernel
theorem dX10_takeStep_57 : decode cX10_takeStep 57 = .ok (.iload_n 3, 1) := by decide +kernel
theorem dX10_takeStep_58 : decode cX10_takeStep 58 = .ok (.iaload, 1) := by decide +kernel
theorem dX10_takeStep_59 : decode cX10_takeStep 59 = .ok (.invokevirtual 235, 3) := by decide +kernel
theorem dX10_takeStep_62 : decode cX10_takeStep 62 = .ok (.pop, 1) := by decide +kernel
theorem dX10_takeStep_63 : decode cX10_takeStep 63 = .ok (.goto 26, 3) := by decide +kernel
theorem dX10_takeStep_66 : decode cX10_takeStep 66 = .ok (.aload_n 1, 1) := by decide +kernel
theorem dX10_takeStep_67 : decode cX10_takeStep 67 = .ok (.aload_n 2, 1) := by decide +kernel
theorem dX10_takeStep_68 : decode cX10_takeStep 68 = .ok (.getfield 305, 3) := by decide +kernel
theorem dX10_takeStep_71 : decode cX10_takeStep 71 = .ok (.iload_n 3, 1) := by decide +kernel
theorem dX10_takeStep_72 : decode cX10_takeStep 72 = .ok (.iaload, 1) := by decide +kernel
theorem dX10_takeStep_73 : decode cX10_takeStep 73 = .ok (.aload_n 2, 1) := by decide +kernel
theorem dX10_takeStep_74 : decode cX10_takeStep 74 = .ok (.getfield 307, 3) := by decide +kernel
theorem dX10_takeStep_77 : decode cX10_takeStep 77 = .ok (.iload_n 3, 1) := by decide +kernel
theorem dX10_takeStep_78 : decode cX10_takeStep 78 = .ok (.iaload, 1) := by decide +kernel
theorem dX10_takeStep_79 : decode cX10_takeStep 79 = .ok (.invokevirtual 229, 3) := by decide +kernel
theorem dX10_takeStep_82 : decode cX10_takeStep 82 = .ok (.goto 7, 3) := by decide +kernel
theorem dX10_takeStep_85 : decode cX10_takeStep 85 = .ok (.aload_n 1, 1) := by decide +kernel
theorem dX10_takeStep_86 : decode cX10_takeStep 86 = .ok (.invokevirtual 266, 3) := by decide +kernel
theorem dX10_takeStep_89 : decode cX10_takeStep 89 = .ok (.return_, 1) := by decide +kernel
theorem dX10_skin_0 : decode cX10_skin 0 = .ok (.aload_n 0, 1) := by decide +kernel
theorem dX10_skin_1 : decode cX10_skin 1 = .ok (.getfield 19, 3) := by decide +kernel
theorem dX10_skin_4 : decode cX10_skin 4 = .ok (.iload_n 1, 1) := by decide +kernel
theorem dX10_skin_5 : decode cX10_skin 5 = .ok (.invokevirtual 158, 3) := by decide +kernel
theorem dX10_skin_8 : decode cX10_skin 8 = .ok (.ifCond .ne 7, 3) := by decide +kernel
theorem dX10_skin_11 : decode cX10_skin 11 = .ok (.ldc_w 301, 3) := by decide +kernel
theorem dX10_skin_14 : decode cX10_skin 14 = .ok (.ireturn, 1) := by decide +kernel
theorem dX10_skin_15 : decode cX10_skin 15 = .ok (.aload_n 0, 1) := by decide +kernel
theorem dX10_skin_16 : decode cX10_skin 16 = .ok (.getfield 58, 3) := by decide +kernel
theorem dX10_skin_19 : decode cX10_skin 19 = .ok (.iload_n 1, 1) := by decide +kernel
theorem dX10_skin_20 : decode cX10_skin 20 = .ok (.invokevirtual 239, 3) := by decide +kernel
theorem dX10_skin_23 : decode cX10_skin 23 = .ok (.istore_n 3, 1) := by decide +kernel
theorem dX10_skin_24 : decode cX10_skin 24 = .ok (.iload_n 2, 1) := by decide +kernel
theorem dX10_skin_25 : decode cX10_skin 25 = .ok (.tableswitch 84 0 2 #[27, 36, 62], 27) := by decide +kernel
theorem dX10_skin_52 : decode cX10_skin 52 = .ok (.aload_n 0, 1) := by decide +kernel
theorem dX10_skin_53 : decode cX10_skin 53 = .ok (.getfield 19, 3) := by decide +kernel
theorem dX10_skin_56 : decode cX10_skin 56 = .ok (.iload_n 3, 1) := by decide +kernel
theorem dX10_skin_57 : decode cX10_skin 57 = .ok (.invokevirtual 320, 3) := by decide +kernel
theorem dX10_skin_60 : decode cX10_skin 60 = .ok (.ireturn, 1) := by decide +kernel
theorem dX10_skin_61 : decode cX10_skin 61 = .ok (.aload_n 0, 1) := by decide +kernel
theorem dX10_skin_62 : decode cX10_skin 62 = .ok (.getfield 40, 3) := by decide +kernel
theorem dX10_skin_65 : decode cX10_skin 65 = .ok (.aload_n 0, 1) := by decide +kernel
theorem dX10_skin_66 : decode cX10_skin 66 = .ok (.getfield 58, 3) := by decide +kernel
theorem dX10_skin_69 : decode cX10_skin 69 = .ok (.iload_n 1, 1) := by decide +kernel
theorem dX10_skin_70 : decode cX10_skin 70 = .ok (.iconst 0, 1) := by decide +kernel
theorem dX10_skin_71 : decode cX10_skin 71 = .ok (.aload_n 0, 1) := by decide +kernel
theorem dX10_skin_72 : decode cX10_skin 72 = .ok (.getfield 19, 3) := by decide +kernel
theorem dX10_skin_75 : decode cX10_skin 75 = .ok (.iload_n 3, 1) := by decide +kernel
theorem dX10_skin_76 : decode cX10_skin 76 = .ok (.invokevirtual 320, 3) := by decide +kernel
theorem dX10_skin_79 : decode cX10_skin 79 = .ok (.iload_n 3, 1) := by decide +kernel
theorem dX10_skin_80 : decode cX10_skin 80 = .ok (.invokestatic 269, 3) := by decide +kernel
theorem dX10_skin_83 : decode cX10_skin 83 = .ok (.invokevirtual 323, 3) := by decide +kernel
theorem dX10_skin_86 : decode cX10_skin 86 = .ok (.ireturn, 1) := by decide +kernel
theorem dX10_skin_87 : decode cX10_skin 87 = .ok (.aload_n 0, 1) := by decide +kernel
theorem dX10_skin_88 : decode cX10_skin 88 = .ok (.getfield 40, 3) := by decide +kernel
theorem dX10_skin_91 : decode cX10_skin 91 = .ok (.aload_n 0, 1) := by decide +kernel
theorem dX10_skin_92 : decode cX10_skin 92 = .ok (.getfield 58, 3) := by decide +kernel
theorem dX10_skin_95 : decode cX10_skin 95 = .ok (.iload_n 1, 1) := by decide +kernel
theorem dX10_skin_96 : decode cX10_skin 96 = .ok (.iload_n 3, 1) := by decide +kernel
theorem dX10_skin_97 : decode cX10_skin 97 = .ok (.invokevirtual 242, 3) := by decide +kernel
theorem dX10_skin_100 : decode cX10_skin 100 = .ok (.ifCond .eq 7, 3) := by decide +kernel
theorem dX10_skin_103 : decode cX10_skin 103 = .ok (.iconst 1, 1) := by decide +kernel
theorem dX10_skin_104 : decode cX10_skin 104 = .ok (.goto 4, 3) := by decide +kernel
theorem dX10_skin_107 : decode cX10_skin 107 = .ok (.iconst 0, 1) := by decide +kernel
theorem dX10_skin_108 : decode cX10_skin 108 = .ok (.ireturn, 1) := by decide +kernel
theorem dX10_skin_109 : decode cX10_skin 109 = .ok (.ldc_w 301, 3) := by decide +kernel
theorem dX10_skin_112 : decode cX10_skin 112 = .ok (.ireturn, 1) := by decide +kernel
theorem dX10_least_0 : decode cX10_least 0 = .ok (.aload_n 0, 1) := by decide +kernel
theorem dX10_least_1 : decode cX10_least 1 = .ok (.getfield 19, 3) := by decide +kernel
theorem dX10_least_4 : decode cX10_least 4 = .ok (.iload_n 1, 1) := by decide +kernel
theorem dX10_least_5 : decode cX10_least 5 = .ok (.invokevirtual 158, 3) := by decide +kernel
theorem dX10_least_8 : decode cX10_least 8 = .ok (.ifCond .eq 14, 3) := by decide +kernel
theorem dX10_least_11 : decode cX10_least 11 = .ok (.aload_n 0, 1) := by decide +kernel
theorem dX10_least_12 : decode cX10_least 12 = .ok (.iconst 1, 1) := by decide +kernel
theorem dX10_least_13 : decode cX10_least 13 = .ok (.iload_n 1, 1) := by decide +kernel
theorem dX10_least_14 : decode cX10_least 14 = .ok (.ishl, 1) := by decide +kernel
theorem dX10_least_15 : decode cX10_least 15 = .ok (.iload_n 2, 1) := by decide +kernel
theorem dX10_least_16 : decode cX10_least 16 = .ok (.invokevirtual 327, 3) := by decide +kernel
theorem dX10_least_19 : decode cX10_least 19 = .ok (.goto 4, 3) := by decide +kernel
theorem dX10_least_22 : decode cX10_least 22 = .ok (.iconst (-1), 1) := by decide +kernel
theorem dX10_least_23 : decode cX10_least 23 = .ok (.ireturn, 1) := by decide +kernel
theorem dX10_cover_0 : decode cX10_cover 0 = .ok (.iload_n 1, 1) := by decide +kernel
theorem dX10_cover_1 : decode cX10_cover 1 = .ok (.iconst 1, 1) := by decide +kernel
theorem dX10_cover_2 : decode cX10_cover 2 = .ok (.if_icmp .lt 16, 3) := by decide +kernel
theorem dX10_cover_5 : decode cX10_cover 5 = .ok (.iload_n 1, 1) := by decide +kernel
theorem dX10_cover_6 : decode cX10_cover 6 = .ok (.iconst 1, 1) := by decide +kernel
theorem dX10_cover_7 : decode cX10_cover 7 = .ok (.aload_n 0, 1) := by decide +kernel
theorem dX10_cover_8 : decode cX10_cover 8 = .ok (.getfield 19, 3) := by decide +kernel
theorem dX10_cover_11 : decode cX10_cover 11 = .ok (.getfield 141, 3) := by decide +kernel
theorem dX10_cover_14 : decode cX10_cover 14 = .ok (.ishl, 1) := by decide +kernel
theorem dX10_cover_15 : decode cX10_cover 15 = .ok (.if_icmp .lt 5, 3) := by decide +kernel
theorem dX10_cover_18 : decode cX10_cover 18 = .ok (.iconst (-1), 1) := by decide +kernel
theorem dX10_cover_19 : decode cX10_cover 19 = .ok (.ireturn, 1) := by decide +kernel
theorem dX10_cover_20 : decode cX10_cover 20 = .ok (.aload_n 0, 1) := by decide +kernel
theorem dX10_cover_21 : decode cX10_cover 21 = .ok (.iload_n 1, 1) := by decide +kernel
theorem dX10_cover_22 : decode cX10_cover 22 = .ok (.iload_n 2, 1) := by decide +kernel
theorem dX10_cover_23 : decode cX10_cover 23 = .ok (.invokevirtual 327, 3) := by decide +kernel
theorem dX10_cover_26 : decode cX10_cover 26 = .ok (.ireturn, 1) := by decide +kernel
theorem dX10_cheapest_0 : decode cX10_cheapest 0 = .ok (.iload_n 2, 1) := by decide +kernel
theorem dX10_cheapest_1 : decode cX10_cheapest 1 = .ok (.ifCond .lt 8, 3) := by decide +kernel
theorem dX10_cheapest_4 : decode cX10_cheapest 4 = .ok (.iload_n 2, 1) := by decide +kernel
theorem dX10_cheapest_5 : decode cX10_cheapest 5 = .ok (.iconst 1, 1) := by decide +kernel
theorem dX10_cheapest_6 : decode cX10_cheapest 6 = .ok (.if_icmp .le 5, 3) := by decide +kernel
theorem dX10_cheapest_9 : decode cX10_cheapest 9 = .ok (.iconst (-1), 1) := by decide +kernel
theorem dX10_cheapest_10 : decode cX10_cheapest 10 = .ok (.ireturn, 1) := by decide +kernel
theorem dX10_cheapest_11 : decode cX10_cheapest 11 = .ok (.iconst (-1), 1) := by decide +kernel
theorem dX10_cheapest_12 : decode cX10_cheapest 12 = .ok (.istore_n 3, 1) := by decide +kernel
theorem dX10_cheapest_13 : decode cX10_cheapest 13 = .ok (.iconst (-1), 1) := by decide +kernel
theorem dX10_cheapest_14 : decode cX10_cheapest 14 = .ok (.istore 4, 2) := by decide +kernel
theorem dX10_cheapest_16 : decode cX10_cheapest 16 = .ok (.iconst 1, 1) := by decide +kernel
theorem dX10_cheapest_17 : decode cX10_cheapest 17 = .ok (.aload_n 0, 1) := by decide +kernel
theorem dX10_cheapest_18 : decode cX10_cheapest 18 = .ok (.getfield 19, 3) := by decide +kernel
theorem dX10_cheapest_21 : decode cX10_cheapest 21 = .ok (.getfield 283, 3) := by decide +kernel
theorem dX10_cheapest_24 : decode cX10_cheapest 24 = .ok (.ishl, 1) := by decide +kernel
theorem dX10_cheapest_25 : decode cX10_cheapest 25 = .ok (.istore 5, 2) := by decide +kernel
theorem dX10_cheapest_27 : decode cX10_cheapest 27 = .ok (.iconst 0, 1) := by decide +kernel
theorem dX10_cheapest_28 : decode cX10_cheapest 28 = .ok (.istore 6, 2) := by decide +kernel
theorem dX10_cheapest_30 : decode cX10_cheapest 30 = .ok (.iload 6, 2) := by decide +kernel
theorem dX10_cheapest_32 : decode cX10_cheapest 32 = .ok (.iload 5, 2) := by decide +kernel
theorem dX10_cheapest_34 : decode cX10_cheapest 34 = .ok (.if_icmp .ge 78, 3) := by decide +kernel
theorem dX10_cheapest_37 : decode cX10_cheapest 37 = .ok (.aload_n 0, 1) := by decide +kernel
theorem dX10_cheapest_38 : decode cX10_cheapest 38 = .ok (.iload_n 1, 1) := by decide +kernel
theorem dX10_cheapest_39 : decode cX10_cheapest 39 = .ok (.iload 6, 2) := by decide +kernel
theorem dX10_cheapest_41 : decode cX10_cheapest 41 = .ok (.invokevirtual 330, 3) := by decide +kernel
theorem dX10_cheapest_44 : decode cX10_cheapest 44 = .ok (.istore 7, 2) := by decide +kernel
theorem dX10_cheapest_46 : decode cX10_cheapest 46 = .ok (.iload_n 3, 1) := by decide +kernel
theorem dX10_cheapest_47 : decode cX10_cheapest 47 = .ok (.iconst (-1), 1) := by decide +kernel
theorem dX10_cheapest_48 : decode cX10_cheapest 48 = .ok (.if_icmp .eq 29, 3) := by decide +kernel
theorem dX10_cheapest_51 : decode cX10_cheapest 51 = .ok (.iload 7, 2) := by decide +kernel
theorem dX10_cheapest_53 : decode cX10_cheapest 53 = .ok (.iload 4, 2) := by decide +kernel
theorem dX10_cheapest_55 : decode cX10_cheapest 55 = .ok (.if_icmp .lt 22, 3) := by decide +kernel
theorem dX10_cheapest_58 : decode cX10_cheapest 58 = .ok (.iload 7, 2) := by decide +kernel
theorem dX10_cheapest_60 : decode cX10_cheapest 60 = .ok (.iload 4, 2) := by decide +kernel
theorem dX10_cheapest_62 : decode cX10_cheapest 62 = .ok (.if_icmp .ne 19, 3) := by decide +kernel
theorem dX10_cheapest_65 : decode cX10_cheapest 65 = .ok (.iload 6, 2) := by decide +kernel
theorem dX10_cheapest_67 : decode cX10_cheapest 67 = .ok (.invokestatic 269, 3) := by decide +kernel
theorem dX10_cheapest_70 : decode cX10_cheapest 70 = .ok (.iload_n 3, 1) := by decide +kernel
theorem dX10_cheapest_71 : decode cX10_cheapest 71 = .ok (.invokestatic 269, 3) := by decide +kernel
theorem dX10_cheapest_74 : decode cX10_cheapest 74 = .ok (.if_icmp .ge 7, 3) := by decide +kernel
theorem dX10_cheapest_77 : decode cX10_cheapest 77 = .ok (.iconst 1, 1) := by decide +kernel
theorem dX10_cheapest_78 : decode cX10_cheapest 78 = .ok (.goto 4, 3) := by decide +kernel
theorem dX10_cheapest_81 : decode cX10_cheapest 81 = .ok (.iconst 0, 1) := by decide +kernel
theorem dX10_cheapest_82 : decode cX10_cheapest 82 = .ok (.istore 8, 2) := by decide +kernel
theorem dX10_cheapest_84 : decode cX10_cheapest 84 = .ok (.iload 8, 2) := by decide +kernel
theorem dX10_cheapest_86 : decode cX10_cheapest 86 = .ok (.ifCond .eq 20, 3) := by decide +kernel
theorem dX10_cheapest_89 : decode cX10_cheapest 89 = .ok (.aload_n 0, 1) := by decide +kernel
theorem dX10_cheapest_90 : decode cX10_cheapest 90 = .ok (.iload_n 1, 1) := by decide +kernel
theorem dX10_cheapest_91 : decode cX10_cheapest 91 = .ok (.iload 6, 2) := by decide +kernel
theorem dX10_cheapest_93 : decode cX10_cheapest 93 = .ok (.invokevirtual 333, 3) := by decide +kernel
theorem dX10_cheapest_96 : decode cX10_cheapest 96 = .ok (.ifCond .eq 10, 3) := by decide +kernel
theorem dX10_cheapest_99 : decode cX10_cheapest 99 = .ok (.iload 6, 2) := by decide +kernel
theorem dX10_cheapest_101 : decode cX10_cheapest 101 = .ok (.istore_n 3, 1) := by decide +kernel
theorem dX10_cheapest_102 : decode cX10_cheapest 102 = .ok (.iload 7, 2) := by decide +kernel
theorem dX10_cheapest_104 : decode cX10_cheapest 104 = .ok (.istore 4, 2) := by decide +kernel
theorem dX10_cheapest_106 : decode cX10_cheapest 106 = .ok (.iinc 6 1, 3) := by decide +kernel
theorem dX10_cheapest_109 : decode cX10_cheapest 109 = .ok (.goto (-79), 3) := by decide +kernel
theorem dX10_cheapest_112 : decode cX10_cheapest 112 = .ok (.iload_n 2, 1) := by decide +kernel
theorem dX10_cheapest_113 : decode cX10_cheapest 113 = .ok (.ifCond .ne 7, 3) := by decide +kernel
theorem dX10_cheapest_116 : decode cX10_cheapest 116 = .ok (.iload_n 3, 1) := by decide +kernel
theorem dX10_cheapest_117 : decode cX10_cheapest 117 = .ok (.goto 5, 3) := by decide +kernel
theorem dX10_cheapest_120 : decode cX10_cheapest 120 = .ok (.iload 4, 2) := by decide +kernel
theorem dX10_cheapest_122 : decode cX10_cheapest 122 = .ok (.ireturn, 1) := by decide +kernel
theorem dX10_harmAmong_0 : decode cX10_harmAmong 0 = .ok (.iconst 0, 1) := by decide +kernel
theorem dX10_harmAmong_1 : decode cX10_harmAmong 1 = .ok (.istore_n 3, 1) := by decide +kernel
theorem dX10_harmAmong_2 : decode cX10_harmAmong 2 = .ok (.iconst 0, 1) := by decide +kernel
theorem dX10_harmAmong_3 : decode cX10_harmAmong 3 = .ok (.istore 4, 2) := by decide +kernel
theorem dX10_harmAmong_5 : decode cX10_harmAmong 5 = .ok (.iload 4, 2) := by decide +kernel
theorem dX10_harmAmong_7 : decode cX10_harmAmong 7 = .ok (.aload_n 0, 1) := by decide +kernel
theorem dX10_harmAmong_8 : decode cX10_harmAmong 8 = .ok (.getfield 19, 3) := by decide +kernel
theorem dX10_harmAmong_11 : decode cX10_harmAmong 11 = .ok (.getfield 141, 3) := by decide +kernel
theorem dX10_harmAmong_14 : decode cX10_harmAmong 14 = .ok (.if_icmp .ge 42, 3) := by decide +kernel
theorem dX10_harmAmong_17 : decode cX10_harmAmong 17 = .ok (.iload_n 1, 1) := by decide +kernel
theorem dX10_harmAmong_18 : decode cX10_harmAmong 18 = .ok (.iload 4, 2) := by decide +kernel
theorem dX10_harmAmong_20 : decode cX10_harmAmong 20 = .ok (.ishr, 1) := by decide +kernel
theorem dX10_harmAmong_21 : decode cX10_harmAmong 21 = .ok (.iconst 1, 1) := by decide +kernel
theorem dX10_harmAmong_22 : decode cX10_harmAmong 22 = .ok (.iand, 1) := by decide +kernel
theorem dX10_harmAmong_23 : decode cX10_harmAmong 23 = .ok (.iconst 1, 1) := by decide +kernel
theorem dX10_harmAmong_24 : decode cX10_harmAmong 24 = .ok (.if_icmp .ne 26, 3) := by decide +kernel
theorem dX10_harmAmong_27 : decode cX10_harmAmong 27 = .ok (.iload_n 3, 1) := by decide +kernel
theorem dX10_harmAmong_28 : decode cX10_harmAmong 28 = .ok (.aload_n 0, 1) := by decide +kernel
theorem dX10_harmAmong_29 : decode cX10_harmAmong 29 = .ok (.getfield 19, 3) := by decide +kernel
theorem dX10_harmAmong_32 : decode cX10_harmAmong 32 = .ok (.iload_n 2, 1) := by decide +kernel
theorem dX10_harmAmong_33 : decode cX10_harmAmong 33 = .ok (.aload_n 0, 1) := by decide +kernel
theorem dX10_harmAmong_34 : decode cX10_harmAmong 34 = .ok (.getfield 58, 3) := by decide +kernel
theorem dX10_harmAmong_37 : decode cX10_harmAmong 37 = .ok (.iload 4, 2) := by decide +kernel
theorem dX10_harmAmong_39 : decode cX10_harmAmong 39 = .ok (.invokevirtual 239, 3) := by decide +kernel
theorem dX10_harmAmong_42 : decode cX10_harmAmong 42 = .ok (.iconst (-1), 1) := by decide +kernel
theorem dX10_harmAmong_43 : decode cX10_harmAmong 43 = .ok (.ixor, 1) := by decide +kernel
theorem dX10_harmAmong_44 : decode cX10_harmAmong 44 = .ok (.iand, 1) := by decide +kernel
theorem dX10_harmAmong_45 : decode cX10_harmAmong 45 = .ok (.invokevirtual 336, 3) := by decide +kernel
theorem dX10_harmAmong_48 : decode cX10_harmAmong 48 = .ok (.iadd, 1) := by decide +kernel
theorem dX10_harmAmong_49 : decode cX10_harmAmong 49 = .ok (.istore_n 3, 1) := by decide +kernel
theorem dX10_harmAmong_50 : decode cX10_harmAmong 50 = .ok (.iinc 4 1, 3) := by decide +kernel
theorem dX10_harmAmong_53 : decode cX10_harmAmong 53 = .ok (.goto (-48), 3) := by decide +kernel
theorem dX10_harmAmong_56 : decode cX10_harmAmong 56 = .ok (.iload_n 3, 1) := by decide +kernel
theorem dX10_harmAmong_57 : decode cX10_harmAmong 57 = .ok (.ireturn, 1) := by decide +kernel
theorem dX10_allGuiltyWith_0 : decode cX10_allGuiltyWith 0 = .ok (.iconst 0, 1) := by decide +kernel
theorem dX10_allGuiltyWith_1 : decode cX10_allGuiltyWith 1 = .ok (.istore_n 3, 1) := by decide +kernel
theorem dX10_allGuiltyWith_2 : decode cX10_allGuiltyWith 2 = .ok (.iload_n 3, 1) := by decide +kernel
theorem dX10_allGuiltyWith_3 : decode cX10_allGuiltyWith 3 = .ok (.aload_n 0, 1) := by decide +kernel
theorem dX10_allGuiltyWith_4 : decode cX10_allGuiltyWith 4 = .ok (.getfield 19, 3) := by decide +kernel
theorem dX10_allGuiltyWith_7 : decode cX10_allGuiltyWith 7 = .ok (.getfield 141, 3) := by decide +kernel
theorem dX10_allGuiltyWith_10 : decode cX10_allGuiltyWith 10 = .ok (.if_icmp .ge 45, 3) := by decide +kernel
theorem dX10_allGuiltyWith_13 : decode cX10_allGuiltyWith 13 = .ok (.iload_n 1, 1) := by decide +kernel
theorem dX10_allGuiltyWith_14 : decode cX10_allGuiltyWith 14 = .ok (.iload_n 3, 1) := by decide +kernel
theorem dX10_allGuiltyWith_15 : decode cX10_allGuiltyWith 15 = .ok (.ishr, 1) := by decide +kernel
theorem dX10_allGuiltyWith_16 : decode cX10_allGuiltyWith 16 = .ok (.iconst 1, 1) := by decide +kernel
theorem dX10_allGuiltyWith_17 : decode cX10_allGuiltyWith 17 = .ok (.iand, 1) := by decide +kernel
theorem dX10_allGuiltyWith_18 : decode cX10_allGuiltyWith 18 = .ok (.iconst 1, 1) := by decide +kernel
theorem dX10_allGuiltyWith_19 : decode cX10_allGuiltyWith 19 = .ok (.if_icmp .ne 30, 3) := by decide +kernel
theorem dX10_allGuiltyWith_22 : decode cX10_allGuiltyWith 22 = .ok (.aload_n 0, 1) := by decide +kernel
theorem dX10_allGuiltyWith_23 : decode cX10_allGuiltyWith 23 = .ok (.getfield 40, 3) := by decide +kernel
theorem dX10_allGuiltyWith_26 : decode cX10_allGuiltyWith 26 = .ok (.aload_n 0, 1) := by decide +kernel
theorem dX10_allGuiltyWith_27 : decode cX10_allGuiltyWith 27 = .ok (.getfield 58, 3) := by decide +kernel
theorem dX10_allGuiltyWith_30 : decode cX10_allGuiltyWith 30 = .ok (.iload_n 3, 1) := by decide +kernel
theorem dX10_allGuiltyWith_31 : decode cX10_allGuiltyWith 31 = .ok (.iload_n 2, 1) := by decide +kernel
theorem dX10_allGuiltyWith_32 : decode cX10_allGuiltyWith 32 = .ok (.aload_n 0, 1) := by decide +kernel
theorem dX10_allGuiltyWith_33 : decode cX10_allGuiltyWith 33 = .ok (.getfield 58, 3) := by decide +kernel
theorem dX10_allGuiltyWith_36 : decode cX10_allGuiltyWith 36 = .ok (.iload_n 3, 1) := by decide +kernel
theorem dX10_allGuiltyWith_37 : decode cX10_allGuiltyWith 37 = .ok (.invokevirtual 239, 3) := by decide +kernel
theorem dX10_allGuiltyWith_40 : decode cX10_allGuiltyWith 40 = .ok (.ior, 1) := by decide +kernel
theorem dX10_allGuiltyWith_41 : decode cX10_allGuiltyWith 41 = .ok (.invokevirtual 242, 3) := by decide +kernel
theorem dX10_allGuiltyWith_44 : decode cX10_allGuiltyWith 44 = .ok (.ifCond .ne 5, 3) := by decide +kernel
theorem dX10_allGuiltyWith_47 : decode cX10_allGuiltyWith 47 = .ok (.iconst 0, 1) := by decide +kernel
theorem dX10_allGuiltyWith_48 : decode cX10_allGuiltyWith 48 = .ok (.ireturn, 1) := by decide +kernel
theorem dX10_allGuiltyWith_49 : decode cX10_allGuiltyWith 49 = .ok (.iinc 3 1, 3) := by decide +kernel
theorem dX10_allGuiltyWith_52 : decode cX10_allGuiltyWith 52 = .ok (.goto (-50), 3) := by decide +kernel
theorem dX10_allGuiltyWith_55 : decode cX10_allGuiltyWith 55 = .ok (.iconst 1, 1) := by decide +kernel
theorem dX10_allGuiltyWith_56 : decode cX10_allGuiltyWith 56 = .ok (.ireturn, 1) := by decide +kernel
theorem dX10_soon_0 : decode cX10_soon 0 = .ok (.aload_n 0, 1) := by decide +kernel
theorem dX10_soon_1 : decode cX10_soon 1 = .ok (.getfield 19, 3) := by decide +kernel
theorem dX10_soon_4 : decode cX10_soon 4 = .ok (.iload_n 1, 1) := by decide +kernel
theorem dX10_soon_5 : decode cX10_soon 5 = .ok (.invokevirtual 158, 3) := by decide +kernel
theorem dX10_soon_8 : decode cX10_soon 8 = .ok (.ifCond .ne 5, 3) := by decide +kernel
theorem dX10_soon_11 : decode cX10_soon 11 = .ok (.iconst (-1), 1) := by decide +kernel
theorem dX10_soon_12 : decode cX10_soon 12 = .ok (.ireturn, 1) := by decide +kernel
theorem dX10_soon_13 : decode cX10_soon 13 = .ok (.iconst 0, 1) := by decide +kernel
theorem dX10_soon_14 : decode cX10_soon 14 = .ok (.istore_n 2, 1) := by decide +kernel
theorem dX10_soon_15 : decode cX10_soon 15 = .ok (.iload_n 2, 1) := by decide +kernel
theorem dX10_soon_16 : decode cX10_soon 16 = .ok (.bipush 60, 2) := by decide +kernel
theorem dX10_soon_18 : decode cX10_soon 18 = .ok (.if_icmp .gt 27, 3) := by decide +kernel
theorem dX10_soon_21 : decode cX10_soon 21 = .ok (.aload_n 0, 1) := by decide +kernel
theorem dX10_soon_22 : decode cX10_soon 22 = .ok (.getfield 40, 3) := by decide +kernel
theorem dX10_soon_25 : decode cX10_soon 25 = .ok (.aload_n 0, 1) := by decide +kernel
theorem dX10_soon_26 : decode cX10_soon 26 = .ok (.getfield 58, 3) := by decide +kernel
theorem dX10_soon_29 : decode cX10_soon 29 = .ok (.iload_n 1, 1) := by decide +kernel
theorem dX10_soon_30 : decode cX10_soon 30 = .ok (.iload_n 2, 1) := by decide +kernel
theorem dX10_soon_31 : decode cX10_soon 31 = .ok (.invokevirtual 339, 3) := by decide +kernel
theorem dX10_soon_34 : decode cX10_soon 34 = .ok (.ifCond .ne 5, 3) := by decide +kernel
theorem dX10_soon_37 : decode cX10_soon 37 = .ok (.iload_n 2, 1) := by decide +kernel
theorem dX10_soon_38 : decode cX10_soon 38 = .ok (.ireturn, 1) := by decide +kernel
theorem dX10_soon_39 : decode cX10_soon 39 = .ok (.iinc 2 1, 3) := by decide +kernel
theorem dX10_soon_42 : decode cX10_soon 42 = .ok (.goto (-27), 3) := by decide +kernel
theorem dX10_soon_45 : decode cX10_soon 45 = .ok (.iconst (-1), 1) := by decide +kernel
theorem dX10_soon_46 : decode cX10_soon 46 = .ok (.ireturn, 1) := by decide +kernel
theorem dX10_clean_0 : decode cX10_clean 0 = .ok (.aload_n 0, 1) := by decide +kernel
theorem dX10_clean_1 : decode cX10_clean 1 = .ok (.invokevirtual 250, 3) := by decide +kernel
theorem dX10_clean_4 : decode cX10_clean 4 = .ok (.ifCond .eq 5, 3) := by decide +kernel
theorem dX10_clean_7 : decode cX10_clean 7 = .ok (.iconst (-1), 1) := by decide +kernel
theorem dX10_clean_8 : decode cX10_clean 8 = .ok (.ireturn, 1) := by decide +kernel
theorem dX10_clean_9 : decode cX10_clean 9 = .ok (.iconst 0, 1) := by decide +kernel
theorem dX10_clean_10 : decode cX10_clean 10 = .ok (.istore_n 1, 1) := by decide +kernel
theorem dX10_clean_11 : decode cX10_clean 11 = .ok (.iconst 0, 1) := by decide +kernel
theorem dX10_clean_12 : decode cX10_clean 12 = .ok (.istore_n 2, 1) := by decide +kernel
theorem dX10_clean_13 : decode cX10_clean 13 = .ok (.iload_n 2, 1) := by decide +kernel
theorem dX10_clean_14 : decode cX10_clean 14 = .ok (.aload_n 0, 1) := by decide +kernel
theorem dX10_clean_15 : decode cX10_clean 15 = .ok (.getfield 19, 3) := by decide +kernel
theorem dX10_clean_18 : decode cX10_clean 18 = .ok (.getfield 141, 3) := by decide +kernel
theorem dX10_clean_21 : decode cX10_clean 21 = .ok (.if_icmp .ge 42, 3) := by decide +kernel
theorem dX10_clean_24 : decode cX10_clean 24 = .ok (.iconst 0, 1) := by decide +kernel
theorem dX10_clean_25 : decode cX10_clean 25 = .ok (.istore_n 3, 1) := by decide +kernel
theorem dX10_clean_26 : decode cX10_clean 26 = .ok (.iload_n 3, 1) := by decide +kernel
theorem dX10_clean_27 : decode cX10_clean 27 = .ok (.aload_n 0, 1) := by decide +kernel
theorem dX10_clean_28 : decode cX10_clean 28 = .ok (.getfield 19, 3) := by decide +kernel
theorem dX10_clean_31 : decode cX10_clean 31 = .ok (.getfield 283, 3) := by decide +kernel
theorem dX10_clean_34 : decode cX10_clean 34 = .ok (.if_icmp .ge 23, 3) := by decide +kernel
theorem dX10_clean_37 : decode cX10_clean 37 = .ok (.iload_n 1, 1) := by decide +kernel
theorem dX10_clean_38 : decode cX10_clean 38 = .ok (.aload_n 0, 1) := by decide +kernel
theorem dX10_clean_39 : decode cX10_clean 39 = .ok (.getfield 58, 3) := by decide +kernel
theorem dX10_clean_42 : decode cX10_clean 42 = .ok (.iload_n 2, 1) := by decide +kernel
theorem dX10_clean_43 : decode cX10_clean 43 = .ok (.iload_n 3, 1) := by decide +kernel
theorem dX10_clean_44 : decode cX10_clean 44 = .ok (.invokevirtual 197, 3) := by decide +kernel
theorem dX10_clean_47 : decode cX10_clean 47 = .ok (.invokestatic 342, 3) := by decide +kernel
theorem dX10_clean_50 : decode cX10_clean 50 = .ok (.istore_n 1, 1) := by decide +kernel
theorem dX10_clean_51 : decode cX10_clean 51 = .ok (.iinc 3 1, 3) := by decide +kernel
theorem dX10_clean_54 : decode cX10_clean 54 = .ok (.goto (-28), 3) := by decide +kernel
theorem dX10_clean_57 : decode cX10_clean 57 = .ok (.iinc 2 1, 3) := by decide +kernel
theorem dX10_clean_60 : decode cX10_clean 60 = .ok (.goto (-47), 3) := by decide +kernel
theorem dX10_clean_63 : decode cX10_clean 63 = .ok (.iload_n 1, 1) := by decide +kernel
theorem dX10_clean_64 : decode cX10_clean 64 = .ok (.ireturn, 1) := by decide +kernel
theorem dX10_bargain_0 : decode cX10_bargain 0 = .ok (.aload_n 0, 1) := by decide +kernel
theorem dX10_bargain_1 : decode cX10_bargain 1 = .ok (.getfield 19, 3) := by decide +kernel
theorem dX10_bargain_4 : decode cX10_bargain 4 = .ok (.iload_n 1, 1) := by decide +kernel
theorem dX10_bargain_5 : decode cX10_bargain 5 = .ok (.invokevirtual 158, 3) := by decide +kernel
theorem dX10_bargain_8 : decode cX10_bargain 8 = .ok (.ifCond .eq 19, 3) := by decide +kernel
theorem dX10_bargain_11 : decode cX10_bargain 11 = .ok (.aload_n 0, 1) := by decide +kernel
theorem dX10_bargain_12 : decode cX10_bargain 12 = .ok (.getfield 19, 3) := by decide +kernel
theorem dX10_bargain_15 : decode cX10_bargain 15 = .ok (.iload_n 2, 1) := by decide +kernel
theorem dX10_bargain_16 : decode cX10_bargain 16 = .ok (.invokevirtual 158, 3) := by decide +kernel
theorem dX10_bargain_19 : decode cX10_bargain 19 = .ok (.ifCond .eq 8, 3) := by decide +kernel
theorem dX10_bargain_22 : decode cX10_bargain 22 = .ok (.iload_n 1, 1) := by decide +kernel
theorem dX10_bargain_23 : decode cX10_bargain 23 = .ok (.iload_n 2, 1) := by decide +kernel
theorem dX10_bargain_24 : decode cX10_bargain 24 = .ok (.if_icmp .ne 5, 3) := by decide +kernel
theorem dX10_bargain_27 : decode cX10_bargain 27 = .ok (.iconst (-1), 1) := by decide +kernel
theorem dX10_bargain_28 : decode cX10_bargain 28 = .ok (.ireturn, 1) := by decide +kernel
theorem dX10_bargain_29 : decode cX10_bargain 29 = .ok (.aload_n 0, 1) := by decide +kernel
theorem dX10_bargain_30 : decode cX10_bargain 30 = .ok (.getfield 58, 3) := by decide +kernel
theorem dX10_bargain_33 : decode cX10_bargain 33 = .ok (.iload_n 1, 1) := by decide +kernel
theorem dX10_bargain_34 : decode cX10_bargain 34 = .ok (.invokevirtual 239, 3) := by decide +kernel
theorem dX10_bargain_37 : decode cX10_bargain 37 = .ok (.istore_n 3, 1) := by decide +kernel
theorem dX10_bargain_38 : decode cX10_bargain 38 = .ok (.aload_n 0, 1) := by decide +kernel
theorem dX10_bargain_39 : decode cX10_bargain 39 = .ok (.getfield 58, 3) := by decide +kernel
theorem dX10_bargain_42 : decode cX10_bargain 42 = .ok (.iload_n 2, 1) := by decide +kernel
theorem dX10_bargain_43 : decode cX10_bargain 43 = .ok (.invokevirtual 239, 3) := by decide +kernel
theorem dX10_bargain_46 : decode cX10_bargain 46 = .ok (.istore 4, 2) := by decide +kernel
theorem dX10_bargain_48 : decode cX10_bargain 48 = .ok (.iconst 0, 1) := by decide +kernel
theorem dX10_bargain_49 : decode cX10_bargain 49 = .ok (.istore 5, 2) := by decide +kernel
theorem dX10_bargain_51 : decode cX10_bargain 51 = .ok (.iload 5, 2) := by decide +kernel
theorem dX10_bargain_53 : decode cX10_bargain 53 = .ok (.aload_n 0, 1) := by decide +kernel
theorem dX10_bargain_54 : decode cX10_bargain 54 = .ok (.getfield 19, 3) := by decide +kernel
theorem dX10_bargain_57 : decode cX10_bargain 57 = .ok (.getfield 283, 3) := by decide +kernel
theorem dX10_bargain_60 : decode cX10_bargain 60 = .ok (.if_icmp .ge 71, 3) := by decide +kernel
theorem dX10_bargain_63 : decode cX10_bargain 63 = .ok (.iconst 1, 1) := by decide +kernel
theorem dX10_bargain_64 : decode cX10_bargain 64 = .ok (.iload 5, 2) := by decide +kernel
theorem dX10_bargain_66 : decode cX10_bargain 66 = .ok (.ishl, 1) := by decide +kernel
theorem dX10_bargain_67 : decode cX10_bargain 67 = .ok (.istore 6, 2) := by decide +kernel
theorem dX10_bargain_69 : decode cX10_bargain 69 = .ok (.iload_n 3, 1) := by decide +kernel
theorem dX10_bargain_70 : decode cX10_bargain 70 = .ok (.iload 4, 2) := by decide +kernel
theorem dX10_bargain_72 : decode cX10_bargain 72 = .ok (.iconst (-1), 1) := by decide +kernel
theorem dX10_bargain_73 : decode cX10_bargain 73 = .ok (.ixor, 1) := by decide +kernel
theorem dX10_bargain_74 : decode cX10_bargain 74 = .ok (.iand, 1) := by decide +kernel
theorem dX10_bargain_75 : decode cX10_bargain 75 = .ok (.iload 6, 2) := by decide +kernel
theorem dX10_bargain_77 : decode cX10_bargain 77 = .ok (.iand, 1) := by decide +kernel
theorem dX10_bargain_78 : decode cX10_bargain 78 = .ok (.ifCond .eq 47, 3) := by decide +kernel
theorem dX10_bargain_81 : decode cX10_bargain 81 = .ok (.aload_n 0, 1) := by decide +kernel
theorem dX10_bargain_82 : decode cX10_bargain 82 = .ok (.getfield 40, 3) := by decide +kernel
theorem dX10_bargain_85 : decode cX10_bargain 85 = .ok (.aload_n 0, 1) := by decide +kernel
theorem dX10_bargain_86 : decode cX10_bargain 86 = .ok (.getfield 58, 3) := by decide +kernel
theorem dX10_bargain_89 : decode cX10_bargain 89 = .ok (.iload_n 1, 1) := by decide +kernel
theorem dX10_bargain_90 : decode cX10_bargain 90 = .ok (.iload_n 3, 1) := by decide +kernel
theorem dX10_bargain_91 : decode cX10_bargain 91 = .ok (.iload 6, 2) := by decide +kernel
theorem dX10_bargain_93 : decode cX10_bargain 93 = .ok (.iconst (-1), 1) := by decide +kernel
theorem dX10_bargain_94 : decode cX10_bargain 94 = .ok (.ixor, 1) := by decide +kernel
theorem dX10_bargain_95 : decode cX10_bargain 95 = .ok (.iand, 1) := by decide +kernel
theorem dX10_bargain_96 : decode cX10_bargain 96 = .ok (.invokevirtual 242, 3) := by decide +kernel
theorem dX10_bargain_99 : decode cX10_bargain 99 = .ok (.ifCond .eq 26, 3) := by decide +kernel
theorem dX10_bargain_102 : decode cX10_bargain 102 = .ok (.aload_n 0, 1) := by decide +kernel
theorem dX10_bargain_103 : decode cX10_bargain 103 = .ok (.getfield 40, 3) := by decide +kernel
theorem dX10_bargain_106 : decode cX10_bargain 106 = .ok (.aload_n 0, 1) := by decide +kernel
theorem dX10_bargain_107 : decode cX10_bargain 107 = .ok (.getfield 58, 3) := by decide +kernel
theorem dX10_bargain_110 : decode cX10_bargain 110 = .ok (.iload_n 2, 1) := by decide +kernel
theorem dX10_bargain_111 : decode cX10_bargain 111 = .ok (.iload 4, 2) := by decide +kernel
theorem dX10_bargain_113 : decode cX10_bargain 113 = .ok (.iload 6, 2) := by decide +kernel
theorem dX10_bargain_115 : decode cX10_bargain 115 = .ok (.ior, 1) := by decide +kernel
theorem dX10_bargain_116 : decode cX10_bargain 116 = .ok (.invokevirtual 242, 3) := by decide +kernel
theorem dX10_bargain_119 : decode cX10_bargain 119 = .ok (.ifCond .eq 6, 3) := by decide +kernel
theorem dX10_bargain_122 : decode cX10_bargain 122 = .ok (.iload 5, 2) := by decide +kernel
theorem dX10_bargain_124 : decode cX10_bargain 124 = .ok (.ireturn, 1) := by decide +kernel
theorem dX10_bargain_125 : decode cX10_bargain 125 = .ok (.iinc 5 1, 3) := by decide +kernel
theorem dX10_bargain_128 : decode cX10_bargain 128 = .ok (.goto (-77), 3) := by decide +kernel
theorem dX10_bargain_131 : decode cX10_bargain 131 = .ok (.iconst (-1), 1) := by decide +kernel
theorem dX10_bargain_132 : decode cX10_bargain 132 = .ok (.ireturn, 1) := by decide +kernel
theorem dX10_seen_0 : decode cX10_seen 0 = .ok (.aload_n 0, 1) := by decide +kernel
theorem dX10_seen_1 : decode cX10_seen 1 = .ok (.getfield 19, 3) := by decide +kernel
theorem dX10_seen_4 : decode cX10_seen 4 = .ok (.iload_n 1, 1) := by decide +kernel
theorem dX10_seen_5 : decode cX10_seen 5 = .ok (.invokevirtual 158, 3) := by decide +kernel
theorem dX10_seen_8 : decode cX10_seen 8 = .ok (.ifCond .eq 25, 3) := by decide +kernel
theorem dX10_seen_11 : decode cX10_seen 11 = .ok (.iload_n 2, 1) := by decide +kernel
theorem dX10_seen_12 : decode cX10_seen 12 = .ok (.ifCond .lt 21, 3) := by decide +kernel
theorem dX10_seen_15 : decode cX10_seen 15 = .ok (.iload_n 2, 1) := by decide +kernel
theorem dX10_seen_16 : decode cX10_seen 16 = .ok (.bipush 99, 2) := by decide +kernel
theorem dX10_seen_18 : decode cX10_seen 18 = .ok (.if_icmp .gt 15, 3) := by decide +kernel
theorem dX10_seen_21 : decode cX10_seen 21 = .ok (.aload_n 0, 1) := by decide +kernel
theorem dX10_seen_22 : decode cX10_seen 22 = .ok (.getfield 80, 3) := by decide +kernel
theorem dX10_seen_25 : decode cX10_seen 25 = .ok (.getfield 347, 3) := by decide +kernel
theorem dX10_seen_28 : decode cX10_seen 28 = .ok (.bipush 10, 2) := by decide +kernel
theorem dX10_seen_30 : decode cX10_seen 30 = .ok (.if_icmp .ne 5, 3) := by decide +kernel
theorem dX10_seen_33 : decode cX10_seen 33 = .ok (.iconst (-1), 1) := by decide +kernel
theorem dX10_seen_34 : decode cX10_seen 34 = .ok (.ireturn, 1) := by decide +kernel
theorem dX10_seen_35 : decode cX10_seen 35 = .ok (.aload_n 0, 1) := by decide +kernel
theorem dX10_seen_36 : decode cX10_seen 36 = .ok (.getfield 80, 3) := by decide +kernel
theorem dX10_seen_39 : decode cX10_seen 39 = .ok (.iload_n 1, 1) := by decide +kernel
theorem dX10_seen_40 : decode cX10_seen 40 = .ok (.iload_n 2, 1) := by decide +kernel
theorem dX10_seen_41 : decode cX10_seen 41 = .ok (.iload_n 3, 1) := by decide +kernel
theorem dX10_seen_42 : decode cX10_seen 42 = .ok (.invokevirtual 350, 3) := by decide +kernel
theorem dX10_seen_45 : decode cX10_seen 45 = .ok (.ireturn, 1) := by decide +kernel
theorem dX10_sets_0 : decode cX10_sets 0 = .ok (.aload_n 0, 1) := by decide +kernel
theorem dX10_sets_1 : decode cX10_sets 1 = .ok (.getfield 19, 3) := by decide +kernel
theorem dX10_sets_4 : decode cX10_sets 4 = .ok (.iload_n 1, 1) := by decide +kernel
theorem dX10_sets_5 : decode cX10_sets 5 = .ok (.invokevirtual 158, 3) := by decide +kernel
theorem dX10_sets_8 : decode cX10_sets 8 = .ok (.ifCond .eq 8, 3) := by decide +kernel
theorem dX10_sets_11 : decode cX10_sets 11 = .ok (.iload_n 2, 1) := by decide +kernel
theorem dX10_sets_12 : decode cX10_sets 12 = .ok (.iconst (-1), 1) := by decide +kernel
theorem dX10_sets_13 : decode cX10_sets 13 = .ok (.if_icmp .ge 5, 3) := by decide +kernel
theorem dX10_sets_16 : decode cX10_sets 16 = .ok (.iconst (-1), 1) := by decide +kernel
theorem dX10_sets_17 : decode cX10_sets 17 = .ok (.ireturn, 1) := by decide +kernel
theorem dX10_sets_18 : decode cX10_sets 18 = .ok (.aload_n 0, 1) := by decide +kernel
theorem dX10_sets_19 : decode cX10_sets 19 = .ok (.getfield 80, 3) := by decide +kernel
theorem dX10_sets_22 : decode cX10_sets 22 = .ok (.iload_n 1, 1) := by decide +kernel
theorem dX10_sets_23 : decode cX10_sets 23 = .ok (.iload_n 2, 1) := by decide +kernel
theorem dX10_sets_24 : decode cX10_sets 24 = .ok (.invokevirtual 353, 3) := by decide +kernel
theorem dX10_sets_27 : decode cX10_sets 27 = .ok (.ireturn, 1) := by decide +kernel
theorem dX10_ask_0 : decode cX10_ask 0 = .ok (.aload_n 0, 1) := by decide +kernel
theorem dX10_ask_1 : decode cX10_ask 1 = .ok (.getfield 19, 3) := by decide +kernel
theorem dX10_ask_4 : decode cX10_ask 4 = .ok (.iload_n 1, 1) := by decide +kernel
theorem dX10_ask_5 : decode cX10_ask 5 = .ok (.invokevirtual 158, 3) := by decide +kernel
theorem dX10_ask_8 : decode cX10_ask 8 = .ok (.ifCond .eq 14, 3) := by decide +kernel
theorem dX10_ask_11 : decode cX10_ask 11 = .ok (.aload_n 0, 1) := by decide +kernel
theorem dX10_ask_12 : decode cX10_ask 12 = .ok (.getfield 80, 3) := by decide +kernel
theorem dX10_ask_15 : decode cX10_ask 15 = .ok (.iload_n 1, 1) := by decide +kernel
theorem dX10_ask_16 : decode cX10_ask 16 = .ok (.invokevirtual 356, 3) := by decide +kernel
theorem dX10_ask_19 : decode cX10_ask 19 = .ok (.goto 4, 3) := by decide +kernel
theorem dX10_ask_22 : decode cX10_ask 22 = .ok (.iconst (-1), 1) := by decide +kernel
theorem dX10_ask_23 : decode cX10_ask 23 = .ok (.ireturn, 1) := by decide +kernel
theorem dX10_game_0 : decode cX10_game 0 = .ok (.aload_n 0, 1) := by decide +kernel
theorem dX10_game_1 : decode cX10_game 1 = .ok (.getfield 19, 3) := by decide +kernel
theorem dX10_game_4 : decode cX10_game 4 = .ok (.iload_n 1, 1) := by decide +kernel
theorem dX10_game_5 : decode cX10_game 5 = .ok (.invokevirtual 158, 3) := by decide +kernel
theorem dX10_game_8 : decode cX10_game 8 = .ok (.ifCond .eq 32, 3) := by decide +kernel
theorem dX10_game_11 : decode cX10_game 11 = .ok (.iload_n 2, 1) := by decide +kernel
theorem dX10_game_12 : decode cX10_game 12 = .ok (.ifCond .lt 28, 3) := by decide +kernel
theorem dX10_game_15 : decode cX10_game 15 = .ok (.iload_n 2, 1) := by decide +kernel
theorem dX10_game_16 : decode cX10_game 16 = .ok (.iconst 4, 1) := by decide +kernel
theorem dX10_game_17 : decode cX10_game 17 = .ok (.if_icmp .ge 23, 3) := by decide +kernel
theorem dX10_game_20 : decode cX10_game 20 = .ok (.iload_n 3, 1) := by decide +kernel
theorem dX10_game_21 : decode cX10_game 21 = .ok (.ifCond .lt 19, 3) := by decide +kernel
theorem dX10_game_24 : decode cX10_game 24 = .ok (.iload_n 3, 1) := by decide +kernel
theorem dX10_game_25 : decode cX10_game 25 = .ok (.iconst 3, 1) := by decide +kernel
theorem dX10_game_26 : decode cX10_game 26 = .ok (.if_icmp .ge 14, 3) := by decide +kernel
theorem dX10_game_29 : decode cX10_game 29 = .ok (.iload 4, 2) := by decide +kernel
theorem dX10_game_31 : decode cX10_game 31 = .ok (.ifCond .lt 9, 3) := by decide +kernel
theorem dX10_game_34 : decode cX10_game 34 = .ok (.iload 4, 2) := by decide +kernel
theorem dX10_game_36 : decode cX10_game 36 = .ok (.iconst 1, 1) := by decide +kernel
theorem dX10_game_37 : decode cX10_game 37 = .ok (.if_icmp .le 7, 3) := by decide +kernel
theorem dX10_game_40 : decode cX10_game 40 = .ok (.ldc_w 301, 3) := by decide +kernel
theorem dX10_game_43 : decode cX10_game 43 = .ok (.ireturn, 1) := by decide +kernel
theorem dX10_game_44 : decode cX10_game 44 = .ok (.aload_n 0, 1) := by decide +kernel
theorem dX10_game_45 : decode cX10_game 45 = .ok (.iload_n 1, 1) := by decide +kernel
theorem dX10_game_46 : decode cX10_game 46 = .ok (.invokevirtual 359, 3) := by decide +kernel
theorem dX10_game_49 : decode cX10_game 49 = .ok (.istore 5, 2) := by decide +kernel
theorem dX10_game_51 : decode cX10_game 51 = .ok (.iload 4, 2) := by decide +kernel
theorem dX10_game_53 : decode cX10_game 53 = .ok (.ifCond .ne 13, 3) := by decide +kernel
theorem dX10_game_56 : decode cX10_game 56 = .ok (.iload 5, 2) := by decide +kernel
theorem dX10_game_58 : decode cX10_game 58 = .ok (.iload_n 2, 1) := by decide +kernel
theorem dX10_game_59 : decode cX10_game 59 = .ok (.iload_n 3, 1) := by decide +kernel
theorem dX10_game_60 : decode cX10_game 60 = .ok (.invokestatic 362, 3) := by decide +kernel
theorem dX10_game_63 : decode cX10_game 63 = .ok (.goto 10, 3) := by decide +kernel
theorem dX10_game_66 : decode cX10_game 66 = .ok (.iload 5, 2) := by decide +kernel
theorem dX10_game_68 : decode cX10_game 68 = .ok (.iload_n 2, 1) := by decide +kernel
theorem dX10_game_69 : decode cX10_game 69 = .ok (.iload_n 3, 1) := by decide +kernel
theorem dX10_game_70 : decode cX10_game 70 = .ok (.invokestatic 366, 3) := by decide +kernel
theorem dX10_game_73 : decode cX10_game 73 = .ok (.ireturn, 1) := by decide +kernel
theorem dX10_verdictsOn_0 : decode cX10_verdictsOn 0 = .ok (.aload_n 0, 1) := by decide +kernel
theorem dX10_verdictsOn_1 : decode cX10_verdictsOn 1 = .ok (.getfield 58, 3) := by decide +kernel
theorem dX10_verdictsOn_4 : decode cX10_verdictsOn 4 = .ok (.iload_n 1, 1) := by decide +kernel
theorem dX10_verdictsOn_5 : decode cX10_verdictsOn 5 = .ok (.invokevirtual 239, 3) := by decide +kernel
theorem dX10_verdictsOn_8 : decode cX10_verdictsOn 8 = .ok (.istore_n 2, 1) := by decide +kernel
theorem dX10_verdictsOn_9 : decode cX10_verdictsOn 9 = .ok (.aload_n 0, 1) := by decide +kernel
theorem dX10_verdictsOn_10 : decode cX10_verdictsOn 10 = .ok (.getfield 19, 3) := by decide +kernel
theorem dX10_verdictsOn_13 : decode cX10_verdictsOn 13 = .ok (.iload_n 2, 1) := by decide +kernel
theorem dX10_verdictsOn_14 : decode cX10_verdictsOn 14 = .ok (.invokevirtual 320, 3) := by decide +kernel
theorem dX10_verdictsOn_17 : decode cX10_verdictsOn 17 = .ok (.istore_n 3, 1) := by decide +kernel
theorem dX10_verdictsOn_18 : decode cX10_verdictsOn 18 = .ok (.iconst 0, 1) := by decide +kernel
theorem dX10_verdictsOn_19 : decode cX10_verdictsOn 19 = .ok (.istore 4, 2) := by decide +kernel
theorem dX10_verdictsOn_21 : decode cX10_verdictsOn 21 = .ok (.iconst 0, 1) := by decide +kernel
theorem dX10_verdictsOn_22 : decode cX10_verdictsOn 22 = .ok (.istore 5, 2) := by decide +kernel
theorem dX10_verdictsOn_24 : decode cX10_verdictsOn 24 = .ok (.iload 5, 2) := by decide +kernel
theorem dX10_verdictsOn_26 : decode cX10_verdictsOn 26 = .ok (.iconst 4, 1) := by decide +kernel
theorem dX10_verdictsOn_27 : decode cX10_verdictsOn 27 = .ok (.if_icmp .ge 77, 3) := by decide +kernel
theorem dX10_verdictsOn_30 : decode cX10_verdictsOn 30 = .ok (.iconst 0, 1) := by decide +kernel
theorem dX10_verdictsOn_31 : decode cX10_verdictsOn 31 = .ok (.istore 6, 2) := by decide +kernel
theorem dX10_verdictsOn_33 : decode cX10_verdictsOn 33 = .ok (.iload 6, 2) := by decide +kernel
theorem dX10_verdictsOn_35 : decode cX10_verdictsOn 35 = .ok (.iconst 3, 1) := by decide +kernel
theorem dX10_verdictsOn_36 : decode cX10_verdictsOn 36 = .ok (.if_icmp .ge 62, 3) := by decide +kernel
theorem dX10_verdictsOn_39 : decode cX10_verdictsOn 39 = .ok (.iconst 0, 1) := by decide +kernel
theorem dX10_verdictsOn_40 : decode cX10_verdictsOn 40 = .ok (.iload_n 3, 1) := by decide +kernel
theorem dX10_verdictsOn_41 : decode cX10_verdictsOn 41 = .ok (.iconst 2, 1) := by decide +kernel
theorem dX10_verdictsOn_42 : decode cX10_verdictsOn 42 = .ok (.iload 5, 2) := by decide +kernel
theorem dX10_verdictsOn_44 : decode cX10_verdictsOn 44 = .ok (.imul, 1) := by decide +kernel
theorem dX10_verdictsOn_45 : decode cX10_verdictsOn 45 = .ok (.iadd, 1) := by decide +kernel
theorem dX10_verdictsOn_46 : decode cX10_verdictsOn 46 = .ok (.iconst 3, 1) := by decide +kernel
theorem dX10_verdictsOn_47 : decode cX10_verdictsOn 47 = .ok (.iload 6, 2) := by decide +kernel
theorem dX10_verdictsOn_49 : decode cX10_verdictsOn 49 = .ok (.imul, 1) := by decide +kernel
theorem dX10_verdictsOn_50 : decode cX10_verdictsOn 50 = .ok (.isub, 1) := by decide +kernel
theorem dX10_verdictsOn_51 : decode cX10_verdictsOn 51 = .ok (.invokestatic 342, 3) := by decide +kernel
theorem dX10_verdictsOn_54 : decode cX10_verdictsOn 54 = .ok (.istore 7, 2) := by decide +kernel
theorem dX10_verdictsOn_56 : decode cX10_verdictsOn 56 = .ok (.aload_n 0, 1) := by decide +kernel
theorem dX10_verdictsOn_57 : decode cX10_verdictsOn 57 = .ok (.getfield 40, 3) := by decide +kernel
theorem dX10_verdictsOn_60 : decode cX10_verdictsOn 60 = .ok (.aload_n 0, 1) := by decide +kernel
theorem dX10_verdictsOn_61 : decode cX10_verdictsOn 61 = .ok (.getfield 58, 3) := by decide +kernel
theorem dX10_verdictsOn_64 : decode cX10_verdictsOn 64 = .ok (.iload_n 1, 1) := by decide +kernel
theorem dX10_verdictsOn_65 : decode cX10_verdictsOn 65 = .ok (.iconst 0, 1) := by decide +kernel
theorem dX10_verdictsOn_66 : decode cX10_verdictsOn 66 = .ok (.iload 7, 2) := by decide +kernel
theorem dX10_verdictsOn_68 : decode cX10_verdictsOn 68 = .ok (.iload_n 2, 1) := by decide +kernel
theorem dX10_verdictsOn_69 : decode cX10_verdictsOn 69 = .ok (.invokestatic 269, 3) := by decide +kernel
theorem dX10_verdictsOn_72 : decode cX10_verdictsOn 72 = .ok (.invokevirtual 323, 3) := by decide +kernel
theorem dX10_verdictsOn_75 : decode cX10_verdictsOn 75 = .ok (.ifCond .le 17, 3) := by decide +kernel
theorem dX10_verdictsOn_78 : decode cX10_verdictsOn 78 = .ok (.iload 4, 2) := by decide +kernel
theorem dX10_verdictsOn_80 : decode cX10_verdictsOn 80 = .ok (.iconst 1, 1) := by decide +kernel
theorem dX10_verdictsOn_81 : decode cX10_verdictsOn 81 = .ok (.iconst 3, 1) := by decide +kernel
theorem dX10_verdictsOn_82 : decode cX10_verdictsOn 82 = .ok (.iload 5, 2) := by decide +kernel
theorem dX10_verdictsOn_84 : decode cX10_verdictsOn 84 = .ok (.imul, 1) := by decide +kernel
theorem dX10_verdictsOn_85 : decode cX10_verdictsOn 85 = .ok (.iload 6, 2) := by decide +kernel
theorem dX10_verdictsOn_87 : decode cX10_verdictsOn 87 = .ok (.iadd, 1) := by decide +kernel
theorem dX10_verdictsOn_88 : decode cX10_verdictsOn 88 = .ok (.ishl, 1) := by decide +kernel
theorem dX10_verdictsOn_89 : decode cX10_verdictsOn 89 = .ok (.ior, 1) := by decide +kernel
theorem dX10_verdictsOn_90 : decode cX10_verdictsOn 90 = .ok (.istore 4, 2) := by decide +kernel
theorem dX10_verdictsOn_92 : decode cX10_verdictsOn 92 = .ok (.iinc 6 1, 3) := by decide +kernel
theorem dX10_verdictsOn_95 : decode cX10_verdictsOn 95 = .ok (.goto (-62), 3) := by decide +kernel
theorem dX10_verdictsOn_98 : decode cX10_verdictsOn 98 = .ok (.iinc 5 1, 3) := by decide +kernel
theorem dX10_verdictsOn_101 : decode cX10_verdictsOn 101 = .ok (.goto (-77), 3) := by decide +kernel
theorem dX10_verdictsOn_104 : decode cX10_verdictsOn 104 = .ok (.iload 4, 2) := by decide +kernel
theorem dX10_verdictsOn_106 : decode cX10_verdictsOn 106 = .ok (.ireturn, 1) := by decide +kernel
theorem dX10_gainOfPerson_0 : decode cX10_gainOfPerson 0 = .ok (.bipush 6, 2) := by decide +kernel
theorem dX10_gainOfPerson_2 : decode cX10_gainOfPerson 2 = .ok (.iload_n 0, 1) := by decide +kernel
theorem dX10_gainOfPerson_3 : decode cX10_gainOfPerson 3 = .ok (.iconst 3, 1) := by decide +kernel
theorem dX10_gainOfPerson_4 : decode cX10_gainOfPerson 4 = .ok (.iload_n 1, 1) := by decide +kernel
theorem dX10_gainOfPerson_5 : decode cX10_gainOfPerson 5 = .ok (.imul, 1) := by decide +kernel
theorem dX10_gainOfPerson_6 : decode cX10_gainOfPerson 6 = .ok (.iload_n 2, 1) := by decide +kernel
theorem dX10_gainOfPerson_7 : decode cX10_gainOfPerson 7 = .ok (.iadd, 1) := by decide +kernel
theorem dX10_gainOfPerson_8 : decode cX10_gainOfPerson 8 = .ok (.ishr, 1) := by decide +kernel
theorem dX10_gainOfPerson_9 : decode cX10_gainOfPerson 9 = .ok (.iconst 1, 1) := by decide +kernel
theorem dX10_gainOfPerson_10 : decode cX10_gainOfPerson 10 = .ok (.iand, 1) := by decide +kernel
theorem dX10_gainOfPerson_11 : decode cX10_gainOfPerson 11 = .ok (.imul, 1) := by decide +kernel
theorem dX10_gainOfPerson_12 : decode cX10_gainOfPerson 12 = .ok (.iload_n 1, 1) := by decide +kernel
theorem dX10_gainOfPerson_13 : decode cX10_gainOfPerson 13 = .ok (.isub, 1) := by decide +kernel
theorem dX10_gainOfPerson_14 : decode cX10_gainOfPerson 14 = .ok (.ireturn, 1) := by decide +kernel
theorem dX10_gainOfBarber_0 : decode cX10_gainOfBarber 0 = .ok (.iload_n 0, 1) := by decide +kernel
theorem dX10_gainOfBarber_1 : decode cX10_gainOfBarber 1 = .ok (.iconst 3, 1) := by decide +kernel
theorem dX10_gainOfBarber_2 : decode cX10_gainOfBarber 2 = .ok (.iload_n 1, 1) := by decide +kernel
theorem dX10_gainOfBarber_3 : decode cX10_gainOfBarber 3 = .ok (.imul, 1) := by decide +kernel
theorem dX10_gainOfBarber_4 : decode cX10_gainOfBarber 4 = .ok (.iload_n 2, 1) := by decide +kernel
theorem dX10_gainOfBarber_5 : decode cX10_gainOfBarber 5 = .ok (.iadd, 1) := by decide +kernel
theorem dX10_gainOfBarber_6 : decode cX10_gainOfBarber 6 = .ok (.ishr, 1) := by decide +kernel
theorem dX10_gainOfBarber_7 : decode cX10_gainOfBarber 7 = .ok (.iconst 1, 1) := by decide +kernel
theorem dX10_gainOfBarber_8 : decode cX10_gainOfBarber 8 = .ok (.iand, 1) := by decide +kernel
theorem dX10_gainOfBarber_9 : decode cX10_gainOfBarber 9 = .ok (.iload_n 0, 1) := by decide +kernel
theorem dX10_gainOfBarber_10 : decode cX10_gainOfBarber 10 = .ok (.iconst 1, 1) := by decide +kernel
theorem dX10_gainOfBarber_11 : decode cX10_gainOfBarber 11 = .ok (.iand, 1) := by decide +kernel
theorem dX10_gainOfBarber_12 : decode cX10_gainOfBarber 12 = .ok (.if_icmp .ne 7, 3) := by decide +kernel
theorem dX10_gainOfBarber_15 : decode cX10_gainOfBarber 15 = .ok (.iconst 1, 1) := by decide +kernel
theorem dX10_gainOfBarber_16 : decode cX10_gainOfBarber 16 = .ok (.goto 4, 3) := by decide +kernel
theorem dX10_gainOfBarber_19 : decode cX10_gainOfBarber 19 = .ok (.iconst 0, 1) := by decide +kernel
theorem dX10_gainOfBarber_20 : decode cX10_gainOfBarber 20 = .ok (.istore_n 3, 1) := by decide +kernel
theorem dX10_gainOfBarber_21 : decode cX10_gainOfBarber 21 = .ok (.iload_n 3, 1) := by decide +kernel
theorem dX10_gainOfBarber_22 : decode cX10_gainOfBarber 22 = .ok (.ifCond .eq 7, 3) := by decide +kernel
theorem dX10_gainOfBarber_25 : decode cX10_gainOfBarber 25 = .ok (.iconst 5, 1) := by decide +kernel
theorem dX10_gainOfBarber_26 : decode cX10_gainOfBarber 26 = .ok (.goto 4, 3) := by decide +kernel
theorem dX10_gainOfBarber_29 : decode cX10_gainOfBarber 29 = .ok (.iconst 0, 1) := by decide +kernel
theorem dX10_gainOfBarber_30 : decode cX10_gainOfBarber 30 = .ok (.iload_n 2, 1) := by decide +kernel
theorem dX10_gainOfBarber_31 : decode cX10_gainOfBarber 31 = .ok (.isub, 1) := by decide +kernel
theorem dX10_gainOfBarber_32 : decode cX10_gainOfBarber 32 = .ok (.ireturn, 1) := by decide +kernel
theorem dX10_rests_0 : decode cX10_rests 0 = .ok (.aload_n 0, 1) := by decide +kernel
theorem dX10_rests_1 : decode cX10_rests 1 = .ok (.getfield 19, 3) := by decide +kernel
theorem dX10_rests_4 : decode cX10_rests 4 = .ok (.iload_n 1, 1) := by decide +kernel
theorem dX10_rests_5 : decode cX10_rests 5 = .ok (.invokevirtual 158, 3) := by decide +kernel
theorem dX10_rests_8 : decode cX10_rests 8 = .ok (.ifCond .ne 5, 3) := by decide +kernel
theorem dX10_rests_11 : decode cX10_rests 11 = .ok (.iconst (-1), 1) := by decide +kernel
theorem dX10_rests_12 : decode cX10_rests 12 = .ok (.ireturn, 1) := by decide +kernel
theorem dX10_rests_13 : decode cX10_rests 13 = .ok (.aload_n 0, 1) := by decide +kernel
theorem dX10_rests_14 : decode cX10_rests 14 = .ok (.iload_n 1, 1) := by decide +kernel
theorem dX10_rests_15 : decode cX10_rests 15 = .ok (.invokevirtual 359, 3) := by decide +kernel
theorem dX10_rests_18 : decode cX10_rests 18 = .ok (.istore_n 3, 1) := by decide +kernel
theorem dX10_rests_19 : decode cX10_rests 19 = .ok (.iconst 0, 1) := by decide +kernel
theorem dX10_rests_20 : decode cX10_rests 20 = .ok (.istore 4, 2) := by decide +kernel
theorem dX10_rests_22 : decode cX10_rests 22 = .ok (.iconst 0, 1) := by decide +kernel
theorem dX10_rests_23 : decode cX10_rests 23 = .ok (.istore 5, 2) := by decide +kernel
theorem dX10_rests_25 : decode cX10_rests 25 = .ok (.iload 5, 2) := by decide +kernel
theorem dX10_rests_27 : decode cX10_rests 27 = .ok (.iconst 4, 1) := by decide +kernel
theorem dX10_rests_28 : decode cX10_rests 28 = .ok (.if_icmp .ge 53, 3) := by decide +kernel
theorem dX10_rests_31 : decode cX10_rests 31 = .ok (.iconst 0, 1) := by decide +kernel
theorem dX10_rests_32 : decode cX10_rests 32 = .ok (.istore 6, 2) := by decide +kernel
theorem dX10_rests_34 : decode cX10_rests 34 = .ok (.iload 6, 2) := by decide +kernel
theorem dX10_rests_36 : decode cX10_rests 36 = .ok (.iconst 3, 1) := by decide +kernel
theorem dX10_rests_37 : decode cX10_rests 37 = .ok (.if_icmp .ge 38, 3) := by decide +kernel
theorem dX10_rests_40 : decode cX10_rests 40 = .ok (.iload_n 3, 1) := by decide +kernel
theorem dX10_rests_41 : decode cX10_rests 41 = .ok (.iload 5, 2) := by decide +kernel
theorem dX10_rests_43 : decode cX10_rests 43 = .ok (.iload 6, 2) := by decide +kernel
theorem dX10_rests_45 : decode cX10_rests 45 = .ok (.invokestatic 369, 3) := by decide +kernel
theorem dX10_rests_48 : decode cX10_rests 48 = .ok (.ifCond .eq 21, 3) := by decide +kernel
theorem dX10_rests_51 : decode cX10_rests 51 = .ok (.iload 4, 2) := by decide +kernel
theorem dX10_rests_53 : decode cX10_rests 53 = .ok (.iload_n 2, 1) := by decide +kernel
theorem dX10_rests_54 : decode cX10_rests 54 = .ok (.if_icmp .ne 12, 3) := by decide +kernel
theorem dX10_rests_57 : decode cX10_rests 57 = .ok (.bipush 10, 2) := by decide +kernel
theorem dX10_rests_59 : decode cX10_rests 59 = .ok (.iload 5, 2) := by decide +kernel
theorem dX10_rests_61 : decode cX10_rests 61 = .ok (.imul, 1) := by decide +kernel
theorem dX10_rests_62 : decode cX10_rests 62 = .ok (.iload 6, 2) := by decide +kernel
theorem dX10_rests_64 : decode cX10_rests 64 = .ok (.iadd, 1) := by decide +kernel
theorem dX10_rests_65 : decode cX10_rests 65 = .ok (.ireturn, 1) := by decide +kernel
theorem dX10_rests_66 : decode cX10_rests 66 = .ok (.iinc 4 1, 3) := by decide +kernel
theorem dX10_rests_69 : decode cX10_rests 69 = .ok (.iinc 6 1, 3) := by decide +kernel
theorem dX10_rests_72 : decode cX10_rests 72 = .ok (.goto (-38), 3) := by decide +kernel
theorem dX10_rests_75 : decode cX10_rests 75 = .ok (.iinc 5 1, 3) := by decide +kernel
theorem dX10_rests_78 : decode cX10_rests 78 = .ok (.goto (-53), 3) := by decide +kernel
theorem dX10_rests_81 : decode cX10_rests 81 = .ok (.iload_n 2, 1) := by decide +kernel
theorem dX10_rests_82 : decode cX10_rests 82 = .ok (.iconst (-1), 1) := by decide +kernel
theorem dX10_rests_83 : decode cX10_rests 83 = .ok (.if_icmp .ne 8, 3) := by decide +kernel
theorem dX10_rests_86 : decode cX10_rests 86 = .ok (.iload 4, 2) := by decide +kernel
theorem dX10_rests_88 : decode cX10_rests 88 = .ok (.goto 4, 3) := by decide +kernel
theorem dX10_rests_91 : decode cX10_rests 91 = .ok (.iconst (-1), 1) := by decide +kernel
theorem dX10_rests_92 : decode cX10_rests 92 = .ok (.ireturn, 1) := by decide +kernel
theorem dX10_isRest_0 : decode cX10_isRest 0 = .ok (.iconst 0, 1) := by decide +kernel
theorem dX10_isRest_1 : decode cX10_isRest 1 = .ok (.istore_n 3, 1) := by decide +kernel
theorem dX10_isRest_2 : decode cX10_isRest 2 = .ok (.iload_n 3, 1) := by decide +kernel
theorem dX10_isRest_3 : decode cX10_isRest 3 = .ok (.iconst 4, 1) := by decide +kernel
theorem dX10_isRest_4 : decode cX10_isRest 4 = .ok (.if_icmp .ge 26, 3) := by decide +kernel
theorem dX10_isRest_7 : decode cX10_isRest 7 = .ok (.iload_n 0, 1) := by decide +kernel
theorem dX10_isRest_8 : decode cX10_isRest 8 = .ok (.iload_n 3, 1) := by decide +kernel
theorem dX10_isRest_9 : decode cX10_isRest 9 = .ok (.iload_n 2, 1) := by decide +kernel
theorem dX10_isRest_10 : decode cX10_isRest 10 = .ok (.invokestatic 362, 3) := by decide +kernel
theorem dX10_isRest_13 : decode cX10_isRest 13 = .ok (.iload_n 0, 1) := by decide +kernel
theorem dX10_isRest_14 : decode cX10_isRest 14 = .ok (.iload_n 1, 1) := by decide +kernel
theorem dX10_isRest_15 : decode cX10_isRest 15 = .ok (.iload_n 2, 1) := by decide +kernel
theorem dX10_isRest_16 : decode cX10_isRest 16 = .ok (.invokestatic 362, 3) := by decide +kernel
theorem dX10_isRest_19 : decode cX10_isRest 19 = .ok (.if_icmp .le 5, 3) := by decide +kernel
theorem dX10_isRest_22 : decode cX10_isRest 22 = .ok (.iconst 0, 1) := by decide +kernel
theorem dX10_isRest_23 : decode cX10_isRest 23 = .ok (.ireturn, 1) := by decide +kernel
theorem dX10_isRest_24 : decode cX10_isRest 24 = .ok (.iinc 3 1, 3) := by decide +kernel
theorem dX10_isRest_27 : decode cX10_isRest 27 = .ok (.goto (-25), 3) := by decide +kernel
theorem dX10_isRest_30 : decode cX10_isRest 30 = .ok (.iconst 0, 1) := by decide +kernel
theorem dX10_isRest_31 : decode cX10_isRest 31 = .ok (.istore_n 3, 1) := by decide +kernel
theorem dX10_isRest_32 : decode cX10_isRest 32 = .ok (.iload_n 3, 1) := by decide +kernel
theorem dX10_isRest_33 : decode cX10_isRest 33 = .ok (.iconst 3, 1) := by decide +kernel
theorem dX10_isRest_34 : decode cX10_isRest 34 = .ok (.if_icmp .ge 26, 3) := by decide +kernel
theorem dX10_isRest_37 : decode cX10_isRest 37 = .ok (.iload_n 0, 1) := by decide +kernel
theorem dX10_isRest_38 : decode cX10_isRest 38 = .ok (.iload_n 1, 1) := by decide +kernel
theorem dX10_isRest_39 : decode cX10_isRest 39 = .ok (.iload_n 3, 1) := by decide +kernel
theorem dX10_isRest_40 : decode cX10_isRest 40 = .ok (.invokestatic 366, 3) := by decide +kernel
theorem dX10_isRest_43 : decode cX10_isRest 43 = .ok (.iload_n 0, 1) := by decide +kernel
theorem dX10_isRest_44 : decode cX10_isRest 44 = .ok (.iload_n 1, 1) := by decide +kernel
theorem dX10_isRest_45 : decode cX10_isRest 45 = .ok (.iload_n 2, 1) := by decide +kernel
theorem dX10_isRest_46 : decode cX10_isRest 46 = .ok (.invokestatic 366, 3) := by decide +kernel
theorem dX10_isRest_49 : decode cX10_isRest 49 = .ok (.if_icmp .le 5, 3) := by decide +kernel
theorem dX10_isRest_52 : decode cX10_isRest 52 = .ok (.iconst 0, 1) := by decide +kernel
theorem dX10_isRest_53 : decode cX10_isRest 53 = .ok (.ireturn, 1) := by decide +kernel
theorem dX10_isRest_54 : decode cX10_isRest 54 = .ok (.iinc 3 1, 3) := by decide +kernel
theorem dX10_isRest_57 : decode cX10_isRest 57 = .ok (.goto (-25), 3) := by decide +kernel
theorem dX10_isRest_60 : decode cX10_isRest 60 = .ok (.iconst 1, 1) := by decide +kernel
theorem dX10_isRest_61 : decode cX10_isRest 61 = .ok (.ireturn, 1) := by decide +kernel
theorem dX10_odds_0 : decode cX10_odds 0 = .ok (.aload_n 0, 1) := by decide +kernel
theorem dX10_odds_1 : decode cX10_odds 1 = .ok (.getfield 19, 3) := by decide +kernel
theorem dX10_odds_4 : decode cX10_odds 4 = .ok (.iload_n 1, 1) := by decide +kernel
theorem dX10_odds_5 : decode cX10_odds 5 = .ok (.invokevirtual 158, 3) := by decide +kernel
theorem dX10_odds_8 : decode cX10_odds 8 = .ok (.ifCond .eq 13, 3) := by decide +kernel
theorem dX10_odds_11 : decode cX10_odds 11 = .ok (.iload_n 2, 1) := by decide +kernel
theorem dX10_odds_12 : decode cX10_odds 12 = .ok (.ifCond .lt 9, 3) := by decide +kernel
theorem dX10_odds_15 : decode cX10_odds 15 = .ok (.iload_n 2, 1) := by decide +kernel
theorem dX10_odds_16 : decode cX10_odds 16 = .ok (.bipush 100, 2) := by decide +kernel
theorem dX10_odds_18 : decode cX10_odds 18 = .ok (.if_icmp .le 5, 3) := by decide +kernel
theorem dX10_odds_21 : decode cX10_odds 21 = .ok (.iconst (-1), 1) := by decide +kernel
theorem dX10_odds_22 : decode cX10_odds 22 = .ok (.ireturn, 1) := by decide +kernel
theorem dX10_odds_23 : decode cX10_odds 23 = .ok (.aload_n 0, 1) := by decide +kernel
theorem dX10_odds_24 : decode cX10_odds 24 = .ok (.getfield 58, 3) := by decide +kernel
theorem dX10_odds_27 : decode cX10_odds 27 = .ok (.iload_n 1, 1) := by decide +kernel
theorem dX10_odds_28 : decode cX10_odds 28 = .ok (.invokevirtual 239, 3) := by decide +kernel
theorem dX10_odds_31 : decode cX10_odds 31 = .ok (.istore_n 3, 1) := by decide +kernel
theorem dX10_odds_32 : decode cX10_odds 32 = .ok (.lconst 0, 1) := by decide +kernel
theorem dX10_odds_33 : decode cX10_odds 33 = .ok (.lstore 4, 2) := by decide +kernel
theorem dX10_odds_35 : decode cX10_odds 35 = .ok (.iconst 1, 1) := by decide +kernel
theorem dX10_odds_36 : decode cX10_odds 36 = .ok (.aload_n 0, 1) := by decide +kernel
theorem dX10_odds_37 : decode cX10_odds 37 = .ok (.getfield 19, 3) := by decide +kernel
theorem dX10_odds_40 : decode cX10_odds 40 = .ok (.getfield 283, 3) := by decide +kernel
theorem dX10_odds_43 : decode cX10_odds 43 = .ok (.ishl, 1) := by decide +kernel
theorem dX10_odds_44 : decode cX10_odds 44 = .ok (.istore 6, 2) := by decide +kernel
theorem dX10_odds_46 : decode cX10_odds 46 = .ok (.iconst 0, 1) := by decide +kernel
theorem dX10_odds_47 : decode cX10_odds 47 = .ok (.istore 7, 2) := by decide +kernel
theorem dX10_odds_49 : decode cX10_odds 49 = .ok (.iload 7, 2) := by decide +kernel
theorem dX10_odds_51 : decode cX10_odds 51 = .ok (.iload 6, 2) := by decide +kernel
theorem dX10_odds_53 : decode cX10_odds 53 = .ok (.if_icmp .ge 59, 3) := by decide +kernel
theorem dX10_odds_56 : decode cX10_odds 56 = .ok (.iload 7, 2) := by decide +kernel
theorem dX10_odds_58 : decode cX10_odds 58 = .ok (.iload_n 3, 1) := by decide +kernel
theorem dX10_odds_59 : decode cX10_odds 59 = .ok (.iconst (-1), 1) := by decide +kernel
theorem dX10_odds_60 : decode cX10_odds 60 = .ok (.ixor, 1) := by decide +kernel
theorem dX10_odds_61 : decode cX10_odds 61 = .ok (.iand, 1) := by decide +kernel
theorem dX10_odds_62 : decode cX10_odds 62 = .ok (.ifCond .ne 44, 3) := by decide +kernel
theorem dX10_odds_65 : decode cX10_odds 65 = .ok (.aload_n 0, 1) := by decide +kernel
theorem dX10_odds_66 : decode cX10_odds 66 = .ok (.iload_n 3, 1) := by decide +kernel
theorem dX10_odds_67 : decode cX10_odds 67 = .ok (.iload 7, 2) := by decide +kernel
theorem dX10_odds_69 : decode cX10_odds 69 = .ok (.iload_n 2, 1) := by decide +kernel
theorem dX10_odds_70 : decode cX10_odds 70 = .ok (.invokevirtual 372, 3) := by decide +kernel
theorem dX10_odds_73 : decode cX10_odds 73 = .ok (.lstore 8, 2) := by decide +kernel
theorem dX10_odds_75 : decode cX10_odds 75 = .ok (.lload 8, 2) := by decide +kernel
theorem dX10_odds_77 : decode cX10_odds 77 = .ok (.lconst 0, 1) := by decide +kernel
theorem dX10_odds_78 : decode cX10_odds 78 = .ok (.lcmp, 1) := by decide +kernel
theorem dX10_odds_79 : decode cX10_odds 79 = .ok (.ifCond .le 27, 3) := by decide +kernel
theorem dX10_odds_82 : decode cX10_odds 82 = .ok (.aload_n 0, 1) := by decide +kernel
theorem dX10_odds_83 : decode cX10_odds 83 = .ok (.getfield 40, 3) := by decide +kernel
theorem dX10_odds_86 : decode cX10_odds 86 = .ok (.aload_n 0, 1) := by decide +kernel
theorem dX10_odds_87 : decode cX10_odds 87 = .ok (.getfield 58, 3) := by decide +kernel
theorem dX10_odds_90 : decode cX10_odds 90 = .ok (.iload_n 1, 1) := by decide +kernel
theorem dX10_odds_91 : decode cX10_odds 91 = .ok (.iload 7, 2) := by decide +kernel
theorem dX10_odds_93 : decode cX10_odds 93 = .ok (.invokevirtual 242, 3) := by decide +kernel
theorem dX10_odds_96 : decode cX10_odds 96 = .ok (.ifCond .eq 10, 3) := by decide +kernel
theorem dX10_odds_99 : decode cX10_odds 99 = .ok (.lload 4, 2) := by decide +kernel
theorem dX10_odds_101 : decode cX10_odds 101 = .ok (.lload 8, 2) := by decide +kernel
theorem dX10_odds_103 : decode cX10_odds 103 = .ok (.ladd, 1) := by decide +kernel
theorem dX10_odds_104 : decode cX10_odds 104 = .ok (.lstore 4, 2) := by decide +kernel
theorem dX10_odds_106 : decode cX10_odds 106 = .ok (.iinc 7 1, 3) := by decide +kernel
theorem dX10_odds_109 : decode cX10_odds 109 = .ok (.goto (-60), 3) := by decide +kernel
theorem dX10_odds_112 : decode cX10_odds 112 = .ok (.lload 4, 2) := by decide +kernel
theorem dX10_odds_114 : decode cX10_odds 114 = .ok (.l2i, 1) := by decide +kernel
theorem dX10_odds_115 : decode cX10_odds 115 = .ok (.ireturn, 1) := by decide +kernel
theorem dX10_partOf_0 : decode cX10_partOf 0 = .ok (.ldc2_w 376, 3) := by decide +kernel
theorem dX10_partOf_3 : decode cX10_partOf 3 = .ok (.lstore 4, 2) := by decide +kernel
theorem dX10_partOf_5 : decode cX10_partOf 5 = .ok (.iconst 0, 1) := by decide +kernel
theorem dX10_partOf_6 : decode cX10_partOf 6 = .ok (.istore 6, 2) := by decide +kernel
theorem dX10_partOf_8 : decode cX10_partOf 8 = .ok (.iload 6, 2) := by decide +kernel
theorem dX10_partOf_10 : decode cX10_partOf 10 = .ok (.aload_n 0, 1) := by decide +kernel
theorem dX10_partOf_11 : decode cX10_partOf 11 = .ok (.getfield 19, 3) := by decide +kernel
theorem dX10_partOf_14 : decode cX10_partOf 14 = .ok (.getfield 283, 3) := by decide +kernel
theorem dX10_partOf_17 : decode cX10_partOf 17 = .ok (.if_icmp .ge 52, 3) := by decide +kernel
theorem dX10_partOf_20 : decode cX10_partOf 20 = .ok (.iload_n 1, 1) := by decide +kernel
theorem dX10_partOf_21 : decode cX10_partOf 21 = .ok (.iload 6, 2) := by decide +kernel
theorem dX10_partOf_23 : decode cX10_partOf 23 = .ok (.ishr, 1) := by decide +kernel
theorem dX10_partOf_24 : decode cX10_partOf 24 = .ok (.iconst 1, 1) := by decide +kernel
theorem dX10_partOf_25 : decode cX10_partOf 25 = .ok (.iand, 1) := by decide +kernel
theorem dX10_partOf_26 : decode cX10_partOf 26 = .ok (.iconst 1, 1) := by decide +kernel
theorem dX10_partOf_27 : decode cX10_partOf 27 = .ok (.if_icmp .ne 36, 3) := by decide +kernel
theorem dX10_partOf_30 : decode cX10_partOf 30 = .ok (.lload 4, 2) := by decide +kernel
theorem dX10_partOf_32 : decode cX10_partOf 32 = .ok (.iload_n 3, 1) := by decide +kernel
theorem dX10_partOf_33 : decode cX10_partOf 33 = .ok (.i2l, 1) := by decide +kernel
theorem dX10_partOf_34 : decode cX10_partOf 34 = .ok (.lmul, 1) := by decide +kernel
theorem dX10_partOf_35 : decode cX10_partOf 35 = .ok (.ldc2_w 378, 3) := by decide +kernel
theorem dX10_partOf_38 : decode cX10_partOf 38 = .ok (.ldiv, 1) := by decide +kernel
theorem dX10_partOf_39 : decode cX10_partOf 39 = .ok (.lstore 7, 2) := by decide +kernel
theorem dX10_partOf_41 : decode cX10_partOf 41 = .ok (.iload_n 2, 1) := by decide +kernel
theorem dX10_partOf_42 : decode cX10_partOf 42 = .ok (.iload 6, 2) := by decide +kernel
theorem dX10_partOf_44 : decode cX10_partOf 44 = .ok (.ishr, 1) := by decide +kernel
theorem dX10_partOf_45 : decode cX10_partOf 45 = .ok (.iconst 1, 1) := by decide +kernel
theorem dX10_partOf_46 : decode cX10_partOf 46 = .ok (.iand, 1) := by decide +kernel
theorem dX10_partOf_47 : decode cX10_partOf 47 = .ok (.iconst 1, 1) := by decide +kernel
theorem dX10_partOf_48 : decode cX10_partOf 48 = .ok (.if_icmp .ne 11, 3) := by decide +kernel
theorem dX10_partOf_51 : decode cX10_partOf 51 = .ok (.lload 4, 2) := by decide +kernel
theorem dX10_partOf_53 : decode cX10_partOf 53 = .ok (.lload 7, 2) := by decide +kernel
theorem dX10_partOf_55 : decode cX10_partOf 55 = .ok (.lsub, 1) := by decide +kernel
theorem dX10_partOf_56 : decode cX10_partOf 56 = .ok (.goto 5, 3) := by decide +kernel
theorem dX10_partOf_59 : decode cX10_partOf 59 = .ok (.lload 7, 2) := by decide +kernel
theorem dX10_partOf_61 : decode cX10_partOf 61 = .ok (.lstore 4, 2) := by decide +kernel
theorem dX10_partOf_63 : decode cX10_partOf 63 = .ok (.iinc 6 1, 3) := by decide +kernel
theorem dX10_partOf_66 : decode cX10_partOf 66 = .ok (.goto (-58), 3) := by decide +kernel
theorem dX10_partOf_69 : decode cX10_partOf 69 = .ok (.lload 4, 2) := by decide +kernel
theorem dX10_partOf_71 : decode cX10_partOf 71 = .ok (.lreturn, 1) := by decide +kernel
theorem dX10_shares_0 : decode cX10_shares 0 = .ok (.aload_n 0, 1) := by decide +kernel
theorem dX10_shares_1 : decode cX10_shares 1 = .ok (.getfield 19, 3) := by decide +kernel
theorem dX10_shares_4 : decode cX10_shares 4 = .ok (.iload_n 1, 1) := by decide +kernel
