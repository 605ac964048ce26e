theorem dX10_shares_5 : decode cX10_shares 5 = .ok (.invokevirtual 158, 3) := by decide +kernel
theorem dX10_shares_8 : decode cX10_shares 8 = .ok (.ifCond .eq 14, 3) := by decide +kernel
theorem dX10_shares_11 : decode cX10_shares 11 = .ok (.iload_n 2, 1) := by decide +kernel
theorem dX10_shares_12 : decode cX10_shares 12 = .ok (.ifCond .lt 10, 3) := by decide +kernel
theorem dX10_shares_15 : decode cX10_shares 15 = .ok (.iload_n 2, 1) := by decide +kernel
theorem dX10_shares_16 : decode cX10_shares 16 = .ok (.sipush 999, 3) := by decide +kernel
theorem dX10_shares_19 : decode cX10_shares 19 = .ok (.if_icmp .le 5, 3) := by decide +kernel
theorem dX10_shares_22 : decode cX10_shares 22 = .ok (.iconst (-1), 1) := by decide +kernel
theorem dX10_shares_23 : decode cX10_shares 23 = .ok (.ireturn, 1) := by decide +kernel
theorem dX10_shares_24 : decode cX10_shares 24 = .ok (.iconst 0, 1) := by decide +kernel
theorem dX10_shares_25 : decode cX10_shares 25 = .ok (.istore_n 3, 1) := by decide +kernel
theorem dX10_shares_26 : decode cX10_shares 26 = .ok (.iconst 0, 1) := by decide +kernel
theorem dX10_shares_27 : decode cX10_shares 27 = .ok (.istore 4, 2) := by decide +kernel
theorem dX10_shares_29 : decode cX10_shares 29 = .ok (.iload 4, 2) := by decide +kernel
theorem dX10_shares_31 : decode cX10_shares 31 = .ok (.aload_n 0, 1) := by decide +kernel
theorem dX10_shares_32 : decode cX10_shares 32 = .ok (.getfield 19, 3) := by decide +kernel
theorem dX10_shares_35 : decode cX10_shares 35 = .ok (.getfield 141, 3) := by decide +kernel
theorem dX10_shares_38 : decode cX10_shares 38 = .ok (.if_icmp .ge 21, 3) := by decide +kernel
theorem dX10_shares_41 : decode cX10_shares 41 = .ok (.iload_n 3, 1) := by decide +kernel
theorem dX10_shares_42 : decode cX10_shares 42 = .ok (.aload_n 0, 1) := by decide +kernel
theorem dX10_shares_43 : decode cX10_shares 43 = .ok (.getfield 58, 3) := by decide +kernel
theorem dX10_shares_46 : decode cX10_shares 46 = .ok (.iload 4, 2) := by decide +kernel
theorem dX10_shares_48 : decode cX10_shares 48 = .ok (.invokevirtual 215, 3) := by decide +kernel
theorem dX10_shares_51 : decode cX10_shares 51 = .ok (.iadd, 1) := by decide +kernel
theorem dX10_shares_52 : decode cX10_shares 52 = .ok (.istore_n 3, 1) := by decide +kernel
theorem dX10_shares_53 : decode cX10_shares 53 = .ok (.iinc 4 1, 3) := by decide +kernel
theorem dX10_shares_56 : decode cX10_shares 56 = .ok (.goto (-27), 3) := by decide +kernel
theorem dX10_shares_59 : decode cX10_shares 59 = .ok (.iload_n 3, 1) := by decide +kernel
theorem dX10_shares_60 : decode cX10_shares 60 = .ok (.ifCond .ne 7, 3) := by decide +kernel
theorem dX10_shares_63 : decode cX10_shares 63 = .ok (.iconst 0, 1) := by decide +kernel
theorem dX10_shares_64 : decode cX10_shares 64 = .ok (.goto 15, 3) := by decide +kernel
theorem dX10_shares_67 : decode cX10_shares 67 = .ok (.iload_n 2, 1) := by decide +kernel
theorem dX10_shares_68 : decode cX10_shares 68 = .ok (.aload_n 0, 1) := by decide +kernel
theorem dX10_shares_69 : decode cX10_shares 69 = .ok (.getfield 58, 3) := by decide +kernel
theorem dX10_shares_72 : decode cX10_shares 72 = .ok (.iload_n 1, 1) := by decide +kernel
theorem dX10_shares_73 : decode cX10_shares 73 = .ok (.invokevirtual 215, 3) := by decide +kernel
theorem dX10_shares_76 : decode cX10_shares 76 = .ok (.imul, 1) := by decide +kernel
theorem dX10_shares_77 : decode cX10_shares 77 = .ok (.iload_n 3, 1) := by decide +kernel
theorem dX10_shares_78 : decode cX10_shares 78 = .ok (.idiv, 1) := by decide +kernel
theorem dX10_shares_79 : decode cX10_shares 79 = .ok (.ireturn, 1) := by decide +kernel
theorem dX10_owners_0 : decode cX10_owners 0 = .ok (.aload_n 0, 1) := by decide +kernel
theorem dX10_owners_1 : decode cX10_owners 1 = .ok (.getfield 19, 3) := by decide +kernel
theorem dX10_owners_4 : decode cX10_owners 4 = .ok (.iload_n 1, 1) := by decide +kernel
theorem dX10_owners_5 : decode cX10_owners 5 = .ok (.invokevirtual 181, 3) := by decide +kernel
theorem dX10_owners_8 : decode cX10_owners 8 = .ok (.ifCond .ne 5, 3) := by decide +kernel
theorem dX10_owners_11 : decode cX10_owners 11 = .ok (.iconst (-1), 1) := by decide +kernel
theorem dX10_owners_12 : decode cX10_owners 12 = .ok (.ireturn, 1) := by decide +kernel
theorem dX10_owners_13 : decode cX10_owners 13 = .ok (.iconst 0, 1) := by decide +kernel
theorem dX10_owners_14 : decode cX10_owners 14 = .ok (.istore_n 2, 1) := by decide +kernel
theorem dX10_owners_15 : decode cX10_owners 15 = .ok (.iconst 0, 1) := by decide +kernel
theorem dX10_owners_16 : decode cX10_owners 16 = .ok (.istore_n 3, 1) := by decide +kernel
theorem dX10_owners_17 : decode cX10_owners 17 = .ok (.iload_n 3, 1) := by decide +kernel
theorem dX10_owners_18 : decode cX10_owners 18 = .ok (.aload_n 0, 1) := by decide +kernel
theorem dX10_owners_19 : decode cX10_owners 19 = .ok (.getfield 19, 3) := by decide +kernel
theorem dX10_owners_22 : decode cX10_owners 22 = .ok (.getfield 141, 3) := by decide +kernel
theorem dX10_owners_25 : decode cX10_owners 25 = .ok (.if_icmp .ge 27, 3) := by decide +kernel
theorem dX10_owners_28 : decode cX10_owners 28 = .ok (.aload_n 0, 1) := by decide +kernel
theorem dX10_owners_29 : decode cX10_owners 29 = .ok (.getfield 58, 3) := by decide +kernel
theorem dX10_owners_32 : decode cX10_owners 32 = .ok (.iload_n 3, 1) := by decide +kernel
theorem dX10_owners_33 : decode cX10_owners 33 = .ok (.iload_n 1, 1) := by decide +kernel
theorem dX10_owners_34 : decode cX10_owners 34 = .ok (.invokevirtual 197, 3) := by decide +kernel
theorem dX10_owners_37 : decode cX10_owners 37 = .ok (.ifCond .le 9, 3) := by decide +kernel
theorem dX10_owners_40 : decode cX10_owners 40 = .ok (.iload_n 2, 1) := by decide +kernel
theorem dX10_owners_41 : decode cX10_owners 41 = .ok (.iconst 1, 1) := by decide +kernel
theorem dX10_owners_42 : decode cX10_owners 42 = .ok (.iload_n 3, 1) := by decide +kernel
theorem dX10_owners_43 : decode cX10_owners 43 = .ok (.ishl, 1) := by decide +kernel
theorem dX10_owners_44 : decode cX10_owners 44 = .ok (.ior, 1) := by decide +kernel
theorem dX10_owners_45 : decode cX10_owners 45 = .ok (.istore_n 2, 1) := by decide +kernel
theorem dX10_owners_46 : decode cX10_owners 46 = .ok (.iinc 3 1, 3) := by decide +kernel
theorem dX10_owners_49 : decode cX10_owners 49 = .ok (.goto (-32), 3) := by decide +kernel
theorem dX10_owners_52 : decode cX10_owners 52 = .ok (.iload_n 2, 1) := by decide +kernel
theorem dX10_owners_53 : decode cX10_owners 53 = .ok (.ireturn, 1) := by decide +kernel
theorem dX10_wish_0 : decode cX10_wish 0 = .ok (.aload_n 0, 1) := by decide +kernel
theorem dX10_wish_1 : decode cX10_wish 1 = .ok (.getfield 19, 3) := by decide +kernel
theorem dX10_wish_4 : decode cX10_wish 4 = .ok (.iload_n 1, 1) := by decide +kernel
theorem dX10_wish_5 : decode cX10_wish 5 = .ok (.invokevirtual 158, 3) := by decide +kernel
theorem dX10_wish_8 : decode cX10_wish 8 = .ok (.ifCond .eq 11, 3) := by decide +kernel
theorem dX10_wish_11 : decode cX10_wish 11 = .ok (.aload_n 0, 1) := by decide +kernel
theorem dX10_wish_12 : decode cX10_wish 12 = .ok (.iload_n 1, 1) := by decide +kernel
theorem dX10_wish_13 : decode cX10_wish 13 = .ok (.invokevirtual 380, 3) := by decide +kernel
theorem dX10_wish_16 : decode cX10_wish 16 = .ok (.goto 4, 3) := by decide +kernel
theorem dX10_wish_19 : decode cX10_wish 19 = .ok (.iconst (-1), 1) := by decide +kernel
theorem dX10_wish_20 : decode cX10_wish 20 = .ok (.ireturn, 1) := by decide +kernel
theorem dX10_daysToWish_0 : decode cX10_daysToWish 0 = .ok (.aload_n 0, 1) := by decide +kernel
theorem dX10_daysToWish_1 : decode cX10_daysToWish 1 = .ok (.getfield 19, 3) := by decide +kernel
theorem dX10_daysToWish_4 : decode cX10_daysToWish 4 = .ok (.getfield 172, 3) := by decide +kernel
theorem dX10_daysToWish_7 : decode cX10_daysToWish 7 = .ok (.iload_n 1, 1) := by decide +kernel
theorem dX10_daysToWish_8 : decode cX10_daysToWish 8 = .ok (.iaload, 1) := by decide +kernel
theorem dX10_daysToWish_9 : decode cX10_daysToWish 9 = .ok (.aload_n 0, 1) := by decide +kernel
theorem dX10_daysToWish_10 : decode cX10_daysToWish 10 = .ok (.getfield 58, 3) := by decide +kernel
theorem dX10_daysToWish_13 : decode cX10_daysToWish 13 = .ok (.bipush 66, 2) := by decide +kernel
theorem dX10_daysToWish_15 : decode cX10_daysToWish 15 = .ok (.invokevirtual 254, 3) := by decide +kernel
theorem dX10_daysToWish_18 : decode cX10_daysToWish 18 = .ok (.isub, 1) := by decide +kernel
theorem dX10_daysToWish_19 : decode cX10_daysToWish 19 = .ok (.bipush 7, 2) := by decide +kernel
theorem dX10_daysToWish_21 : decode cX10_daysToWish 21 = .ok (.invokestatic 383, 3) := by decide +kernel
theorem dX10_daysToWish_24 : decode cX10_daysToWish 24 = .ok (.ireturn, 1) := by decide +kernel
theorem dX10_all_0 : decode cX10_all 0 = .ok (.aload_n 0, 1) := by decide +kernel
theorem dX10_all_1 : decode cX10_all 1 = .ok (.invokevirtual 250, 3) := by decide +kernel
theorem dX10_all_4 : decode cX10_all 4 = .ok (.ifCond .ne 7, 3) := by decide +kernel
theorem dX10_all_7 : decode cX10_all 7 = .ok (.iload_n 1, 1) := by decide +kernel
theorem dX10_all_8 : decode cX10_all 8 = .ok (.ifCond .ge 5, 3) := by decide +kernel
theorem dX10_all_11 : decode cX10_all 11 = .ok (.iconst (-1), 1) := by decide +kernel
theorem dX10_all_12 : decode cX10_all 12 = .ok (.ireturn, 1) := by decide +kernel
theorem dX10_all_13 : decode cX10_all 13 = .ok (.iload_n 1, 1) := by decide +kernel
theorem dX10_all_14 : decode cX10_all 14 = .ok (.bipush 6, 2) := by decide +kernel
theorem dX10_all_16 : decode cX10_all 16 = .ok (.if_icmp .ge 9, 3) := by decide +kernel
theorem dX10_all_19 : decode cX10_all 19 = .ok (.aload_n 0, 1) := by decide +kernel
theorem dX10_all_20 : decode cX10_all 20 = .ok (.iload_n 1, 1) := by decide +kernel
theorem dX10_all_21 : decode cX10_all 21 = .ok (.invokevirtual 386, 3) := by decide +kernel
theorem dX10_all_24 : decode cX10_all 24 = .ok (.ireturn, 1) := by decide +kernel
theorem dX10_all_25 : decode cX10_all 25 = .ok (.iload_n 1, 1) := by decide +kernel
theorem dX10_all_26 : decode cX10_all 26 = .ok (.tableswitch 53 6 9 #[30, 35, 43, 48], 30) := by decide +kernel
theorem dX10_all_56 : decode cX10_all 56 = .ok (.aload_n 0, 1) := by decide +kernel
theorem dX10_all_57 : decode cX10_all 57 = .ok (.invokevirtual 389, 3) := by decide +kernel
theorem dX10_all_60 : decode cX10_all 60 = .ok (.ireturn, 1) := by decide +kernel
theorem dX10_all_61 : decode cX10_all 61 = .ok (.aload_n 0, 1) := by decide +kernel
theorem dX10_all_62 : decode cX10_all 62 = .ok (.getfield 58, 3) := by decide +kernel
theorem dX10_all_65 : decode cX10_all 65 = .ok (.invokevirtual 263, 3) := by decide +kernel
theorem dX10_all_68 : decode cX10_all 68 = .ok (.ireturn, 1) := by decide +kernel
theorem dX10_all_69 : decode cX10_all 69 = .ok (.aload_n 0, 1) := by decide +kernel
theorem dX10_all_70 : decode cX10_all 70 = .ok (.invokevirtual 392, 3) := by decide +kernel
theorem dX10_all_73 : decode cX10_all 73 = .ok (.ireturn, 1) := by decide +kernel
theorem dX10_all_74 : decode cX10_all 74 = .ok (.aload_n 0, 1) := by decide +kernel
theorem dX10_all_75 : decode cX10_all 75 = .ok (.invokevirtual 395, 3) := by decide +kernel
theorem dX10_all_78 : decode cX10_all 78 = .ok (.ireturn, 1) := by decide +kernel
theorem dX10_all_79 : decode cX10_all 79 = .ok (.iconst (-1), 1) := by decide +kernel
theorem dX10_all_80 : decode cX10_all 80 = .ok (.ireturn, 1) := by decide +kernel
theorem dX10_firstOfMost_0 : decode cX10_firstOfMost 0 = .ok (.iconst 0, 1) := by decide +kernel
theorem dX10_firstOfMost_1 : decode cX10_firstOfMost 1 = .ok (.istore_n 2, 1) := by decide +kernel
theorem dX10_firstOfMost_2 : decode cX10_firstOfMost 2 = .ok (.iload_n 1, 1) := by decide +kernel
theorem dX10_firstOfMost_3 : decode cX10_firstOfMost 3 = .ok (.iconst 4, 1) := by decide +kernel
theorem dX10_firstOfMost_4 : decode cX10_firstOfMost 4 = .ok (.if_icmp .ge 13, 3) := by decide +kernel
theorem dX10_firstOfMost_7 : decode cX10_firstOfMost 7 = .ok (.aload_n 0, 1) := by decide +kernel
theorem dX10_firstOfMost_8 : decode cX10_firstOfMost 8 = .ok (.getfield 19, 3) := by decide +kernel
theorem dX10_firstOfMost_11 : decode cX10_firstOfMost 11 = .ok (.getfield 141, 3) := by decide +kernel
theorem dX10_firstOfMost_14 : decode cX10_firstOfMost 14 = .ok (.goto 10, 3) := by decide +kernel
theorem dX10_firstOfMost_17 : decode cX10_firstOfMost 17 = .ok (.aload_n 0, 1) := by decide +kernel
theorem dX10_firstOfMost_18 : decode cX10_firstOfMost 18 = .ok (.getfield 19, 3) := by decide +kernel
theorem dX10_firstOfMost_21 : decode cX10_firstOfMost 21 = .ok (.getfield 283, 3) := by decide +kernel
theorem dX10_firstOfMost_24 : decode cX10_firstOfMost 24 = .ok (.istore_n 3, 1) := by decide +kernel
theorem dX10_firstOfMost_25 : decode cX10_firstOfMost 25 = .ok (.iconst 1, 1) := by decide +kernel
theorem dX10_firstOfMost_26 : decode cX10_firstOfMost 26 = .ok (.istore 4, 2) := by decide +kernel
theorem dX10_firstOfMost_28 : decode cX10_firstOfMost 28 = .ok (.iload 4, 2) := by decide +kernel
theorem dX10_firstOfMost_30 : decode cX10_firstOfMost 30 = .ok (.iload_n 3, 1) := by decide +kernel
theorem dX10_firstOfMost_31 : decode cX10_firstOfMost 31 = .ok (.if_icmp .ge 28, 3) := by decide +kernel
theorem dX10_firstOfMost_34 : decode cX10_firstOfMost 34 = .ok (.aload_n 0, 1) := by decide +kernel
theorem dX10_firstOfMost_35 : decode cX10_firstOfMost 35 = .ok (.iload_n 1, 1) := by decide +kernel
theorem dX10_firstOfMost_36 : decode cX10_firstOfMost 36 = .ok (.iload 4, 2) := by decide +kernel
theorem dX10_firstOfMost_38 : decode cX10_firstOfMost 38 = .ok (.invokevirtual 398, 3) := by decide +kernel
theorem dX10_firstOfMost_41 : decode cX10_firstOfMost 41 = .ok (.aload_n 0, 1) := by decide +kernel
theorem dX10_firstOfMost_42 : decode cX10_firstOfMost 42 = .ok (.iload_n 1, 1) := by decide +kernel
theorem dX10_firstOfMost_43 : decode cX10_firstOfMost 43 = .ok (.iload_n 2, 1) := by decide +kernel
theorem dX10_firstOfMost_44 : decode cX10_firstOfMost 44 = .ok (.invokevirtual 398, 3) := by decide +kernel
theorem dX10_firstOfMost_47 : decode cX10_firstOfMost 47 = .ok (.if_icmp .le 6, 3) := by decide +kernel
theorem dX10_firstOfMost_50 : decode cX10_firstOfMost 50 = .ok (.iload 4, 2) := by decide +kernel
theorem dX10_firstOfMost_52 : decode cX10_firstOfMost 52 = .ok (.istore_n 2, 1) := by decide +kernel
theorem dX10_firstOfMost_53 : decode cX10_firstOfMost 53 = .ok (.iinc 4 1, 3) := by decide +kernel
theorem dX10_firstOfMost_56 : decode cX10_firstOfMost 56 = .ok (.goto (-28), 3) := by decide +kernel
theorem dX10_firstOfMost_59 : decode cX10_firstOfMost 59 = .ok (.iload_n 2, 1) := by decide +kernel
theorem dX10_firstOfMost_60 : decode cX10_firstOfMost 60 = .ok (.ireturn, 1) := by decide +kernel
theorem dX10_measure_0 : decode cX10_measure 0 = .ok (.iload_n 1, 1) := by decide +kernel
theorem dX10_measure_1 : decode cX10_measure 1 = .ok (.tableswitch 83 0 4 #[35, 44, 53, 64, 73], 35) := by decide +kernel
theorem dX10_measure_36 : decode cX10_measure 36 = .ok (.aload_n 0, 1) := by decide +kernel
theorem dX10_measure_37 : decode cX10_measure 37 = .ok (.getfield 58, 3) := by decide +kernel
theorem dX10_measure_40 : decode cX10_measure 40 = .ok (.iload_n 2, 1) := by decide +kernel
theorem dX10_measure_41 : decode cX10_measure 41 = .ok (.invokevirtual 165, 3) := by decide +kernel
theorem dX10_measure_44 : decode cX10_measure 44 = .ok (.ireturn, 1) := by decide +kernel
theorem dX10_measure_45 : decode cX10_measure 45 = .ok (.aload_n 0, 1) := by decide +kernel
theorem dX10_measure_46 : decode cX10_measure 46 = .ok (.getfield 58, 3) := by decide +kernel
theorem dX10_measure_49 : decode cX10_measure 49 = .ok (.iload_n 2, 1) := by decide +kernel
theorem dX10_measure_50 : decode cX10_measure 50 = .ok (.invokevirtual 215, 3) := by decide +kernel
theorem dX10_measure_53 : decode cX10_measure 53 = .ok (.ireturn, 1) := by decide +kernel
theorem dX10_measure_54 : decode cX10_measure 54 = .ok (.aload_n 0, 1) := by decide +kernel
theorem dX10_measure_55 : decode cX10_measure 55 = .ok (.getfield 19, 3) := by decide +kernel
theorem dX10_measure_58 : decode cX10_measure 58 = .ok (.getfield 168, 3) := by decide +kernel
theorem dX10_measure_61 : decode cX10_measure 61 = .ok (.iload_n 2, 1) := by decide +kernel
theorem dX10_measure_62 : decode cX10_measure 62 = .ok (.iaload, 1) := by decide +kernel
theorem dX10_measure_63 : decode cX10_measure 63 = .ok (.ineg, 1) := by decide +kernel
theorem dX10_measure_64 : decode cX10_measure 64 = .ok (.ireturn, 1) := by decide +kernel
theorem dX10_measure_65 : decode cX10_measure 65 = .ok (.aload_n 0, 1) := by decide +kernel
theorem dX10_measure_66 : decode cX10_measure 66 = .ok (.getfield 58, 3) := by decide +kernel
theorem dX10_measure_69 : decode cX10_measure 69 = .ok (.iload_n 2, 1) := by decide +kernel
theorem dX10_measure_70 : decode cX10_measure 70 = .ok (.invokevirtual 175, 3) := by decide +kernel
theorem dX10_measure_73 : decode cX10_measure 73 = .ok (.ireturn, 1) := by decide +kernel
theorem dX10_measure_74 : decode cX10_measure 74 = .ok (.aload_n 0, 1) := by decide +kernel
theorem dX10_measure_75 : decode cX10_measure 75 = .ok (.getfield 19, 3) := by decide +kernel
theorem dX10_measure_78 : decode cX10_measure 78 = .ok (.getfield 184, 3) := by decide +kernel
theorem dX10_measure_81 : decode cX10_measure 81 = .ok (.iload_n 2, 1) := by decide +kernel
theorem dX10_measure_82 : decode cX10_measure 82 = .ok (.iaload, 1) := by decide +kernel
theorem dX10_measure_83 : decode cX10_measure 83 = .ok (.ireturn, 1) := by decide +kernel
theorem dX10_measure_84 : decode cX10_measure 84 = .ok (.aload_n 0, 1) := by decide +kernel
theorem dX10_measure_85 : decode cX10_measure 85 = .ok (.getfield 19, 3) := by decide +kernel
theorem dX10_measure_88 : decode cX10_measure 88 = .ok (.getfield 187, 3) := by decide +kernel
theorem dX10_measure_91 : decode cX10_measure 91 = .ok (.iload_n 2, 1) := by decide +kernel
theorem dX10_measure_92 : decode cX10_measure 92 = .ok (.iaload, 1) := by decide +kernel
theorem dX10_measure_93 : decode cX10_measure 93 = .ok (.ineg, 1) := by decide +kernel
theorem dX10_measure_94 : decode cX10_measure 94 = .ok (.ireturn, 1) := by decide +kernel
theorem dX10_guiltyPeople_0 : decode cX10_guiltyPeople 0 = .ok (.iconst 0, 1) := by decide +kernel
theorem dX10_guiltyPeople_1 : decode cX10_guiltyPeople 1 = .ok (.istore_n 1, 1) := by decide +kernel
theorem dX10_guiltyPeople_2 : decode cX10_guiltyPeople 2 = .ok (.iconst 0, 1) := by decide +kernel
theorem dX10_guiltyPeople_3 : decode cX10_guiltyPeople 3 = .ok (.istore_n 2, 1) := by decide +kernel
theorem dX10_guiltyPeople_4 : decode cX10_guiltyPeople 4 = .ok (.iload_n 2, 1) := by decide +kernel
theorem dX10_guiltyPeople_5 : decode cX10_guiltyPeople 5 = .ok (.aload_n 0, 1) := by decide +kernel
theorem dX10_guiltyPeople_6 : decode cX10_guiltyPeople 6 = .ok (.getfield 19, 3) := by decide +kernel
theorem dX10_guiltyPeople_9 : decode cX10_guiltyPeople 9 = .ok (.getfield 141, 3) := by decide +kernel
theorem dX10_guiltyPeople_12 : decode cX10_guiltyPeople 12 = .ok (.if_icmp .ge 31, 3) := by decide +kernel
theorem dX10_guiltyPeople_15 : decode cX10_guiltyPeople 15 = .ok (.aload_n 0, 1) := by decide +kernel
theorem dX10_guiltyPeople_16 : decode cX10_guiltyPeople 16 = .ok (.getfield 40, 3) := by decide +kernel
theorem dX10_guiltyPeople_19 : decode cX10_guiltyPeople 19 = .ok (.aload_n 0, 1) := by decide +kernel
theorem dX10_guiltyPeople_20 : decode cX10_guiltyPeople 20 = .ok (.getfield 58, 3) := by decide +kernel
theorem dX10_guiltyPeople_23 : decode cX10_guiltyPeople 23 = .ok (.iload_n 2, 1) := by decide +kernel
theorem dX10_guiltyPeople_24 : decode cX10_guiltyPeople 24 = .ok (.iconst 0, 1) := by decide +kernel
theorem dX10_guiltyPeople_25 : decode cX10_guiltyPeople 25 = .ok (.invokevirtual 339, 3) := by decide +kernel
theorem dX10_guiltyPeople_28 : decode cX10_guiltyPeople 28 = .ok (.ifCond .eq 9, 3) := by decide +kernel
theorem dX10_guiltyPeople_31 : decode cX10_guiltyPeople 31 = .ok (.iload_n 1, 1) := by decide +kernel
theorem dX10_guiltyPeople_32 : decode cX10_guiltyPeople 32 = .ok (.iconst 1, 1) := by decide +kernel
theorem dX10_guiltyPeople_33 : decode cX10_guiltyPeople 33 = .ok (.iload_n 2, 1) := by decide +kernel
theorem dX10_guiltyPeople_34 : decode cX10_guiltyPeople 34 = .ok (.ishl, 1) := by decide +kernel
theorem dX10_guiltyPeople_35 : decode cX10_guiltyPeople 35 = .ok (.ior, 1) := by decide +kernel
theorem dX10_guiltyPeople_36 : decode cX10_guiltyPeople 36 = .ok (.istore_n 1, 1) := by decide +kernel
theorem dX10_guiltyPeople_37 : decode cX10_guiltyPeople 37 = .ok (.iinc 2 1, 3) := by decide +kernel
theorem dX10_guiltyPeople_40 : decode cX10_guiltyPeople 40 = .ok (.goto (-36), 3) := by decide +kernel
theorem dX10_guiltyPeople_43 : decode cX10_guiltyPeople 43 = .ok (.iload_n 1, 1) := by decide +kernel
theorem dX10_guiltyPeople_44 : decode cX10_guiltyPeople 44 = .ok (.ireturn, 1) := by decide +kernel
theorem dX10_innocentPeople_0 : decode cX10_innocentPeople 0 = .ok (.iconst 0, 1) := by decide +kernel
theorem dX10_innocentPeople_1 : decode cX10_innocentPeople 1 = .ok (.istore_n 1, 1) := by decide +kernel
theorem dX10_innocentPeople_2 : decode cX10_innocentPeople 2 = .ok (.iconst 0, 1) := by decide +kernel
theorem dX10_innocentPeople_3 : decode cX10_innocentPeople 3 = .ok (.istore_n 2, 1) := by decide +kernel
theorem dX10_innocentPeople_4 : decode cX10_innocentPeople 4 = .ok (.iload_n 2, 1) := by decide +kernel
theorem dX10_innocentPeople_5 : decode cX10_innocentPeople 5 = .ok (.aload_n 0, 1) := by decide +kernel
theorem dX10_innocentPeople_6 : decode cX10_innocentPeople 6 = .ok (.getfield 19, 3) := by decide +kernel
theorem dX10_innocentPeople_9 : decode cX10_innocentPeople 9 = .ok (.getfield 141, 3) := by decide +kernel
theorem dX10_innocentPeople_12 : decode cX10_innocentPeople 12 = .ok (.if_icmp .ge 26, 3) := by decide +kernel
theorem dX10_innocentPeople_15 : decode cX10_innocentPeople 15 = .ok (.aload_n 0, 1) := by decide +kernel
theorem dX10_innocentPeople_16 : decode cX10_innocentPeople 16 = .ok (.getfield 58, 3) := by decide +kernel
theorem dX10_innocentPeople_19 : decode cX10_innocentPeople 19 = .ok (.iload_n 2, 1) := by decide +kernel
theorem dX10_innocentPeople_20 : decode cX10_innocentPeople 20 = .ok (.invokevirtual 239, 3) := by decide +kernel
theorem dX10_innocentPeople_23 : decode cX10_innocentPeople 23 = .ok (.ifCond .ne 9, 3) := by decide +kernel
theorem dX10_innocentPeople_26 : decode cX10_innocentPeople 26 = .ok (.iload_n 1, 1) := by decide +kernel
theorem dX10_innocentPeople_27 : decode cX10_innocentPeople 27 = .ok (.iconst 1, 1) := by decide +kernel
theorem dX10_innocentPeople_28 : decode cX10_innocentPeople 28 = .ok (.iload_n 2, 1) := by decide +kernel
theorem dX10_innocentPeople_29 : decode cX10_innocentPeople 29 = .ok (.ishl, 1) := by decide +kernel
theorem dX10_innocentPeople_30 : decode cX10_innocentPeople 30 = .ok (.ior, 1) := by decide +kernel
theorem dX10_innocentPeople_31 : decode cX10_innocentPeople 31 = .ok (.istore_n 1, 1) := by decide +kernel
theorem dX10_innocentPeople_32 : decode cX10_innocentPeople 32 = .ok (.iinc 2 1, 3) := by decide +kernel
theorem dX10_innocentPeople_35 : decode cX10_innocentPeople 35 = .ok (.goto (-31), 3) := by decide +kernel
theorem dX10_innocentPeople_38 : decode cX10_innocentPeople 38 = .ok (.iload_n 1, 1) := by decide +kernel
theorem dX10_innocentPeople_39 : decode cX10_innocentPeople 39 = .ok (.ireturn, 1) := by decide +kernel
theorem dX10_servedPeople_0 : decode cX10_servedPeople 0 = .ok (.iconst 0, 1) := by decide +kernel
theorem dX10_servedPeople_1 : decode cX10_servedPeople 1 = .ok (.istore_n 1, 1) := by decide +kernel
theorem dX10_servedPeople_2 : decode cX10_servedPeople 2 = .ok (.iconst 0, 1) := by decide +kernel
theorem dX10_servedPeople_3 : decode cX10_servedPeople 3 = .ok (.istore_n 2, 1) := by decide +kernel
theorem dX10_servedPeople_4 : decode cX10_servedPeople 4 = .ok (.iload_n 2, 1) := by decide +kernel
theorem dX10_servedPeople_5 : decode cX10_servedPeople 5 = .ok (.aload_n 0, 1) := by decide +kernel
theorem dX10_servedPeople_6 : decode cX10_servedPeople 6 = .ok (.getfield 19, 3) := by decide +kernel
theorem dX10_servedPeople_9 : decode cX10_servedPeople 9 = .ok (.getfield 141, 3) := by decide +kernel
theorem dX10_servedPeople_12 : decode cX10_servedPeople 12 = .ok (.if_icmp .ge 32, 3) := by decide +kernel
theorem dX10_servedPeople_15 : decode cX10_servedPeople 15 = .ok (.aload_n 0, 1) := by decide +kernel
theorem dX10_servedPeople_16 : decode cX10_servedPeople 16 = .ok (.getfield 40, 3) := by decide +kernel
theorem dX10_servedPeople_19 : decode cX10_servedPeople 19 = .ok (.aload_n 0, 1) := by decide +kernel
theorem dX10_servedPeople_20 : decode cX10_servedPeople 20 = .ok (.getfield 58, 3) := by decide +kernel
theorem dX10_servedPeople_23 : decode cX10_servedPeople 23 = .ok (.iload_n 2, 1) := by decide +kernel
theorem dX10_servedPeople_24 : decode cX10_servedPeople 24 = .ok (.aload_n 0, 1) := by decide +kernel
theorem dX10_servedPeople_25 : decode cX10_servedPeople 25 = .ok (.iload_n 2, 1) := by decide +kernel
theorem dX10_servedPeople_26 : decode cX10_servedPeople 26 = .ok (.invokevirtual 380, 3) := by decide +kernel
theorem dX10_servedPeople_29 : decode cX10_servedPeople 29 = .ok (.invokevirtual 339, 3) := by decide +kernel
theorem dX10_servedPeople_32 : decode cX10_servedPeople 32 = .ok (.ifCond .eq 6, 3) := by decide +kernel
theorem dX10_servedPeople_35 : decode cX10_servedPeople 35 = .ok (.iinc 1 1, 3) := by decide +kernel
theorem dX10_servedPeople_38 : decode cX10_servedPeople 38 = .ok (.iinc 2 1, 3) := by decide +kernel
theorem dX10_servedPeople_41 : decode cX10_servedPeople 41 = .ok (.goto (-37), 3) := by decide +kernel
theorem dX10_servedPeople_44 : decode cX10_servedPeople 44 = .ok (.iload_n 1, 1) := by decide +kernel
theorem dX10_servedPeople_45 : decode cX10_servedPeople 45 = .ok (.ireturn, 1) := by decide +kernel
theorem dX10_image_0 : decode cX10_image 0 = .ok (.aload_n 0, 1) := by decide +kernel
theorem dX10_image_1 : decode cX10_image 1 = .ok (.invokevirtual 250, 3) := by decide +kernel
theorem dX10_image_4 : decode cX10_image 4 = .ok (.ifCond .eq 5, 3) := by decide +kernel
theorem dX10_image_7 : decode cX10_image 7 = .ok (.iconst (-1), 1) := by decide +kernel
theorem dX10_image_8 : decode cX10_image 8 = .ok (.ireturn, 1) := by decide +kernel
theorem dX10_image_9 : decode cX10_image 9 = .ok (.aload_n 0, 1) := by decide +kernel
theorem dX10_image_10 : decode cX10_image 10 = .ok (.getfield 65, 3) := by decide +kernel
theorem dX10_image_13 : decode cX10_image 13 = .ok (.aload_n 0, 1) := by decide +kernel
theorem dX10_image_14 : decode cX10_image 14 = .ok (.getfield 58, 3) := by decide +kernel
theorem dX10_image_17 : decode cX10_image 17 = .ok (.invokevirtual 309, 3) := by decide +kernel
theorem dX10_image_20 : decode cX10_image 20 = .ok (.aload_n 0, 1) := by decide +kernel
theorem dX10_image_21 : decode cX10_image 21 = .ok (.iconst 1, 1) := by decide +kernel
theorem dX10_image_22 : decode cX10_image 22 = .ok (.putfield 137, 3) := by decide +kernel
theorem dX10_image_25 : decode cX10_image 25 = .ok (.aload_n 0, 1) := by decide +kernel
theorem dX10_image_26 : decode cX10_image 26 = .ok (.getfield 58, 3) := by decide +kernel
theorem dX10_image_29 : decode cX10_image 29 = .ok (.bipush 66, 2) := by decide +kernel
theorem dX10_image_31 : decode cX10_image 31 = .ok (.invokevirtual 254, 3) := by decide +kernel
theorem dX10_image_34 : decode cX10_image 34 = .ok (.ireturn, 1) := by decide +kernel
theorem dX10_back_0 : decode cX10_back 0 = .ok (.aload_n 0, 1) := by decide +kernel
theorem dX10_back_1 : decode cX10_back 1 = .ok (.getfield 137, 3) := by decide +kernel
theorem dX10_back_4 : decode cX10_back 4 = .ok (.ifCond .ne 5, 3) := by decide +kernel
theorem dX10_back_7 : decode cX10_back 7 = .ok (.iconst (-1), 1) := by decide +kernel
theorem dX10_back_8 : decode cX10_back 8 = .ok (.ireturn, 1) := by decide +kernel
theorem dX10_back_9 : decode cX10_back 9 = .ok (.aload_n 0, 1) := by decide +kernel
theorem dX10_back_10 : decode cX10_back 10 = .ok (.getfield 58, 3) := by decide +kernel
theorem dX10_back_13 : decode cX10_back 13 = .ok (.aload_n 0, 1) := by decide +kernel
theorem dX10_back_14 : decode cX10_back 14 = .ok (.getfield 65, 3) := by decide +kernel
theorem dX10_back_17 : decode cX10_back 17 = .ok (.invokevirtual 309, 3) := by decide +kernel
theorem dX10_back_20 : decode cX10_back 20 = .ok (.aload_n 0, 1) := by decide +kernel
theorem dX10_back_21 : decode cX10_back 21 = .ok (.getfield 71, 3) := by decide +kernel
theorem dX10_back_24 : decode cX10_back 24 = .ok (.invokevirtual 133, 3) := by decide +kernel
theorem dX10_back_27 : decode cX10_back 27 = .ok (.aload_n 0, 1) := by decide +kernel
theorem dX10_back_28 : decode cX10_back 28 = .ok (.getfield 58, 3) := by decide +kernel
theorem dX10_back_31 : decode cX10_back 31 = .ok (.bipush 66, 2) := by decide +kernel
theorem dX10_back_33 : decode cX10_back 33 = .ok (.invokevirtual 254, 3) := by decide +kernel
theorem dX10_back_36 : decode cX10_back 36 = .ok (.ireturn, 1) := by decide +kernel
theorem dX10_count_0 : decode cX10_count 0 = .ok (.iload_n 1, 1) := by decide +kernel
theorem dX10_count_1 : decode cX10_count 1 = .ok (.tableswitch 141 0 14 #[75, 83, 91, 99, 104, 112, 141, 141, 141, 141, 141, 120, 125, 141, 133], 75) := by decide +kernel
theorem dX10_count_76 : decode cX10_count 76 = .ok (.aload_n 0, 1) := by decide +kernel
theorem dX10_count_77 : decode cX10_count 77 = .ok (.getfield 19, 3) := by decide +kernel
theorem dX10_count_80 : decode cX10_count 80 = .ok (.getfield 141, 3) := by decide +kernel
theorem dX10_count_83 : decode cX10_count 83 = .ok (.ireturn, 1) := by decide +kernel
theorem dX10_count_84 : decode cX10_count 84 = .ok (.aload_n 0, 1) := by decide +kernel
theorem dX10_count_85 : decode cX10_count 85 = .ok (.getfield 19, 3) := by decide +kernel
theorem dX10_count_88 : decode cX10_count 88 = .ok (.getfield 283, 3) := by decide +kernel
theorem dX10_count_91 : decode cX10_count 91 = .ok (.ireturn, 1) := by decide +kernel
theorem dX10_count_92 : decode cX10_count 92 = .ok (.aload_n 0, 1) := by decide +kernel
theorem dX10_count_93 : decode cX10_count 93 = .ok (.getfield 40, 3) := by decide +kernel
theorem dX10_count_96 : decode cX10_count 96 = .ok (.getfield 144, 3) := by decide +kernel
theorem dX10_count_99 : decode cX10_count 99 = .ok (.ireturn, 1) := by decide +kernel
theorem dX10_count_100 : decode cX10_count 100 = .ok (.aload_n 0, 1) := by decide +kernel
theorem dX10_count_101 : decode cX10_count 101 = .ok (.getfield 155, 3) := by decide +kernel
theorem dX10_count_104 : decode cX10_count 104 = .ok (.ireturn, 1) := by decide +kernel
theorem dX10_count_105 : decode cX10_count 105 = .ok (.aload_n 0, 1) := by decide +kernel
theorem dX10_count_106 : decode cX10_count 106 = .ok (.getfield 10, 3) := by decide +kernel
theorem dX10_count_109 : decode cX10_count 109 = .ok (.getfield 99, 3) := by decide +kernel
theorem dX10_count_112 : decode cX10_count 112 = .ok (.ireturn, 1) := by decide +kernel
theorem dX10_count_113 : decode cX10_count 113 = .ok (.aload_n 0, 1) := by decide +kernel
theorem dX10_count_114 : decode cX10_count 114 = .ok (.getfield 40, 3) := by decide +kernel
theorem dX10_count_117 : decode cX10_count 117 = .ok (.getfield 401, 3) := by decide +kernel
theorem dX10_count_120 : decode cX10_count 120 = .ok (.ireturn, 1) := by decide +kernel
theorem dX10_count_121 : decode cX10_count 121 = .ok (.aload_n 0, 1) := by decide +kernel
theorem dX10_count_122 : decode cX10_count 122 = .ok (.getfield 91, 3) := by decide +kernel
theorem dX10_count_125 : decode cX10_count 125 = .ok (.ireturn, 1) := by decide +kernel
theorem dX10_count_126 : decode cX10_count 126 = .ok (.aload_n 0, 1) := by decide +kernel
theorem dX10_count_127 : decode cX10_count 127 = .ok (.getfield 80, 3) := by decide +kernel
theorem dX10_count_130 : decode cX10_count 130 = .ok (.getfield 347, 3) := by decide +kernel
theorem dX10_count_133 : decode cX10_count 133 = .ok (.ireturn, 1) := by decide +kernel
theorem dX10_count_134 : decode cX10_count 134 = .ok (.aload_n 0, 1) := by decide +kernel
theorem dX10_count_135 : decode cX10_count 135 = .ok (.getfield 71, 3) := by decide +kernel
theorem dX10_count_138 : decode cX10_count 138 = .ok (.getfield 404, 3) := by decide +kernel
theorem dX10_count_141 : decode cX10_count 141 = .ok (.ireturn, 1) := by decide +kernel
theorem dX10_count_142 : decode cX10_count 142 = .ok (.aload_n 0, 1) := by decide +kernel
theorem dX10_count_143 : decode cX10_count 143 = .ok (.iload_n 1, 1) := by decide +kernel
theorem dX10_count_144 : decode cX10_count 144 = .ok (.invokevirtual 407, 3) := by decide +kernel
theorem dX10_count_147 : decode cX10_count 147 = .ok (.ireturn, 1) := by decide +kernel
theorem dX10_countOfLife_0 : decode cX10_countOfLife 0 = .ok (.iload_n 1, 1) := by decide +kernel
theorem dX10_countOfLife_1 : decode cX10_countOfLife 1 = .ok (.tableswitch 105 6 13 #[47, 57, 67, 77, 87, 105, 105, 97], 47) := by decide +kernel
theorem dX10_countOfLife_48 : decode cX10_countOfLife 48 = .ok (.aload_n 0, 1) := by decide +kernel
theorem dX10_countOfLife_49 : decode cX10_countOfLife 49 = .ok (.getfield 58, 3) := by decide +kernel
theorem dX10_countOfLife_52 : decode cX10_countOfLife 52 = .ok (.bipush 66, 2) := by decide +kernel
theorem dX10_countOfLife_54 : decode cX10_countOfLife 54 = .ok (.invokevirtual 254, 3) := by decide +kernel
theorem dX10_countOfLife_57 : decode cX10_countOfLife 57 = .ok (.ireturn, 1) := by decide +kernel
theorem dX10_countOfLife_58 : decode cX10_countOfLife 58 = .ok (.aload_n 0, 1) := by decide +kernel
theorem dX10_countOfLife_59 : decode cX10_countOfLife 59 = .ok (.getfield 58, 3) := by decide +kernel
theorem dX10_countOfLife_62 : decode cX10_countOfLife 62 = .ok (.bipush 65, 2) := by decide +kernel
theorem dX10_countOfLife_64 : decode cX10_countOfLife 64 = .ok (.invokevirtual 254, 3) := by decide +kernel
theorem dX10_countOfLife_67 : decode cX10_countOfLife 67 = .ok (.ireturn, 1) := by decide +kernel
theorem dX10_countOfLife_68 : decode cX10_countOfLife 68 = .ok (.aload_n 0, 1) := by decide +kernel
theorem dX10_countOfLife_69 : decode cX10_countOfLife 69 = .ok (.getfield 58, 3) := by decide +kernel
theorem dX10_countOfLife_72 : decode cX10_countOfLife 72 = .ok (.bipush 62, 2) := by decide +kernel
theorem dX10_countOfLife_74 : decode cX10_countOfLife 74 = .ok (.invokevirtual 254, 3) := by decide +kernel
theorem dX10_countOfLife_77 : decode cX10_countOfLife 77 = .ok (.ireturn, 1) := by decide +kernel
theorem dX10_countOfLife_78 : decode cX10_countOfLife 78 = .ok (.aload_n 0, 1) := by decide +kernel
theorem dX10_countOfLife_79 : decode cX10_countOfLife 79 = .ok (.getfield 58, 3) := by decide +kernel
theorem dX10_countOfLife_82 : decode cX10_countOfLife 82 = .ok (.bipush 63, 2) := by decide +kernel
theorem dX10_countOfLife_84 : decode cX10_countOfLife 84 = .ok (.invokevirtual 254, 3) := by decide +kernel
theorem dX10_countOfLife_87 : decode cX10_countOfLife 87 = .ok (.ireturn, 1) := by decide +kernel
theorem dX10_countOfLife_88 : decode cX10_countOfLife 88 = .ok (.aload_n 0, 1) := by decide +kernel
theorem dX10_countOfLife_89 : decode cX10_countOfLife 89 = .ok (.getfield 58, 3) := by decide +kernel
theorem dX10_countOfLife_92 : decode cX10_countOfLife 92 = .ok (.bipush 64, 2) := by decide +kernel
theorem dX10_countOfLife_94 : decode cX10_countOfLife 94 = .ok (.invokevirtual 254, 3) := by decide +kernel
theorem dX10_countOfLife_97 : decode cX10_countOfLife 97 = .ok (.ireturn, 1) := by decide +kernel
theorem dX10_countOfLife_98 : decode cX10_countOfLife 98 = .ok (.aload_n 0, 1) := by decide +kernel
theorem dX10_countOfLife_99 : decode cX10_countOfLife 99 = .ok (.getfield 58, 3) := by decide +kernel
theorem dX10_countOfLife_102 : decode cX10_countOfLife 102 = .ok (.invokevirtual 290, 3) := by decide +kernel
theorem dX10_countOfLife_105 : decode cX10_countOfLife 105 = .ok (.ireturn, 1) := by decide +kernel
theorem dX10_countOfLife_106 : decode cX10_countOfLife 106 = .ok (.ldc_w 301, 3) := by decide +kernel
theorem dX10_countOfLife_109 : decode cX10_countOfLife 109 = .ok (.ireturn, 1) := by decide +kernel
theorem dX11_init_0 : decode cX11_init 0 = .ok (.aload_n 0, 1) := by decide +kernel
theorem dX11_init_1 : decode cX11_init 1 = .ok (.invokespecial 3, 3) := by decide +kernel
theorem dX11_init_4 : decode cX11_init 4 = .ok (.aload_n 0, 1) := by decide +kernel
theorem dX11_init_5 : decode cX11_init 5 = .ok (.sipush 240, 3) := by decide +kernel
theorem dX11_init_8 : decode cX11_init 8 = .ok (.newarray .byte, 2) := by decide +kernel
theorem dX11_init_10 : decode cX11_init 10 = .ok (.putfield 9, 3) := by decide +kernel
theorem dX11_init_13 : decode cX11_init 13 = .ok (.aload_n 0, 1) := by decide +kernel
theorem dX11_init_14 : decode cX11_init 14 = .ok (.sipush 960, 3) := by decide +kernel
theorem dX11_init_17 : decode cX11_init 17 = .ok (.newarray .byte, 2) := by decide +kernel
theorem dX11_init_19 : decode cX11_init 19 = .ok (.putfield 13, 3) := by decide +kernel
theorem dX11_init_22 : decode cX11_init 22 = .ok (.aload_n 0, 1) := by decide +kernel
theorem dX11_init_23 : decode cX11_init 23 = .ok (.iconst 4, 1) := by decide +kernel
theorem dX11_init_24 : decode cX11_init 24 = .ok (.newarray .int, 2) := by decide +kernel
theorem dX11_init_26 : decode cX11_init 26 = .ok (.putfield 16, 3) := by decide +kernel
theorem dX11_init_29 : decode cX11_init 29 = .ok (.aload_n 0, 1) := by decide +kernel
theorem dX11_init_30 : decode cX11_init 30 = .ok (.sipush 128, 3) := by decide +kernel
theorem dX11_init_33 : decode cX11_init 33 = .ok (.newarray .int, 2) := by decide +kernel
theorem dX11_init_35 : decode cX11_init 35 = .ok (.putfield 20, 3) := by decide +kernel
theorem dX11_init_38 : decode cX11_init 38 = .ok (.aload_n 0, 1) := by decide +kernel
theorem dX11_init_39 : decode cX11_init 39 = .ok (.aload_n 0, 1) := by decide +kernel
theorem dX11_init_40 : decode cX11_init 40 = .ok (.getfield 9, 3) := by decide +kernel
theorem dX11_init_43 : decode cX11_init 43 = .ok (.putfield 23, 3) := by decide +kernel
theorem dX11_init_46 : decode cX11_init 46 = .ok (.aload_n 0, 1) := by decide +kernel
theorem dX11_init_47 : decode cX11_init 47 = .ok (.ldc 26, 2) := by decide +kernel
theorem dX11_init_49 : decode cX11_init 49 = .ok (.putfield 28, 3) := by decide +kernel
theorem dX11_init_52 : decode cX11_init 52 = .ok (.aload_n 0, 1) := by decide +kernel
theorem dX11_init_53 : decode cX11_init 53 = .ok (.ldc 32, 2) := by decide +kernel
theorem dX11_init_55 : decode cX11_init 55 = .ok (.putfield 34, 3) := by decide +kernel
theorem dX11_init_58 : decode cX11_init 58 = .ok (.aload_n 0, 1) := by decide +kernel
theorem dX11_init_59 : decode cX11_init 59 = .ok (.iconst 2, 1) := by decide +kernel
theorem dX11_init_60 : decode cX11_init 60 = .ok (.newarray .int, 2) := by decide +kernel
theorem dX11_init_62 : decode cX11_init 62 = .ok (.putfield 37, 3) := by decide +kernel
theorem dX11_init_65 : decode cX11_init 65 = .ok (.aload_n 0, 1) := by decide +kernel
theorem dX11_init_66 : decode cX11_init 66 = .ok (.iconst 2, 1) := by decide +kernel
theorem dX11_init_67 : decode cX11_init 67 = .ok (.newarray .int, 2) := by decide +kernel
theorem dX11_init_69 : decode cX11_init 69 = .ok (.putfield 40, 3) := by decide +kernel
theorem dX11_init_72 : decode cX11_init 72 = .ok (.aload_n 0, 1) := by decide +kernel
theorem dX11_init_73 : decode cX11_init 73 = .ok (.bipush 18, 2) := by decide +kernel
theorem dX11_init_75 : decode cX11_init 75 = .ok (.newarray .int, 2) := by decide +kernel
theorem dX11_init_77 : decode cX11_init 77 = .ok (.putfield 43, 3) := by decide +kernel
theorem dX11_init_80 : decode cX11_init 80 = .ok (.aload_n 0, 1) := by decide +kernel
theorem dX11_init_81 : decode cX11_init 81 = .ok (.bipush 18, 2) := by decide +kernel
theorem dX11_init_83 : decode cX11_init 83 = .ok (.newarray .int, 2) := by decide +kernel
theorem dX11_init_85 : decode cX11_init 85 = .ok (.putfield 46, 3) := by decide +kernel
theorem dX11_init_88 : decode cX11_init 88 = .ok (.aload_n 0, 1) := by decide +kernel
theorem dX11_init_89 : decode cX11_init 89 = .ok (.bipush 24, 2) := by decide +kernel
theorem dX11_init_91 : decode cX11_init 91 = .ok (.newarray .int, 2) := by decide +kernel
theorem dX11_init_93 : decode cX11_init 93 = .ok (.putfield 49, 3) := by decide +kernel
theorem dX11_init_96 : decode cX11_init 96 = .ok (.aload_n 0, 1) := by decide +kernel
theorem dX11_init_97 : decode cX11_init 97 = .ok (.bipush 24, 2) := by decide +kernel
theorem dX11_init_99 : decode cX11_init 99 = .ok (.newarray .int, 2) := by decide +kernel
theorem dX11_init_101 : decode cX11_init 101 = .ok (.putfield 52, 3) := by decide +kernel
theorem dX11_init_104 : decode cX11_init 104 = .ok (.aload_n 0, 1) := by decide +kernel
theorem dX11_init_105 : decode cX11_init 105 = .ok (.sipush 240, 3) := by decide +kernel
theorem dX11_init_108 : decode cX11_init 108 = .ok (.newarray .int, 2) := by decide +kernel
theorem dX11_init_110 : decode cX11_init 110 = .ok (.putfield 55, 3) := by decide +kernel
theorem dX11_init_113 : decode cX11_init 113 = .ok (.aload_n 0, 1) := by decide +kernel
theorem dX11_init_114 : decode cX11_init 114 = .ok (.iconst 5, 1) := by decide +kernel
theorem dX11_init_115 : decode cX11_init 115 = .ok (.newarray .int, 2) := by decide +kernel
theorem dX11_init_117 : decode cX11_init 117 = .ok (.putfield 58, 3) := by decide +kernel
theorem dX11_init_120 : decode cX11_init 120 = .ok (.aload_n 0, 1) := by decide +kernel
theorem dX11_init_121 : decode cX11_init 121 = .ok (.sipush 248, 3) := by decide +kernel
theorem dX11_init_124 : decode cX11_init 124 = .ok (.newarray .int, 2) := by decide +kernel
theorem dX11_init_126 : decode cX11_init 126 = .ok (.putfield 61, 3) := by decide +kernel
theorem dX11_init_129 : decode cX11_init 129 = .ok (.aload_n 0, 1) := by decide +kernel
theorem dX11_init_130 : decode cX11_init 130 = .ok (.sipush 248, 3) := by decide +kernel
theorem dX11_init_133 : decode cX11_init 133 = .ok (.newarray .int, 2) := by decide +kernel
theorem dX11_init_135 : decode cX11_init 135 = .ok (.putfield 64, 3) := by decide +kernel
theorem dX11_init_138 : decode cX11_init 138 = .ok (.aload_n 0, 1) := by decide +kernel
theorem dX11_init_139 : decode cX11_init 139 = .ok (.iconst (-1), 1) := by decide +kernel
theorem dX11_init_140 : decode cX11_init 140 = .ok (.putfield 67, 3) := by decide +kernel
theorem dX11_init_143 : decode cX11_init 143 = .ok (.aload_n 0, 1) := by decide +kernel
theorem dX11_init_144 : decode cX11_init 144 = .ok (.iconst 5, 1) := by decide +kernel
theorem dX11_init_145 : decode cX11_init 145 = .ok (.putfield 71, 3) := by decide +kernel
theorem dX11_init_148 : decode cX11_init 148 = .ok (.aload_n 0, 1) := by decide +kernel
theorem dX11_init_149 : decode cX11_init 149 = .ok (.sipush 8191, 3) := by decide +kernel
theorem dX11_init_152 : decode cX11_init 152 = .ok (.newarray .long, 2) := by decide +kernel
theorem dX11_init_154 : decode cX11_init 154 = .ok (.putfield 74, 3) := by decide +kernel
theorem dX11_init_157 : decode cX11_init 157 = .ok (.aload_n 0, 1) := by decide +kernel
theorem dX11_init_158 : decode cX11_init 158 = .ok (.sipush 8191, 3) := by decide +kernel
theorem dX11_init_161 : decode cX11_init 161 = .ok (.newarray .int, 2) := by decide +kernel
theorem dX11_init_163 : decode cX11_init 163 = .ok (.putfield 78, 3) := by decide +kernel
theorem dX11_init_166 : decode cX11_init 166 = .ok (.aload_n 0, 1) := by decide +kernel
theorem dX11_init_167 : decode cX11_init 167 = .ok (.sipush 9920, 3) := by decide +kernel
theorem dX11_init_170 : decode cX11_init 170 = .ok (.newarray .int, 2) := by decide +kernel
theorem dX11_init_172 : decode cX11_init 172 = .ok (.putfield 81, 3) := by decide +kernel
theorem dX11_init_175 : decode cX11_init 175 = .ok (.aload_n 0, 1) := by decide +kernel
theorem dX11_init_176 : decode cX11_init 176 = .ok (.bipush 30, 2) := by decide +kernel
theorem dX11_init_178 : decode cX11_init 178 = .ok (.newarray .int, 2) := by decide +kernel
theorem dX11_init_180 : decode cX11_init 180 = .ok (.putfield 84, 3) := by decide +kernel
theorem dX11_init_183 : decode cX11_init 183 = .ok (.aload_n 0, 1) := by decide +kernel
theorem dX11_init_184 : decode cX11_init 184 = .ok (.sipush 248, 3) := by decide +kernel
theorem dX11_init_187 : decode cX11_init 187 = .ok (.newarray .int, 2) := by decide +kernel
theorem dX11_init_189 : decode cX11_init 189 = .ok (.putfield 87, 3) := by decide +kernel
theorem dX11_init_192 : decode cX11_init 192 = .ok (.return_, 1) := by decide +kernel
theorem dX11_thrown_0 : decode cX11_thrown 0 = .ok (.aload_n 0, 1) := by decide +kernel
theorem dX11_thrown_1 : decode cX11_thrown 1 = .ok (.getfield 90, 3) := by decide +kernel
theorem dX11_thrown_4 : decode cX11_thrown 4 = .ok (.ireturn, 1) := by decide +kernel
theorem dX11_isIn_0 : decode cX11_isIn 0 = .ok (.lload_n 0, 1) := by decide +kernel
theorem dX11_isIn_1 : decode cX11_isIn 1 = .ok (.lload_n 2, 1) := by decide +kernel
theorem dX11_isIn_2 : decode cX11_isIn 2 = .ok (.lcmp, 1) := by decide +kernel
theorem dX11_isIn_3 : decode cX11_isIn 3 = .ok (.ifCond .lt 14, 3) := by decide +kernel
theorem dX11_isIn_6 : decode cX11_isIn 6 = .ok (.lload_n 0, 1) := by decide +kernel
theorem dX11_isIn_7 : decode cX11_isIn 7 = .ok (.lload 4, 2) := by decide +kernel
theorem dX11_isIn_9 : decode cX11_isIn 9 = .ok (.lcmp, 1) := by decide +kernel
theorem dX11_isIn_10 : decode cX11_isIn 10 = .ok (.ifCond .gt 7, 3) := by decide +kernel
theorem dX11_isIn_13 : decode cX11_isIn 13 = .ok (.iconst 1, 1) := by decide +kernel
theorem dX11_isIn_14 : decode cX11_isIn 14 = .ok (.goto 4, 3) := by decide +kernel
theorem dX11_isIn_17 : decode cX11_isIn 17 = .ok (.iconst 0, 1) := by decide +kernel
theorem dX11_isIn_18 : decode cX11_isIn 18 = .ok (.ireturn, 1) := by decide +kernel
theorem dX11_has_0 : decode cX11_has 0 = .ok (.iload_n 0, 1) := by decide +kernel
theorem dX11_has_1 : decode cX11_has 1 = .ok (.iload_n 1, 1) := by decide +kernel
theorem dX11_has_2 : decode cX11_has 2 = .ok (.ishr, 1) := by decide +kernel
theorem dX11_has_3 : decode cX11_has 3 = .ok (.iconst 1, 1) := by decide +kernel
theorem dX11_has_4 : decode cX11_has 4 = .ok (.iand, 1) := by decide +kernel
theorem dX11_has_5 : decode cX11_has 5 = .ok (.iconst 1, 1) := by decide +kernel
theorem dX11_has_6 : decode cX11_has 6 = .ok (.if_icmp .ne 7, 3) := by decide +kernel
theorem dX11_has_9 : decode cX11_has 9 = .ok (.iconst 1, 1) := by decide +kernel
theorem dX11_has_10 : decode cX11_has 10 = .ok (.goto 4, 3) := by decide +kernel
theorem dX11_has_13 : decode cX11_has 13 = .ok (.iconst 0, 1) := by decide +kernel
theorem dX11_has_14 : decode cX11_has 14 = .ok (.ireturn, 1) := by decide +kernel
theorem dX11_isAmong_0 : decode cX11_isAmong 0 = .ok (.iconst 0, 1) := by decide +kernel
theorem dX11_isAmong_1 : decode cX11_isAmong 1 = .ok (.istore_n 2, 1) := by decide +kernel
theorem dX11_isAmong_2 : decode cX11_isAmong 2 = .ok (.iload_n 2, 1) := by decide +kernel
theorem dX11_isAmong_3 : decode cX11_isAmong 3 = .ok (.aload_n 0, 1) := by decide +kernel
theorem dX11_isAmong_4 : decode cX11_isAmong 4 = .ok (.invokevirtual 93, 3) := by decide +kernel
theorem dX11_isAmong_7 : decode cX11_isAmong 7 = .ok (.if_icmp .ge 20, 3) := by decide +kernel
theorem dX11_isAmong_10 : decode cX11_isAmong 10 = .ok (.aload_n 0, 1) := by decide +kernel
theorem dX11_isAmong_11 : decode cX11_isAmong 11 = .ok (.iload_n 2, 1) := by decide +kernel
theorem dX11_isAmong_12 : decode cX11_isAmong 12 = .ok (.invokevirtual 99, 3) := by decide +kernel
theorem dX11_isAmong_15 : decode cX11_isAmong 15 = .ok (.iload_n 1, 1) := by decide +kernel
theorem dX11_isAmong_16 : decode cX11_isAmong 16 = .ok (.if_icmp .ne 5, 3) := by decide +kernel
theorem dX11_isAmong_19 : decode cX11_isAmong 19 = .ok (.iconst 1, 1) := by decide +kernel
theorem dX11_isAmong_20 : decode cX11_isAmong 20 = .ok (.ireturn, 1) := by decide +kernel
theorem dX11_isAmong_21 : decode cX11_isAmong 21 = .ok (.iinc 2 1, 3) := by decide +kernel
theorem dX11_isAmong_24 : decode cX11_isAmong 24 = .ok (.goto (-22), 3) := by decide +kernel
theorem dX11_isAmong_27 : decode cX11_isAmong 27 = .ok (.iconst 0, 1) := by decide +kernel
theorem dX11_isAmong_28 : decode cX11_isAmong 28 = .ok (.ireturn, 1) := by decide +kernel
theorem dX11_bytesIn_0 : decode cX11_bytesIn 0 = .ok (.iconst 0, 1) := by decide +kernel
theorem dX11_bytesIn_1 : decode cX11_bytesIn 1 = .ok (.istore_n 1, 1) := by decide +kernel
theorem dX11_bytesIn_2 : decode cX11_bytesIn 2 = .ok (.bipush 24, 2) := by decide +kernel
theorem dX11_bytesIn_4 : decode cX11_bytesIn 4 = .ok (.istore_n 2, 1) := by decide +kernel
theorem dX11_bytesIn_5 : decode cX11_bytesIn 5 = .ok (.iload_n 2, 1) := by decide +kernel
theorem dX11_bytesIn_6 : decode cX11_bytesIn 6 = .ok (.ifCond .lt 27, 3) := by decide +kernel
theorem dX11_bytesIn_9 : decode cX11_bytesIn 9 = .ok (.iload_n 1, 1) := by decide +kernel
theorem dX11_bytesIn_10 : decode cX11_bytesIn 10 = .ok (.iload_n 0, 1) := by decide +kernel
theorem dX11_bytesIn_11 : decode cX11_bytesIn 11 = .ok (.iload_n 2, 1) := by decide +kernel
theorem dX11_bytesIn_12 : decode cX11_bytesIn 12 = .ok (.ishr, 1) := by decide +kernel
theorem dX11_bytesIn_13 : decode cX11_bytesIn 13 = .ok (.sipush 255, 3) := by decide +kernel
theorem dX11_bytesIn_16 : decode cX11_bytesIn 16 = .ok (.iand, 1) := by decide +kernel
theorem dX11_bytesIn_17 : decode cX11_bytesIn 17 = .ok (.ifCond .eq 7, 3) := by decide +kernel
theorem dX11_bytesIn_20 : decode cX11_bytesIn 20 = .ok (.iconst 1, 1) := by decide +kernel
theorem dX11_bytesIn_21 : decode cX11_bytesIn 21 = .ok (.goto 4, 3) := by decide +kernel
theorem dX11_bytesIn_24 : decode cX11_bytesIn 24 = .ok (.iconst 0, 1) := by decide +kernel
theorem dX11_bytesIn_25 : decode cX11_bytesIn 25 = .ok (.iadd, 1) := by decide +kernel
theorem dX11_bytesIn_26 : decode cX11_bytesIn 26 = .ok (.istore_n 1, 1) := by decide +kernel
theorem dX11_bytesIn_27 : decode cX11_bytesIn 27 = .ok (.iinc 2 (-8), 3) := by decide +kernel
theorem dX11_bytesIn_30 : decode cX11_bytesIn 30 = .ok (.goto (-25), 3) := by decide +kernel
theorem dX11_bytesIn_33 : decode cX11_bytesIn 33 = .ok (.iload_n 1, 1) := by decide +kernel
theorem dX11_bytesIn_34 : decode cX11_bytesIn 34 = .ok (.ireturn, 1) := by decide +kernel
theorem dX11_put_0 : decode cX11_put 0 = .ok (.bipush 24, 2) := by decide +kernel
theorem dX11_put_2 : decode cX11_put 2 = .ok (.istore_n 2, 1) := by decide +kernel
theorem dX11_put_3 : decode cX11_put 3 = .ok (.iload_n 2, 1) := by decide +kernel
theorem dX11_put_4 : decode cX11_put 4 = .ok (.ifCond .lt 45, 3) := by decide +kernel
theorem dX11_put_7 : decode cX11_put 7 = .ok (.iload_n 1, 1) := by decide +kernel
theorem dX11_put_8 : decode cX11_put 8 = .ok (.iload_n 2, 1) := by decide +kernel
theorem dX11_put_9 : decode cX11_put 9 = .ok (.ishr, 1) := by decide +kernel
theorem dX11_put_10 : decode cX11_put 10 = .ok (.sipush 255, 3) := by decide +kernel
theorem dX11_put_13 : decode cX11_put 13 = .ok (.iand, 1) := by decide +kernel
theorem dX11_put_14 : decode cX11_put 14 = .ok (.ifCond .ne 6, 3) := by decide +kernel
theorem dX11_put_17 : decode cX11_put 17 = .ok (.goto 26, 3) := by decide +kernel
theorem dX11_put_20 : decode cX11_put 20 = .ok (.aload_n 0, 1) := by decide +kernel
theorem dX11_put_21 : decode cX11_put 21 = .ok (.getfield 9, 3) := by decide +kernel
theorem dX11_put_24 : decode cX11_put 24 = .ok (.aload_n 0, 1) := by decide +kernel
theorem dX11_put_25 : decode cX11_put 25 = .ok (.getfield 103, 3) := by decide +kernel
theorem dX11_put_28 : decode cX11_put 28 = .ok (.iload_n 1, 1) := by decide +kernel
theorem dX11_put_29 : decode cX11_put 29 = .ok (.iload_n 2, 1) := by decide +kernel
theorem dX11_put_30 : decode cX11_put 30 = .ok (.ishr, 1) := by decide +kernel
theorem dX11_put_31 : decode cX11_put 31 = .ok (.i2b, 1) := by decide +kernel
theorem dX11_put_32 : decode cX11_put 32 = .ok (.bastore, 1) := by decide +kernel
theorem dX11_put_33 : decode cX11_put 33 = .ok (.aload_n 0, 1) := by decide +kernel
theorem dX11_put_34 : decode cX11_put 34 = .ok (.dup, 1) := by decide +kernel
theorem dX11_put_35 : decode cX11_put 35 = .ok (.getfield 103, 3) := by decide +kernel
theorem dX11_put_38 : decode cX11_put 38 = .ok (.iconst 1, 1) := by decide +kernel
theorem dX11_put_39 : decode cX11_put 39 = .ok (.iadd, 1) := by decide +kernel
theorem dX11_put_40 : decode cX11_put 40 = .ok (.putfield 103, 3) := by decide +kernel
theorem dX11_put_43 : decode cX11_put 43 = .ok (.iinc 2 (-8), 3) := by decide +kernel
theorem dX11_put_46 : decode cX11_put 46 = .ok (.goto (-43), 3) := by decide +kernel
theorem dX11_put_49 : decode cX11_put 49 = .ok (.return_, 1) := by decide +kernel
theorem dX11_feed_0 : decode cX11_feed 0 = .ok (.aload_n 0, 1) := by decide +kernel
theorem dX11_feed_1 : decode cX11_feed 1 = .ok (.iconst 0, 1) := by decide +kernel
theorem dX11_feed_2 : decode cX11_feed 2 = .ok (.putfield 90, 3) := by decide +kernel
theorem dX11_feed_5 : decode cX11_feed 5 = .ok (.aload_n 0, 1) := by decide +kernel
theorem dX11_feed_6 : decode cX11_feed 6 = .ok (.getfield 103, 3) := by decide +kernel
theorem dX11_feed_9 : decode cX11_feed 9 = .ok (.iload_n 1, 1) := by decide +kernel
theorem dX11_feed_10 : decode cX11_feed 10 = .ok (.invokestatic 105, 3) := by decide +kernel
theorem dX11_feed_13 : decode cX11_feed 13 = .ok (.iadd, 1) := by decide +kernel
theorem dX11_feed_14 : decode cX11_feed 14 = .ok (.iload_n 2, 1) := by decide +kernel
theorem dX11_feed_15 : decode cX11_feed 15 = .ok (.invokestatic 105, 3) := by decide +kernel
theorem dX11_feed_18 : decode cX11_feed 18 = .ok (.iadd, 1) := by decide +kernel
theorem dX11_feed_19 : decode cX11_feed 19 = .ok (.iload_n 3, 1) := by decide +kernel
theorem dX11_feed_20 : decode cX11_feed 20 = .ok (.invokestatic 105, 3) := by decide +kernel
theorem dX11_feed_23 : decode cX11_feed 23 = .ok (.iadd, 1) := by decide +kernel
theorem dX11_feed_24 : decode cX11_feed 24 = .ok (.iload 4, 2) := by decide +kernel
theorem dX11_feed_26 : decode cX11_feed 26 = .ok (.invokestatic 105, 3) := by decide +kernel
theorem dX11_feed_29 : decode cX11_feed 29 = .ok (.iadd, 1) := by decide +kernel
theorem dX11_feed_30 : decode cX11_feed 30 = .ok (.iload 5, 2) := by decide +kernel
theorem dX11_feed_32 : decode cX11_feed 32 = .ok (.invokestatic 105, 3) := by decide +kernel
theorem dX11_feed_35 : decode cX11_feed 35 = .ok (.iadd, 1) := by decide +kernel
theorem dX11_feed_36 : decode cX11_feed 36 = .ok (.sipush 240, 3) := by decide +kernel
theorem dX11_feed_39 : decode cX11_feed 39 = .ok (.if_icmp .le 5, 3) := by decide +kernel
theorem dX11_feed_42 : decode cX11_feed 42 = .ok (.iconst (-1), 1) := by decide +kernel
theorem dX11_feed_43 : decode cX11_feed 43 = .ok (.ireturn, 1) := by decide +kernel
theorem dX11_feed_44 : decode cX11_feed 44 = .ok (.aload_n 0, 1) := by decide +kernel
theorem dX11_feed_45 : decode cX11_feed 45 = .ok (.iload_n 1, 1) := by decide +kernel
theorem dX11_feed_46 : decode cX11_feed 46 = .ok (.invokevirtual 109, 3) := by decide +kernel
theorem dX11_feed_49 : decode cX11_feed 49 = .ok (.aload_n 0, 1) := by decide +kernel
theorem dX11_feed_50 : decode cX11_feed 50 = .ok (.iload_n 2, 1) := by decide +kernel
theorem dX11_feed_51 : decode cX11_feed 51 = .ok (.invokevirtual 109, 3) := by decide +kernel
theorem dX11_feed_54 : decode cX11_feed 54 = .ok (.aload_n 0, 1) := by decide +kernel
theorem dX11_feed_55 : decode cX11_feed 55 = .ok (.iload_n 3, 1) := by decide +kernel
theorem dX11_feed_56 : decode cX11_feed 56 = .ok (.invokevirtual 109, 3) := by decide +kernel
theorem dX11_feed_59 : decode cX11_feed 59 = .ok (.aload_n 0, 1) := by decide +kernel
theorem dX11_feed_60 : decode cX11_feed 60 = .ok (.iload 4, 2) := by decide +kernel
theorem dX11_feed_62 : decode cX11_feed 62 = .ok (.invokevirtual 109, 3) := by decide +kernel
theorem dX11_feed_65 : decode cX11_feed 65 = .ok (.aload_n 0, 1) := by decide +kernel
theorem dX11_feed_66 : decode cX11_feed 66 = .ok (.iload 5, 2) := by decide +kernel
theorem dX11_feed_68 : decode cX11_feed 68 = .ok (.invokevirtual 109, 3) := by decide +kernel
theorem dX11_feed_71 : decode cX11_feed 71 = .ok (.aload_n 0, 1) := by decide +kernel
theorem dX11_feed_72 : decode cX11_feed 72 = .ok (.getfield 103, 3) := by decide +kernel
theorem dX11_feed_75 : decode cX11_feed 75 = .ok (.ireturn, 1) := by decide +kernel
theorem dX11_end_0 : decode cX11_end 0 = .ok (.aload_n 0, 1) := by decide +kernel
theorem dX11_end_1 : decode cX11_end 1 = .ok (.iconst 0, 1) := by decide +kernel
theorem dX11_end_2 : decode cX11_end 2 = .ok (.putfield 90, 3) := by decide +kernel
theorem dX11_end_5 : decode cX11_end 5 = .ok (.iload_n 1, 1) := by decide +kernel
theorem dX11_end_6 : decode cX11_end 6 = .ok (.ifCond .lt 11, 3) := by decide +kernel
theorem dX11_end_9 : decode cX11_end 9 = .ok (.iload_n 1, 1) := by decide +kernel
theorem dX11_end_10 : decode cX11_end 10 = .ok (.aload_n 0, 1) := by decide +kernel
theorem dX11_end_11 : decode cX11_end 11 = .ok (.getfield 103, 3) := by decide +kernel
theorem dX11_end_14 : decode cX11_end 14 = .ok (.if_icmp .le 5, 3) := by decide +kernel
theorem dX11_end_17 : decode cX11_end 17 = .ok (.iconst 0, 1) := by decide +kernel
theorem dX11_end_18 : decode cX11_end 18 = .ok (.ireturn, 1) := by decide +kernel
theorem dX11_end_19 : decode cX11_end 19 = .ok (.aload_n 0, 1) := by decide +kernel
theorem dX11_end_20 : decode cX11_end 20 = .ok (.iload_n 1, 1) := by decide +kernel
theorem dX11_end_21 : decode cX11_end 21 = .ok (.putfield 103, 3) := by decide +kernel
theorem dX11_end_24 : decode cX11_end 24 = .ok (.iconst 1, 1) := by decide +kernel
theorem dX11_end_25 : decode cX11_end 25 = .ok (.ireturn, 1) := by decide +kernel
theorem dX11_look_0 : decode cX11_look 0 = .ok (.aload_n 0, 1) := by decide +kernel
theorem dX11_look_1 : decode cX11_look 1 = .ok (.getfield 113, 3) := by decide +kernel
theorem dX11_look_4 : decode cX11_look 4 = .ok (.aload_n 0, 1) := by decide +kernel
theorem dX11_look_5 : decode cX11_look 5 = .ok (.getfield 116, 3) := by decide +kernel
theorem dX11_look_8 : decode cX11_look 8 = .ok (.if_icmp .ge 35, 3) := by decide +kernel
theorem dX11_look_11 : decode cX11_look 11 = .ok (.aload_n 0, 1) := by decide +kernel
theorem dX11_look_12 : decode cX11_look 12 = .ok (.getfield 23, 3) := by decide +kernel
theorem dX11_look_15 : decode cX11_look 15 = .ok (.aload_n 0, 1) := by decide +kernel
theorem dX11_look_16 : decode cX11_look 16 = .ok (.getfield 119, 3) := by decide +kernel
theorem dX11_look_19 : decode cX11_look 19 = .ok (.aload_n 0, 1) := by decide +kernel
theorem dX11_look_20 : decode cX11_look 20 = .ok (.getfield 113, 3) := by decide +kernel
theorem dX11_look_23 : decode cX11_look 23 = .ok (.iadd, 1) := by decide +kernel
theorem dX11_look_24 : decode cX11_look 24 = .ok (.baload, 1) := by decide +kernel
theorem dX11_look_25 : decode cX11_look 25 = .ok (.bipush 32, 2) := by decide +kernel
theorem dX11_look_27 : decode cX11_look 27 = .ok (.if_icmp .ne 16, 3) := by decide +kernel
theorem dX11_look_30 : decode cX11_look 30 = .ok (.aload_n 0, 1) := by decide +kernel
theorem dX11_look_31 : decode cX11_look 31 = .ok (.dup, 1) := by decide +kernel
theorem dX11_look_32 : decode cX11_look 32 = .ok (.getfield 113, 3) := by decide +kernel
theorem dX11_look_35 : decode cX11_look 35 = .ok (.iconst 1, 1) := by decide +kernel
theorem dX11_look_36 : decode cX11_look 36 = .ok (.iadd, 1) := by decide +kernel
theorem dX11_look_37 : decode cX11_look 37 = .ok (.putfield 113, 3) := by decide +kernel
theorem dX11_look_40 : decode cX11_look 40 = .ok (.goto (-40), 3) := by decide +kernel
theorem dX11_look_43 : decode cX11_look 43 = .ok (.aload_n 0, 1) := by decide +kernel
theorem dX11_look_44 : decode cX11_look 44 = .ok (.getfield 113, 3) := by decide +kernel
theorem dX11_look_47 : decode cX11_look 47 = .ok (.aload_n 0, 1) := by decide +kernel
theorem dX11_look_48 : decode cX11_look 48 = .ok (.getfield 116, 3) := by decide +kernel
theorem dX11_look_51 : decode cX11_look 51 = .ok (.if_icmp .ge 24, 3) := by decide +kernel
theorem dX11_look_54 : decode cX11_look 54 = .ok (.aload_n 0, 1) := by decide +kernel
theorem dX11_look_55 : decode cX11_look 55 = .ok (.getfield 23, 3) := by decide +kernel
theorem dX11_look_58 : decode cX11_look 58 = .ok (.aload_n 0, 1) := by decide +kernel
theorem dX11_look_59 : decode cX11_look 59 = .ok (.getfield 119, 3) := by decide +kernel
theorem dX11_look_62 : decode cX11_look 62 = .ok (.aload_n 0, 1) := by decide +kernel
theorem dX11_look_63 : decode cX11_look 63 = .ok (.getfield 113, 3) := by decide +kernel
theorem dX11_look_66 : decode cX11_look 66 = .ok (.iadd, 1) := by decide +kernel
theorem dX11_look_67 : decode cX11_look 67 = .ok (.baload, 1) := by decide +kernel
theorem dX11_look_68 : decode cX11_look 68 = .ok (.sipush 255, 3) := by decide +kernel
theorem dX11_look_71 : decode cX11_look 71 = .ok (.iand, 1) := by decide +kernel
theorem dX11_look_72 : decode cX11_look 72 = .ok (.goto 4, 3) := by decide +kernel
theorem dX11_look_75 : decode cX11_look 75 = .ok (.iconst (-1), 1) := by decide +kernel
theorem dX11_look_76 : decode cX11_look 76 = .ok (.ireturn, 1) := by decide +kernel
theorem dX11_fails_0 : decode cX11_fails 0 = .ok (.aload_n 0, 1) := by decide +kernel
theorem dX11_fails_1 : decode cX11_fails 1 = .ok (.getfield 122, 3) := by decide +kernel
theorem dX11_fails_4 : decode cX11_fails 4 = .ok (.iconst (-1), 1) := by decide +kernel
theorem dX11_fails_5 : decode cX11_fails 5 = .ok (.if_icmp .ne 11, 3) := by decide +kernel
theorem dX11_fails_8 : decode cX11_fails 8 = .ok (.aload_n 0, 1) := by decide +kernel
theorem dX11_fails_9 : decode cX11_fails 9 = .ok (.aload_n 0, 1) := by decide +kernel
theorem dX11_fails_10 : decode cX11_fails 10 = .ok (.getfield 113, 3) := by decide +kernel
theorem dX11_fails_13 : decode cX11_fails 13 = .ok (.putfield 122, 3) := by decide +kernel
theorem dX11_fails_16 : decode cX11_fails 16 = .ok (.iconst 0, 1) := by decide +kernel
theorem dX11_fails_17 : decode cX11_fails 17 = .ok (.ireturn, 1) := by decide +kernel
theorem dX11_goesIn_0 : decode cX11_goesIn 0 = .ok (.aload_n 0, 1) := by decide +kernel
theorem dX11_goesIn_1 : decode cX11_goesIn 1 = .ok (.getfield 125, 3) := by decide +kernel
theorem dX11_goesIn_4 : decode cX11_goesIn 4 = .ok (.bipush 6, 2) := by decide +kernel
theorem dX11_goesIn_6 : decode cX11_goesIn 6 = .ok (.if_icmp .ne 8, 3) := by decide +kernel
theorem dX11_goesIn_9 : decode cX11_goesIn 9 = .ok (.aload_n 0, 1) := by decide +kernel
theorem dX11_goesIn_10 : decode cX11_goesIn 10 = .ok (.invokevirtual 128, 3) := by decide +kernel
theorem dX11_goesIn_13 : decode cX11_goesIn 13 = .ok (.ireturn, 1) := by decide +kernel
theorem dX11_goesIn_14 : decode cX11_goesIn 14 = .ok (.aload_n 0, 1) := by decide +kernel
theorem dX11_goesIn_15 : decode cX11_goesIn 15 = .ok (.dup, 1) := by decide +kernel
theorem dX11_goesIn_16 : decode cX11_goesIn 16 = .ok (.getfield 125, 3) := by decide +kernel
theorem dX11_goesIn_19 : decode cX11_goesIn 19 = .ok (.iconst 1, 1) := by decide +kernel
theorem dX11_goesIn_20 : decode cX11_goesIn 20 = .ok (.iadd, 1) := by decide +kernel
theorem dX11_goesIn_21 : decode cX11_goesIn 21 = .ok (.putfield 125, 3) := by decide +kernel
theorem dX11_goesIn_24 : decode cX11_goesIn 24 = .ok (.aload_n 0, 1) := by decide +kernel
theorem dX11_goesIn_25 : decode cX11_goesIn 25 = .ok (.dup, 1) := by decide +kernel
theorem dX11_goesIn_26 : decode cX11_goesIn 26 = .ok (.getfield 113, 3) := by decide +kernel
theorem dX11_goesIn_29 : decode cX11_goesIn 29 = .ok (.iconst 1, 1) := by decide +kernel
theorem dX11_goesIn_30 : decode cX11_goesIn 30 = .ok (.iadd, 1) := by decide +kernel
theorem dX11_goesIn_31 : decode cX11_goesIn 31 = .ok (.putfield 113, 3) := by decide +kernel
theorem dX11_goesIn_34 : decode cX11_goesIn 34 = .ok (.iconst 1, 1) := by decide +kernel
theorem dX11_goesIn_35 : decode cX11_goesIn 35 = .ok (.ireturn, 1) := by decide +kernel
theorem dX11_takes_0 : decode cX11_takes 0 = .ok (.aload_n 0, 1) := by decide +kernel
theorem dX11_takes_1 : decode cX11_takes 1 = .ok (.getfield 122, 3) := by decide +kernel
theorem dX11_takes_4 : decode cX11_takes 4 = .ok (.iconst (-1), 1) := by decide +kernel
theorem dX11_takes_5 : decode cX11_takes 5 = .ok (.if_icmp .ne 11, 3) := by decide +kernel
theorem dX11_takes_8 : decode cX11_takes 8 = .ok (.aload_n 0, 1) := by decide +kernel
theorem dX11_takes_9 : decode cX11_takes 9 = .ok (.invokevirtual 132, 3) := by decide +kernel
theorem dX11_takes_12 : decode cX11_takes 12 = .ok (.iload_n 1, 1) := by decide +kernel
theorem dX11_takes_13 : decode cX11_takes 13 = .ok (.if_icmp .eq 8, 3) := by decide +kernel
theorem dX11_takes_16 : decode cX11_takes 16 = .ok (.aload_n 0, 1) := by decide +kernel
theorem dX11_takes_17 : decode cX11_takes 17 = .ok (.invokevirtual 128, 3) := by decide +kernel
theorem dX11_takes_20 : decode cX11_takes 20 = .ok (.ireturn, 1) := by decide +kernel
theorem dX11_takes_21 : decode cX11_takes 21 = .ok (.aload_n 0, 1) := by decide +kernel
theorem dX11_takes_22 : decode cX11_takes 22 = .ok (.dup, 1) := by decide +kernel
theorem dX11_takes_23 : decode cX11_takes 23 = .ok (.getfield 113, 3) := by decide +kernel
theorem dX11_takes_26 : decode cX11_takes 26 = .ok (.iconst 1, 1) := by decide +kernel
theorem dX11_takes_27 : decode cX11_takes 27 = .ok (.iadd, 1) := by decide +kernel
theorem dX11_takes_28 : decode cX11_takes 28 = .ok (.putfield 113, 3) := by decide +kernel
theorem dX11_takes_31 : decode cX11_takes 31 = .ok (.iconst 1, 1) := by decide +kernel
theorem dX11_takes_32 : decode cX11_takes 32 = .ok (.ireturn, 1) := by decide +kernel
theorem dX11_isDigit_0 : decode cX11_isDigit 0 = .ok (.aload_n 0, 1) := by decide +kernel
theorem dX11_isDigit_1 : decode cX11_isDigit 1 = .ok (.getfield 113, 3) := by decide +kernel
theorem dX11_isDigit_4 : decode cX11_isDigit 4 = .ok (.aload_n 0, 1) := by decide +kernel
theorem dX11_isDigit_5 : decode cX11_isDigit 5 = .ok (.getfield 116, 3) := by decide +kernel
theorem dX11_isDigit_8 : decode cX11_isDigit 8 = .ok (.if_icmp .ge 45, 3) := by decide +kernel
theorem dX11_isDigit_11 : decode cX11_isDigit 11 = .ok (.aload_n 0, 1) := by decide +kernel
theorem dX11_isDigit_12 : decode cX11_isDigit 12 = .ok (.getfield 23, 3) := by decide +kernel
theorem dX11_isDigit_15 : decode cX11_isDigit 15 = .ok (.aload_n 0, 1) := by decide +kernel
theorem dX11_isDigit_16 : decode cX11_isDigit 16 = .ok (.getfield 119, 3) := by decide +kernel
theorem dX11_isDigit_19 : decode cX11_isDigit 19 = .ok (.aload_n 0, 1) := by decide +kernel
theorem dX11_isDigit_20 : decode cX11_isDigit 20 = .ok (.getfield 113, 3) := by decide +kernel
theorem dX11_isDigit_23 : decode cX11_isDigit 23 = .ok (.iadd, 1) := by decide +kernel
theorem dX11_isDigit_24 : decode cX11_isDigit 24 = .ok (.baload, 1) := by decide +kernel
theorem dX11_isDigit_25 : decode cX11_isDigit 25 = .ok (.bipush 48, 2) := by decide +kernel
theorem dX11_isDigit_27 : decode cX11_isDigit 27 = .ok (.if_icmp .lt 26, 3) := by decide +kernel
theorem dX11_isDigit_30 : decode cX11_isDigit 30 = .ok (.aload_n 0, 1) := by decide +kernel
theorem dX11_isDigit_31 : decode cX11_isDigit 31 = .ok (.getfield 23, 3) := by decide +kernel
theorem dX11_isDigit_34 : decode cX11_isDigit 34 = .ok (.aload_n 0, 1) := by decide +kernel
theorem dX11_isDigit_35 : decode cX11_isDigit 35 = .ok (.getfield 119, 3) := by decide +kernel
theorem dX11_isDigit_38 : decode cX11_isDigit 38 = .ok (.aload_n 0, 1) := by decide +kernel
theorem dX11_isDigit_39 : decode cX11_isDigit 39 = .ok (.getfield 113, 3) := by decide +kernel
theorem dX11_isDigit_42 : decode cX11_isDigit 42 = .ok (.iadd, 1) := by decide +kernel
theorem dX11_isDigit_43 : decode cX11_isDigit 43 = .ok (.baload, 1) := by decide +kernel
theorem dX11_isDigit_44 : decode cX11_isDigit 44 = .ok (.bipush 57, 2) := by decide +kernel
theorem dX11_isDigit_46 : decode cX11_isDigit 46 = .ok (.if_icmp .gt 7, 3) := by decide +kernel
theorem dX11_isDigit_49 : decode cX11_isDigit 49 = .ok (.iconst 1, 1) := by decide +kernel
theorem dX11_isDigit_50 : decode cX11_isDigit 50 = .ok (.goto 4, 3) := by decide +kernel
theorem dX11_isDigit_53 : decode cX11_isDigit 53 = .ok (.iconst 0, 1) := by decide +kernel
theorem dX11_isDigit_54 : decode cX11_isDigit 54 = .ok (.ireturn, 1) := by decide +kernel
theorem dX11_within_0 : decode cX11_within 0 = .ok (.ldc2_w 135, 3) := by decide +kernel
theorem dX11_within_3 : decode cX11_within 3 = .ok (.ldc2_w 137, 3) := by decide +kernel
theorem dX11_within_6 : decode cX11_within 6 = .ok (.lload_n 0, 1) := by decide +kernel
theorem dX11_within_7 : decode cX11_within 7 = .ok (.invokestatic 139, 3) := by decide +kernel
theorem dX11_within_10 : decode cX11_within 10 = .ok (.invokestatic 145, 3) := by decide +kernel
theorem dX11_within_13 : decode cX11_within 13 = .ok (.l2i, 1) := by decide +kernel
theorem dX11_within_14 : decode cX11_within 14 = .ok (.ireturn, 1) := by decide +kernel
theorem dX11_atom_0 : decode cX11_atom 0 = .ok (.aload_n 0, 1) := by decide +kernel
theorem dX11_atom_1 : decode cX11_atom 1 = .ok (.invokevirtual 132, 3) := by decide +kernel
theorem dX11_atom_4 : decode cX11_atom 4 = .ok (.istore_n 1, 1) := by decide +kernel
theorem dX11_atom_5 : decode cX11_atom 5 = .ok (.ldc 32, 2) := by decide +kernel
theorem dX11_atom_7 : decode cX11_atom 7 = .ok (.iload_n 1, 1) := by decide +kernel
theorem dX11_atom_8 : decode cX11_atom 8 = .ok (.invokestatic 148, 3) := by decide +kernel
theorem dX11_atom_11 : decode cX11_atom 11 = .ok (.ifCond .eq 20, 3) := by decide +kernel
theorem dX11_atom_14 : decode cX11_atom 14 = .ok (.aload_n 0, 1) := by decide +kernel
theorem dX11_atom_15 : decode cX11_atom 15 = .ok (.dup, 1) := by decide +kernel
theorem dX11_atom_16 : decode cX11_atom 16 = .ok (.getfield 113, 3) := by decide +kernel
theorem dX11_atom_19 : decode cX11_atom 19 = .ok (.iconst 1, 1) := by decide +kernel
theorem dX11_atom_20 : decode cX11_atom 20 = .ok (.iadd, 1) := by decide +kernel
theorem dX11_atom_21 : decode cX11_atom 21 = .ok (.putfield 113, 3) := by decide +kernel
theorem dX11_atom_24 : decode cX11_atom 24 = .ok (.aload_n 0, 1) := by decide +kernel
theorem dX11_atom_25 : decode cX11_atom 25 = .ok (.getfield 20, 3) := by decide +kernel
theorem dX11_atom_28 : decode cX11_atom 28 = .ok (.iload_n 1, 1) := by decide +kernel
theorem dX11_atom_29 : decode cX11_atom 29 = .ok (.iaload, 1) := by decide +kernel
theorem dX11_atom_30 : decode cX11_atom 30 = .ok (.ireturn, 1) := by decide +kernel
theorem dX11_atom_31 : decode cX11_atom 31 = .ok (.iload_n 1, 1) := by decide +kernel
theorem dX11_atom_32 : decode cX11_atom 32 = .ok (.bipush 91, 2) := by decide +kernel
theorem dX11_atom_34 : decode cX11_atom 34 = .ok (.if_icmp .ne 40, 3) := by decide +kernel
theorem dX11_atom_37 : decode cX11_atom 37 = .ok (.aload_n 0, 1) := by decide +kernel
theorem dX11_atom_38 : decode cX11_atom 38 = .ok (.invokevirtual 152, 3) := by decide +kernel
theorem dX11_atom_41 : decode cX11_atom 41 = .ok (.ifCond .ne 5, 3) := by decide +kernel
theorem dX11_atom_44 : decode cX11_atom 44 = .ok (.iconst 0, 1) := by decide +kernel
theorem dX11_atom_45 : decode cX11_atom 45 = .ok (.ireturn, 1) := by decide +kernel
theorem dX11_atom_46 : decode cX11_atom 46 = .ok (.aload_n 0, 1) := by decide +kernel
theorem dX11_atom_47 : decode cX11_atom 47 = .ok (.invokevirtual 155, 3) := by decide +kernel
theorem dX11_atom_50 : decode cX11_atom 50 = .ok (.istore_n 2, 1) := by decide +kernel
theorem dX11_atom_51 : decode cX11_atom 51 = .ok (.aload_n 0, 1) := by decide +kernel
theorem dX11_atom_52 : decode cX11_atom 52 = .ok (.bipush 93, 2) := by decide +kernel
theorem dX11_atom_54 : decode cX11_atom 54 = .ok (.invokevirtual 158, 3) := by decide +kernel
theorem dX11_atom_57 : decode cX11_atom 57 = .ok (.ifCond .ne 5, 3) := by decide +kernel
theorem dX11_atom_60 : decode cX11_atom 60 = .ok (.iconst 0, 1) := by decide +kernel
theorem dX11_atom_61 : decode cX11_atom 61 = .ok (.ireturn, 1) := by decide +kernel
theorem dX11_atom_62 : decode cX11_atom 62 = .ok (.aload_n 0, 1) := by decide +kernel
theorem dX11_atom_63 : decode cX11_atom 63 = .ok (.dup, 1) := by decide +kernel
theorem dX11_atom_64 : decode cX11_atom 64 = .ok (.getfield 125, 3) := by decide +kernel
theorem dX11_atom_67 : decode cX11_atom 67 = .ok (.iconst 1, 1) := by decide +kernel
theorem dX11_atom_68 : decode cX11_atom 68 = .ok (.isub, 1) := by decide +kernel
theorem dX11_atom_69 : decode cX11_atom 69 = .ok (.putfield 125, 3) := by decide +kernel
theorem dX11_atom_72 : decode cX11_atom 72 = .ok (.iload_n 2, 1) := by decide +kernel
theorem dX11_atom_73 : decode cX11_atom 73 = .ok (.ireturn, 1) := by decide +kernel
theorem dX11_atom_74 : decode cX11_atom 74 = .ok (.aload_n 0, 1) := by decide +kernel
theorem dX11_atom_75 : decode cX11_atom 75 = .ok (.invokevirtual 162, 3) := by decide +kernel
theorem dX11_atom_78 : decode cX11_atom 78 = .ok (.ifCond .ne 8, 3) := by decide +kernel
theorem dX11_atom_81 : decode cX11_atom 81 = .ok (.aload_n 0, 1) := by decide +kernel
theorem dX11_atom_82 : decode cX11_atom 82 = .ok (.invokevirtual 128, 3) := by decide +kernel
theorem dX11_atom_85 : decode cX11_atom 85 = .ok (.pop, 1) := by decide +kernel
theorem dX11_atom_86 : decode cX11_atom 86 = .ok (.iconst 0, 1) := by decide +kernel
theorem dX11_atom_87 : decode cX11_atom 87 = .ok (.istore_n 2, 1) := by decide +kernel
theorem dX11_atom_88 : decode cX11_atom 88 = .ok (.iconst 0, 1) := by decide +kernel
theorem dX11_atom_89 : decode cX11_atom 89 = .ok (.istore_n 3, 1) := by decide +kernel
theorem dX11_atom_90 : decode cX11_atom 90 = .ok (.aload_n 0, 1) := by decide +kernel
theorem dX11_atom_91 : decode cX11_atom 91 = .ok (.invokevirtual 162, 3) := by decide +kernel
theorem dX11_atom_94 : decode cX11_atom 94 = .ok (.ifCond .eq 62, 3) := by decide +kernel
theorem dX11_atom_97 : decode cX11_atom 97 = .ok (.aload_n 0, 1) := by decide +kernel
theorem dX11_atom_98 : decode cX11_atom 98 = .ok (.getfield 122, 3) := by decide +kernel
theorem dX11_atom_101 : decode cX11_atom 101 = .ok (.iconst (-1), 1) := by decide +kernel
theorem dX11_atom_102 : decode cX11_atom 102 = .ok (.if_icmp .ne 54, 3) := by decide +kernel
theorem dX11_atom_105 : decode cX11_atom 105 = .ok (.iload_n 3, 1) := by decide +kernel
theorem dX11_atom_106 : decode cX11_atom 106 = .ok (.iconst 4, 1) := by decide +kernel
theorem dX11_atom_107 : decode cX11_atom 107 = .ok (.if_icmp .ne 10, 3) := by decide +kernel
theorem dX11_atom_110 : decode cX11_atom 110 = .ok (.aload_n 0, 1) := by decide +kernel
theorem dX11_atom_111 : decode cX11_atom 111 = .ok (.invokevirtual 128, 3) := by decide +kernel
theorem dX11_atom_114 : decode cX11_atom 114 = .ok (.pop, 1) := by decide +kernel
theorem dX11_atom_115 : decode cX11_atom 115 = .ok (.iconst 0, 1) := by decide +kernel
theorem dX11_atom_116 : decode cX11_atom 116 = .ok (.ireturn, 1) := by decide +kernel
theorem dX11_atom_117 : decode cX11_atom 117 = .ok (.bipush 10, 2) := by decide +kernel
theorem dX11_atom_119 : decode cX11_atom 119 = .ok (.iload_n 2, 1) := by decide +kernel
theorem dX11_atom_120 : decode cX11_atom 120 = .ok (.imul, 1) := by decide +kernel
theorem dX11_atom_121 : decode cX11_atom 121 = .ok (.aload_n 0, 1) := by decide +kernel
theorem dX11_atom_122 : decode cX11_atom 122 = .ok (.getfield 23, 3) := by decide +kernel
theorem dX11_atom_125 : decode cX11_atom 125 = .ok (.aload_n 0, 1) := by decide +kernel
theorem dX11_atom_126 : decode cX11_atom 126 = .ok (.getfield 119, 3) := by decide +kernel
theorem dX11_atom_129 : decode cX11_atom 129 = .ok (.aload_n 0, 1) := by decide +kernel
theorem dX11_atom_130 : decode cX11_atom 130 = .ok (.getfield 113, 3) := by decide +kernel
theorem dX11_atom_133 : decode cX11_atom 133 = .ok (.iadd, 1) := by decide +kernel
theorem dX11_atom_134 : decode cX11_atom 134 = .ok (.baload, 1) := by decide +kernel
theorem dX11_atom_135 : decode cX11_atom 135 = .ok (.iadd, 1) := by decide +kernel
theorem dX11_atom_136 : decode cX11_atom 136 = .ok (.bipush 48, 2) := by decide +kernel
theorem dX11_atom_138 : decode cX11_atom 138 = .ok (.isub, 1) := by decide +kernel
theorem dX11_atom_139 : decode cX11_atom 139 = .ok (.istore_n 2, 1) := by decide +kernel
theorem dX11_atom_140 : decode cX11_atom 140 = .ok (.aload_n 0, 1) := by decide +kernel
theorem dX11_atom_141 : decode cX11_atom 141 = .ok (.dup, 1) := by decide +kernel
theorem dX11_atom_142 : decode cX11_atom 142 = .ok (.getfield 113, 3) := by decide +kernel
theorem dX11_atom_145 : decode cX11_atom 145 = .ok (.iconst 1, 1) := by decide +kernel
theorem dX11_atom_146 : decode cX11_atom 146 = .ok (.iadd, 1) := by decide +kernel
theorem dX11_atom_147 : decode cX11_atom 147 = .ok (.putfield 113, 3) := by decide +kernel
theorem dX11_atom_150 : decode cX11_atom 150 = .ok (.iinc 3 1, 3) := by decide +kernel
theorem dX11_atom_153 : decode cX11_atom 153 = .ok (.goto (-63), 3) := by decide +kernel
theorem dX11_atom_156 : decode cX11_atom 156 = .ok (.iload_n 2, 1) := by decide +kernel
theorem dX11_atom_157 : decode cX11_atom 157 = .ok (.ireturn, 1) := by decide +kernel
theorem dX11_term_0 : decode cX11_term 0 = .ok (.aload_n 0, 1) := by decide +kernel
theorem dX11_term_1 : decode cX11_term 1 = .ok (.invokevirtual 165, 3) := by decide +kernel
theorem dX11_term_4 : decode cX11_term 4 = .ok (.istore_n 1, 1) := by decide +kernel
theorem dX11_term_5 : decode cX11_term 5 = .ok (.aload_n 0, 1) := by decide +kernel
theorem dX11_term_6 : decode cX11_term 6 = .ok (.getfield 122, 3) := by decide +kernel
theorem dX11_term_9 : decode cX11_term 9 = .ok (.iconst (-1), 1) := by decide +kernel
theorem dX11_term_10 : decode cX11_term 10 = .ok (.if_icmp .ne 84, 3) := by decide +kernel
theorem dX11_term_13 : decode cX11_term 13 = .ok (.aload_n 0, 1) := by decide +kernel
theorem dX11_term_14 : decode cX11_term 14 = .ok (.invokevirtual 132, 3) := by decide +kernel
theorem dX11_term_17 : decode cX11_term 17 = .ok (.bipush 42, 2) := by decide +kernel
theorem dX11_term_19 : decode cX11_term 19 = .ok (.if_icmp .eq 12, 3) := by decide +kernel
theorem dX11_term_22 : decode cX11_term 22 = .ok (.aload_n 0, 1) := by decide +kernel
theorem dX11_term_23 : decode cX11_term 23 = .ok (.invokevirtual 132, 3) := by decide +kernel
theorem dX11_term_26 : decode cX11_term 26 = .ok (.bipush 47, 2) := by decide +kernel
theorem dX11_term_28 : decode cX11_term 28 = .ok (.if_icmp .ne 66, 3) := by decide +kernel
theorem dX11_term_31 : decode cX11_term 31 = .ok (.aload_n 0, 1) := by decide +kernel
theorem dX11_term_32 : decode cX11_term 32 = .ok (.invokevirtual 132, 3) := by decide +kernel
theorem dX11_term_35 : decode cX11_term 35 = .ok (.bipush 42, 2) := by decide +kernel
theorem dX11_term_37 : decode cX11_term 37 = .ok (.if_icmp .ne 7, 3) := by decide +kernel
theorem dX11_term_40 : decode cX11_term 40 = .ok (.iconst 1, 1) := by decide +kernel
theorem dX11_term_41 : decode cX11_term 41 = .ok (.goto 4, 3) := by decide +kernel
theorem dX11_term_44 : decode cX11_term 44 = .ok (.iconst 0, 1) := by decide +kernel
theorem dX11_term_45 : decode cX11_term 45 = .ok (.istore_n 2, 1) := by decide +kernel
theorem dX11_term_46 : decode cX11_term 46 = .ok (.aload_n 0, 1) := by decide +kernel
theorem dX11_term_47 : decode cX11_term 47 = .ok (.dup, 1) := by decide +kernel
theorem dX11_term_48 : decode cX11_term 48 = .ok (.getfield 113, 3) := by decide +kernel
theorem dX11_term_51 : decode cX11_term 51 = .ok (.iconst 1, 1) := by decide +kernel
theorem dX11_term_52 : decode cX11_term 52 = .ok (.iadd, 1) := by decide +kernel
theorem dX11_term_53 : decode cX11_term 53 = .ok (.putfield 113, 3) := by decide +kernel
theorem dX11_term_56 : decode cX11_term 56 = .ok (.aload_n 0, 1) := by decide +kernel
theorem dX11_term_57 : decode cX11_term 57 = .ok (.invokevirtual 165, 3) := by decide +kernel
theorem dX11_term_60 : decode cX11_term 60 = .ok (.i2l, 1) := by decide +kernel
theorem dX11_term_61 : decode cX11_term 61 = .ok (.lstore_n 3, 1) := by decide +kernel
theorem dX11_term_62 : decode cX11_term 62 = .ok (.iload_n 2, 1) := by decide +kernel
theorem dX11_term_63 : decode cX11_term 63 = .ok (.ifCond .eq 10, 3) := by decide +kernel
theorem dX11_term_66 : decode cX11_term 66 = .ok (.iload_n 1, 1) := by decide +kernel
theorem dX11_term_67 : decode cX11_term 67 = .ok (.i2l, 1) := by decide +kernel
theorem dX11_term_68 : decode cX11_term 68 = .ok (.lload_n 3, 1) := by decide +kernel
theorem dX11_term_69 : decode cX11_term 69 = .ok (.lmul, 1) := by decide +kernel
theorem dX11_term_70 : decode cX11_term 70 = .ok (.goto 17, 3) := by decide +kernel
theorem dX11_term_73 : decode cX11_term 73 = .ok (.lload_n 3, 1) := by decide +kernel
theorem dX11_term_74 : decode cX11_term 74 = .ok (.lconst 0, 1) := by decide +kernel
theorem dX11_term_75 : decode cX11_term 75 = .ok (.lcmp, 1) := by decide +kernel
theorem dX11_term_76 : decode cX11_term 76 = .ok (.ifCond .ne 7, 3) := by decide +kernel
theorem dX11_term_79 : decode cX11_term 79 = .ok (.lconst 0, 1) := by decide +kernel
theorem dX11_term_80 : decode cX11_term 80 = .ok (.goto 7, 3) := by decide +kernel
theorem dX11_term_83 : decode cX11_term 83 = .ok (.iload_n 1, 1) := by decide +kernel
theorem dX11_term_84 : decode cX11_term 84 = .ok (.i2l, 1) := by decide +kernel
theorem dX11_term_85 : decode cX11_term 85 = .ok (.lload_n 3, 1) := by decide +kernel
theorem dX11_term_86 : decode cX11_term 86 = .ok (.ldiv, 1) := by decide +kernel
theorem dX11_term_87 : decode cX11_term 87 = .ok (.invokestatic 168, 3) := by decide +kernel
theorem dX11_term_90 : decode cX11_term 90 = .ok (.istore_n 1, 1) := by decide +kernel
theorem dX11_term_91 : decode cX11_term 91 = .ok (.goto (-86), 3) := by decide +kernel
theorem dX11_term_94 : decode cX11_term 94 = .ok (.iload_n 1, 1) := by decide +kernel
theorem dX11_term_95 : decode cX11_term 95 = .ok (.ireturn, 1) := by decide +kernel
theorem dX11_sum_0 : decode cX11_sum 0 = .ok (.aload_n 0, 1) := by decide +kernel
theorem dX11_sum_1 : decode cX11_sum 1 = .ok (.invokevirtual 172, 3) := by decide +kernel
theorem dX11_sum_4 : decode cX11_sum 4 = .ok (.istore_n 1, 1) := by decide +kernel
theorem dX11_sum_5 : decode cX11_sum 5 = .ok (.aload_n 0, 1) := by decide +kernel
theorem dX11_sum_6 : decode cX11_sum 6 = .ok (.getfield 122, 3) := by decide +kernel
theorem dX11_sum_9 : decode cX11_sum 9 = .ok (.iconst (-1), 1) := by decide +kernel
theorem dX11_sum_10 : decode cX11_sum 10 = .ok (.if_icmp .ne 74, 3) := by decide +kernel
theorem dX11_sum_13 : decode cX11_sum 13 = .ok (.aload_n 0, 1) := by decide +kernel
theorem dX11_sum_14 : decode cX11_sum 14 = .ok (.invokevirtual 132, 3) := by decide +kernel
theorem dX11_sum_17 : decode cX11_sum 17 = .ok (.bipush 43, 2) := by decide +kernel
theorem dX11_sum_19 : decode cX11_sum 19 = .ok (.if_icmp .eq 12, 3) := by decide +kernel
theorem dX11_sum_22 : decode cX11_sum 22 = .ok (.aload_n 0, 1) := by decide +kernel
theorem dX11_sum_23 : decode cX11_sum 23 = .ok (.invokevirtual 132, 3) := by decide +kernel
theorem dX11_sum_26 : decode cX11_sum 26 = .ok (.bipush 45, 2) := by decide +kernel
theorem dX11_sum_28 : decode cX11_sum 28 = .ok (.if_icmp .ne 56, 3) := by decide +kernel
theorem dX11_sum_31 : decode cX11_sum 31 = .ok (.aload_n 0, 1) := by decide +kernel
theorem dX11_sum_32 : decode cX11_sum 32 = .ok (.invokevirtual 132, 3) := by decide +kernel
theorem dX11_sum_35 : decode cX11_sum 35 = .ok (.bipush 43, 2) := by decide +kernel
theorem dX11_sum_37 : decode cX11_sum 37 = .ok (.if_icmp .ne 7, 3) := by decide +kernel
theorem dX11_sum_40 : decode cX11_sum 40 = .ok (.iconst 1, 1) := by decide +kernel
theorem dX11_sum_41 : decode cX11_sum 41 = .ok (.goto 4, 3) := by decide +kernel
theorem dX11_sum_44 : decode cX11_sum 44 = .ok (.iconst 0, 1) := by decide +kernel
theorem dX11_sum_45 : decode cX11_sum 45 = .ok (.istore_n 2, 1) := by decide +kernel
theorem dX11_sum_46 : decode cX11_sum 46 = .ok (.aload_n 0, 1) := by decide +kernel
theorem dX11_sum_47 : decode cX11_sum 47 = .ok (.dup, 1) := by decide +kernel
theorem dX11_sum_48 : decode cX11_sum 48 = .ok (.getfield 113, 3) := by decide +kernel
theorem dX11_sum_51 : decode cX11_sum 51 = .ok (.iconst 1, 1) := by decide +kernel
theorem dX11_sum_52 : decode cX11_sum 52 = .ok (.iadd, 1) := by decide +kernel
theorem dX11_sum_53 : decode cX11_sum 53 = .ok (.putfield 113, 3) := by decide +kernel
theorem dX11_sum_56 : decode cX11_sum 56 = .ok (.aload_n 0, 1) := by decide +kernel
theorem dX11_sum_57 : decode cX11_sum 57 = .ok (.invokevirtual 172, 3) := by decide +kernel
theorem dX11_sum_60 : decode cX11_sum 60 = .ok (.i2l, 1) := by decide +kernel
theorem dX11_sum_61 : decode cX11_sum 61 = .ok (.lstore_n 3, 1) := by decide +kernel
theorem dX11_sum_62 : decode cX11_sum 62 = .ok (.iload_n 2, 1) := by decide +kernel
theorem dX11_sum_63 : decode cX11_sum 63 = .ok (.ifCond .eq 10, 3) := by decide +kernel
theorem dX11_sum_66 : decode cX11_sum 66 = .ok (.iload_n 1, 1) := by decide +kernel
theorem dX11_sum_67 : decode cX11_sum 67 = .ok (.i2l, 1) := by decide +kernel
theorem dX11_sum_68 : decode cX11_sum 68 = .ok (.lload_n 3, 1) := by decide +kernel
theorem dX11_sum_69 : decode cX11_sum 69 = .ok (.ladd, 1) := by decide +kernel
theorem dX11_sum_70 : decode cX11_sum 70 = .ok (.goto 7, 3) := by decide +kernel
theorem dX11_sum_73 : decode cX11_sum 73 = .ok (.iload_n 1, 1) := by decide +kernel
theorem dX11_sum_74 : decode cX11_sum 74 = .ok (.i2l, 1) := by decide +kernel
theorem dX11_sum_75 : decode cX11_sum 75 = .ok (.lload_n 3, 1) := by decide +kernel
theorem dX11_sum_76 : decode cX11_sum 76 = .ok (.lsub, 1) := by decide +kernel
theorem dX11_sum_77 : decode cX11_sum 77 = .ok (.invokestatic 168, 3) := by decide +kernel
theorem dX11_sum_80 : decode cX11_sum 80 = .ok (.istore_n 1, 1) := by decide +kernel
theorem dX11_sum_81 : decode cX11_sum 81 = .ok (.goto (-76), 3) := by decide +kernel
theorem dX11_sum_84 : decode cX11_sum 84 = .ok (.iload_n 1, 1) := by decide +kernel
theorem dX11_sum_85 : decode cX11_sum 85 = .ok (.ireturn, 1) := by decide +kernel
theorem dX11_isSign_0 : decode cX11_isSign 0 = .ok (.iload_n 0, 1) := by decide +kernel
theorem dX11_isSign_1 : decode cX11_isSign 1 = .ok (.bipush 61, 2) := by decide +kernel
theorem dX11_isSign_3 : decode cX11_isSign 3 = .ok (.if_icmp .eq 15, 3) := by decide +kernel
theorem dX11_isSign_6 : decode cX11_isSign 6 = .ok (.iload_n 0, 1) := by decide +kernel
theorem dX11_isSign_7 : decode cX11_isSign 7 = .ok (.bipush 60, 2) := by decide +kernel
theorem dX11_isSign_9 : decode cX11_isSign 9 = .ok (.if_icmp .eq 9, 3) := by decide +kernel
theorem dX11_isSign_12 : decode cX11_isSign 12 = .ok (.iload_n 0, 1) := by decide +kernel
theorem dX11_isSign_13 : decode cX11_isSign 13 = .ok (.bipush 62, 2) := by decide +kernel
theorem dX11_isSign_15 : decode cX11_isSign 15 = .ok (.if_icmp .ne 7, 3) := by decide +kernel
theorem dX11_isSign_18 : decode cX11_isSign 18 = .ok (.iconst 1, 1) := by decide +kernel
theorem dX11_isSign_19 : decode cX11_isSign 19 = .ok (.goto 4, 3) := by decide +kernel
theorem dX11_isSign_22 : decode cX11_isSign 22 = .ok (.iconst 0, 1) := by decide +kernel
theorem dX11_isSign_23 : decode cX11_isSign 23 = .ok (.ireturn, 1) := by decide +kernel
theorem dX11_compares_0 : decode cX11_compares 0 = .ok (.iload_n 1, 1) := by decide +kernel
theorem dX11_compares_1 : decode cX11_compares 1 = .ok (.ifCond .eq 7, 3) := by decide +kernel
theorem dX11_compares_4 : decode cX11_compares 4 = .ok (.iload_n 2, 1) := by decide +kernel
theorem dX11_compares_5 : decode cX11_compares 5 = .ok (.goto 7, 3) := by decide +kernel
theorem dX11_compares_8 : decode cX11_compares 8 = .ok (.aload_n 0, 1) := by decide +kernel
theorem dX11_compares_9 : decode cX11_compares 9 = .ok (.invokevirtual 155, 3) := by decide +kernel
theorem dX11_compares_12 : decode cX11_compares 12 = .ok (.istore_n 3, 1) := by decide +kernel
theorem dX11_compares_13 : decode cX11_compares 13 = .ok (.aload_n 0, 1) := by decide +kernel
theorem dX11_compares_14 : decode cX11_compares 14 = .ok (.getfield 122, 3) := by decide +kernel
theorem dX11_compares_17 : decode cX11_compares 17 = .ok (.iconst (-1), 1) := by decide +kernel
theorem dX11_compares_18 : decode cX11_compares 18 = .ok (.if_icmp .eq 5, 3) := by decide +kernel
theorem dX11_compares_21 : decode cX11_compares 21 = .ok (.iconst 0, 1) := by decide +kernel
theorem dX11_compares_22 : decode cX11_compares 22 = .ok (.ireturn, 1) := by decide +kernel
theorem dX11_compares_23 : decode cX11_compares 23 = .ok (.aload_n 0, 1) := by decide +kernel
theorem dX11_compares_24 : decode cX11_compares 24 = .ok (.invokevirtual 132, 3) := by decide +kernel
theorem dX11_compares_27 : decode cX11_compares 27 = .ok (.istore 4, 2) := by decide +kernel
theorem dX11_compares_29 : decode cX11_compares 29 = .ok (.iload 4, 2) := by decide +kernel
theorem dX11_compares_31 : decode cX11_compares 31 = .ok (.invokestatic 175, 3) := by decide +kernel
theorem dX11_compares_34 : decode cX11_compares 34 = .ok (.ifCond .ne 8, 3) := by decide +kernel
theorem dX11_compares_37 : decode cX11_compares 37 = .ok (.aload_n 0, 1) := by decide +kernel
theorem dX11_compares_38 : decode cX11_compares 38 = .ok (.invokevirtual 128, 3) := by decide +kernel
theorem dX11_compares_41 : decode cX11_compares 41 = .ok (.ireturn, 1) := by decide +kernel
theorem dX11_compares_42 : decode cX11_compares 42 = .ok (.aload_n 0, 1) := by decide +kernel
theorem dX11_compares_43 : decode cX11_compares 43 = .ok (.dup, 1) := by decide +kernel
theorem dX11_compares_44 : decode cX11_compares 44 = .ok (.getfield 113, 3) := by decide +kernel
theorem dX11_compares_47 : decode cX11_compares 47 = .ok (.iconst 1, 1) := by decide +kernel
theorem dX11_compares_48 : decode cX11_compares 48 = .ok (.iadd, 1) := by decide +kernel
theorem dX11_compares_49 : decode cX11_compares 49 = .ok (.putfield 113, 3) := by decide +kernel
theorem dX11_compares_52 : decode cX11_compares 52 = .ok (.aload_n 0, 1) := by decide +kernel
theorem dX11_compares_53 : decode cX11_compares 53 = .ok (.invokevirtual 155, 3) := by decide +kernel
theorem dX11_compares_56 : decode cX11_compares 56 = .ok (.istore 5, 2) := by decide +kernel
theorem dX11_compares_58 : decode cX11_compares 58 = .ok (.iload 4, 2) := by decide +kernel
theorem dX11_compares_60 : decode cX11_compares 60 = .ok (.bipush 61, 2) := by decide +kernel
theorem dX11_compares_62 : decode cX11_compares 62 = .ok (.if_icmp .ne 17, 3) := by decide +kernel
theorem dX11_compares_65 : decode cX11_compares 65 = .ok (.iload_n 3, 1) := by decide +kernel
theorem dX11_compares_66 : decode cX11_compares 66 = .ok (.iload 5, 2) := by decide +kernel
theorem dX11_compares_68 : decode cX11_compares 68 = .ok (.if_icmp .ne 7, 3) := by decide +kernel
theorem dX11_compares_71 : decode cX11_compares 71 = .ok (.iconst 1, 1) := by decide +kernel
theorem dX11_compares_72 : decode cX11_compares 72 = .ok (.goto 39, 3) := by decide +kernel
theorem dX11_compares_75 : decode cX11_compares 75 = .ok (.iconst 0, 1) := by decide +kernel
theorem dX11_compares_76 : decode cX11_compares 76 = .ok (.goto 35, 3) := by decide +kernel
theorem dX11_compares_79 : decode cX11_compares 79 = .ok (.iload 4, 2) := by decide +kernel
theorem dX11_compares_81 : decode cX11_compares 81 = .ok (.bipush 60, 2) := by decide +kernel
theorem dX11_compares_83 : decode cX11_compares 83 = .ok (.if_icmp .ne 17, 3) := by decide +kernel
theorem dX11_compares_86 : decode cX11_compares 86 = .ok (.iload_n 3, 1) := by decide +kernel
theorem dX11_compares_87 : decode cX11_compares 87 = .ok (.iload 5, 2) := by decide +kernel
theorem dX11_compares_89 : decode cX11_compares 89 = .ok (.if_icmp .ge 7, 3) := by decide +kernel
theorem dX11_compares_92 : decode cX11_compares 92 = .ok (.iconst 1, 1) := by decide +kernel
theorem dX11_compares_93 : decode cX11_compares 93 = .ok (.goto 18, 3) := by decide +kernel
theorem dX11_compares_96 : decode cX11_compares 96 = .ok (.iconst 0, 1) := by decide +kernel
theorem dX11_compares_97 : decode cX11_compares 97 = .ok (.goto 14, 3) := by decide +kernel
theorem dX11_compares_100 : decode cX11_compares 100 = .ok (.iload_n 3, 1) := by decide +kernel
theorem dX11_compares_101 : decode cX11_compares 101 = .ok (.iload 5, 2) := by decide +kernel
theorem dX11_compares_103 : decode cX11_compares 103 = .ok (.if_icmp .le 7, 3) := by decide +kernel
theorem dX11_compares_106 : decode cX11_compares 106 = .ok (.iconst 1, 1) := by decide +kernel
theorem dX11_compares_107 : decode cX11_compares 107 = .ok (.goto 4, 3) := by decide +kernel
theorem dX11_compares_110 : decode cX11_compares 110 = .ok (.iconst 0, 1) := by decide +kernel
theorem dX11_compares_111 : decode cX11_compares 111 = .ok (.ireturn, 1) := by decide +kernel
theorem dX11_unit_0 : decode cX11_unit 0 = .ok (.aload_n 0, 1) := by decide +kernel
theorem dX11_unit_1 : decode cX11_unit 1 = .ok (.invokevirtual 132, 3) := by decide +kernel
theorem dX11_unit_4 : decode cX11_unit 4 = .ok (.istore_n 1, 1) := by decide +kernel
theorem dX11_unit_5 : decode cX11_unit 5 = .ok (.iload_n 1, 1) := by decide +kernel
theorem dX11_unit_6 : decode cX11_unit 6 = .ok (.bipush 33, 2) := by decide +kernel
theorem dX11_unit_8 : decode cX11_unit 8 = .ok (.if_icmp .ne 37, 3) := by decide +kernel
theorem dX11_unit_11 : decode cX11_unit 11 = .ok (.aload_n 0, 1) := by decide +kernel
theorem dX11_unit_12 : decode cX11_unit 12 = .ok (.invokevirtual 152, 3) := by decide +kernel
theorem dX11_unit_15 : decode cX11_unit 15 = .ok (.ifCond .ne 5, 3) := by decide +kernel
theorem dX11_unit_18 : decode cX11_unit 18 = .ok (.iconst 0, 1) := by decide +kernel
theorem dX11_unit_19 : decode cX11_unit 19 = .ok (.ireturn, 1) := by decide +kernel
theorem dX11_unit_20 : decode cX11_unit 20 = .ok (.aload_n 0, 1) := by decide +kernel
theorem dX11_unit_21 : decode cX11_unit 21 = .ok (.invokevirtual 178, 3) := by decide +kernel
theorem dX11_unit_24 : decode cX11_unit 24 = .ok (.istore_n 2, 1) := by decide +kernel
theorem dX11_unit_25 : decode cX11_unit 25 = .ok (.aload_n 0, 1) := by decide +kernel
theorem dX11_unit_26 : decode cX11_unit 26 = .ok (.dup, 1) := by decide +kernel
theorem dX11_unit_27 : decode cX11_unit 27 = .ok (.getfield 125, 3) := by decide +kernel
theorem dX11_unit_30 : decode cX11_unit 30 = .ok (.iconst 1, 1) := by decide +kernel
theorem dX11_unit_31 : decode cX11_unit 31 = .ok (.isub, 1) := by decide +kernel
theorem dX11_unit_32 : decode cX11_unit 32 = .ok (.putfield 125, 3) := by decide +kernel
theorem dX11_unit_35 : decode cX11_unit 35 = .ok (.iload_n 2, 1) := by decide +kernel
theorem dX11_unit_36 : decode cX11_unit 36 = .ok (.ifCond .ne 7, 3) := by decide +kernel
theorem dX11_unit_39 : decode cX11_unit 39 = .ok (.iconst 1, 1) := by decide +kernel
theorem dX11_unit_40 : decode cX11_unit 40 = .ok (.goto 4, 3) := by decide +kernel
theorem dX11_unit_43 : decode cX11_unit 43 = .ok (.iconst 0, 1) := by decide +kernel
theorem dX11_unit_44 : decode cX11_unit 44 = .ok (.ireturn, 1) := by decide +kernel
theorem dX11_unit_45 : decode cX11_unit 45 = .ok (.iload_n 1, 1) := by decide +kernel
theorem dX11_unit_46 : decode cX11_unit 46 = .ok (.bipush 40, 2) := by decide +kernel
theorem dX11_unit_48 : decode cX11_unit 48 = .ok (.if_icmp .ne 42, 3) := by decide +kernel
theorem dX11_unit_51 : decode cX11_unit 51 = .ok (.aload_n 0, 1) := by decide +kernel
theorem dX11_unit_52 : decode cX11_unit 52 = .ok (.invokevirtual 152, 3) := by decide +kernel
theorem dX11_unit_55 : decode cX11_unit 55 = .ok (.ifCond .ne 5, 3) := by decide +kernel
theorem dX11_unit_58 : decode cX11_unit 58 = .ok (.iconst 0, 1) := by decide +kernel
theorem dX11_unit_59 : decode cX11_unit 59 = .ok (.ireturn, 1) := by decide +kernel
theorem dX11_unit_60 : decode cX11_unit 60 = .ok (.aload_n 0, 1) := by decide +kernel
theorem dX11_unit_61 : decode cX11_unit 61 = .ok (.iconst 0, 1) := by decide +kernel
theorem dX11_unit_62 : decode cX11_unit 62 = .ok (.iconst 0, 1) := by decide +kernel
theorem dX11_unit_63 : decode cX11_unit 63 = .ok (.invokevirtual 181, 3) := by decide +kernel
theorem dX11_unit_66 : decode cX11_unit 66 = .ok (.istore_n 2, 1) := by decide +kernel
theorem dX11_unit_67 : decode cX11_unit 67 = .ok (.aload_n 0, 1) := by decide +kernel
theorem dX11_unit_68 : decode cX11_unit 68 = .ok (.bipush 41, 2) := by decide +kernel
theorem dX11_unit_70 : decode cX11_unit 70 = .ok (.invokevirtual 158, 3) := by decide +kernel
theorem dX11_unit_73 : decode cX11_unit 73 = .ok (.ifCond .ne 5, 3) := by decide +kernel
theorem dX11_unit_76 : decode cX11_unit 76 = .ok (.iconst 0, 1) := by decide +kernel
theorem dX11_unit_77 : decode cX11_unit 77 = .ok (.ireturn, 1) := by decide +kernel
theorem dX11_unit_78 : decode cX11_unit 78 = .ok (.aload_n 0, 1) := by decide +kernel
theorem dX11_unit_79 : decode cX11_unit 79 = .ok (.dup, 1) := by decide +kernel
theorem dX11_unit_80 : decode cX11_unit 80 = .ok (.getfield 125, 3) := by decide +kernel
theorem dX11_unit_83 : decode cX11_unit 83 = .ok (.iconst 1, 1) := by decide +kernel
theorem dX11_unit_84 : decode cX11_unit 84 = .ok (.isub, 1) := by decide +kernel
theorem dX11_unit_85 : decode cX11_unit 85 = .ok (.putfield 125, 3) := by decide +kernel
theorem dX11_unit_88 : decode cX11_unit 88 = .ok (.iload_n 2, 1) := by decide +kernel
theorem dX11_unit_89 : decode cX11_unit 89 = .ok (.ireturn, 1) := by decide +kernel
theorem dX11_unit_90 : decode cX11_unit 90 = .ok (.aload_n 0, 1) := by decide +kernel
theorem dX11_unit_91 : decode cX11_unit 91 = .ok (.iconst 0, 1) := by decide +kernel
theorem dX11_unit_92 : decode cX11_unit 92 = .ok (.iconst 0, 1) := by decide +kernel
theorem dX11_unit_93 : decode cX11_unit 93 = .ok (.invokevirtual 185, 3) := by decide +kernel
theorem dX11_unit_96 : decode cX11_unit 96 = .ok (.ireturn, 1) := by decide +kernel
theorem dX11_part_0 : decode cX11_part 0 = .ok (.iload_n 1, 1) := by decide +kernel
theorem dX11_part_1 : decode cX11_part 1 = .ok (.ifCond .eq 12, 3) := by decide +kernel
theorem dX11_part_4 : decode cX11_part 4 = .ok (.aload_n 0, 1) := by decide +kernel
theorem dX11_part_5 : decode cX11_part 5 = .ok (.iconst 1, 1) := by decide +kernel
theorem dX11_part_6 : decode cX11_part 6 = .ok (.iload_n 2, 1) := by decide +kernel
theorem dX11_part_7 : decode cX11_part 7 = .ok (.invokevirtual 185, 3) := by decide +kernel
theorem dX11_part_10 : decode cX11_part 10 = .ok (.goto 7, 3) := by decide +kernel
theorem dX11_part_13 : decode cX11_part 13 = .ok (.aload_n 0, 1) := by decide +kernel
theorem dX11_part_14 : decode cX11_part 14 = .ok (.invokevirtual 178, 3) := by decide +kernel
theorem dX11_part_17 : decode cX11_part 17 = .ok (.istore_n 3, 1) := by decide +kernel
theorem dX11_part_18 : decode cX11_part 18 = .ok (.aload_n 0, 1) := by decide +kernel
theorem dX11_part_19 : decode cX11_part 19 = .ok (.getfield 122, 3) := by decide +kernel
theorem dX11_part_22 : decode cX11_part 22 = .ok (.iconst (-1), 1) := by decide +kernel
theorem dX11_part_23 : decode cX11_part 23 = .ok (.if_icmp .ne 46, 3) := by decide +kernel
theorem dX11_part_26 : decode cX11_part 26 = .ok (.aload_n 0, 1) := by decide +kernel
theorem dX11_part_27 : decode cX11_part 27 = .ok (.invokevirtual 132, 3) := by decide +kernel
theorem dX11_part_30 : decode cX11_part 30 = .ok (.bipush 38, 2) := by decide +kernel
theorem dX11_part_32 : decode cX11_part 32 = .ok (.if_icmp .ne 37, 3) := by decide +kernel
theorem dX11_part_35 : decode cX11_part 35 = .ok (.aload_n 0, 1) := by decide +kernel
theorem dX11_part_36 : decode cX11_part 36 = .ok (.dup, 1) := by decide +kernel
theorem dX11_part_37 : decode cX11_part 37 = .ok (.getfield 113, 3) := by decide +kernel
theorem dX11_part_40 : decode cX11_part 40 = .ok (.iconst 1, 1) := by decide +kernel
theorem dX11_part_41 : decode cX11_part 41 = .ok (.iadd, 1) := by decide +kernel
theorem dX11_part_42 : decode cX11_part 42 = .ok (.putfield 113, 3) := by decide +kernel
theorem dX11_part_45 : decode cX11_part 45 = .ok (.aload_n 0, 1) := by decide +kernel
theorem dX11_part_46 : decode cX11_part 46 = .ok (.invokevirtual 178, 3) := by decide +kernel
theorem dX11_part_49 : decode cX11_part 49 = .ok (.istore 4, 2) := by decide +kernel
theorem dX11_part_51 : decode cX11_part 51 = .ok (.iload_n 3, 1) := by decide +kernel
theorem dX11_part_52 : decode cX11_part 52 = .ok (.ifCond .eq 12, 3) := by decide +kernel
theorem dX11_part_55 : decode cX11_part 55 = .ok (.iload 4, 2) := by decide +kernel
theorem dX11_part_57 : decode cX11_part 57 = .ok (.ifCond .eq 7, 3) := by decide +kernel
theorem dX11_part_60 : decode cX11_part 60 = .ok (.iconst 1, 1) := by decide +kernel
theorem dX11_part_61 : decode cX11_part 61 = .ok (.goto 4, 3) := by decide +kernel
theorem dX11_part_64 : decode cX11_part 64 = .ok (.iconst 0, 1) := by decide +kernel
theorem dX11_part_65 : decode cX11_part 65 = .ok (.istore_n 3, 1) := by decide +kernel
theorem dX11_part_66 : decode cX11_part 66 = .ok (.goto (-48), 3) := by decide +kernel
theorem dX11_part_69 : decode cX11_part 69 = .ok (.iload_n 3, 1) := by decide +kernel
theorem dX11_part_70 : decode cX11_part 70 = .ok (.ireturn, 1) := by decide +kernel
theorem dX11_condition_0 : decode cX11_condition 0 = .ok (.aload_n 0, 1) := by decide +kernel
theorem dX11_condition_1 : decode cX11_condition 1 = .ok (.iload_n 1, 1) := by decide +kernel
theorem dX11_condition_2 : decode cX11_condition 2 = .ok (.iload_n 2, 1) := by decide +kernel
theorem dX11_condition_3 : decode cX11_condition 3 = .ok (.invokevirtual 188, 3) := by decide +kernel
theorem dX11_condition_6 : decode cX11_condition 6 = .ok (.istore_n 3, 1) := by decide +kernel
theorem dX11_condition_7 : decode cX11_condition 7 = .ok (.aload_n 0, 1) := by decide +kernel
theorem dX11_condition_8 : decode cX11_condition 8 = .ok (.getfield 122, 3) := by decide +kernel
theorem dX11_condition_11 : decode cX11_condition 11 = .ok (.iconst (-1), 1) := by decide +kernel
theorem dX11_condition_12 : decode cX11_condition 12 = .ok (.if_icmp .ne 48, 3) := by decide +kernel
theorem dX11_condition_15 : decode cX11_condition 15 = .ok (.aload_n 0, 1) := by decide +kernel
theorem dX11_condition_16 : decode cX11_condition 16 = .ok (.invokevirtual 132, 3) := by decide +kernel
theorem dX11_condition_19 : decode cX11_condition 19 = .ok (.bipush 124, 2) := by decide +kernel
theorem dX11_condition_21 : decode cX11_condition 21 = .ok (.if_icmp .ne 39, 3) := by decide +kernel
theorem dX11_condition_24 : decode cX11_condition 24 = .ok (.aload_n 0, 1) := by decide +kernel
theorem dX11_condition_25 : decode cX11_condition 25 = .ok (.dup, 1) := by decide +kernel
theorem dX11_condition_26 : decode cX11_condition 26 = .ok (.getfield 113, 3) := by decide +kernel
theorem dX11_condition_29 : decode cX11_condition 29 = .ok (.iconst 1, 1) := by decide +kernel
theorem dX11_condition_30 : decode cX11_condition 30 = .ok (.iadd, 1) := by decide +kernel
theorem dX11_condition_31 : decode cX11_condition 31 = .ok (.putfield 113, 3) := by decide +kernel
theorem dX11_condition_34 : decode cX11_condition 34 = .ok (.aload_n 0, 1) := by decide +kernel
theorem dX11_condition_35 : decode cX11_condition 35 = .ok (.iconst 0, 1) := by decide +kernel
theorem dX11_condition_36 : decode cX11_condition 36 = .ok (.iconst 0, 1) := by decide +kernel
theorem dX11_condition_37 : decode cX11_condition 37 = .ok (.invokevirtual 188, 3) := by decide +kernel
theorem dX11_condition_40 : decode cX11_condition 40 = .ok (.istore 4, 2) := by decide +kernel
theorem dX11_condition_42 : decode cX11_condition 42 = .ok (.iload_n 3, 1) := by decide +kernel
theorem dX11_condition_43 : decode cX11_condition 43 = .ok (.ifCond .ne 8, 3) := by decide +kernel
theorem dX11_condition_46 : decode cX11_condition 46 = .ok (.iload 4, 2) := by decide +kernel
theorem dX11_condition_48 : decode cX11_condition 48 = .ok (.ifCond .eq 7, 3) := by decide +kernel
theorem dX11_condition_51 : decode cX11_condition 51 = .ok (.iconst 1, 1) := by decide +kernel
theorem dX11_condition_52 : decode cX11_condition 52 = .ok (.goto 4, 3) := by decide +kernel
theorem dX11_condition_55 : decode cX11_condition 55 = .ok (.iconst 0, 1) := by decide +kernel
theorem dX11_condition_56 : decode cX11_condition 56 = .ok (.istore_n 3, 1) := by decide +kernel
theorem dX11_condition_57 : decode cX11_condition 57 = .ok (.goto (-50), 3) := by decide +kernel
theorem dX11_condition_60 : decode cX11_condition 60 = .ok (.iload_n 3, 1) := by decide +kernel
theorem dX11_condition_61 : decode cX11_condition 61 = .ok (.ireturn, 1) := by decide +kernel
theorem dX11_clause_0 : decode cX11_clause 0 = .ok (.aload_n 0, 1) := by decide +kernel
theorem dX11_clause_1 : decode cX11_clause 1 = .ok (.invokevirtual 132, 3) := by decide +kernel
theorem dX11_clause_4 : decode cX11_clause 4 = .ok (.istore_n 1, 1) := by decide +kernel
theorem dX11_clause_5 : decode cX11_clause 5 = .ok (.ldc 26, 2) := by decide +kernel
theorem dX11_clause_7 : decode cX11_clause 7 = .ok (.iload_n 1, 1) := by decide +kernel
theorem dX11_clause_8 : decode cX11_clause 8 = .ok (.invokestatic 148, 3) := by decide +kernel
theorem dX11_clause_11 : decode cX11_clause 11 = .ok (.ifCond .ne 9, 3) := by decide +kernel
theorem dX11_clause_14 : decode cX11_clause 14 = .ok (.aload_n 0, 1) := by decide +kernel
theorem dX11_clause_15 : decode cX11_clause 15 = .ok (.invokevirtual 128, 3) := by decide +kernel
theorem dX11_clause_18 : decode cX11_clause 18 = .ok (.pop, 1) := by decide +kernel
theorem dX11_clause_19 : decode cX11_clause 19 = .ok (.return_, 1) := by decide +kernel
theorem dX11_clause_20 : decode cX11_clause 20 = .ok (.aload_n 0, 1) := by decide +kernel
theorem dX11_clause_21 : decode cX11_clause 21 = .ok (.dup, 1) := by decide +kernel
theorem dX11_clause_22 : decode cX11_clause 22 = .ok (.getfield 113, 3) := by decide +kernel
theorem dX11_clause_25 : decode cX11_clause 25 = .ok (.iconst 1, 1) := by decide +kernel
theorem dX11_clause_26 : decode cX11_clause 26 = .ok (.iadd, 1) := by decide +kernel
theorem dX11_clause_27 : decode cX11_clause 27 = .ok (.putfield 113, 3) := by decide +kernel
theorem dX11_clause_30 : decode cX11_clause 30 = .ok (.aload_n 0, 1) := by decide +kernel
theorem dX11_clause_31 : decode cX11_clause 31 = .ok (.bipush 58, 2) := by decide +kernel
theorem dX11_clause_33 : decode cX11_clause 33 = .ok (.invokevirtual 158, 3) := by decide +kernel
theorem dX11_clause_36 : decode cX11_clause 36 = .ok (.ifCond .ne 4, 3) := by decide +kernel
theorem dX11_clause_39 : decode cX11_clause 39 = .ok (.return_, 1) := by decide +kernel
theorem dX11_clause_40 : decode cX11_clause 40 = .ok (.iconst 1, 1) := by decide +kernel
theorem dX11_clause_41 : decode cX11_clause 41 = .ok (.istore_n 2, 1) := by decide +kernel
theorem dX11_clause_42 : decode cX11_clause 42 = .ok (.iconst 0, 1) := by decide +kernel
theorem dX11_clause_43 : decode cX11_clause 43 = .ok (.istore_n 3, 1) := by decide +kernel
theorem dX11_clause_44 : decode cX11_clause 44 = .ok (.aload_n 0, 1) := by decide +kernel
theorem dX11_clause_45 : decode cX11_clause 45 = .ok (.invokevirtual 132, 3) := by decide +kernel
theorem dX11_clause_48 : decode cX11_clause 48 = .ok (.istore 4, 2) := by decide +kernel
theorem dX11_clause_50 : decode cX11_clause 50 = .ok (.iload 4, 2) := by decide +kernel
theorem dX11_clause_52 : decode cX11_clause 52 = .ok (.bipush 33, 2) := by decide +kernel
theorem dX11_clause_54 : decode cX11_clause 54 = .ok (.if_icmp .eq 10, 3) := by decide +kernel
theorem dX11_clause_57 : decode cX11_clause 57 = .ok (.iload 4, 2) := by decide +kernel
theorem dX11_clause_59 : decode cX11_clause 59 = .ok (.bipush 40, 2) := by decide +kernel
theorem dX11_clause_61 : decode cX11_clause 61 = .ok (.if_icmp .ne 28, 3) := by decide +kernel
theorem dX11_clause_64 : decode cX11_clause 64 = .ok (.aload_n 0, 1) := by decide +kernel
theorem dX11_clause_65 : decode cX11_clause 65 = .ok (.iconst 0, 1) := by decide +kernel
theorem dX11_clause_66 : decode cX11_clause 66 = .ok (.iconst 0, 1) := by decide +kernel
theorem dX11_clause_67 : decode cX11_clause 67 = .ok (.invokevirtual 181, 3) := by decide +kernel
theorem dX11_clause_70 : decode cX11_clause 70 = .ok (.istore_n 2, 1) := by decide +kernel
theorem dX11_clause_71 : decode cX11_clause 71 = .ok (.aload_n 0, 1) := by decide +kernel
theorem dX11_clause_72 : decode cX11_clause 72 = .ok (.bipush 63, 2) := by decide +kernel
theorem dX11_clause_74 : decode cX11_clause 74 = .ok (.invokevirtual 158, 3) := by decide +kernel
theorem dX11_clause_77 : decode cX11_clause 77 = .ok (.ifCond .ne 4, 3) := by decide +kernel
theorem dX11_clause_80 : decode cX11_clause 80 = .ok (.return_, 1) := by decide +kernel
theorem dX11_clause_81 : decode cX11_clause 81 = .ok (.aload_n 0, 1) := by decide +kernel
theorem dX11_clause_82 : decode cX11_clause 82 = .ok (.invokevirtual 155, 3) := by decide +kernel
theorem dX11_clause_85 : decode cX11_clause 85 = .ok (.istore_n 3, 1) := by decide +kernel
theorem dX11_clause_86 : decode cX11_clause 86 = .ok (.goto 48, 3) := by decide +kernel
theorem dX11_clause_89 : decode cX11_clause 89 = .ok (.aload_n 0, 1) := by decide +kernel
theorem dX11_clause_90 : decode cX11_clause 90 = .ok (.invokevirtual 155, 3) := by decide +kernel
theorem dX11_clause_93 : decode cX11_clause 93 = .ok (.istore_n 3, 1) := by decide +kernel
theorem dX11_clause_94 : decode cX11_clause 94 = .ok (.aload_n 0, 1) := by decide +kernel
theorem dX11_clause_95 : decode cX11_clause 95 = .ok (.getfield 122, 3) := by decide +kernel
theorem dX11_clause_98 : decode cX11_clause 98 = .ok (.iconst (-1), 1) := by decide +kernel
theorem dX11_clause_99 : decode cX11_clause 99 = .ok (.if_icmp .ne 35, 3) := by decide +kernel
theorem dX11_clause_102 : decode cX11_clause 102 = .ok (.aload_n 0, 1) := by decide +kernel
theorem dX11_clause_103 : decode cX11_clause 103 = .ok (.invokevirtual 132, 3) := by decide +kernel
theorem dX11_clause_106 : decode cX11_clause 106 = .ok (.invokestatic 175, 3) := by decide +kernel
theorem dX11_clause_109 : decode cX11_clause 109 = .ok (.ifCond .eq 25, 3) := by decide +kernel
theorem dX11_clause_112 : decode cX11_clause 112 = .ok (.aload_n 0, 1) := by decide +kernel
theorem dX11_clause_113 : decode cX11_clause 113 = .ok (.iconst 1, 1) := by decide +kernel
theorem dX11_clause_114 : decode cX11_clause 114 = .ok (.iload_n 3, 1) := by decide +kernel
theorem dX11_clause_115 : decode cX11_clause 115 = .ok (.invokevirtual 181, 3) := by decide +kernel
theorem dX11_clause_118 : decode cX11_clause 118 = .ok (.istore_n 2, 1) := by decide +kernel
theorem dX11_clause_119 : decode cX11_clause 119 = .ok (.aload_n 0, 1) := by decide +kernel
theorem dX11_clause_120 : decode cX11_clause 120 = .ok (.bipush 63, 2) := by decide +kernel
theorem dX11_clause_122 : decode cX11_clause 122 = .ok (.invokevirtual 158, 3) := by decide +kernel
theorem dX11_clause_125 : decode cX11_clause 125 = .ok (.ifCond .ne 4, 3) := by decide +kernel
theorem dX11_clause_128 : decode cX11_clause 128 = .ok (.return_, 1) := by decide +kernel
theorem dX11_clause_129 : decode cX11_clause 129 = .ok (.aload_n 0, 1) := by decide +kernel
theorem dX11_clause_130 : decode cX11_clause 130 = .ok (.invokevirtual 155, 3) := by decide +kernel
theorem dX11_clause_133 : decode cX11_clause 133 = .ok (.istore_n 3, 1) := by decide +kernel
theorem dX11_clause_134 : decode cX11_clause 134 = .ok (.aload_n 0, 1) := by decide +kernel
theorem dX11_clause_135 : decode cX11_clause 135 = .ok (.getfield 122, 3) := by decide +kernel
theorem dX11_clause_138 : decode cX11_clause 138 = .ok (.iconst (-1), 1) := by decide +kernel
theorem dX11_clause_139 : decode cX11_clause 139 = .ok (.if_icmp .ne 22, 3) := by decide +kernel
theorem dX11_clause_142 : decode cX11_clause 142 = .ok (.aload_n 0, 1) := by decide +kernel
theorem dX11_clause_143 : decode cX11_clause 143 = .ok (.getfield 191, 3) := by decide +kernel
theorem dX11_clause_146 : decode cX11_clause 146 = .ok (.ifCond .ne 15, 3) := by decide +kernel
theorem dX11_clause_149 : decode cX11_clause 149 = .ok (.iload_n 1, 1) := by decide +kernel
theorem dX11_clause_150 : decode cX11_clause 150 = .ok (.aload_n 0, 1) := by decide +kernel
theorem dX11_clause_151 : decode cX11_clause 151 = .ok (.getfield 195, 3) := by decide +kernel
theorem dX11_clause_154 : decode cX11_clause 154 = .ok (.if_icmp .ne 7, 3) := by decide +kernel
theorem dX11_clause_157 : decode cX11_clause 157 = .ok (.iload_n 2, 1) := by decide +kernel
theorem dX11_clause_158 : decode cX11_clause 158 = .ok (.ifCond .ne 4, 3) := by decide +kernel
theorem dX11_clause_161 : decode cX11_clause 161 = .ok (.return_, 1) := by decide +kernel
theorem dX11_clause_162 : decode cX11_clause 162 = .ok (.aload_n 0, 1) := by decide +kernel
theorem dX11_clause_163 : decode cX11_clause 163 = .ok (.iconst 1, 1) := by decide +kernel
theorem dX11_clause_164 : decode cX11_clause 164 = .ok (.putfield 191, 3) := by decide +kernel
theorem dX11_clause_167 : decode cX11_clause 167 = .ok (.aload_n 0, 1) := by decide +kernel
theorem dX11_clause_168 : decode cX11_clause 168 = .ok (.iload_n 3, 1) := by decide +kernel
theorem dX11_clause_169 : decode cX11_clause 169 = .ok (.putfield 198, 3) := by decide +kernel
theorem dX11_clause_172 : decode cX11_clause 172 = .ok (.return_, 1) := by decide +kernel
theorem dX11_starts_0 : decode cX11_starts 0 = .ok (.aload_n 0, 1) := by decide +kernel
theorem dX11_starts_1 : decode cX11_starts 1 = .ok (.aload_n 1, 1) := by decide +kernel
theorem dX11_starts_2 : decode cX11_starts 2 = .ok (.putfield 23, 3) := by decide +kernel
theorem dX11_starts_5 : decode cX11_starts 5 = .ok (.aload_n 0, 1) := by decide +kernel
theorem dX11_starts_6 : decode cX11_starts 6 = .ok (.iload_n 2, 1) := by decide +kernel
theorem dX11_starts_7 : decode cX11_starts 7 = .ok (.putfield 119, 3) := by decide +kernel
theorem dX11_starts_10 : decode cX11_starts 10 = .ok (.aload_n 0, 1) := by decide +kernel
theorem dX11_starts_11 : decode cX11_starts 11 = .ok (.iload_n 3, 1) := by decide +kernel
theorem dX11_starts_12 : decode cX11_starts 12 = .ok (.putfield 116, 3) := by decide +kernel
theorem dX11_starts_15 : decode cX11_starts 15 = .ok (.aload_n 0, 1) := by decide +kernel
theorem dX11_starts_16 : decode cX11_starts 16 = .ok (.iconst 0, 1) := by decide +kernel
theorem dX11_starts_17 : decode cX11_starts 17 = .ok (.putfield 113, 3) := by decide +kernel
theorem dX11_starts_20 : decode cX11_starts 20 = .ok (.aload_n 0, 1) := by decide +kernel
theorem dX11_starts_21 : decode cX11_starts 21 = .ok (.iconst (-1), 1) := by decide +kernel
theorem dX11_starts_22 : decode cX11_starts 22 = .ok (.putfield 122, 3) := by decide +kernel
theorem dX11_starts_25 : decode cX11_starts 25 = .ok (.return_, 1) := by decide +kernel
theorem dX11_goThrough_0 : decode cX11_goThrough 0 = .ok (.aload_n 0, 1) := by decide +kernel
theorem dX11_goThrough_1 : decode cX11_goThrough 1 = .ok (.aload_n 1, 1) := by decide +kernel
theorem dX11_goThrough_2 : decode cX11_goThrough 2 = .ok (.iload_n 2, 1) := by decide +kernel
theorem dX11_goThrough_3 : decode cX11_goThrough 3 = .ok (.iload_n 3, 1) := by decide +kernel
theorem dX11_goThrough_4 : decode cX11_goThrough 4 = .ok (.invokevirtual 201, 3) := by decide +kernel
theorem dX11_goThrough_7 : decode cX11_goThrough 7 = .ok (.aload_n 0, 1) := by decide +kernel
theorem dX11_goThrough_8 : decode cX11_goThrough 8 = .ok (.bipush 121, 2) := by decide +kernel
theorem dX11_goThrough_10 : decode cX11_goThrough 10 = .ok (.putfield 195, 3) := by decide +kernel
theorem dX11_goThrough_13 : decode cX11_goThrough 13 = .ok (.aload_n 0, 1) := by decide +kernel
theorem dX11_goThrough_14 : decode cX11_goThrough 14 = .ok (.iconst 0, 1) := by decide +kernel
theorem dX11_goThrough_15 : decode cX11_goThrough 15 = .ok (.putfield 125, 3) := by decide +kernel
theorem dX11_goThrough_18 : decode cX11_goThrough 18 = .ok (.aload_n 0, 1) := by decide +kernel
theorem dX11_goThrough_19 : decode cX11_goThrough 19 = .ok (.iconst 0, 1) := by decide +kernel
theorem dX11_goThrough_20 : decode cX11_goThrough 20 = .ok (.putfield 191, 3) := by decide +kernel
theorem dX11_goThrough_23 : decode cX11_goThrough 23 = .ok (.aload_n 0, 1) := by decide +kernel
theorem dX11_goThrough_24 : decode cX11_goThrough 24 = .ok (.iconst 0, 1) := by decide +kernel
theorem dX11_goThrough_25 : decode cX11_goThrough 25 = .ok (.putfield 198, 3) := by decide +kernel
theorem dX11_goThrough_28 : decode cX11_goThrough 28 = .ok (.aload_n 0, 1) := by decide +kernel
theorem dX11_goThrough_29 : decode cX11_goThrough 29 = .ok (.invokevirtual 205, 3) := by decide +kernel
theorem dX11_goThrough_32 : decode cX11_goThrough 32 = .ok (.aload_n 0, 1) := by decide +kernel
theorem dX11_goThrough_33 : decode cX11_goThrough 33 = .ok (.getfield 122, 3) := by decide +kernel
theorem dX11_goThrough_36 : decode cX11_goThrough 36 = .ok (.iconst (-1), 1) := by decide +kernel
theorem dX11_goThrough_37 : decode cX11_goThrough 37 = .ok (.if_icmp .ne 29, 3) := by decide +kernel
theorem dX11_goThrough_40 : decode cX11_goThrough 40 = .ok (.aload_n 0, 1) := by decide +kernel
theorem dX11_goThrough_41 : decode cX11_goThrough 41 = .ok (.invokevirtual 132, 3) := by decide +kernel
theorem dX11_goThrough_44 : decode cX11_goThrough 44 = .ok (.bipush 59, 2) := by decide +kernel
theorem dX11_goThrough_46 : decode cX11_goThrough 46 = .ok (.if_icmp .ne 20, 3) := by decide +kernel
theorem dX11_goThrough_49 : decode cX11_goThrough 49 = .ok (.aload_n 0, 1) := by decide +kernel
theorem dX11_goThrough_50 : decode cX11_goThrough 50 = .ok (.dup, 1) := by decide +kernel
theorem dX11_goThrough_51 : decode cX11_goThrough 51 = .ok (.getfield 113, 3) := by decide +kernel
theorem dX11_goThrough_54 : decode cX11_goThrough 54 = .ok (.iconst 1, 1) := by decide +kernel
theorem dX11_goThrough_55 : decode cX11_goThrough 55 = .ok (.iadd, 1) := by decide +kernel
theorem dX11_goThrough_56 : decode cX11_goThrough 56 = .ok (.putfield 113, 3) := by decide +kernel
theorem dX11_goThrough_59 : decode cX11_goThrough 59 = .ok (.aload_n 0, 1) := by decide +kernel
theorem dX11_goThrough_60 : decode cX11_goThrough 60 = .ok (.invokevirtual 205, 3) := by decide +kernel
theorem dX11_goThrough_63 : decode cX11_goThrough 63 = .ok (.goto (-31), 3) := by decide +kernel
theorem dX11_goThrough_66 : decode cX11_goThrough 66 = .ok (.aload_n 0, 1) := by decide +kernel
theorem dX11_goThrough_67 : decode cX11_goThrough 67 = .ok (.getfield 122, 3) := by decide +kernel
theorem dX11_goThrough_70 : decode cX11_goThrough 70 = .ok (.iconst (-1), 1) := by decide +kernel
theorem dX11_goThrough_71 : decode cX11_goThrough 71 = .ok (.if_icmp .ne 16, 3) := by decide +kernel
theorem dX11_goThrough_74 : decode cX11_goThrough 74 = .ok (.aload_n 0, 1) := by decide +kernel
theorem dX11_goThrough_75 : decode cX11_goThrough 75 = .ok (.invokevirtual 132, 3) := by decide +kernel
theorem dX11_goThrough_78 : decode cX11_goThrough 78 = .ok (.iconst (-1), 1) := by decide +kernel
theorem dX11_goThrough_79 : decode cX11_goThrough 79 = .ok (.if_icmp .eq 8, 3) := by decide +kernel
theorem dX11_goThrough_82 : decode cX11_goThrough 82 = .ok (.aload_n 0, 1) := by decide +kernel
theorem dX11_goThrough_83 : decode cX11_goThrough 83 = .ok (.invokevirtual 128, 3) := by decide +kernel
theorem dX11_goThrough_86 : decode cX11_goThrough 86 = .ok (.pop, 1) := by decide +kernel
theorem dX11_goThrough_87 : decode cX11_goThrough 87 = .ok (.return_, 1) := by decide +kernel
theorem dX11_here_0 : decode cX11_here 0 = .ok (.aload_n 0, 1) := by decide +kernel
theorem dX11_here_1 : decode cX11_here 1 = .ok (.getfield 113, 3) := by decide +kernel
theorem dX11_here_4 : decode cX11_here 4 = .ok (.aload_n 0, 1) := by decide +kernel
theorem dX11_here_5 : decode cX11_here 5 = .ok (.getfield 116, 3) := by decide +kernel
theorem dX11_here_8 : decode cX11_here 8 = .ok (.if_icmp .ge 24, 3) := by decide +kernel
theorem dX11_here_11 : decode cX11_here 11 = .ok (.aload_n 0, 1) := by decide +kernel
theorem dX11_here_12 : decode cX11_here 12 = .ok (.getfield 23, 3) := by decide +kernel
theorem dX11_here_15 : decode cX11_here 15 = .ok (.aload_n 0, 1) := by decide +kernel
theorem dX11_here_16 : decode cX11_here 16 = .ok (.getfield 119, 3) := by decide +kernel
theorem dX11_here_19 : decode cX11_here 19 = .ok (.aload_n 0, 1) := by decide +kernel
theorem dX11_here_20 : decode cX11_here 20 = .ok (.getfield 113, 3) := by decide +kernel
theorem dX11_here_23 : decode cX11_here 23 = .ok (.iadd, 1) := by decide +kernel
theorem dX11_here_24 : decode cX11_here 24 = .ok (.baload, 1) := by decide +kernel
theorem dX11_here_25 : decode cX11_here 25 = .ok (.sipush 255, 3) := by decide +kernel
theorem dX11_here_28 : decode cX11_here 28 = .ok (.iand, 1) := by decide +kernel
theorem dX11_here_29 : decode cX11_here 29 = .ok (.goto 4, 3) := by decide +kernel
theorem dX11_here_32 : decode cX11_here 32 = .ok (.iconst (-1), 1) := by decide +kernel
theorem dX11_here_33 : decode cX11_here 33 = .ok (.ireturn, 1) := by decide +kernel
theorem dX11_spotOf_0 : decode cX11_spotOf 0 = .ok (.iconst 0, 1) := by decide +kernel
theorem dX11_spotOf_1 : decode cX11_spotOf 1 = .ok (.istore_n 2, 1) := by decide +kernel
theorem dX11_spotOf_2 : decode cX11_spotOf 2 = .ok (.iload_n 2, 1) := by decide +kernel
theorem dX11_spotOf_3 : decode cX11_spotOf 3 = .ok (.aload_n 0, 1) := by decide +kernel
theorem dX11_spotOf_4 : decode cX11_spotOf 4 = .ok (.invokevirtual 93, 3) := by decide +kernel
theorem dX11_spotOf_7 : decode cX11_spotOf 7 = .ok (.if_icmp .ge 20, 3) := by decide +kernel
theorem dX11_spotOf_10 : decode cX11_spotOf 10 = .ok (.aload_n 0, 1) := by decide +kernel
theorem dX11_spotOf_11 : decode cX11_spotOf 11 = .ok (.iload_n 2, 1) := by decide +kernel
theorem dX11_spotOf_12 : decode cX11_spotOf 12 = .ok (.invokevirtual 99, 3) := by decide +kernel
theorem dX11_spotOf_15 : decode cX11_spotOf 15 = .ok (.iload_n 1, 1) := by decide +kernel
theorem dX11_spotOf_16 : decode cX11_spotOf 16 = .ok (.if_icmp .ne 5, 3) := by decide +kernel
theorem dX11_spotOf_19 : decode cX11_spotOf 19 = .ok (.iload_n 2, 1) := by decide +kernel
theorem dX11_spotOf_20 : decode cX11_spotOf 20 = .ok (.ireturn, 1) := by decide +kernel
theorem dX11_spotOf_21 : decode cX11_spotOf 21 = .ok (.iinc 2 1, 3) := by decide +kernel
theorem dX11_spotOf_24 : decode cX11_spotOf 24 = .ok (.goto (-22), 3) := by decide +kernel
theorem dX11_spotOf_27 : decode cX11_spotOf 27 = .ok (.iconst (-1), 1) := by decide +kernel
theorem dX11_spotOf_28 : decode cX11_spotOf 28 = .ok (.ireturn, 1) := by decide +kernel
theorem dX11_number_0 : decode cX11_number 0 = .ok (.aload_n 0, 1) := by decide +kernel
theorem dX11_number_1 : decode cX11_number 1 = .ok (.invokevirtual 132, 3) := by decide +kernel
theorem dX11_number_4 : decode cX11_number 4 = .ok (.istore_n 3, 1) := by decide +kernel
theorem dX11_number_5 : decode cX11_number 5 = .ok (.aload_n 0, 1) := by decide +kernel
theorem dX11_number_6 : decode cX11_number 6 = .ok (.invokevirtual 162, 3) := by decide +kernel
theorem dX11_number_9 : decode cX11_number 9 = .ok (.ifCond .ne 10, 3) := by decide +kernel
theorem dX11_number_12 : decode cX11_number 12 = .ok (.aload_n 0, 1) := by decide +kernel
theorem dX11_number_13 : decode cX11_number 13 = .ok (.invokevirtual 128, 3) := by decide +kernel
theorem dX11_number_16 : decode cX11_number 16 = .ok (.pop, 1) := by decide +kernel
theorem dX11_number_17 : decode cX11_number 17 = .ok (.iconst 0, 1) := by decide +kernel
theorem dX11_number_18 : decode cX11_number 18 = .ok (.ireturn, 1) := by decide +kernel
theorem dX11_number_19 : decode cX11_number 19 = .ok (.iload_n 3, 1) := by decide +kernel
theorem dX11_number_20 : decode cX11_number 20 = .ok (.bipush 48, 2) := by decide +kernel
theorem dX11_number_22 : decode cX11_number 22 = .ok (.isub, 1) := by decide +kernel
theorem dX11_number_23 : decode cX11_number 23 = .ok (.istore 4, 2) := by decide +kernel
theorem dX11_number_25 : decode cX11_number 25 = .ok (.aload_n 0, 1) := by decide +kernel
theorem dX11_number_26 : decode cX11_number 26 = .ok (.dup, 1) := by decide +kernel
theorem dX11_number_27 : decode cX11_number 27 = .ok (.getfield 113, 3) := by decide +kernel
theorem dX11_number_30 : decode cX11_number 30 = .ok (.iconst 1, 1) := by decide +kernel
theorem dX11_number_31 : decode cX11_number 31 = .ok (.iadd, 1) := by decide +kernel
theorem dX11_number_32 : decode cX11_number 32 = .ok (.putfield 113, 3) := by decide +kernel
theorem dX11_number_35 : decode cX11_number 35 = .ok (.aload_n 0, 1) := by decide +kernel
theorem dX11_number_36 : decode cX11_number 36 = .ok (.invokevirtual 162, 3) := by decide +kernel
theorem dX11_number_39 : decode cX11_number 39 = .ok (.ifCond .eq 28, 3) := by decide +kernel
theorem dX11_number_42 : decode cX11_number 42 = .ok (.bipush 10, 2) := by decide +kernel
theorem dX11_number_44 : decode cX11_number 44 = .ok (.iload 4, 2) := by decide +kernel
theorem dX11_number_46 : decode cX11_number 46 = .ok (.imul, 1) := by decide +kernel
theorem dX11_number_47 : decode cX11_number 47 = .ok (.aload_n 0, 1) := by decide +kernel
theorem dX11_number_48 : decode cX11_number 48 = .ok (.invokevirtual 208, 3) := by decide +kernel
theorem dX11_number_51 : decode cX11_number 51 = .ok (.iadd, 1) := by decide +kernel
theorem dX11_number_52 : decode cX11_number 52 = .ok (.bipush 48, 2) := by decide +kernel
theorem dX11_number_54 : decode cX11_number 54 = .ok (.isub, 1) := by decide +kernel
theorem dX11_number_55 : decode cX11_number 55 = .ok (.istore 4, 2) := by decide +kernel
theorem dX11_number_57 : decode cX11_number 57 = .ok (.aload_n 0, 1) := by decide +kernel
theorem dX11_number_58 : decode cX11_number 58 = .ok (.dup, 1) := by decide +kernel
theorem dX11_number_59 : decode cX11_number 59 = .ok (.getfield 113, 3) := by decide +kernel
theorem dX11_number_62 : decode cX11_number 62 = .ok (.iconst 1, 1) := by decide +kernel
theorem dX11_number_63 : decode cX11_number 63 = .ok (.iadd, 1) := by decide +kernel
theorem dX11_number_64 : decode cX11_number 64 = .ok (.putfield 113, 3) := by decide +kernel
theorem dX11_number_67 : decode cX11_number 67 = .ok (.aload_n 0, 1) := by decide +kernel
theorem dX11_number_68 : decode cX11_number 68 = .ok (.invokevirtual 162, 3) := by decide +kernel
theorem dX11_number_71 : decode cX11_number 71 = .ok (.ifCond .eq 10, 3) := by decide +kernel
theorem dX11_number_74 : decode cX11_number 74 = .ok (.aload_n 0, 1) := by decide +kernel
theorem dX11_number_75 : decode cX11_number 75 = .ok (.invokevirtual 128, 3) := by decide +kernel
theorem dX11_number_78 : decode cX11_number 78 = .ok (.pop, 1) := by decide +kernel
theorem dX11_number_79 : decode cX11_number 79 = .ok (.iconst 0, 1) := by decide +kernel
theorem dX11_number_80 : decode cX11_number 80 = .ok (.ireturn, 1) := by decide +kernel
theorem dX11_number_81 : decode cX11_number 81 = .ok (.iload 4, 2) := by decide +kernel
theorem dX11_number_83 : decode cX11_number 83 = .ok (.i2l, 1) := by decide +kernel
theorem dX11_number_84 : decode cX11_number 84 = .ok (.iload_n 1, 1) := by decide +kernel
theorem dX11_number_85 : decode cX11_number 85 = .ok (.i2l, 1) := by decide +kernel
theorem dX11_number_86 : decode cX11_number 86 = .ok (.iload_n 2, 1) := by decide +kernel
theorem dX11_number_87 : decode cX11_number 87 = .ok (.i2l, 1) := by decide +kernel
theorem dX11_number_88 : decode cX11_number 88 = .ok (.invokestatic 211, 3) := by decide +kernel
theorem dX11_number_91 : decode cX11_number 91 = .ok (.ifCond .ne 18, 3) := by decide +kernel
theorem dX11_number_94 : decode cX11_number 94 = .ok (.aload_n 0, 1) := by decide +kernel
theorem dX11_number_95 : decode cX11_number 95 = .ok (.dup, 1) := by decide +kernel
theorem dX11_number_96 : decode cX11_number 96 = .ok (.getfield 113, 3) := by decide +kernel
theorem dX11_number_99 : decode cX11_number 99 = .ok (.iconst 1, 1) := by decide +kernel
theorem dX11_number_100 : decode cX11_number 100 = .ok (.isub, 1) := by decide +kernel
theorem dX11_number_101 : decode cX11_number 101 = .ok (.putfield 113, 3) := by decide +kernel
theorem dX11_number_104 : decode cX11_number 104 = .ok (.aload_n 0, 1) := by decide +kernel
theorem dX11_number_105 : decode cX11_number 105 = .ok (.invokevirtual 128, 3) := by decide +kernel
theorem dX11_number_108 : decode cX11_number 108 = .ok (.pop, 1) := by decide +kernel
theorem dX11_number_109 : decode cX11_number 109 = .ok (.iload 4, 2) := by decide +kernel
theorem dX11_number_111 : decode cX11_number 111 = .ok (.ireturn, 1) := by decide +kernel
theorem dX11_mostOf_0 : decode cX11_mostOf 0 = .ok (.iload_n 0, 1) := by decide +kernel
theorem dX11_mostOf_1 : decode cX11_mostOf 1 = .ok (.bipush 115, 2) := by decide +kernel
theorem dX11_mostOf_3 : decode cX11_mostOf 3 = .ok (.if_icmp .ne 15, 3) := by decide +kernel
theorem dX11_mostOf_6 : decode cX11_mostOf 6 = .ok (.iload_n 1, 1) := by decide +kernel
theorem dX11_mostOf_7 : decode cX11_mostOf 7 = .ok (.ifCond .ne 8, 3) := by decide +kernel
theorem dX11_mostOf_10 : decode cX11_mostOf 10 = .ok (.bipush 9, 2) := by decide +kernel
theorem dX11_mostOf_12 : decode cX11_mostOf 12 = .ok (.goto 5, 3) := by decide +kernel
theorem dX11_mostOf_15 : decode cX11_mostOf 15 = .ok (.bipush 99, 2) := by decide +kernel
theorem dX11_mostOf_17 : decode cX11_mostOf 17 = .ok (.ireturn, 1) := by decide +kernel
theorem dX11_mostOf_18 : decode cX11_mostOf 18 = .ok (.iload_n 0, 1) := by decide +kernel
theorem dX11_mostOf_19 : decode cX11_mostOf 19 = .ok (.bipush 112, 2) := by decide +kernel
theorem dX11_mostOf_21 : decode cX11_mostOf 21 = .ok (.if_icmp .ne 25, 3) := by decide +kernel
theorem dX11_mostOf_24 : decode cX11_mostOf 24 = .ok (.iload_n 1, 1) := by decide +kernel
theorem dX11_mostOf_25 : decode cX11_mostOf 25 = .ok (.ifCond .ne 8, 3) := by decide +kernel
theorem dX11_mostOf_28 : decode cX11_mostOf 28 = .ok (.bipush 99, 2) := by decide +kernel
theorem dX11_mostOf_30 : decode cX11_mostOf 30 = .ok (.goto 15, 3) := by decide +kernel
theorem dX11_mostOf_33 : decode cX11_mostOf 33 = .ok (.iload_n 1, 1) := by decide +kernel
theorem dX11_mostOf_34 : decode cX11_mostOf 34 = .ok (.iconst 1, 1) := by decide +kernel
theorem dX11_mostOf_35 : decode cX11_mostOf 35 = .ok (.if_icmp .ne 8, 3) := by decide +kernel
theorem dX11_mostOf_38 : decode cX11_mostOf 38 = .ok (.bipush 9, 2) := by decide +kernel
theorem dX11_mostOf_40 : decode cX11_mostOf 40 = .ok (.goto 5, 3) := by decide +kernel
theorem dX11_mostOf_43 : decode cX11_mostOf 43 = .ok (.bipush 6, 2) := by decide +kernel
theorem dX11_mostOf_45 : decode cX11_mostOf 45 = .ok (.ireturn, 1) := by decide +kernel
theorem dX11_mostOf_46 : decode cX11_mostOf 46 = .ok (.bipush 9, 2) := by decide +kernel
theorem dX11_mostOf_48 : decode cX11_mostOf 48 = .ok (.ireturn, 1) := by decide +kernel
theorem dX11_leastOf_0 : decode cX11_leastOf 0 = .ok (.iload_n 0, 1) := by decide +kernel
theorem dX11_leastOf_1 : decode cX11_leastOf 1 = .ok (.bipush 100, 2) := by decide +kernel
theorem dX11_leastOf_3 : decode cX11_leastOf 3 = .ok (.if_icmp .ne 12, 3) := by decide +kernel
theorem dX11_leastOf_6 : decode cX11_leastOf 6 = .ok (.iload_n 1, 1) := by decide +kernel
theorem dX11_leastOf_7 : decode cX11_leastOf 7 = .ok (.iconst 1, 1) := by decide +kernel
theorem dX11_leastOf_8 : decode cX11_leastOf 8 = .ok (.if_icmp .eq 7, 3) := by decide +kernel
theorem dX11_leastOf_11 : decode cX11_leastOf 11 = .ok (.iconst 1, 1) := by decide +kernel
theorem dX11_leastOf_12 : decode cX11_leastOf 12 = .ok (.goto 4, 3) := by decide +kernel
theorem dX11_leastOf_15 : decode cX11_leastOf 15 = .ok (.iconst 0, 1) := by decide +kernel
theorem dX11_leastOf_16 : decode cX11_leastOf 16 = .ok (.ireturn, 1) := by decide +kernel
theorem dX11_usual_0 : decode cX11_usual 0 = .ok (.iload_n 0, 1) := by decide +kernel
theorem dX11_usual_1 : decode cX11_usual 1 = .ok (.bipush 115, 2) := by decide +kernel
theorem dX11_usual_3 : decode cX11_usual 3 = .ok (.if_icmp .ne 14, 3) := by decide +kernel
theorem dX11_usual_6 : decode cX11_usual 6 = .ok (.iload_n 1, 1) := by decide +kernel
theorem dX11_usual_7 : decode cX11_usual 7 = .ok (.ifCond .ne 7, 3) := by decide +kernel
theorem dX11_usual_10 : decode cX11_usual 10 = .ok (.iconst 1, 1) := by decide +kernel
theorem dX11_usual_11 : decode cX11_usual 11 = .ok (.goto 5, 3) := by decide +kernel
theorem dX11_usual_14 : decode cX11_usual 14 = .ok (.bipush 20, 2) := by decide +kernel
theorem dX11_usual_16 : decode cX11_usual 16 = .ok (.ireturn, 1) := by decide +kernel
theorem dX11_usual_17 : decode cX11_usual 17 = .ok (.iload_n 0, 1) := by decide +kernel
theorem dX11_usual_18 : decode cX11_usual 18 = .ok (.bipush 112, 2) := by decide +kernel
theorem dX11_usual_20 : decode cX11_usual 20 = .ok (.if_icmp .ne 14, 3) := by decide +kernel
theorem dX11_usual_23 : decode cX11_usual 23 = .ok (.iload_n 1, 1) := by decide +kernel
theorem dX11_usual_24 : decode cX11_usual 24 = .ok (.iconst 1, 1) := by decide +kernel
theorem dX11_usual_25 : decode cX11_usual 25 = .ok (.if_icmp .ne 7, 3) := by decide +kernel
theorem dX11_usual_28 : decode cX11_usual 28 = .ok (.iconst 3, 1) := by decide +kernel
theorem dX11_usual_29 : decode cX11_usual 29 = .ok (.goto 4, 3) := by decide +kernel
theorem dX11_usual_32 : decode cX11_usual 32 = .ok (.iconst 0, 1) := by decide +kernel
theorem dX11_usual_33 : decode cX11_usual 33 = .ok (.ireturn, 1) := by decide +kernel
theorem dX11_usual_34 : decode cX11_usual 34 = .ok (.iload_n 1, 1) := by decide +kernel
theorem dX11_usual_35 : decode cX11_usual 35 = .ok (.ifCond .ne 7, 3) := by decide +kernel
theorem dX11_usual_38 : decode cX11_usual 38 = .ok (.iconst 3, 1) := by decide +kernel
theorem dX11_usual_39 : decode cX11_usual 39 = .ok (.goto 13, 3) := by decide +kernel
theorem dX11_usual_42 : decode cX11_usual 42 = .ok (.iload_n 1, 1) := by decide +kernel
theorem dX11_usual_43 : decode cX11_usual 43 = .ok (.iconst 1, 1) := by decide +kernel
theorem dX11_usual_44 : decode cX11_usual 44 = .ok (.if_icmp .ne 7, 3) := by decide +kernel
theorem dX11_usual_47 : decode cX11_usual 47 = .ok (.iconst 2, 1) := by decide +kernel
theorem dX11_usual_48 : decode cX11_usual 48 = .ok (.goto 4, 3) := by decide +kernel
theorem dX11_usual_51 : decode cX11_usual 51 = .ok (.iconst 5, 1) := by decide +kernel
theorem dX11_usual_52 : decode cX11_usual 52 = .ok (.ireturn, 1) := by decide +kernel
theorem dX11_readItems_0 : decode cX11_readItems 0 = .ok (.iconst 0, 1) := by decide +kernel
theorem dX11_readItems_1 : decode cX11_readItems 1 = .ok (.istore 5, 2) := by decide +kernel
theorem dX11_readItems_3 : decode cX11_readItems 3 = .ok (.iload 5, 2) := by decide +kernel
theorem dX11_readItems_5 : decode cX11_readItems 5 = .ok (.aload 4, 2) := by decide +kernel
theorem dX11_readItems_7 : decode cX11_readItems 7 = .ok (.invokevirtual 93, 3) := by decide +kernel
theorem dX11_readItems_10 : decode cX11_readItems 10 = .ok (.if_icmp .ge 21, 3) := by decide +kernel
theorem dX11_readItems_13 : decode cX11_readItems 13 = .ok (.aload_n 2, 1) := by decide +kernel
theorem dX11_readItems_14 : decode cX11_readItems 14 = .ok (.iload_n 3, 1) := by decide +kernel
theorem dX11_readItems_15 : decode cX11_readItems 15 = .ok (.iload 5, 2) := by decide +kernel
theorem dX11_readItems_17 : decode cX11_readItems 17 = .ok (.iadd, 1) := by decide +kernel
theorem dX11_readItems_18 : decode cX11_readItems 18 = .ok (.iload_n 1, 1) := by decide +kernel
theorem dX11_readItems_19 : decode cX11_readItems 19 = .ok (.iload 5, 2) := by decide +kernel
theorem dX11_readItems_21 : decode cX11_readItems 21 = .ok (.invokestatic 215, 3) := by decide +kernel
theorem dX11_readItems_24 : decode cX11_readItems 24 = .ok (.iastore, 1) := by decide +kernel
theorem dX11_readItems_25 : decode cX11_readItems 25 = .ok (.iinc 5 1, 3) := by decide +kernel
theorem dX11_readItems_28 : decode cX11_readItems 28 = .ok (.goto (-25), 3) := by decide +kernel
theorem dX11_readItems_31 : decode cX11_readItems 31 = .ok (.iconst 0, 1) := by decide +kernel
theorem dX11_readItems_32 : decode cX11_readItems 32 = .ok (.istore 5, 2) := by decide +kernel
theorem dX11_readItems_34 : decode cX11_readItems 34 = .ok (.aload 4, 2) := by decide +kernel
theorem dX11_readItems_36 : decode cX11_readItems 36 = .ok (.aload_n 0, 1) := by decide +kernel
theorem dX11_readItems_37 : decode cX11_readItems 37 = .ok (.invokevirtual 132, 3) := by decide +kernel
theorem dX11_readItems_40 : decode cX11_readItems 40 = .ok (.invokestatic 219, 3) := by decide +kernel
theorem dX11_readItems_43 : decode cX11_readItems 43 = .ok (.istore 6, 2) := by decide +kernel
theorem dX11_readItems_45 : decode cX11_readItems 45 = .ok (.iload 6, 2) := by decide +kernel
theorem dX11_readItems_47 : decode cX11_readItems 47 = .ok (.iconst (-1), 1) := by decide +kernel
theorem dX11_readItems_48 : decode cX11_readItems 48 = .ok (.if_icmp .eq 90, 3) := by decide +kernel
theorem dX11_readItems_51 : decode cX11_readItems 51 = .ok (.aload_n 0, 1) := by decide +kernel
theorem dX11_readItems_52 : decode cX11_readItems 52 = .ok (.getfield 122, 3) := by decide +kernel
theorem dX11_readItems_55 : decode cX11_readItems 55 = .ok (.iconst (-1), 1) := by decide +kernel
theorem dX11_readItems_56 : decode cX11_readItems 56 = .ok (.if_icmp .ne 82, 3) := by decide +kernel
theorem dX11_readItems_59 : decode cX11_readItems 59 = .ok (.iload 5, 2) := by decide +kernel
theorem dX11_readItems_61 : decode cX11_readItems 61 = .ok (.iload 6, 2) := by decide +kernel
theorem dX11_readItems_63 : decode cX11_readItems 63 = .ok (.invokestatic 223, 3) := by decide +kernel
theorem dX11_readItems_66 : decode cX11_readItems 66 = .ok (.ifCond .eq 9, 3) := by decide +kernel
theorem dX11_readItems_69 : decode cX11_readItems 69 = .ok (.aload_n 0, 1) := by decide +kernel
theorem dX11_readItems_70 : decode cX11_readItems 70 = .ok (.invokevirtual 128, 3) := by decide +kernel
theorem dX11_readItems_73 : decode cX11_readItems 73 = .ok (.pop, 1) := by decide +kernel
theorem dX11_readItems_74 : decode cX11_readItems 74 = .ok (.return_, 1) := by decide +kernel
theorem dX11_readItems_75 : decode cX11_readItems 75 = .ok (.iload 5, 2) := by decide +kernel
theorem dX11_readItems_77 : decode cX11_readItems 77 = .ok (.iconst 1, 1) := by decide +kernel
theorem dX11_readItems_78 : decode cX11_readItems 78 = .ok (.iload 6, 2) := by decide +kernel
theorem dX11_readItems_80 : decode cX11_readItems 80 = .ok (.ishl, 1) := by decide +kernel
theorem dX11_readItems_81 : decode cX11_readItems 81 = .ok (.ior, 1) := by decide +kernel
theorem dX11_readItems_82 : decode cX11_readItems 82 = .ok (.istore 5, 2) := by decide +kernel
theorem dX11_readItems_84 : decode cX11_readItems 84 = .ok (.aload_n 0, 1) := by decide +kernel
theorem dX11_readItems_85 : decode cX11_readItems 85 = .ok (.dup, 1) := by decide +kernel
theorem dX11_readItems_86 : decode cX11_readItems 86 = .ok (.getfield 113, 3) := by decide +kernel
theorem dX11_readItems_89 : decode cX11_readItems 89 = .ok (.iconst 1, 1) := by decide +kernel
theorem dX11_readItems_90 : decode cX11_readItems 90 = .ok (.iadd, 1) := by decide +kernel
theorem dX11_readItems_91 : decode cX11_readItems 91 = .ok (.putfield 113, 3) := by decide +kernel
theorem dX11_readItems_94 : decode cX11_readItems 94 = .ok (.aload_n 2, 1) := by decide +kernel
theorem dX11_readItems_95 : decode cX11_readItems 95 = .ok (.iload_n 3, 1) := by decide +kernel
theorem dX11_readItems_96 : decode cX11_readItems 96 = .ok (.iload 6, 2) := by decide +kernel
theorem dX11_readItems_98 : decode cX11_readItems 98 = .ok (.iadd, 1) := by decide +kernel
theorem dX11_readItems_99 : decode cX11_readItems 99 = .ok (.aload_n 0, 1) := by decide +kernel
theorem dX11_readItems_100 : decode cX11_readItems 100 = .ok (.iload_n 1, 1) := by decide +kernel
theorem dX11_readItems_101 : decode cX11_readItems 101 = .ok (.iload 6, 2) := by decide +kernel
theorem dX11_readItems_103 : decode cX11_readItems 103 = .ok (.invokestatic 227, 3) := by decide +kernel
theorem dX11_readItems_106 : decode cX11_readItems 106 = .ok (.iload_n 1, 1) := by decide +kernel
theorem dX11_readItems_107 : decode cX11_readItems 107 = .ok (.iload 6, 2) := by decide +kernel
theorem dX11_readItems_109 : decode cX11_readItems 109 = .ok (.invokestatic 230, 3) := by decide +kernel
theorem dX11_readItems_112 : decode cX11_readItems 112 = .ok (.invokevirtual 233, 3) := by decide +kernel
theorem dX11_readItems_115 : decode cX11_readItems 115 = .ok (.iastore, 1) := by decide +kernel
theorem dX11_readItems_116 : decode cX11_readItems 116 = .ok (.aload_n 0, 1) := by decide +kernel
theorem dX11_readItems_117 : decode cX11_readItems 117 = .ok (.getfield 122, 3) := by decide +kernel
theorem dX11_readItems_120 : decode cX11_readItems 120 = .ok (.iconst (-1), 1) := by decide +kernel
theorem dX11_readItems_121 : decode cX11_readItems 121 = .ok (.if_icmp .ne (-76), 3) := by decide +kernel
theorem dX11_readItems_124 : decode cX11_readItems 124 = .ok (.aload 4, 2) := by decide +kernel
theorem dX11_readItems_126 : decode cX11_readItems 126 = .ok (.aload_n 0, 1) := by decide +kernel
theorem dX11_readItems_127 : decode cX11_readItems 127 = .ok (.invokevirtual 132, 3) := by decide +kernel
theorem dX11_readItems_130 : decode cX11_readItems 130 = .ok (.invokestatic 219, 3) := by decide +kernel
theorem dX11_readItems_133 : decode cX11_readItems 133 = .ok (.istore 6, 2) := by decide +kernel
theorem dX11_readItems_135 : decode cX11_readItems 135 = .ok (.goto (-90), 3) := by decide +kernel
theorem dX11_readItems_138 : decode cX11_readItems 138 = .ok (.return_, 1) := by decide +kernel
theorem dX11_readClause_0 : decode cX11_readClause 0 = .ok (.aload_n 0, 1) := by decide +kernel
theorem dX11_readClause_1 : decode cX11_readClause 1 = .ok (.invokevirtual 132, 3) := by decide +kernel
theorem dX11_readClause_4 : decode cX11_readClause 4 = .ok (.istore_n 1, 1) := by decide +kernel
theorem dX11_readClause_5 : decode cX11_readClause 5 = .ok (.iload_n 1, 1) := by decide +kernel
theorem dX11_readClause_6 : decode cX11_readClause 6 = .ok (.bipush 115, 2) := by decide +kernel
theorem dX11_readClause_8 : decode cX11_readClause 8 = .ok (.if_icmp .ne 10, 3) := by decide +kernel
theorem dX11_readClause_11 : decode cX11_readClause 11 = .ok (.aload_n 0, 1) := by decide +kernel
theorem dX11_readClause_12 : decode cX11_readClause 12 = .ok (.getfield 236, 3) := by decide +kernel
theorem dX11_readClause_15 : decode cX11_readClause 15 = .ok (.ifCond .eq 33, 3) := by decide +kernel
theorem dX11_readClause_18 : decode cX11_readClause 18 = .ok (.iload_n 1, 1) := by decide +kernel
theorem dX11_readClause_19 : decode cX11_readClause 19 = .ok (.bipush 112, 2) := by decide +kernel
theorem dX11_readClause_21 : decode cX11_readClause 21 = .ok (.if_icmp .ne 12, 3) := by decide +kernel
theorem dX11_readClause_24 : decode cX11_readClause 24 = .ok (.aload_n 0, 1) := by decide +kernel
theorem dX11_readClause_25 : decode cX11_readClause 25 = .ok (.getfield 239, 3) := by decide +kernel
theorem dX11_readClause_28 : decode cX11_readClause 28 = .ok (.bipush 6, 2) := by decide +kernel
theorem dX11_readClause_30 : decode cX11_readClause 30 = .ok (.if_icmp .lt 18, 3) := by decide +kernel
theorem dX11_readClause_33 : decode cX11_readClause 33 = .ok (.iload_n 1, 1) := by decide +kernel
theorem dX11_readClause_34 : decode cX11_readClause 34 = .ok (.bipush 100, 2) := by decide +kernel
theorem dX11_readClause_36 : decode cX11_readClause 36 = .ok (.if_icmp .ne 16, 3) := by decide +kernel
theorem dX11_readClause_39 : decode cX11_readClause 39 = .ok (.aload_n 0, 1) := by decide +kernel
theorem dX11_readClause_40 : decode cX11_readClause 40 = .ok (.getfield 242, 3) := by decide +kernel
theorem dX11_readClause_43 : decode cX11_readClause 43 = .ok (.bipush 8, 2) := by decide +kernel
theorem dX11_readClause_45 : decode cX11_readClause 45 = .ok (.if_icmp .ge 7, 3) := by decide +kernel
theorem dX11_readClause_48 : decode cX11_readClause 48 = .ok (.iconst 1, 1) := by decide +kernel
theorem dX11_readClause_49 : decode cX11_readClause 49 = .ok (.goto 4, 3) := by decide +kernel
theorem dX11_readClause_52 : decode cX11_readClause 52 = .ok (.iconst 0, 1) := by decide +kernel
theorem dX11_readClause_53 : decode cX11_readClause 53 = .ok (.istore_n 2, 1) := by decide +kernel
theorem dX11_readClause_54 : decode cX11_readClause 54 = .ok (.iload_n 2, 1) := by decide +kernel
theorem dX11_readClause_55 : decode cX11_readClause 55 = .ok (.ifCond .ne 9, 3) := by decide +kernel
theorem dX11_readClause_58 : decode cX11_readClause 58 = .ok (.aload_n 0, 1) := by decide +kernel
theorem dX11_readClause_59 : decode cX11_readClause 59 = .ok (.invokevirtual 128, 3) := by decide +kernel
theorem dX11_readClause_62 : decode cX11_readClause 62 = .ok (.pop, 1) := by decide +kernel
theorem dX11_readClause_63 : decode cX11_readClause 63 = .ok (.return_, 1) := by decide +kernel
theorem dX11_readClause_64 : decode cX11_readClause 64 = .ok (.aload_n 0, 1) := by decide +kernel
theorem dX11_readClause_65 : decode cX11_readClause 65 = .ok (.dup, 1) := by decide +kernel
theorem dX11_readClause_66 : decode cX11_readClause 66 = .ok (.getfield 113, 3) := by decide +kernel
theorem dX11_readClause_69 : decode cX11_readClause 69 = .ok (.iconst 1, 1) := by decide +kernel
theorem dX11_readClause_70 : decode cX11_readClause 70 = .ok (.iadd, 1) := by decide +kernel
theorem dX11_readClause_71 : decode cX11_readClause 71 = .ok (.putfield 113, 3) := by decide +kernel
theorem dX11_readClause_74 : decode cX11_readClause 74 = .ok (.iload_n 1, 1) := by decide +kernel
theorem dX11_readClause_75 : decode cX11_readClause 75 = .ok (.bipush 115, 2) := by decide +kernel
theorem dX11_readClause_77 : decode cX11_readClause 77 = .ok (.if_icmp .ne 23, 3) := by decide +kernel
theorem dX11_readClause_80 : decode cX11_readClause 80 = .ok (.aload_n 0, 1) := by decide +kernel
theorem dX11_readClause_81 : decode cX11_readClause 81 = .ok (.iconst 1, 1) := by decide +kernel
theorem dX11_readClause_82 : decode cX11_readClause 82 = .ok (.putfield 236, 3) := by decide +kernel
theorem dX11_readClause_85 : decode cX11_readClause 85 = .ok (.aload_n 0, 1) := by decide +kernel
theorem dX11_readClause_86 : decode cX11_readClause 86 = .ok (.iload_n 1, 1) := by decide +kernel
theorem dX11_readClause_87 : decode cX11_readClause 87 = .ok (.aload_n 0, 1) := by decide +kernel
theorem dX11_readClause_88 : decode cX11_readClause 88 = .ok (.getfield 40, 3) := by decide +kernel
theorem dX11_readClause_91 : decode cX11_readClause 91 = .ok (.iconst 0, 1) := by decide +kernel
theorem dX11_readClause_92 : decode cX11_readClause 92 = .ok (.ldc 245, 2) := by decide +kernel
theorem dX11_readClause_94 : decode cX11_readClause 94 = .ok (.invokevirtual 247, 3) := by decide +kernel
theorem dX11_readClause_97 : decode cX11_readClause 97 = .ok (.goto 70, 3) := by decide +kernel
theorem dX11_readClause_100 : decode cX11_readClause 100 = .ok (.iload_n 1, 1) := by decide +kernel
theorem dX11_readClause_101 : decode cX11_readClause 101 = .ok (.bipush 112, 2) := by decide +kernel
theorem dX11_readClause_103 : decode cX11_readClause 103 = .ok (.if_icmp .ne 35, 3) := by decide +kernel
theorem dX11_readClause_106 : decode cX11_readClause 106 = .ok (.aload_n 0, 1) := by decide +kernel
theorem dX11_readClause_107 : decode cX11_readClause 107 = .ok (.dup, 1) := by decide +kernel
theorem dX11_readClause_108 : decode cX11_readClause 108 = .ok (.getfield 239, 3) := by decide +kernel
theorem dX11_readClause_111 : decode cX11_readClause 111 = .ok (.iconst 1, 1) := by decide +kernel
theorem dX11_readClause_112 : decode cX11_readClause 112 = .ok (.iadd, 1) := by decide +kernel
theorem dX11_readClause_113 : decode cX11_readClause 113 = .ok (.putfield 239, 3) := by decide +kernel
theorem dX11_readClause_116 : decode cX11_readClause 116 = .ok (.aload_n 0, 1) := by decide +kernel
theorem dX11_readClause_117 : decode cX11_readClause 117 = .ok (.iload_n 1, 1) := by decide +kernel
theorem dX11_readClause_118 : decode cX11_readClause 118 = .ok (.aload_n 0, 1) := by decide +kernel
theorem dX11_readClause_119 : decode cX11_readClause 119 = .ok (.getfield 46, 3) := by decide +kernel
theorem dX11_readClause_122 : decode cX11_readClause 122 = .ok (.iconst 3, 1) := by decide +kernel
theorem dX11_readClause_123 : decode cX11_readClause 123 = .ok (.aload_n 0, 1) := by decide +kernel
theorem dX11_readClause_124 : decode cX11_readClause 124 = .ok (.getfield 239, 3) := by decide +kernel
theorem dX11_readClause_127 : decode cX11_readClause 127 = .ok (.iconst 1, 1) := by decide +kernel
theorem dX11_readClause_128 : decode cX11_readClause 128 = .ok (.isub, 1) := by decide +kernel
theorem dX11_readClause_129 : decode cX11_readClause 129 = .ok (.imul, 1) := by decide +kernel
theorem dX11_readClause_130 : decode cX11_readClause 130 = .ok (.ldc 251, 2) := by decide +kernel
theorem dX11_readClause_132 : decode cX11_readClause 132 = .ok (.invokevirtual 247, 3) := by decide +kernel
theorem dX11_readClause_135 : decode cX11_readClause 135 = .ok (.goto 32, 3) := by decide +kernel
theorem dX11_readClause_138 : decode cX11_readClause 138 = .ok (.aload_n 0, 1) := by decide +kernel
theorem dX11_readClause_139 : decode cX11_readClause 139 = .ok (.dup, 1) := by decide +kernel
theorem dX11_readClause_140 : decode cX11_readClause 140 = .ok (.getfield 242, 3) := by decide +kernel
theorem dX11_readClause_143 : decode cX11_readClause 143 = .ok (.iconst 1, 1) := by decide +kernel
theorem dX11_readClause_144 : decode cX11_readClause 144 = .ok (.iadd, 1) := by decide +kernel
theorem dX11_readClause_145 : decode cX11_readClause 145 = .ok (.putfield 242, 3) := by decide +kernel
theorem dX11_readClause_148 : decode cX11_readClause 148 = .ok (.aload_n 0, 1) := by decide +kernel
theorem dX11_readClause_149 : decode cX11_readClause 149 = .ok (.iload_n 1, 1) := by decide +kernel
theorem dX11_readClause_150 : decode cX11_readClause 150 = .ok (.aload_n 0, 1) := by decide +kernel
theorem dX11_readClause_151 : decode cX11_readClause 151 = .ok (.getfield 52, 3) := by decide +kernel
theorem dX11_readClause_154 : decode cX11_readClause 154 = .ok (.iconst 3, 1) := by decide +kernel
theorem dX11_readClause_155 : decode cX11_readClause 155 = .ok (.aload_n 0, 1) := by decide +kernel
theorem dX11_readClause_156 : decode cX11_readClause 156 = .ok (.getfield 242, 3) := by decide +kernel
theorem dX11_readClause_159 : decode cX11_readClause 159 = .ok (.iconst 1, 1) := by decide +kernel
theorem dX11_readClause_160 : decode cX11_readClause 160 = .ok (.isub, 1) := by decide +kernel
theorem dX11_readClause_161 : decode cX11_readClause 161 = .ok (.imul, 1) := by decide +kernel
theorem dX11_readClause_162 : decode cX11_readClause 162 = .ok (.ldc 253, 2) := by decide +kernel
theorem dX11_readClause_164 : decode cX11_readClause 164 = .ok (.invokevirtual 247, 3) := by decide +kernel
theorem dX11_readClause_167 : decode cX11_readClause 167 = .ok (.return_, 1) := by decide +kernel
theorem dX11_readTown_0 : decode cX11_readTown 0 = .ok (.aload_n 0, 1) := by decide +kernel
theorem dX11_readTown_1 : decode cX11_readTown 1 = .ok (.aload_n 0, 1) := by decide +kernel
theorem dX11_readTown_2 : decode cX11_readTown 2 = .ok (.getfield 9, 3) := by decide +kernel
theorem dX11_readTown_5 : decode cX11_readTown 5 = .ok (.iconst 0, 1) := by decide +kernel
theorem dX11_readTown_6 : decode cX11_readTown 6 = .ok (.aload_n 0, 1) := by decide +kernel
theorem dX11_readTown_7 : decode cX11_readTown 7 = .ok (.getfield 103, 3) := by decide +kernel
theorem dX11_readTown_10 : decode cX11_readTown 10 = .ok (.invokevirtual 201, 3) := by decide +kernel
theorem dX11_readTown_13 : decode cX11_readTown 13 = .ok (.aload_n 0, 1) := by decide +kernel
theorem dX11_readTown_14 : decode cX11_readTown 14 = .ok (.iconst 0, 1) := by decide +kernel
theorem dX11_readTown_15 : decode cX11_readTown 15 = .ok (.putfield 239, 3) := by decide +kernel
theorem dX11_readTown_18 : decode cX11_readTown 18 = .ok (.aload_n 0, 1) := by decide +kernel
theorem dX11_readTown_19 : decode cX11_readTown 19 = .ok (.iconst 0, 1) := by decide +kernel
theorem dX11_readTown_20 : decode cX11_readTown 20 = .ok (.putfield 242, 3) := by decide +kernel
theorem dX11_readTown_23 : decode cX11_readTown 23 = .ok (.aload_n 0, 1) := by decide +kernel
theorem dX11_readTown_24 : decode cX11_readTown 24 = .ok (.iconst 0, 1) := by decide +kernel
theorem dX11_readTown_25 : decode cX11_readTown 25 = .ok (.putfield 236, 3) := by decide +kernel
theorem dX11_readTown_28 : decode cX11_readTown 28 = .ok (.iconst 0, 1) := by decide +kernel
theorem dX11_readTown_29 : decode cX11_readTown 29 = .ok (.istore_n 1, 1) := by decide +kernel
theorem dX11_readTown_30 : decode cX11_readTown 30 = .ok (.iload_n 1, 1) := by decide +kernel
theorem dX11_readTown_31 : decode cX11_readTown 31 = .ok (.iconst 2, 1) := by decide +kernel
theorem dX11_readTown_32 : decode cX11_readTown 32 = .ok (.if_icmp .ge 21, 3) := by decide +kernel
theorem dX11_readTown_35 : decode cX11_readTown 35 = .ok (.aload_n 0, 1) := by decide +kernel
theorem dX11_readTown_36 : decode cX11_readTown 36 = .ok (.getfield 40, 3) := by decide +kernel
theorem dX11_readTown_39 : decode cX11_readTown 39 = .ok (.iload_n 1, 1) := by decide +kernel
theorem dX11_readTown_40 : decode cX11_readTown 40 = .ok (.bipush 115, 2) := by decide +kernel
theorem dX11_readTown_42 : decode cX11_readTown 42 = .ok (.iload_n 1, 1) := by decide +kernel
theorem dX11_readTown_43 : decode cX11_readTown 43 = .ok (.invokestatic 215, 3) := by decide +kernel
theorem dX11_readTown_46 : decode cX11_readTown 46 = .ok (.iastore, 1) := by decide +kernel
theorem dX11_readTown_47 : decode cX11_readTown 47 = .ok (.iinc 1 1, 3) := by decide +kernel
theorem dX11_readTown_50 : decode cX11_readTown 50 = .ok (.goto (-20), 3) := by decide +kernel
theorem dX11_readTown_53 : decode cX11_readTown 53 = .ok (.iconst 1, 1) := by decide +kernel
theorem dX11_readTown_54 : decode cX11_readTown 54 = .ok (.istore_n 1, 1) := by decide +kernel
theorem dX11_readTown_55 : decode cX11_readTown 55 = .ok (.iload_n 1, 1) := by decide +kernel
theorem dX11_readTown_56 : decode cX11_readTown 56 = .ok (.ifCond .eq 55, 3) := by decide +kernel
theorem dX11_readTown_59 : decode cX11_readTown 59 = .ok (.aload_n 0, 1) := by decide +kernel
theorem dX11_readTown_60 : decode cX11_readTown 60 = .ok (.getfield 122, 3) := by decide +kernel
theorem dX11_readTown_63 : decode cX11_readTown 63 = .ok (.iconst (-1), 1) := by decide +kernel
theorem dX11_readTown_64 : decode cX11_readTown 64 = .ok (.if_icmp .ne 47, 3) := by decide +kernel
theorem dX11_readTown_67 : decode cX11_readTown 67 = .ok (.aload_n 0, 1) := by decide +kernel
theorem dX11_readTown_68 : decode cX11_readTown 68 = .ok (.invokevirtual 255, 3) := by decide +kernel
theorem dX11_readTown_71 : decode cX11_readTown 71 = .ok (.aload_n 0, 1) := by decide +kernel
theorem dX11_readTown_72 : decode cX11_readTown 72 = .ok (.getfield 122, 3) := by decide +kernel
theorem dX11_readTown_75 : decode cX11_readTown 75 = .ok (.iconst (-1), 1) := by decide +kernel
theorem dX11_readTown_76 : decode cX11_readTown 76 = .ok (.if_icmp .ne 16, 3) := by decide +kernel
theorem dX11_readTown_79 : decode cX11_readTown 79 = .ok (.aload_n 0, 1) := by decide +kernel
theorem dX11_readTown_80 : decode cX11_readTown 80 = .ok (.invokevirtual 132, 3) := by decide +kernel
theorem dX11_readTown_83 : decode cX11_readTown 83 = .ok (.bipush 59, 2) := by decide +kernel
theorem dX11_readTown_85 : decode cX11_readTown 85 = .ok (.if_icmp .ne 7, 3) := by decide +kernel
theorem dX11_readTown_88 : decode cX11_readTown 88 = .ok (.iconst 1, 1) := by decide +kernel
theorem dX11_readTown_89 : decode cX11_readTown 89 = .ok (.goto 4, 3) := by decide +kernel
theorem dX11_readTown_92 : decode cX11_readTown 92 = .ok (.iconst 0, 1) := by decide +kernel
theorem dX11_readTown_93 : decode cX11_readTown 93 = .ok (.istore_n 1, 1) := by decide +kernel
theorem dX11_readTown_94 : decode cX11_readTown 94 = .ok (.iload_n 1, 1) := by decide +kernel
theorem dX11_readTown_95 : decode cX11_readTown 95 = .ok (.ifCond .eq (-40), 3) := by decide +kernel
theorem dX11_readTown_98 : decode cX11_readTown 98 = .ok (.aload_n 0, 1) := by decide +kernel
theorem dX11_readTown_99 : decode cX11_readTown 99 = .ok (.dup, 1) := by decide +kernel
theorem dX11_readTown_100 : decode cX11_readTown 100 = .ok (.getfield 113, 3) := by decide +kernel
theorem dX11_readTown_103 : decode cX11_readTown 103 = .ok (.iconst 1, 1) := by decide +kernel
theorem dX11_readTown_104 : decode cX11_readTown 104 = .ok (.iadd, 1) := by decide +kernel
theorem dX11_readTown_105 : decode cX11_readTown 105 = .ok (.putfield 113, 3) := by decide +kernel
theorem dX11_readTown_108 : decode cX11_readTown 108 = .ok (.goto (-53), 3) := by decide +kernel
theorem dX11_readTown_111 : decode cX11_readTown 111 = .ok (.aload_n 0, 1) := by decide +kernel
theorem dX11_readTown_112 : decode cX11_readTown 112 = .ok (.getfield 122, 3) := by decide +kernel
theorem dX11_readTown_115 : decode cX11_readTown 115 = .ok (.iconst (-1), 1) := by decide +kernel
theorem dX11_readTown_116 : decode cX11_readTown 116 = .ok (.if_icmp .ne 30, 3) := by decide +kernel
theorem dX11_readTown_119 : decode cX11_readTown 119 = .ok (.aload_n 0, 1) := by decide +kernel
theorem dX11_readTown_120 : decode cX11_readTown 120 = .ok (.invokevirtual 132, 3) := by decide +kernel
theorem dX11_readTown_123 : decode cX11_readTown 123 = .ok (.iconst (-1), 1) := by decide +kernel
theorem dX11_readTown_124 : decode cX11_readTown 124 = .ok (.if_icmp .ne 17, 3) := by decide +kernel
theorem dX11_readTown_127 : decode cX11_readTown 127 = .ok (.aload_n 0, 1) := by decide +kernel
theorem dX11_readTown_128 : decode cX11_readTown 128 = .ok (.getfield 239, 3) := by decide +kernel
theorem dX11_readTown_131 : decode cX11_readTown 131 = .ok (.ifCond .eq 10, 3) := by decide +kernel
theorem dX11_readTown_134 : decode cX11_readTown 134 = .ok (.aload_n 0, 1) := by decide +kernel
theorem dX11_readTown_135 : decode cX11_readTown 135 = .ok (.getfield 242, 3) := by decide +kernel
theorem dX11_readTown_138 : decode cX11_readTown 138 = .ok (.ifCond .ne 8, 3) := by decide +kernel
theorem dX11_readTown_141 : decode cX11_readTown 141 = .ok (.aload_n 0, 1) := by decide +kernel
theorem dX11_readTown_142 : decode cX11_readTown 142 = .ok (.invokevirtual 128, 3) := by decide +kernel
theorem dX11_readTown_145 : decode cX11_readTown 145 = .ok (.pop, 1) := by decide +kernel
theorem dX11_readTown_146 : decode cX11_readTown 146 = .ok (.return_, 1) := by decide +kernel
theorem dX11_digit_0 : decode cX11_digit 0 = .ok (.aload_n 0, 1) := by decide +kernel
theorem dX11_digit_1 : decode cX11_digit 1 = .ok (.invokevirtual 132, 3) := by decide +kernel
theorem dX11_digit_4 : decode cX11_digit 4 = .ok (.istore_n 1, 1) := by decide +kernel
theorem dX11_digit_5 : decode cX11_digit 5 = .ok (.aload_n 0, 1) := by decide +kernel
theorem dX11_digit_6 : decode cX11_digit 6 = .ok (.invokevirtual 162, 3) := by decide +kernel
theorem dX11_digit_9 : decode cX11_digit 9 = .ok (.ifCond .ne 10, 3) := by decide +kernel
theorem dX11_digit_12 : decode cX11_digit 12 = .ok (.aload_n 0, 1) := by decide +kernel
theorem dX11_digit_13 : decode cX11_digit 13 = .ok (.invokevirtual 128, 3) := by decide +kernel
theorem dX11_digit_16 : decode cX11_digit 16 = .ok (.pop, 1) := by decide +kernel
theorem dX11_digit_17 : decode cX11_digit 17 = .ok (.iconst 0, 1) := by decide +kernel
theorem dX11_digit_18 : decode cX11_digit 18 = .ok (.ireturn, 1) := by decide +kernel
theorem dX11_digit_19 : decode cX11_digit 19 = .ok (.aload_n 0, 1) := by decide +kernel
theorem dX11_digit_20 : decode cX11_digit 20 = .ok (.dup, 1) := by decide +kernel
theorem dX11_digit_21 : decode cX11_digit 21 = .ok (.getfield 113, 3) := by decide +kernel
theorem dX11_digit_24 : decode cX11_digit 24 = .ok (.iconst 1, 1) := by decide +kernel
theorem dX11_digit_25 : decode cX11_digit 25 = .ok (.iadd, 1) := by decide +kernel
theorem dX11_digit_26 : decode cX11_digit 26 = .ok (.putfield 113, 3) := by decide +kernel
theorem dX11_digit_29 : decode cX11_digit 29 = .ok (.iload_n 1, 1) := by decide +kernel
theorem dX11_digit_30 : decode cX11_digit 30 = .ok (.bipush 48, 2) := by decide +kernel
theorem dX11_digit_32 : decode cX11_digit 32 = .ok (.isub, 1) := by decide +kernel
theorem dX11_digit_33 : decode cX11_digit 33 = .ok (.ireturn, 1) := by decide +kernel
theorem dX11_readStep_0 : decode cX11_readStep 0 = .ok (.ldc_w 258, 3) := by decide +kernel
theorem dX11_readStep_3 : decode cX11_readStep 3 = .ok (.aload_n 0, 1) := by decide +kernel
theorem dX11_readStep_4 : decode cX11_readStep 4 = .ok (.invokevirtual 132, 3) := by decide +kernel
theorem dX11_readStep_7 : decode cX11_readStep 7 = .ok (.invokestatic 219, 3) := by decide +kernel
theorem dX11_readStep_10 : decode cX11_readStep 10 = .ok (.istore_n 2, 1) := by decide +kernel
theorem dX11_readStep_11 : decode cX11_readStep 11 = .ok (.iload_n 2, 1) := by decide +kernel
theorem dX11_readStep_12 : decode cX11_readStep 12 = .ok (.iconst (-1), 1) := by decide +kernel
theorem dX11_readStep_13 : decode cX11_readStep 13 = .ok (.if_icmp .ne 9, 3) := by decide +kernel
theorem dX11_readStep_16 : decode cX11_readStep 16 = .ok (.aload_n 0, 1) := by decide +kernel
theorem dX11_readStep_17 : decode cX11_readStep 17 = .ok (.invokevirtual 128, 3) := by decide +kernel
theorem dX11_readStep_20 : decode cX11_readStep 20 = .ok (.pop, 1) := by decide +kernel
theorem dX11_readStep_21 : decode cX11_readStep 21 = .ok (.return_, 1) := by decide +kernel
theorem dX11_readStep_22 : decode cX11_readStep 22 = .ok (.aload_n 0, 1) := by decide +kernel
theorem dX11_readStep_23 : decode cX11_readStep 23 = .ok (.dup, 1) := by decide +kernel
theorem dX11_readStep_24 : decode cX11_readStep 24 = .ok (.getfield 113, 3) := by decide +kernel
theorem dX11_readStep_27 : decode cX11_readStep 27 = .ok (.iconst 1, 1) := by decide +kernel
theorem dX11_readStep_28 : decode cX11_readStep 28 = .ok (.iadd, 1) := by decide +kernel
theorem dX11_readStep_29 : decode cX11_readStep 29 = .ok (.putfield 113, 3) := by decide +kernel
theorem dX11_readStep_32 : decode cX11_readStep 32 = .ok (.aload_n 0, 1) := by decide +kernel
theorem dX11_readStep_33 : decode cX11_readStep 33 = .ok (.getfield 55, 3) := by decide +kernel
theorem dX11_readStep_36 : decode cX11_readStep 36 = .ok (.iload_n 1, 1) := by decide +kernel
theorem dX11_readStep_37 : decode cX11_readStep 37 = .ok (.iload_n 2, 1) := by decide +kernel
theorem dX11_readStep_38 : decode cX11_readStep 38 = .ok (.iastore, 1) := by decide +kernel
theorem dX11_readStep_39 : decode cX11_readStep 39 = .ok (.aload_n 0, 1) := by decide +kernel
theorem dX11_readStep_40 : decode cX11_readStep 40 = .ok (.getfield 55, 3) := by decide +kernel
theorem dX11_readStep_43 : decode cX11_readStep 43 = .ok (.iload_n 1, 1) := by decide +kernel
theorem dX11_readStep_44 : decode cX11_readStep 44 = .ok (.iconst 1, 1) := by decide +kernel
theorem dX11_readStep_45 : decode cX11_readStep 45 = .ok (.iadd, 1) := by decide +kernel
theorem dX11_readStep_46 : decode cX11_readStep 46 = .ok (.iconst (-1), 1) := by decide +kernel
theorem dX11_readStep_47 : decode cX11_readStep 47 = .ok (.iastore, 1) := by decide +kernel
theorem dX11_readStep_48 : decode cX11_readStep 48 = .ok (.aload_n 0, 1) := by decide +kernel
theorem dX11_readStep_49 : decode cX11_readStep 49 = .ok (.getfield 55, 3) := by decide +kernel
theorem dX11_readStep_52 : decode cX11_readStep 52 = .ok (.iload_n 1, 1) := by decide +kernel
theorem dX11_readStep_53 : decode cX11_readStep 53 = .ok (.iconst 2, 1) := by decide +kernel
theorem dX11_readStep_54 : decode cX11_readStep 54 = .ok (.iadd, 1) := by decide +kernel
theorem dX11_readStep_55 : decode cX11_readStep 55 = .ok (.iconst (-1), 1) := by decide +kernel
theorem dX11_readStep_56 : decode cX11_readStep 56 = .ok (.iastore, 1) := by decide +kernel
theorem dX11_readStep_57 : decode cX11_readStep 57 = .ok (.iload_n 2, 1) := by decide +kernel
theorem dX11_readStep_58 : decode cX11_readStep 58 = .ok (.iconst 3, 1) := by decide +kernel
theorem dX11_readStep_59 : decode cX11_readStep 59 = .ok (.if_icmp .ne 4, 3) := by decide +kernel
theorem dX11_readStep_62 : decode cX11_readStep 62 = .ok (.return_, 1) := by decide +kernel
theorem dX11_readStep_63 : decode cX11_readStep 63 = .ok (.aload_n 0, 1) := by decide +kernel
theorem dX11_readStep_64 : decode cX11_readStep 64 = .ok (.getfield 55, 3) := by decide +kernel
theorem dX11_readStep_67 : decode cX11_readStep 67 = .ok (.iload_n 1, 1) := by decide +kernel
theorem dX11_readStep_68 : decode cX11_readStep 68 = .ok (.iconst 1, 1) := by decide +kernel
theorem dX11_readStep_69 : decode cX11_readStep 69 = .ok (.iadd, 1) := by decide +kernel
theorem dX11_readStep_70 : decode cX11_readStep 70 = .ok (.aload_n 0, 1) := by decide +kernel
theorem dX11_readStep_71 : decode cX11_readStep 71 = .ok (.invokevirtual 260, 3) := by decide +kernel
theorem dX11_readStep_74 : decode cX11_readStep 74 = .ok (.iastore, 1) := by decide +kernel
theorem dX11_readStep_75 : decode cX11_readStep 75 = .ok (.aload_n 0, 1) := by decide +kernel
theorem dX11_readStep_76 : decode cX11_readStep 76 = .ok (.getfield 122, 3) := by decide +kernel
theorem dX11_readStep_79 : decode cX11_readStep 79 = .ok (.iconst (-1), 1) := by decide +kernel
theorem dX11_readStep_80 : decode cX11_readStep 80 = .ok (.if_icmp .ne 20, 3) := by decide +kernel
theorem dX11_readStep_83 : decode cX11_readStep 83 = .ok (.iload_n 2, 1) := by decide +kernel
theorem dX11_readStep_84 : decode cX11_readStep 84 = .ok (.iconst 1, 1) := by decide +kernel
theorem dX11_readStep_85 : decode cX11_readStep 85 = .ok (.if_icmp .eq 15, 3) := by decide +kernel
theorem dX11_readStep_88 : decode cX11_readStep 88 = .ok (.aload_n 0, 1) := by decide +kernel
theorem dX11_readStep_89 : decode cX11_readStep 89 = .ok (.getfield 55, 3) := by decide +kernel
theorem dX11_readStep_92 : decode cX11_readStep 92 = .ok (.iload_n 1, 1) := by decide +kernel
theorem dX11_readStep_93 : decode cX11_readStep 93 = .ok (.iconst 2, 1) := by decide +kernel
theorem dX11_readStep_94 : decode cX11_readStep 94 = .ok (.iadd, 1) := by decide +kernel
theorem dX11_readStep_95 : decode cX11_readStep 95 = .ok (.aload_n 0, 1) := by decide +kernel
theorem dX11_readStep_96 : decode cX11_readStep 96 = .ok (.invokevirtual 260, 3) := by decide +kernel
theorem dX11_readStep_99 : decode cX11_readStep 99 = .ok (.iastore, 1) := by decide +kernel
theorem dX11_readStep_100 : decode cX11_readStep 100 = .ok (.return_, 1) := by decide +kernel
theorem dX11_readPlan_0 : decode cX11_readPlan 0 = .ok (.aload_n 0, 1) := by decide +kernel
theorem dX11_readPlan_1 : decode cX11_readPlan 1 = .ok (.aload_n 0, 1) := by decide +kernel
theorem dX11_readPlan_2 : decode cX11_readPlan 2 = .ok (.getfield 9, 3) := by decide +kernel
theorem dX11_readPlan_5 : decode cX11_readPlan 5 = .ok (.iconst 0, 1) := by decide +kernel
theorem dX11_readPlan_6 : decode cX11_readPlan 6 = .ok (.aload_n 0, 1) := by decide +kernel
theorem dX11_readPlan_7 : decode cX11_readPlan 7 = .ok (.getfield 103, 3) := by decide +kernel
theorem dX11_readPlan_10 : decode cX11_readPlan 10 = .ok (.invokevirtual 201, 3) := by decide +kernel
theorem dX11_readPlan_13 : decode cX11_readPlan 13 = .ok (.iconst 0, 1) := by decide +kernel
theorem dX11_readPlan_14 : decode cX11_readPlan 14 = .ok (.istore_n 1, 1) := by decide +kernel
theorem dX11_readPlan_15 : decode cX11_readPlan 15 = .ok (.iconst 1, 1) := by decide +kernel
theorem dX11_readPlan_16 : decode cX11_readPlan 16 = .ok (.istore_n 2, 1) := by decide +kernel
theorem dX11_readPlan_17 : decode cX11_readPlan 17 = .ok (.iload_n 2, 1) := by decide +kernel
theorem dX11_readPlan_18 : decode cX11_readPlan 18 = .ok (.ifCond .eq 73, 3) := by decide +kernel
theorem dX11_readPlan_21 : decode cX11_readPlan 21 = .ok (.aload_n 0, 1) := by decide +kernel
theorem dX11_readPlan_22 : decode cX11_readPlan 22 = .ok (.iconst 3, 1) := by decide +kernel
theorem dX11_readPlan_23 : decode cX11_readPlan 23 = .ok (.bipush 64, 2) := by decide +kernel
theorem dX11_readPlan_25 : decode cX11_readPlan 25 = .ok (.iload_n 1, 1) := by decide +kernel
theorem dX11_readPlan_26 : decode cX11_readPlan 26 = .ok (.iadd, 1) := by decide +kernel
theorem dX11_readPlan_27 : decode cX11_readPlan 27 = .ok (.imul, 1) := by decide +kernel
theorem dX11_readPlan_28 : decode cX11_readPlan 28 = .ok (.invokevirtual 263, 3) := by decide +kernel
theorem dX11_readPlan_31 : decode cX11_readPlan 31 = .ok (.aload_n 0, 1) := by decide +kernel
theorem dX11_readPlan_32 : decode cX11_readPlan 32 = .ok (.getfield 122, 3) := by decide +kernel
theorem dX11_readPlan_35 : decode cX11_readPlan 35 = .ok (.iconst (-1), 1) := by decide +kernel
theorem dX11_readPlan_36 : decode cX11_readPlan 36 = .ok (.if_icmp .eq 4, 3) := by decide +kernel
theorem dX11_readPlan_39 : decode cX11_readPlan 39 = .ok (.return_, 1) := by decide +kernel
theorem dX11_readPlan_40 : decode cX11_readPlan 40 = .ok (.iinc 1 1, 3) := by decide +kernel
theorem dX11_readPlan_43 : decode cX11_readPlan 43 = .ok (.aload_n 0, 1) := by decide +kernel
theorem dX11_readPlan_44 : decode cX11_readPlan 44 = .ok (.invokevirtual 132, 3) := by decide +kernel
theorem dX11_readPlan_47 : decode cX11_readPlan 47 = .ok (.bipush 59, 2) := by decide +kernel
theorem dX11_readPlan_49 : decode cX11_readPlan 49 = .ok (.if_icmp .ne 7, 3) := by decide +kernel
theorem dX11_readPlan_52 : decode cX11_readPlan 52 = .ok (.iconst 1, 1) := by decide +kernel
theorem dX11_readPlan_53 : decode cX11_readPlan 53 = .ok (.goto 4, 3) := by decide +kernel
theorem dX11_readPlan_56 : decode cX11_readPlan 56 = .ok (.iconst 0, 1) := by decide +kernel
theorem dX11_readPlan_57 : decode cX11_readPlan 57 = .ok (.istore_n 2, 1) := by decide +kernel
theorem dX11_readPlan_58 : decode cX11_readPlan 58 = .ok (.iload_n 2, 1) := by decide +kernel
theorem dX11_readPlan_59 : decode cX11_readPlan 59 = .ok (.ifCond .eq 15, 3) := by decide +kernel
theorem dX11_readPlan_62 : decode cX11_readPlan 62 = .ok (.iload_n 1, 1) := by decide +kernel
theorem dX11_readPlan_63 : decode cX11_readPlan 63 = .ok (.bipush 16, 2) := by decide +kernel
theorem dX11_readPlan_65 : decode cX11_readPlan 65 = .ok (.if_icmp .ne 9, 3) := by decide +kernel
theorem dX11_readPlan_68 : decode cX11_readPlan 68 = .ok (.aload_n 0, 1) := by decide +kernel
theorem dX11_readPlan_69 : decode cX11_readPlan 69 = .ok (.invokevirtual 128, 3) := by decide +kernel
theorem dX11_readPlan_72 : decode cX11_readPlan 72 = .ok (.pop, 1) := by decide +kernel
theorem dX11_readPlan_73 : decode cX11_readPlan 73 = .ok (.return_, 1) := by decide +kernel
theorem dX11_readPlan_74 : decode cX11_readPlan 74 = .ok (.iload_n 2, 1) := by decide +kernel
theorem dX11_readPlan_75 : decode cX11_readPlan 75 = .ok (.ifCond .eq (-58), 3) := by decide +kernel
theorem dX11_readPlan_78 : decode cX11_readPlan 78 = .ok (.aload_n 0, 1) := by decide +kernel
theorem dX11_readPlan_79 : decode cX11_readPlan 79 = .ok (.dup, 1) := by decide +kernel
theorem dX11_readPlan_80 : decode cX11_readPlan 80 = .ok (.getfield 113, 3) := by decide +kernel
theorem dX11_readPlan_83 : decode cX11_readPlan 83 = .ok (.iconst 1, 1) := by decide +kernel
theorem dX11_readPlan_84 : decode cX11_readPlan 84 = .ok (.iadd, 1) := by decide +kernel
theorem dX11_readPlan_85 : decode cX11_readPlan 85 = .ok (.putfield 113, 3) := by decide +kernel
theorem dX11_readPlan_88 : decode cX11_readPlan 88 = .ok (.goto (-71), 3) := by decide +kernel
theorem dX11_readPlan_91 : decode cX11_readPlan 91 = .ok (.aload_n 0, 1) := by decide +kernel
theorem dX11_readPlan_92 : decode cX11_readPlan 92 = .ok (.getfield 58, 3) := by decide +kernel
theorem dX11_readPlan_95 : decode cX11_readPlan 95 = .ok (.iconst 4, 1) := by decide +kernel
theorem dX11_readPlan_96 : decode cX11_readPlan 96 = .ok (.iload_n 1, 1) := by decide +kernel
theorem dX11_readPlan_97 : decode cX11_readPlan 97 = .ok (.iastore, 1) := by decide +kernel
theorem dX11_readPlan_98 : decode cX11_readPlan 98 = .ok (.aload_n 0, 1) := by decide +kernel
theorem dX11_readPlan_99 : decode cX11_readPlan 99 = .ok (.invokevirtual 132, 3) := by decide +kernel
theorem dX11_readPlan_102 : decode cX11_readPlan 102 = .ok (.iconst (-1), 1) := by decide +kernel
theorem dX11_readPlan_103 : decode cX11_readPlan 103 = .ok (.if_icmp .eq 8, 3) := by decide +kernel
theorem dX11_readPlan_106 : decode cX11_readPlan 106 = .ok (.aload_n 0, 1) := by decide +kernel
theorem dX11_readPlan_107 : decode cX11_readPlan 107 = .ok (.invokevirtual 128, 3) := by decide +kernel
theorem dX11_readPlan_110 : decode cX11_readPlan 110 = .ok (.pop, 1) := by decide +kernel
theorem dX11_readPlan_111 : decode cX11_readPlan 111 = .ok (.return_, 1) := by decide +kernel
theorem dX11_fault_0 : decode cX11_fault 0 = .ok (.aload_n 0, 1) := by decide +kernel
theorem dX11_fault_1 : decode cX11_fault 1 = .ok (.iconst 0, 1) := by decide +kernel
theorem dX11_fault_2 : decode cX11_fault 2 = .ok (.putfield 90, 3) := by decide +kernel
theorem dX11_fault_5 : decode cX11_fault 5 = .ok (.iload_n 1, 1) := by decide +kernel
theorem dX11_fault_6 : decode cX11_fault 6 = .ok (.i2l, 1) := by decide +kernel
theorem dX11_fault_7 : decode cX11_fault 7 = .ok (.lconst 0, 1) := by decide +kernel
theorem dX11_fault_8 : decode cX11_fault 8 = .ok (.ldc2_w 266, 3) := by decide +kernel
theorem dX11_fault_11 : decode cX11_fault 11 = .ok (.invokestatic 211, 3) := by decide +kernel
theorem dX11_fault_14 : decode cX11_fault 14 = .ok (.ifCond .ne 6, 3) := by decide +kernel
theorem dX11_fault_17 : decode cX11_fault 17 = .ok (.bipush (-2), 2) := by decide +kernel
theorem dX11_fault_19 : decode cX11_fault 19 = .ok (.ireturn, 1) := by decide +kernel
theorem dX11_fault_20 : decode cX11_fault 20 = .ok (.iload_n 1, 1) := by decide +kernel
theorem dX11_fault_21 : decode cX11_fault 21 = .ok (.ifCond .ne 7, 3) := by decide +kernel
theorem dX11_fault_24 : decode cX11_fault 24 = .ok (.aload_n 0, 1) := by decide +kernel
theorem dX11_fault_25 : decode cX11_fault 25 = .ok (.invokevirtual 268, 3) := by decide +kernel
theorem dX11_fault_28 : decode cX11_fault 28 = .ok (.iload_n 1, 1) := by decide +kernel
theorem dX11_fault_29 : decode cX11_fault 29 = .ok (.iconst 1, 1) := by decide +kernel
theorem dX11_fault_30 : decode cX11_fault 30 = .ok (.if_icmp .ne 16, 3) := by decide +kernel
theorem dX11_fault_33 : decode cX11_fault 33 = .ok (.aload_n 0, 1) := by decide +kernel
theorem dX11_fault_34 : decode cX11_fault 34 = .ok (.aload_n 0, 1) := by decide +kernel
theorem dX11_fault_35 : decode cX11_fault 35 = .ok (.getfield 9, 3) := by decide +kernel
theorem dX11_fault_38 : decode cX11_fault 38 = .ok (.iconst 0, 1) := by decide +kernel
theorem dX11_fault_39 : decode cX11_fault 39 = .ok (.aload_n 0, 1) := by decide +kernel
theorem dX11_fault_40 : decode cX11_fault 40 = .ok (.getfield 103, 3) := by decide +kernel
theorem dX11_fault_43 : decode cX11_fault 43 = .ok (.invokevirtual 271, 3) := by decide +kernel
theorem dX11_fault_46 : decode cX11_fault 46 = .ok (.iload_n 1, 1) := by decide +kernel
theorem dX11_fault_47 : decode cX11_fault 47 = .ok (.iconst 2, 1) := by decide +kernel
theorem dX11_fault_48 : decode cX11_fault 48 = .ok (.if_icmp .ne 7, 3) := by decide +kernel
theorem dX11_fault_51 : decode cX11_fault 51 = .ok (.aload_n 0, 1) := by decide +kernel
theorem dX11_fault_52 : decode cX11_fault 52 = .ok (.invokevirtual 274, 3) := by decide +kernel
theorem dX11_fault_55 : decode cX11_fault 55 = .ok (.aload_n 0, 1) := by decide +kernel
theorem dX11_fault_56 : decode cX11_fault 56 = .ok (.getfield 122, 3) := by decide +kernel
theorem dX11_fault_59 : decode cX11_fault 59 = .ok (.ireturn, 1) := by decide +kernel
theorem dX11_text_0 : decode cX11_text 0 = .ok (.aload_n 0, 1) := by decide +kernel
theorem dX11_text_1 : decode cX11_text 1 = .ok (.iconst 0, 1) := by decide +kernel
theorem dX11_text_2 : decode cX11_text 2 = .ok (.putfield 90, 3) := by decide +kernel
theorem dX11_text_5 : decode cX11_text 5 = .ok (.iload_n 1, 1) := by decide +kernel
theorem dX11_text_6 : decode cX11_text 6 = .ok (.i2l, 1) := by decide +kernel
theorem dX11_text_7 : decode cX11_text 7 = .ok (.lconst 0, 1) := by decide +kernel
theorem dX11_text_8 : decode cX11_text 8 = .ok (.ldc2_w 266, 3) := by decide +kernel
theorem dX11_text_11 : decode cX11_text 11 = .ok (.invokestatic 211, 3) := by decide +kernel
theorem dX11_text_14 : decode cX11_text 14 = .ok (.ifCond .eq 38, 3) := by decide +kernel
theorem dX11_text_17 : decode cX11_text 17 = .ok (.iload_n 1, 1) := by decide +kernel
theorem dX11_text_18 : decode cX11_text 18 = .ok (.iconst 1, 1) := by decide +kernel
theorem dX11_text_19 : decode cX11_text 19 = .ok (.if_icmp .ne 11, 3) := by decide +kernel
theorem dX11_text_22 : decode cX11_text 22 = .ok (.aload_n 0, 1) := by decide +kernel
theorem dX11_text_23 : decode cX11_text 23 = .ok (.getfield 277, 3) := by decide +kernel
theorem dX11_text_26 : decode cX11_text 26 = .ok (.iconst 4, 1) := by decide +kernel
theorem dX11_text_27 : decode cX11_text 27 = .ok (.if_icmp .eq 25, 3) := by decide +kernel
theorem dX11_text_30 : decode cX11_text 30 = .ok (.iload_n 1, 1) := by decide +kernel
theorem dX11_text_31 : decode cX11_text 31 = .ok (.iconst 2, 1) := by decide +kernel
theorem dX11_text_32 : decode cX11_text 32 = .ok (.if_icmp .ne 11, 3) := by decide +kernel
theorem dX11_text_35 : decode cX11_text 35 = .ok (.aload_n 0, 1) := by decide +kernel
theorem dX11_text_36 : decode cX11_text 36 = .ok (.getfield 280, 3) := by decide +kernel
theorem dX11_text_39 : decode cX11_text 39 = .ok (.iconst 4, 1) := by decide +kernel
theorem dX11_text_40 : decode cX11_text 40 = .ok (.if_icmp .eq 12, 3) := by decide +kernel
theorem dX11_text_43 : decode cX11_text 43 = .ok (.aload_n 0, 1) := by decide +kernel
theorem dX11_text_44 : decode cX11_text 44 = .ok (.iload_n 1, 1) := by decide +kernel
theorem dX11_text_45 : decode cX11_text 45 = .ok (.invokevirtual 283, 3) := by decide +kernel
theorem dX11_text_48 : decode cX11_text 48 = .ok (.iconst (-1), 1) := by decide +kernel
theorem dX11_text_49 : decode cX11_text 49 = .ok (.if_icmp .eq 5, 3) := by decide +kernel
theorem dX11_text_52 : decode cX11_text 52 = .ok (.iconst (-1), 1) := by decide +kernel
theorem dX11_text_53 : decode cX11_text 53 = .ok (.ireturn, 1) := by decide +kernel
theorem dX11_text_54 : decode cX11_text 54 = .ok (.aload_n 0, 1) := by decide +kernel
theorem dX11_text_55 : decode cX11_text 55 = .ok (.getfield 103, 3) := by decide +kernel
theorem dX11_text_58 : decode cX11_text 58 = .ok (.istore_n 2, 1) := by decide +kernel
theorem dX11_text_59 : decode cX11_text 59 = .ok (.aload_n 0, 1) := by decide +kernel
theorem dX11_text_60 : decode cX11_text 60 = .ok (.iconst 0, 1) := by decide +kernel
theorem dX11_text_61 : decode cX11_text 61 = .ok (.putfield 103, 3) := by decide +kernel
theorem dX11_text_64 : decode cX11_text 64 = .ok (.iload_n 1, 1) := by decide +kernel
theorem dX11_text_65 : decode cX11_text 65 = .ok (.iconst 1, 1) := by decide +kernel
theorem dX11_text_66 : decode cX11_text 66 = .ok (.if_icmp .ne 64, 3) := by decide +kernel
theorem dX11_text_69 : decode cX11_text 69 = .ok (.iconst 0, 1) := by decide +kernel
theorem dX11_text_70 : decode cX11_text 70 = .ok (.istore_n 3, 1) := by decide +kernel
theorem dX11_text_71 : decode cX11_text 71 = .ok (.iload_n 3, 1) := by decide +kernel
theorem dX11_text_72 : decode cX11_text 72 = .ok (.iload_n 2, 1) := by decide +kernel
theorem dX11_text_73 : decode cX11_text 73 = .ok (.if_icmp .ge 30, 3) := by decide +kernel
theorem dX11_text_76 : decode cX11_text 76 = .ok (.aload_n 0, 1) := by decide +kernel
theorem dX11_text_77 : decode cX11_text 77 = .ok (.getfield 13, 3) := by decide +kernel
theorem dX11_text_80 : decode cX11_text 80 = .ok (.sipush 240, 3) := by decide +kernel
theorem dX11_text_83 : decode cX11_text 83 = .ok (.aload_n 0, 1) := by decide +kernel
theorem dX11_text_84 : decode cX11_text 84 = .ok (.getfield 277, 3) := by decide +kernel
theorem dX11_text_87 : decode cX11_text 87 = .ok (.imul, 1) := by decide +kernel
theorem dX11_text_88 : decode cX11_text 88 = .ok (.iload_n 3, 1) := by decide +kernel
theorem dX11_text_89 : decode cX11_text 89 = .ok (.iadd, 1) := by decide +kernel
theorem dX11_text_90 : decode cX11_text 90 = .ok (.aload_n 0, 1) := by decide +kernel
theorem dX11_text_91 : decode cX11_text 91 = .ok (.getfield 9, 3) := by decide +kernel
theorem dX11_text_94 : decode cX11_text 94 = .ok (.iload_n 3, 1) := by decide +kernel
theorem dX11_text_95 : decode cX11_text 95 = .ok (.baload, 1) := by decide +kernel
theorem dX11_text_96 : decode cX11_text 96 = .ok (.bastore, 1) := by decide +kernel
theorem dX11_text_97 : decode cX11_text 97 = .ok (.iinc 3 1, 3) := by decide +kernel
theorem dX11_text_100 : decode cX11_text 100 = .ok (.goto (-29), 3) := by decide +kernel
theorem dX11_text_103 : decode cX11_text 103 = .ok (.aload_n 0, 1) := by decide +kernel
theorem dX11_text_104 : decode cX11_text 104 = .ok (.getfield 16, 3) := by decide +kernel
theorem dX11_text_107 : decode cX11_text 107 = .ok (.aload_n 0, 1) := by decide +kernel
theorem dX11_text_108 : decode cX11_text 108 = .ok (.getfield 277, 3) := by decide +kernel
theorem dX11_text_111 : decode cX11_text 111 = .ok (.iload_n 2, 1) := by decide +kernel
theorem dX11_text_112 : decode cX11_text 112 = .ok (.iastore, 1) := by decide +kernel
theorem dX11_text_113 : decode cX11_text 113 = .ok (.aload_n 0, 1) := by decide +kernel
theorem dX11_text_114 : decode cX11_text 114 = .ok (.dup, 1) := by decide +kernel
theorem dX11_text_115 : decode cX11_text 115 = .ok (.getfield 277, 3) := by decide +kernel
theorem dX11_text_118 : decode cX11_text 118 = .ok (.iconst 1, 1) := by decide +kernel
theorem dX11_text_119 : decode cX11_text 119 = .ok (.iadd, 1) := by decide +kernel
theorem dX11_text_120 : decode cX11_text 120 = .ok (.putfield 277, 3) := by decide +kernel
theorem dX11_text_123 : decode cX11_text 123 = .ok (.aload_n 0, 1) := by decide +kernel
theorem dX11_text_124 : decode cX11_text 124 = .ok (.getfield 277, 3) := by decide +kernel
theorem dX11_text_127 : decode cX11_text 127 = .ok (.iconst 1, 1) := by decide +kernel
theorem dX11_text_128 : decode cX11_text 128 = .ok (.isub, 1) := by decide +kernel
theorem dX11_text_129 : decode cX11_text 129 = .ok (.ireturn, 1) := by decide +kernel
theorem dX11_text_130 : decode cX11_text 130 = .ok (.iload_n 1, 1) := by decide +kernel
theorem dX11_text_131 : decode cX11_text 131 = .ok (.iconst 2, 1) := by decide +kernel
theorem dX11_text_132 : decode cX11_text 132 = .ok (.if_icmp .ne 73, 3) := by decide +kernel
theorem dX11_text_135 : decode cX11_text 135 = .ok (.iconst 0, 1) := by decide +kernel
theorem dX11_text_136 : decode cX11_text 136 = .ok (.istore_n 3, 1) := by decide +kernel
theorem dX11_text_137 : decode cX11_text 137 = .ok (.iload_n 3, 1) := by decide +kernel
theorem dX11_text_138 : decode cX11_text 138 = .ok (.bipush 48, 2) := by decide +kernel
theorem dX11_text_140 : decode cX11_text 140 = .ok (.if_icmp .ge 33, 3) := by decide +kernel
theorem dX11_text_143 : decode cX11_text 143 = .ok (.aload_n 0, 1) := by decide +kernel
theorem dX11_text_144 : decode cX11_text 144 = .ok (.getfield 55, 3) := by decide +kernel
theorem dX11_text_147 : decode cX11_text 147 = .ok (.bipush 48, 2) := by decide +kernel
theorem dX11_text_149 : decode cX11_text 149 = .ok (.aload_n 0, 1) := by decide +kernel
theorem dX11_text_150 : decode cX11_text 150 = .ok (.getfield 280, 3) := by decide +kernel
theorem dX11_text_153 : decode cX11_text 153 = .ok (.imul, 1) := by decide +kernel
theorem dX11_text_154 : decode cX11_text 154 = .ok (.iload_n 3, 1) := by decide +kernel
theorem dX11_text_155 : decode cX11_text 155 = .ok (.iadd, 1) := by decide +kernel
theorem dX11_text_156 : decode cX11_text 156 = .ok (.aload_n 0, 1) := by decide +kernel
theorem dX11_text_157 : decode cX11_text 157 = .ok (.getfield 55, 3) := by decide +kernel
theorem dX11_text_160 : decode cX11_text 160 = .ok (.sipush 192, 3) := by decide +kernel
theorem dX11_text_163 : decode cX11_text 163 = .ok (.iload_n 3, 1) := by decide +kernel
theorem dX11_text_164 : decode cX11_text 164 = .ok (.iadd, 1) := by decide +kernel
theorem dX11_text_165 : decode cX11_text 165 = .ok (.iaload, 1) := by decide +kernel
theorem dX11_text_166 : decode cX11_text 166 = .ok (.iastore, 1) := by decide +kernel
theorem dX11_text_167 : decode cX11_text 167 = .ok (.iinc 3 1, 3) := by decide +kernel
theorem dX11_text_170 : decode cX11_text 170 = .ok (.goto (-33), 3) := by decide +kernel
theorem dX11_text_173 : decode cX11_text 173 = .ok (.aload_n 0, 1) := by decide +kernel
theorem dX11_text_174 : decode cX11_text 174 = .ok (.getfield 58, 3) := by decide +kernel
theorem dX11_text_177 : decode cX11_text 177 = .ok (.aload_n 0, 1) := by decide +kernel
theorem dX11_text_178 : decode cX11_text 178 = .ok (.getfield 280, 3) := by decide +kernel
theorem dX11_text_181 : decode cX11_text 181 = .ok (.aload_n 0, 1) := by decide +kernel
theorem dX11_text_182 : decode cX11_text 182 = .ok (.getfield 58, 3) := by decide +kernel
theorem dX11_text_185 : decode cX11_text 185 = .ok (.iconst 4, 1) := by decide +kernel
theorem dX11_text_186 : decode cX11_text 186 = .ok (.iaload, 1) := by decide +kernel
theorem dX11_text_187 : decode cX11_text 187 = .ok (.iastore, 1) := by decide +kernel
theorem dX11_text_188 : decode cX11_text 188 = .ok (.aload_n 0, 1) := by decide +kernel
theorem dX11_text_189 : decode cX11_text 189 = .ok (.dup, 1) := by decide +kernel
theorem dX11_text_190 : decode cX11_text 190 = .ok (.getfield 280, 3) := by decide +kernel
theorem dX11_text_193 : decode cX11_text 193 = .ok (.iconst 1, 1) := by decide +kernel
theorem dX11_text_194 : decode cX11_text 194 = .ok (.iadd, 1) := by decide +kernel
theorem dX11_text_195 : decode cX11_text 195 = .ok (.putfield 280, 3) := by decide +kernel
theorem dX11_text_198 : decode cX11_text 198 = .ok (.aload_n 0, 1) := by decide +kernel
theorem dX11_text_199 : decode cX11_text 199 = .ok (.getfield 280, 3) := by decide +kernel
theorem dX11_text_202 : decode cX11_text 202 = .ok (.iconst 1, 1) := by decide +kernel
theorem dX11_text_203 : decode cX11_text 203 = .ok (.isub, 1) := by decide +kernel
theorem dX11_text_204 : decode cX11_text 204 = .ok (.ireturn, 1) := by decide +kernel
theorem dX11_text_205 : decode cX11_text 205 = .ok (.aload_n 0, 1) := by decide +kernel
theorem dX11_text_206 : decode cX11_text 206 = .ok (.aload_n 0, 1) := by decide +kernel
theorem dX11_text_207 : decode cX11_text 207 = .ok (.getfield 239, 3) := by decide +kernel
theorem dX11_text_210 : decode cX11_text 210 = .ok (.putfield 285, 3) := by decide +kernel
theorem dX11_text_213 : decode cX11_text 213 = .ok (.aload_n 0, 1) := by decide +kernel
theorem dX11_text_214 : decode cX11_text 214 = .ok (.aload_n 0, 1) := by decide +kernel
theorem dX11_text_215 : decode cX11_text 215 = .ok (.getfield 242, 3) := by decide +kernel
theorem dX11_text_218 : decode cX11_text 218 = .ok (.putfield 288, 3) := by decide +kernel
theorem dX11_text_221 : decode cX11_text 221 = .ok (.iconst 0, 1) := by decide +kernel
theorem dX11_text_222 : decode cX11_text 222 = .ok (.istore_n 3, 1) := by decide +kernel
theorem dX11_text_223 : decode cX11_text 223 = .ok (.iload_n 3, 1) := by decide +kernel
theorem dX11_text_224 : decode cX11_text 224 = .ok (.iconst 2, 1) := by decide +kernel
theorem dX11_text_225 : decode cX11_text 225 = .ok (.if_icmp .ge 21, 3) := by decide +kernel
theorem dX11_text_228 : decode cX11_text 228 = .ok (.aload_n 0, 1) := by decide +kernel
theorem dX11_text_229 : decode cX11_text 229 = .ok (.getfield 37, 3) := by decide +kernel
theorem dX11_text_232 : decode cX11_text 232 = .ok (.iload_n 3, 1) := by decide +kernel
theorem dX11_text_233 : decode cX11_text 233 = .ok (.aload_n 0, 1) := by decide +kernel
theorem dX11_text_234 : decode cX11_text 234 = .ok (.getfield 40, 3) := by decide +kernel
theorem dX11_text_237 : decode cX11_text 237 = .ok (.iload_n 3, 1) := by decide +kernel
theorem dX11_text_238 : decode cX11_text 238 = .ok (.iaload, 1) := by decide +kernel
theorem dX11_text_239 : decode cX11_text 239 = .ok (.iastore, 1) := by decide +kernel
theorem dX11_text_240 : decode cX11_text 240 = .ok (.iinc 3 1, 3) := by decide +kernel
theorem dX11_text_243 : decode cX11_text 243 = .ok (.goto (-20), 3) := by decide +kernel
theorem dX11_text_246 : decode cX11_text 246 = .ok (.iconst 0, 1) := by decide +kernel
theorem dX11_text_247 : decode cX11_text 247 = .ok (.istore_n 3, 1) := by decide +kernel
theorem dX11_text_248 : decode cX11_text 248 = .ok (.iload_n 3, 1) := by decide +kernel
theorem dX11_text_249 : decode cX11_text 249 = .ok (.bipush 18, 2) := by decide +kernel
theorem dX11_text_251 : decode cX11_text 251 = .ok (.if_icmp .ge 21, 3) := by decide +kernel
theorem dX11_text_254 : decode cX11_text 254 = .ok (.aload_n 0, 1) := by decide +kernel
theorem dX11_text_255 : decode cX11_text 255 = .ok (.getfield 43, 3) := by decide +kernel
theorem dX11_text_258 : decode cX11_text 258 = .ok (.iload_n 3, 1) := by decide +kernel
theorem dX11_text_259 : decode cX11_text 259 = .ok (.aload_n 0, 1) := by decide +kernel
theorem dX11_text_260 : decode cX11_text 260 = .ok (.getfield 46, 3) := by decide +kernel
theorem dX11_text_263 : decode cX11_text 263 = .ok (.iload_n 3, 1) := by decide +kernel
theorem dX11_text_264 : decode cX11_text 264 = .ok (.iaload, 1) := by decide +kernel
theorem dX11_text_265 : decode cX11_text 265 = .ok (.iastore, 1) := by decide +kernel
theorem dX11_text_266 : decode cX11_text 266 = .ok (.iinc 3 1, 3) := by decide +kernel
theorem dX11_text_269 : decode cX11_text 269 = .ok (.goto (-21), 3) := by decide +kernel
theorem dX11_text_272 : decode cX11_text 272 = .ok (.iconst 0, 1) := by decide +kernel
theorem dX11_text_273 : decode cX11_text 273 = .ok (.istore_n 3, 1) := by decide +kernel
theorem dX11_text_274 : decode cX11_text 274 = .ok (.iload_n 3, 1) := by decide +kernel
theorem dX11_text_275 : decode cX11_text 275 = .ok (.bipush 24, 2) := by decide +kernel
theorem dX11_text_277 : decode cX11_text 277 = .ok (.if_icmp .ge 21, 3) := by decide +kernel
theorem dX11_text_280 : decode cX11_text 280 = .ok (.aload_n 0, 1) := by decide +kernel
theorem dX11_text_281 : decode cX11_text 281 = .ok (.getfield 49, 3) := by decide +kernel
theorem dX11_text_284 : decode cX11_text 284 = .ok (.iload_n 3, 1) := by decide +kernel
theorem dX11_text_285 : decode cX11_text 285 = .ok (.aload_n 0, 1) := by decide +kernel
theorem dX11_text_286 : decode cX11_text 286 = .ok (.getfield 52, 3) := by decide +kernel
theorem dX11_text_289 : decode cX11_text 289 = .ok (.iload_n 3, 1) := by decide +kernel
theorem dX11_text_290 : decode cX11_text 290 = .ok (.iaload, 1) := by decide +kernel
theorem dX11_text_291 : decode cX11_text 291 = .ok (.iastore, 1) := by decide +kernel
theorem dX11_text_292 : decode cX11_text 292 = .ok (.iinc 3 1, 3) := by decide +kernel
theorem dX11_text_295 : decode cX11_text 295 = .ok (.goto (-21), 3) := by decide +kernel
theorem dX11_text_298 : decode cX11_text 298 = .ok (.iconst 0, 1) := by decide +kernel
theorem dX11_text_299 : decode cX11_text 299 = .ok (.istore_n 3, 1) := by decide +kernel
theorem dX11_text_300 : decode cX11_text 300 = .ok (.iload_n 3, 1) := by decide +kernel
theorem dX11_text_301 : decode cX11_text 301 = .ok (.sipush 248, 3) := by decide +kernel
theorem dX11_text_304 : decode cX11_text 304 = .ok (.if_icmp .ge 16, 3) := by decide +kernel
theorem dX11_text_307 : decode cX11_text 307 = .ok (.aload_n 0, 1) := by decide +kernel
theorem dX11_text_308 : decode cX11_text 308 = .ok (.getfield 61, 3) := by decide +kernel
theorem dX11_text_311 : decode cX11_text 311 = .ok (.iload_n 3, 1) := by decide +kernel
theorem dX11_text_312 : decode cX11_text 312 = .ok (.iconst 0, 1) := by decide +kernel
theorem dX11_text_313 : decode cX11_text 313 = .ok (.iastore, 1) := by decide +kernel
theorem dX11_text_314 : decode cX11_text 314 = .ok (.iinc 3 1, 3) := by decide +kernel
theorem dX11_text_317 : decode cX11_text 317 = .ok (.goto (-17), 3) := by decide +kernel
theorem dX11_text_320 : decode cX11_text 320 = .ok (.iconst 0, 1) := by decide +kernel
theorem dX11_text_321 : decode cX11_text 321 = .ok (.istore_n 3, 1) := by decide +kernel
theorem dX11_text_322 : decode cX11_text 322 = .ok (.iload_n 3, 1) := by decide +kernel
theorem dX11_text_323 : decode cX11_text 323 = .ok (.aload_n 0, 1) := by decide +kernel
theorem dX11_text_324 : decode cX11_text 324 = .ok (.getfield 285, 3) := by decide +kernel
theorem dX11_text_327 : decode cX11_text 327 = .ok (.if_icmp .ge 28, 3) := by decide +kernel
theorem dX11_text_330 : decode cX11_text 330 = .ok (.aload_n 0, 1) := by decide +kernel
theorem dX11_text_331 : decode cX11_text 331 = .ok (.getfield 61, 3) := by decide +kernel
theorem dX11_text_334 : decode cX11_text 334 = .ok (.bipush 10, 2) := by decide +kernel
theorem dX11_text_336 : decode cX11_text 336 = .ok (.iload_n 3, 1) := by decide +kernel
theorem dX11_text_337 : decode cX11_text 337 = .ok (.imul, 1) := by decide +kernel
theorem dX11_text_338 : decode cX11_text 338 = .ok (.iconst 0, 1) := by decide +kernel
theorem dX11_text_339 : decode cX11_text 339 = .ok (.iadd, 1) := by decide +kernel
theorem dX11_text_340 : decode cX11_text 340 = .ok (.aload_n 0, 1) := by decide +kernel
theorem dX11_text_341 : decode cX11_text 341 = .ok (.getfield 43, 3) := by decide +kernel
theorem dX11_text_344 : decode cX11_text 344 = .ok (.iconst 3, 1) := by decide +kernel
theorem dX11_text_345 : decode cX11_text 345 = .ok (.iload_n 3, 1) := by decide +kernel
theorem dX11_text_346 : decode cX11_text 346 = .ok (.imul, 1) := by decide +kernel
theorem dX11_text_347 : decode cX11_text 347 = .ok (.iaload, 1) := by decide +kernel
theorem dX11_text_348 : decode cX11_text 348 = .ok (.iastore, 1) := by decide +kernel
theorem dX11_text_349 : decode cX11_text 349 = .ok (.iinc 3 1, 3) := by decide +kernel
theorem dX11_text_352 : decode cX11_text 352 = .ok (.goto (-30), 3) := by decide +kernel
theorem dX11_text_355 : decode cX11_text 355 = .ok (.aload_n 0, 1) := by decide +kernel
theorem dX11_text_356 : decode cX11_text 356 = .ok (.getfield 61, 3) := by decide +kernel
theorem dX11_text_359 : decode cX11_text 359 = .ok (.bipush 64, 2) := by decide +kernel
theorem dX11_text_361 : decode cX11_text 361 = .ok (.aload_n 0, 1) := by decide +kernel
theorem dX11_text_362 : decode cX11_text 362 = .ok (.getfield 37, 3) := by decide +kernel
theorem dX11_text_365 : decode cX11_text 365 = .ok (.iconst 1, 1) := by decide +kernel
theorem dX11_text_366 : decode cX11_text 366 = .ok (.iaload, 1) := by decide +kernel
theorem dX11_text_367 : decode cX11_text 367 = .ok (.iastore, 1) := by decide +kernel
theorem dX11_text_368 : decode cX11_text 368 = .ok (.aload_n 0, 1) := by decide +kernel
theorem dX11_text_369 : decode cX11_text 369 = .ok (.iconst 0, 1) := by decide +kernel
theorem dX11_text_370 : decode cX11_text 370 = .ok (.putfield 291, 3) := by decide +kernel
theorem dX11_text_373 : decode cX11_text 373 = .ok (.aload_n 0, 1) := by decide +kernel
theorem dX11_text_374 : decode cX11_text 374 = .ok (.iconst 0, 1) := by decide +kernel
theorem dX11_text_375 : decode cX11_text 375 = .ok (.putfield 294, 3) := by decide +kernel
theorem dX11_text_378 : decode cX11_text 378 = .ok (.aload_n 0, 1) := by decide +kernel
theorem dX11_text_379 : decode cX11_text 379 = .ok (.iconst 0, 1) := by decide +kernel
theorem dX11_text_380 : decode cX11_text 380 = .ok (.putfield 297, 3) := by decide +kernel
theorem dX11_text_383 : decode cX11_text 383 = .ok (.aload_n 0, 1) := by decide +kernel
theorem dX11_text_384 : decode cX11_text 384 = .ok (.getfield 285, 3) := by decide +kernel
theorem dX11_text_387 : decode cX11_text 387 = .ok (.ireturn, 1) := by decide +kernel
theorem dX11_copy_0 : decode cX11_copy 0 = .ok (.iconst 0, 1) := by decide +kernel
theorem dX11_copy_1 : decode cX11_copy 1 = .ok (.istore_n 2, 1) := by decide +kernel
theorem dX11_copy_2 : decode cX11_copy 2 = .ok (.iload_n 2, 1) := by decide +kernel
theorem dX11_copy_3 : decode cX11_copy 3 = .ok (.bipush 67, 2) := by decide +kernel
theorem dX11_copy_5 : decode cX11_copy 5 = .ok (.if_icmp .ge 15, 3) := by decide +kernel
theorem dX11_copy_8 : decode cX11_copy 8 = .ok (.aload_n 1, 1) := by decide +kernel
theorem dX11_copy_9 : decode cX11_copy 9 = .ok (.iload_n 2, 1) := by decide +kernel
theorem dX11_copy_10 : decode cX11_copy 10 = .ok (.aload_n 0, 1) := by decide +kernel
theorem dX11_copy_11 : decode cX11_copy 11 = .ok (.iload_n 2, 1) := by decide +kernel
theorem dX11_copy_12 : decode cX11_copy 12 = .ok (.iaload, 1) := by decide +kernel
theorem dX11_copy_13 : decode cX11_copy 13 = .ok (.iastore, 1) := by decide +kernel
theorem dX11_copy_14 : decode cX11_copy 14 = .ok (.iinc 2 1, 3) := by decide +kernel
theorem dX11_copy_17 : decode cX11_copy 17 = .ok (.goto (-15), 3) := by decide +kernel
theorem dX11_copy_20 : decode cX11_copy 20 = .ok (.aload_n 1, 1) := by decide +kernel
theorem dX11_copy_21 : decode cX11_copy 21 = .ok (.bipush 67, 2) := by decide +kernel
theorem dX11_copy_23 : decode cX11_copy 23 = .ok (.iconst 0, 1) := by decide +kernel
theorem dX11_copy_24 : decode cX11_copy 24 = .ok (.iastore, 1) := by decide +kernel
theorem dX11_copy_25 : decode cX11_copy 25 = .ok (.return_, 1) := by decide +kernel
theorem dX11_isPerson_0 : decode cX11_isPerson 0 = .ok (.iload_n 1, 1) := by decide +kernel
theorem dX11_isPerson_1 : decode cX11_isPerson 1 = .ok (.ifCond .lt 15, 3) := by decide +kernel
theorem dX11_isPerson_4 : decode cX11_isPerson 4 = .ok (.iload_n 1, 1) := by decide +kernel
theorem dX11_isPerson_5 : decode cX11_isPerson 5 = .ok (.aload_n 0, 1) := by decide +kernel
theorem dX11_isPerson_6 : decode cX11_isPerson 6 = .ok (.getfield 285, 3) := by decide +kernel
theorem dX11_isPerson_9 : decode cX11_isPerson 9 = .ok (.if_icmp .ge 7, 3) := by decide +kernel
theorem dX11_isPerson_12 : decode cX11_isPerson 12 = .ok (.iconst 1, 1) := by decide +kernel
theorem dX11_isPerson_13 : decode cX11_isPerson 13 = .ok (.goto 4, 3) := by decide +kernel
theorem dX11_isPerson_16 : decode cX11_isPerson 16 = .ok (.iconst 0, 1) := by decide +kernel
theorem dX11_isPerson_17 : decode cX11_isPerson 17 = .ok (.ireturn, 1) := by decide +kernel
theorem dX11_isDeed_0 : decode cX11_isDeed 0 = .ok (.iload_n 1, 1) := by decide +kernel
theorem dX11_isDeed_1 : decode cX11_isDeed 1 = .ok (.ifCond .lt 15, 3) := by decide +kernel
theorem dX11_isDeed_4 : decode cX11_isDeed 4 = .ok (.iload_n 1, 1) := by decide +kernel
theorem dX11_isDeed_5 : decode cX11_isDeed 5 = .ok (.aload_n 0, 1) := by decide +kernel
theorem dX11_isDeed_6 : decode cX11_isDeed 6 = .ok (.getfield 288, 3) := by decide +kernel
theorem dX11_isDeed_9 : decode cX11_isDeed 9 = .ok (.if_icmp .ge 7, 3) := by decide +kernel
theorem dX11_isDeed_12 : decode cX11_isDeed 12 = .ok (.iconst 1, 1) := by decide +kernel
theorem dX11_isDeed_13 : decode cX11_isDeed 13 = .ok (.goto 4, 3) := by decide +kernel
theorem dX11_isDeed_16 : decode cX11_isDeed 16 = .ok (.iconst 0, 1) := by decide +kernel
theorem dX11_isDeed_17 : decode cX11_isDeed 17 = .ok (.ireturn, 1) := by decide +kernel
theorem dX11_left0_0 : decode cX11_left0 0 = .ok (.aload_n 0, 1) := by decide +kernel
theorem dX11_left0_1 : decode cX11_left0 1 = .ok (.bipush 10, 2) := by decide +kernel
theorem dX11_left0_3 : decode cX11_left0 3 = .ok (.iload_n 1, 1) := by decide +kernel
theorem dX11_left0_4 : decode cX11_left0 4 = .ok (.imul, 1) := by decide +kernel
theorem dX11_left0_5 : decode cX11_left0 5 = .ok (.iconst 2, 1) := by decide +kernel
theorem dX11_left0_6 : decode cX11_left0 6 = .ok (.iadd, 1) := by decide +kernel
theorem dX11_left0_7 : decode cX11_left0 7 = .ok (.iload_n 2, 1) := by decide +kernel
theorem dX11_left0_8 : decode cX11_left0 8 = .ok (.iadd, 1) := by decide +kernel
theorem dX11_left0_9 : decode cX11_left0 9 = .ok (.iaload, 1) := by decide +kernel
theorem dX11_left0_10 : decode cX11_left0 10 = .ok (.ireturn, 1) := by decide +kernel
theorem dX11_setOf_0 : decode cX11_setOf 0 = .ok (.iconst 0, 1) := by decide +kernel
theorem dX11_setOf_1 : decode cX11_setOf 1 = .ok (.istore_n 3, 1) := by decide +kernel
theorem dX11_setOf_2 : decode cX11_setOf 2 = .ok (.iconst 0, 1) := by decide +kernel
theorem dX11_setOf_3 : decode cX11_setOf 3 = .ok (.istore 4, 2) := by decide +kernel
theorem dX11_setOf_5 : decode cX11_setOf 5 = .ok (.iload 4, 2) := by decide +kernel
theorem dX11_setOf_7 : decode cX11_setOf 7 = .ok (.aload_n 0, 1) := by decide +kernel
theorem dX11_setOf_8 : decode cX11_setOf 8 = .ok (.getfield 288, 3) := by decide +kernel
theorem dX11_setOf_11 : decode cX11_setOf 11 = .ok (.if_icmp .ge 30, 3) := by decide +kernel
theorem dX11_setOf_14 : decode cX11_setOf 14 = .ok (.iload_n 3, 1) := by decide +kernel
theorem dX11_setOf_15 : decode cX11_setOf 15 = .ok (.aload_n 1, 1) := by decide +kernel
theorem dX11_setOf_16 : decode cX11_setOf 16 = .ok (.iload_n 2, 1) := by decide +kernel
theorem dX11_setOf_17 : decode cX11_setOf 17 = .ok (.iload 4, 2) := by decide +kernel
theorem dX11_setOf_19 : decode cX11_setOf 19 = .ok (.invokestatic 300, 3) := by decide +kernel
theorem dX11_setOf_22 : decode cX11_setOf 22 = .ok (.ifCond .le 10, 3) := by decide +kernel
theorem dX11_setOf_25 : decode cX11_setOf 25 = .ok (.iconst 1, 1) := by decide +kernel
theorem dX11_setOf_26 : decode cX11_setOf 26 = .ok (.iload 4, 2) := by decide +kernel
