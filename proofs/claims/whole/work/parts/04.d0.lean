theorem dX0_init_0 : decode cX0_init 0 = .ok (.aload_n 0, 1) := by decide +kernel
theorem dX0_init_1 : decode cX0_init 1 = .ok (.invokespecial 3, 3) := by decide +kernel
theorem dX0_init_4 : decode cX0_init 4 = .ok (.aload_n 0, 1) := by decide +kernel
theorem dX0_init_5 : decode cX0_init 5 = .ok (.iconst 4, 1) := by decide +kernel
theorem dX0_init_6 : decode cX0_init 6 = .ok (.anewarray 9, 3) := by decide +kernel
theorem dX0_init_9 : decode cX0_init 9 = .ok (.putfield 11, 3) := by decide +kernel
theorem dX0_init_12 : decode cX0_init 12 = .ok (.aload_n 0, 1) := by decide +kernel
theorem dX0_init_13 : decode cX0_init 13 = .ok (.bipush 6, 2) := by decide +kernel
theorem dX0_init_15 : decode cX0_init 15 = .ok (.newarray .int, 2) := by decide +kernel
theorem dX0_init_17 : decode cX0_init 17 = .ok (.putfield 17, 3) := by decide +kernel
theorem dX0_init_20 : decode cX0_init 20 = .ok (.aload_n 0, 1) := by decide +kernel
theorem dX0_init_21 : decode cX0_init 21 = .ok (.iconst (-1), 1) := by decide +kernel
theorem dX0_init_22 : decode cX0_init 22 = .ok (.putfield 21, 3) := by decide +kernel
theorem dX0_init_25 : decode cX0_init 25 = .ok (.aload_n 0, 1) := by decide +kernel
theorem dX0_init_26 : decode cX0_init 26 = .ok (.aload_n 1, 1) := by decide +kernel
theorem dX0_init_27 : decode cX0_init 27 = .ok (.putfield 25, 3) := by decide +kernel
theorem dX0_init_30 : decode cX0_init 30 = .ok (.return_, 1) := by decide +kernel
theorem dX0_enact_0 : decode cX0_enact 0 = .ok (.aload_n 0, 1) := by decide +kernel
theorem dX0_enact_1 : decode cX0_enact 1 = .ok (.getfield 29, 3) := by decide +kernel
theorem dX0_enact_4 : decode cX0_enact 4 = .ok (.iconst 4, 1) := by decide +kernel
theorem dX0_enact_5 : decode cX0_enact 5 = .ok (.if_icmp .ne 5, 3) := by decide +kernel
theorem dX0_enact_8 : decode cX0_enact 8 = .ok (.iconst (-1), 1) := by decide +kernel
theorem dX0_enact_9 : decode cX0_enact 9 = .ok (.ireturn, 1) := by decide +kernel
theorem dX0_enact_10 : decode cX0_enact 10 = .ok (.aload_n 0, 1) := by decide +kernel
theorem dX0_enact_11 : decode cX0_enact 11 = .ok (.getfield 11, 3) := by decide +kernel
theorem dX0_enact_14 : decode cX0_enact 14 = .ok (.aload_n 0, 1) := by decide +kernel
theorem dX0_enact_15 : decode cX0_enact 15 = .ok (.getfield 29, 3) := by decide +kernel
theorem dX0_enact_18 : decode cX0_enact 18 = .ok (.aload_n 1, 1) := by decide +kernel
theorem dX0_enact_19 : decode cX0_enact 19 = .ok (.aastore, 1) := by decide +kernel
theorem dX0_enact_20 : decode cX0_enact 20 = .ok (.aload_n 0, 1) := by decide +kernel
theorem dX0_enact_21 : decode cX0_enact 21 = .ok (.dup, 1) := by decide +kernel
theorem dX0_enact_22 : decode cX0_enact 22 = .ok (.getfield 29, 3) := by decide +kernel
theorem dX0_enact_25 : decode cX0_enact 25 = .ok (.iconst 1, 1) := by decide +kernel
theorem dX0_enact_26 : decode cX0_enact 26 = .ok (.iadd, 1) := by decide +kernel
theorem dX0_enact_27 : decode cX0_enact 27 = .ok (.putfield 29, 3) := by decide +kernel
theorem dX0_enact_30 : decode cX0_enact 30 = .ok (.aload_n 0, 1) := by decide +kernel
theorem dX0_enact_31 : decode cX0_enact 31 = .ok (.getfield 29, 3) := by decide +kernel
theorem dX0_enact_34 : decode cX0_enact 34 = .ok (.iconst 1, 1) := by decide +kernel
theorem dX0_enact_35 : decode cX0_enact 35 = .ok (.isub, 1) := by decide +kernel
theorem dX0_enact_36 : decode cX0_enact 36 = .ok (.ireturn, 1) := by decide +kernel
theorem dX0_letHold_0 : decode cX0_letHold 0 = .ok (.iload_n 1, 1) := by decide +kernel
theorem dX0_letHold_1 : decode cX0_letHold 1 = .ok (.iconst (-1), 1) := by decide +kernel
theorem dX0_letHold_2 : decode cX0_letHold 2 = .ok (.if_icmp .lt 11, 3) := by decide +kernel
theorem dX0_letHold_5 : decode cX0_letHold 5 = .ok (.iload_n 1, 1) := by decide +kernel
theorem dX0_letHold_6 : decode cX0_letHold 6 = .ok (.aload_n 0, 1) := by decide +kernel
theorem dX0_letHold_7 : decode cX0_letHold 7 = .ok (.getfield 29, 3) := by decide +kernel
theorem dX0_letHold_10 : decode cX0_letHold 10 = .ok (.if_icmp .lt 5, 3) := by decide +kernel
theorem dX0_letHold_13 : decode cX0_letHold 13 = .ok (.iconst 0, 1) := by decide +kernel
theorem dX0_letHold_14 : decode cX0_letHold 14 = .ok (.ireturn, 1) := by decide +kernel
theorem dX0_letHold_15 : decode cX0_letHold 15 = .ok (.aload_n 0, 1) := by decide +kernel
theorem dX0_letHold_16 : decode cX0_letHold 16 = .ok (.iload_n 1, 1) := by decide +kernel
theorem dX0_letHold_17 : decode cX0_letHold 17 = .ok (.putfield 21, 3) := by decide +kernel
theorem dX0_letHold_20 : decode cX0_letHold 20 = .ok (.iconst 1, 1) := by decide +kernel
theorem dX0_letHold_21 : decode cX0_letHold 21 = .ok (.ireturn, 1) := by decide +kernel
theorem dX0_book_0 : decode cX0_book 0 = .ok (.aload_n 0, 1) := by decide +kernel
theorem dX0_book_1 : decode cX0_book 1 = .ok (.getfield 21, 3) := by decide +kernel
theorem dX0_book_4 : decode cX0_book 4 = .ok (.ifCond .lt 14, 3) := by decide +kernel
theorem dX0_book_7 : decode cX0_book 7 = .ok (.aload_n 0, 1) := by decide +kernel
theorem dX0_book_8 : decode cX0_book 8 = .ok (.getfield 21, 3) := by decide +kernel
theorem dX0_book_11 : decode cX0_book 11 = .ok (.aload_n 0, 1) := by decide +kernel
theorem dX0_book_12 : decode cX0_book 12 = .ok (.getfield 29, 3) := by decide +kernel
theorem dX0_book_15 : decode cX0_book 15 = .ok (.if_icmp .lt 7, 3) := by decide +kernel
theorem dX0_book_18 : decode cX0_book 18 = .ok (.aconst_null, 1) := by decide +kernel
theorem dX0_book_19 : decode cX0_book 19 = .ok (.goto 12, 3) := by decide +kernel
theorem dX0_book_22 : decode cX0_book 22 = .ok (.aload_n 0, 1) := by decide +kernel
theorem dX0_book_23 : decode cX0_book 23 = .ok (.getfield 11, 3) := by decide +kernel
theorem dX0_book_26 : decode cX0_book 26 = .ok (.aload_n 0, 1) := by decide +kernel
theorem dX0_book_27 : decode cX0_book 27 = .ok (.getfield 21, 3) := by decide +kernel
theorem dX0_book_30 : decode cX0_book 30 = .ok (.aaload, 1) := by decide +kernel
theorem dX0_book_31 : decode cX0_book 31 = .ok (.areturn, 1) := by decide +kernel
theorem dX0_heedsBeard_0 : decode cX0_heedsBeard 0 = .ok (.aload_n 0, 1) := by decide +kernel
theorem dX0_heedsBeard_1 : decode cX0_heedsBeard 1 = .ok (.invokevirtual 32, 3) := by decide +kernel
theorem dX0_heedsBeard_4 : decode cX0_heedsBeard 4 = .ok (.astore_n 1, 1) := by decide +kernel
theorem dX0_heedsBeard_5 : decode cX0_heedsBeard 5 = .ok (.aload_n 1, 1) := by decide +kernel
theorem dX0_heedsBeard_6 : decode cX0_heedsBeard 6 = .ok (.ifnull 14, 3) := by decide +kernel
theorem dX0_heedsBeard_9 : decode cX0_heedsBeard 9 = .ok (.aload_n 1, 1) := by decide +kernel
theorem dX0_heedsBeard_10 : decode cX0_heedsBeard 10 = .ok (.getfield 36, 3) := by decide +kernel
theorem dX0_heedsBeard_13 : decode cX0_heedsBeard 13 = .ok (.ifCond .eq 7, 3) := by decide +kernel
theorem dX0_heedsBeard_16 : decode cX0_heedsBeard 16 = .ok (.iconst 1, 1) := by decide +kernel
theorem dX0_heedsBeard_17 : decode cX0_heedsBeard 17 = .ok (.goto 4, 3) := by decide +kernel
theorem dX0_heedsBeard_20 : decode cX0_heedsBeard 20 = .ok (.iconst 0, 1) := by decide +kernel
theorem dX0_heedsBeard_21 : decode cX0_heedsBeard 21 = .ok (.ireturn, 1) := by decide +kernel
theorem dX0_read_0 : decode cX0_read 0 = .ok (.aload_n 0, 1) := by decide +kernel
theorem dX0_read_1 : decode cX0_read 1 = .ok (.invokevirtual 32, 3) := by decide +kernel
theorem dX0_read_4 : decode cX0_read 4 = .ok (.astore 7, 2) := by decide +kernel
theorem dX0_read_6 : decode cX0_read 6 = .ok (.iload_n 2, 1) := by decide +kernel
theorem dX0_read_7 : decode cX0_read 7 = .ok (.aload_n 0, 1) := by decide +kernel
theorem dX0_read_8 : decode cX0_read 8 = .ok (.getfield 25, 3) := by decide +kernel
theorem dX0_read_11 : decode cX0_read 11 = .ok (.getfield 40, 3) := by decide +kernel
theorem dX0_read_14 : decode cX0_read 14 = .ok (.iload_n 1, 1) := by decide +kernel
theorem dX0_read_15 : decode cX0_read 15 = .ok (.iaload, 1) := by decide +kernel
theorem dX0_read_16 : decode cX0_read 16 = .ok (.isub, 1) := by decide +kernel
theorem dX0_read_17 : decode cX0_read 17 = .ok (.istore 8, 2) := by decide +kernel
theorem dX0_read_19 : decode cX0_read 19 = .ok (.aload 7, 2) := by decide +kernel
theorem dX0_read_21 : decode cX0_read 21 = .ok (.ifnull 70, 3) := by decide +kernel
theorem dX0_read_24 : decode cX0_read 24 = .ok (.aload_n 0, 1) := by decide +kernel
theorem dX0_read_25 : decode cX0_read 25 = .ok (.getfield 17, 3) := by decide +kernel
theorem dX0_read_28 : decode cX0_read 28 = .ok (.iconst 0, 1) := by decide +kernel
theorem dX0_read_29 : decode cX0_read 29 = .ok (.iload_n 2, 1) := by decide +kernel
theorem dX0_read_30 : decode cX0_read 30 = .ok (.iastore, 1) := by decide +kernel
theorem dX0_read_31 : decode cX0_read 31 = .ok (.aload_n 0, 1) := by decide +kernel
theorem dX0_read_32 : decode cX0_read 32 = .ok (.getfield 17, 3) := by decide +kernel
theorem dX0_read_35 : decode cX0_read 35 = .ok (.iconst 1, 1) := by decide +kernel
theorem dX0_read_36 : decode cX0_read 36 = .ok (.aload_n 0, 1) := by decide +kernel
theorem dX0_read_37 : decode cX0_read 37 = .ok (.getfield 25, 3) := by decide +kernel
theorem dX0_read_40 : decode cX0_read 40 = .ok (.getfield 40, 3) := by decide +kernel
theorem dX0_read_43 : decode cX0_read 43 = .ok (.iload_n 1, 1) := by decide +kernel
theorem dX0_read_44 : decode cX0_read 44 = .ok (.iaload, 1) := by decide +kernel
theorem dX0_read_45 : decode cX0_read 45 = .ok (.iastore, 1) := by decide +kernel
theorem dX0_read_46 : decode cX0_read 46 = .ok (.aload_n 0, 1) := by decide +kernel
theorem dX0_read_47 : decode cX0_read 47 = .ok (.getfield 17, 3) := by decide +kernel
theorem dX0_read_50 : decode cX0_read 50 = .ok (.iconst 2, 1) := by decide +kernel
theorem dX0_read_51 : decode cX0_read 51 = .ok (.iload 4, 2) := by decide +kernel
theorem dX0_read_53 : decode cX0_read 53 = .ok (.iastore, 1) := by decide +kernel
theorem dX0_read_54 : decode cX0_read 54 = .ok (.aload_n 0, 1) := by decide +kernel
theorem dX0_read_55 : decode cX0_read 55 = .ok (.getfield 17, 3) := by decide +kernel
theorem dX0_read_58 : decode cX0_read 58 = .ok (.iconst 3, 1) := by decide +kernel
theorem dX0_read_59 : decode cX0_read 59 = .ok (.iload_n 3, 1) := by decide +kernel
theorem dX0_read_60 : decode cX0_read 60 = .ok (.iastore, 1) := by decide +kernel
theorem dX0_read_61 : decode cX0_read 61 = .ok (.aload_n 0, 1) := by decide +kernel
theorem dX0_read_62 : decode cX0_read 62 = .ok (.getfield 17, 3) := by decide +kernel
theorem dX0_read_65 : decode cX0_read 65 = .ok (.iconst 4, 1) := by decide +kernel
theorem dX0_read_66 : decode cX0_read 66 = .ok (.iload 5, 2) := by decide +kernel
theorem dX0_read_68 : decode cX0_read 68 = .ok (.bipush 7, 2) := by decide +kernel
theorem dX0_read_70 : decode cX0_read 70 = .ok (.irem, 1) := by decide +kernel
theorem dX0_read_71 : decode cX0_read 71 = .ok (.iastore, 1) := by decide +kernel
theorem dX0_read_72 : decode cX0_read 72 = .ok (.aload_n 0, 1) := by decide +kernel
theorem dX0_read_73 : decode cX0_read 73 = .ok (.getfield 17, 3) := by decide +kernel
theorem dX0_read_76 : decode cX0_read 76 = .ok (.iconst 5, 1) := by decide +kernel
theorem dX0_read_77 : decode cX0_read 77 = .ok (.iload 6, 2) := by decide +kernel
theorem dX0_read_79 : decode cX0_read 79 = .ok (.iastore, 1) := by decide +kernel
theorem dX0_read_80 : decode cX0_read 80 = .ok (.aload 7, 2) := by decide +kernel
theorem dX0_read_82 : decode cX0_read 82 = .ok (.aload_n 0, 1) := by decide +kernel
theorem dX0_read_83 : decode cX0_read 83 = .ok (.getfield 17, 3) := by decide +kernel
theorem dX0_read_86 : decode cX0_read 86 = .ok (.invokevirtual 45, 3) := by decide +kernel
theorem dX0_read_89 : decode cX0_read 89 = .ok (.istore 8, 2) := by decide +kernel
theorem dX0_read_91 : decode cX0_read 91 = .ok (.bipush (-99), 2) := by decide +kernel
theorem dX0_read_93 : decode cX0_read 93 = .ok (.bipush 99, 2) := by decide +kernel
theorem dX0_read_95 : decode cX0_read 95 = .ok (.iload 8, 2) := by decide +kernel
theorem dX0_read_97 : decode cX0_read 97 = .ok (.invokestatic 49, 3) := by decide +kernel
theorem dX0_read_100 : decode cX0_read 100 = .ok (.invokestatic 55, 3) := by decide +kernel
theorem dX0_read_103 : decode cX0_read 103 = .ok (.ireturn, 1) := by decide +kernel
theorem dX0_readIn_0 : decode cX0_readIn 0 = .ok (.bipush 99, 2) := by decide +kernel
theorem dX0_readIn_2 : decode cX0_readIn 2 = .ok (.aload_n 1, 1) := by decide +kernel
theorem dX0_readIn_3 : decode cX0_readIn 3 = .ok (.iload_n 2, 1) := by decide +kernel
theorem dX0_readIn_4 : decode cX0_readIn 4 = .ok (.invokevirtual 58, 3) := by decide +kernel
theorem dX0_readIn_7 : decode cX0_readIn 7 = .ok (.iload_n 3, 1) := by decide +kernel
theorem dX0_readIn_8 : decode cX0_readIn 8 = .ok (.iadd, 1) := by decide +kernel
theorem dX0_readIn_9 : decode cX0_readIn 9 = .ok (.invokestatic 49, 3) := by decide +kernel
theorem dX0_readIn_12 : decode cX0_readIn 12 = .ok (.istore 6, 2) := by decide +kernel
theorem dX0_readIn_14 : decode cX0_readIn 14 = .ok (.aload_n 0, 1) := by decide +kernel
theorem dX0_readIn_15 : decode cX0_readIn 15 = .ok (.iload_n 2, 1) := by decide +kernel
theorem dX0_readIn_16 : decode cX0_readIn 16 = .ok (.iload 4, 2) := by decide +kernel
theorem dX0_readIn_18 : decode cX0_readIn 18 = .ok (.iload 5, 2) := by decide +kernel
theorem dX0_readIn_20 : decode cX0_readIn 20 = .ok (.iload 6, 2) := by decide +kernel
theorem dX0_readIn_22 : decode cX0_readIn 22 = .ok (.aload_n 1, 1) := by decide +kernel
theorem dX0_readIn_23 : decode cX0_readIn 23 = .ok (.bipush 66, 2) := by decide +kernel
theorem dX0_readIn_25 : decode cX0_readIn 25 = .ok (.invokevirtual 64, 3) := by decide +kernel
theorem dX0_readIn_28 : decode cX0_readIn 28 = .ok (.iload_n 3, 1) := by decide +kernel
theorem dX0_readIn_29 : decode cX0_readIn 29 = .ok (.iadd, 1) := by decide +kernel
theorem dX0_readIn_30 : decode cX0_readIn 30 = .ok (.aload_n 1, 1) := by decide +kernel
theorem dX0_readIn_31 : decode cX0_readIn 31 = .ok (.iload_n 2, 1) := by decide +kernel
theorem dX0_readIn_32 : decode cX0_readIn 32 = .ok (.invokevirtual 67, 3) := by decide +kernel
theorem dX0_readIn_35 : decode cX0_readIn 35 = .ok (.invokevirtual 70, 3) := by decide +kernel
theorem dX0_readIn_38 : decode cX0_readIn 38 = .ok (.ireturn, 1) := by decide +kernel
theorem dX0_isGuilty_0 : decode cX0_isGuilty 0 = .ok (.aload_n 0, 1) := by decide +kernel
theorem dX0_isGuilty_1 : decode cX0_isGuilty 1 = .ok (.iload_n 2, 1) := by decide +kernel
theorem dX0_isGuilty_2 : decode cX0_isGuilty 2 = .ok (.aload_n 0, 1) := by decide +kernel
theorem dX0_isGuilty_3 : decode cX0_isGuilty 3 = .ok (.getfield 25, 3) := by decide +kernel
theorem dX0_isGuilty_6 : decode cX0_isGuilty 6 = .ok (.iload_n 3, 1) := by decide +kernel
theorem dX0_isGuilty_7 : decode cX0_isGuilty 7 = .ok (.invokevirtual 74, 3) := by decide +kernel
theorem dX0_isGuilty_10 : decode cX0_isGuilty 10 = .ok (.iload_n 3, 1) := by decide +kernel
theorem dX0_isGuilty_11 : decode cX0_isGuilty 11 = .ok (.invokestatic 77, 3) := by decide +kernel
theorem dX0_isGuilty_14 : decode cX0_isGuilty 14 = .ok (.aload_n 1, 1) := by decide +kernel
theorem dX0_isGuilty_15 : decode cX0_isGuilty 15 = .ok (.iload_n 2, 1) := by decide +kernel
theorem dX0_isGuilty_16 : decode cX0_isGuilty 16 = .ok (.invokevirtual 58, 3) := by decide +kernel
theorem dX0_isGuilty_19 : decode cX0_isGuilty 19 = .ok (.aload_n 1, 1) := by decide +kernel
theorem dX0_isGuilty_20 : decode cX0_isGuilty 20 = .ok (.bipush 66, 2) := by decide +kernel
theorem dX0_isGuilty_22 : decode cX0_isGuilty 22 = .ok (.invokevirtual 64, 3) := by decide +kernel
theorem dX0_isGuilty_25 : decode cX0_isGuilty 25 = .ok (.aload_n 1, 1) := by decide +kernel
theorem dX0_isGuilty_26 : decode cX0_isGuilty 26 = .ok (.iload_n 2, 1) := by decide +kernel
theorem dX0_isGuilty_27 : decode cX0_isGuilty 27 = .ok (.invokevirtual 67, 3) := by decide +kernel
theorem dX0_isGuilty_30 : decode cX0_isGuilty 30 = .ok (.invokevirtual 70, 3) := by decide +kernel
theorem dX0_isGuilty_33 : decode cX0_isGuilty 33 = .ok (.ifCond .le 7, 3) := by decide +kernel
theorem dX0_isGuilty_36 : decode cX0_isGuilty 36 = .ok (.iconst 1, 1) := by decide +kernel
theorem dX0_isGuilty_37 : decode cX0_isGuilty 37 = .ok (.goto 4, 3) := by decide +kernel
theorem dX0_isGuilty_40 : decode cX0_isGuilty 40 = .ok (.iconst 0, 1) := by decide +kernel
theorem dX0_isGuilty_41 : decode cX0_isGuilty 41 = .ok (.ireturn, 1) := by decide +kernel
theorem dX0_isGuiltyIn_0 : decode cX0_isGuiltyIn 0 = .ok (.aload_n 1, 1) := by decide +kernel
theorem dX0_isGuiltyIn_1 : decode cX0_isGuiltyIn 1 = .ok (.iload_n 2, 1) := by decide +kernel
theorem dX0_isGuiltyIn_2 : decode cX0_isGuiltyIn 2 = .ok (.iload_n 3, 1) := by decide +kernel
theorem dX0_isGuiltyIn_3 : decode cX0_isGuiltyIn 3 = .ok (.invokevirtual 82, 3) := by decide +kernel
theorem dX0_isGuiltyIn_6 : decode cX0_isGuiltyIn 6 = .ok (.istore 4, 2) := by decide +kernel
theorem dX0_isGuiltyIn_8 : decode cX0_isGuiltyIn 8 = .ok (.aload_n 0, 1) := by decide +kernel
theorem dX0_isGuiltyIn_9 : decode cX0_isGuiltyIn 9 = .ok (.aload_n 1, 1) := by decide +kernel
theorem dX0_isGuiltyIn_10 : decode cX0_isGuiltyIn 10 = .ok (.iload_n 2, 1) := by decide +kernel
theorem dX0_isGuiltyIn_11 : decode cX0_isGuiltyIn 11 = .ok (.iload_n 3, 1) := by decide +kernel
theorem dX0_isGuiltyIn_12 : decode cX0_isGuiltyIn 12 = .ok (.aload_n 0, 1) := by decide +kernel
theorem dX0_isGuiltyIn_13 : decode cX0_isGuiltyIn 13 = .ok (.getfield 25, 3) := by decide +kernel
theorem dX0_isGuiltyIn_16 : decode cX0_isGuiltyIn 16 = .ok (.iload 4, 2) := by decide +kernel
theorem dX0_isGuiltyIn_18 : decode cX0_isGuiltyIn 18 = .ok (.invokevirtual 74, 3) := by decide +kernel
theorem dX0_isGuiltyIn_21 : decode cX0_isGuiltyIn 21 = .ok (.iload 4, 2) := by decide +kernel
theorem dX0_isGuiltyIn_23 : decode cX0_isGuiltyIn 23 = .ok (.invokestatic 77, 3) := by decide +kernel
theorem dX0_isGuiltyIn_26 : decode cX0_isGuiltyIn 26 = .ok (.invokevirtual 85, 3) := by decide +kernel
theorem dX0_isGuiltyIn_29 : decode cX0_isGuiltyIn 29 = .ok (.ifCond .le 7, 3) := by decide +kernel
theorem dX0_isGuiltyIn_32 : decode cX0_isGuiltyIn 32 = .ok (.iconst 1, 1) := by decide +kernel
theorem dX0_isGuiltyIn_33 : decode cX0_isGuiltyIn 33 = .ok (.goto 4, 3) := by decide +kernel
theorem dX0_isGuiltyIn_36 : decode cX0_isGuiltyIn 36 = .ok (.iconst 0, 1) := by decide +kernel
theorem dX0_isGuiltyIn_37 : decode cX0_isGuiltyIn 37 = .ok (.ireturn, 1) := by decide +kernel
theorem dX1_init_0 : decode cX1_init 0 = .ok (.aload_n 0, 1) := by decide +kernel
theorem dX1_init_1 : decode cX1_init 1 = .ok (.invokespecial 1, 3) := by decide +kernel
theorem dX1_init_4 : decode cX1_init 4 = .ok (.return_, 1) := by decide +kernel
theorem dX1_begin_0 : decode cX1_begin 0 = .ok (.aload_n 0, 1) := by decide +kernel
theorem dX1_begin_1 : decode cX1_begin 1 = .ok (.lload_n 1, 1) := by decide +kernel
theorem dX1_begin_2 : decode cX1_begin 2 = .ok (.putfield 7, 3) := by decide +kernel
theorem dX1_begin_5 : decode cX1_begin 5 = .ok (.return_, 1) := by decide +kernel
theorem dX1_draw_0 : decode cX1_draw 0 = .ok (.aload_n 0, 1) := by decide +kernel
theorem dX1_draw_1 : decode cX1_draw 1 = .ok (.aload_n 0, 1) := by decide +kernel
theorem dX1_draw_2 : decode cX1_draw 2 = .ok (.getfield 7, 3) := by decide +kernel
theorem dX1_draw_5 : decode cX1_draw 5 = .ok (.ldc2_w 13, 3) := by decide +kernel
theorem dX1_draw_8 : decode cX1_draw 8 = .ok (.lmul, 1) := by decide +kernel
theorem dX1_draw_9 : decode cX1_draw 9 = .ok (.ldc2_w 15, 3) := by decide +kernel
theorem dX1_draw_12 : decode cX1_draw 12 = .ok (.ladd, 1) := by decide +kernel
theorem dX1_draw_13 : decode cX1_draw 13 = .ok (.putfield 7, 3) := by decide +kernel
theorem dX1_draw_16 : decode cX1_draw 16 = .ok (.iload_n 1, 1) := by decide +kernel
theorem dX1_draw_17 : decode cX1_draw 17 = .ok (.iconst 1, 1) := by decide +kernel
theorem dX1_draw_18 : decode cX1_draw 18 = .ok (.if_icmp .ge 7, 3) := by decide +kernel
theorem dX1_draw_21 : decode cX1_draw 21 = .ok (.iconst 0, 1) := by decide +kernel
theorem dX1_draw_22 : decode cX1_draw 22 = .ok (.goto 14, 3) := by decide +kernel
theorem dX1_draw_25 : decode cX1_draw 25 = .ok (.aload_n 0, 1) := by decide +kernel
theorem dX1_draw_26 : decode cX1_draw 26 = .ok (.getfield 7, 3) := by decide +kernel
theorem dX1_draw_29 : decode cX1_draw 29 = .ok (.bipush 33, 2) := by decide +kernel
theorem dX1_draw_31 : decode cX1_draw 31 = .ok (.lushr, 1) := by decide +kernel
theorem dX1_draw_32 : decode cX1_draw 32 = .ok (.iload_n 1, 1) := by decide +kernel
theorem dX1_draw_33 : decode cX1_draw 33 = .ok (.i2l, 1) := by decide +kernel
theorem dX1_draw_34 : decode cX1_draw 34 = .ok (.lrem, 1) := by decide +kernel
theorem dX1_draw_35 : decode cX1_draw 35 = .ok (.l2i, 1) := by decide +kernel
theorem dX1_draw_36 : decode cX1_draw 36 = .ok (.ireturn, 1) := by decide +kernel
theorem dX2_init_0 : decode cX2_init 0 = .ok (.aload_n 0, 1) := by decide +kernel
theorem dX2_init_1 : decode cX2_init 1 = .ok (.invokespecial 3, 3) := by decide +kernel
theorem dX2_init_4 : decode cX2_init 4 = .ok (.aload_n 0, 1) := by decide +kernel
theorem dX2_init_5 : decode cX2_init 5 = .ok (.sipush 240, 3) := by decide +kernel
theorem dX2_init_8 : decode cX2_init 8 = .ok (.newarray .int, 2) := by decide +kernel
theorem dX2_init_10 : decode cX2_init 10 = .ok (.putfield 9, 3) := by decide +kernel
theorem dX2_init_13 : decode cX2_init 13 = .ok (.aload_n 0, 1) := by decide +kernel
theorem dX2_init_14 : decode cX2_init 14 = .ok (.bipush 61, 2) := by decide +kernel
theorem dX2_init_16 : decode cX2_init 16 = .ok (.newarray .int, 2) := by decide +kernel
theorem dX2_init_18 : decode cX2_init 18 = .ok (.putfield 15, 3) := by decide +kernel
theorem dX2_init_21 : decode cX2_init 21 = .ok (.aload_n 0, 1) := by decide +kernel
theorem dX2_init_22 : decode cX2_init 22 = .ok (.bipush 61, 2) := by decide +kernel
theorem dX2_init_24 : decode cX2_init 24 = .ok (.newarray .int, 2) := by decide +kernel
theorem dX2_init_26 : decode cX2_init 26 = .ok (.putfield 18, 3) := by decide +kernel
theorem dX2_init_29 : decode cX2_init 29 = .ok (.aload_n 0, 1) := by decide +kernel
theorem dX2_init_30 : decode cX2_init 30 = .ok (.bipush 64, 2) := by decide +kernel
theorem dX2_init_32 : decode cX2_init 32 = .ok (.newarray .int, 2) := by decide +kernel
theorem dX2_init_34 : decode cX2_init 34 = .ok (.putfield 21, 3) := by decide +kernel
theorem dX2_init_37 : decode cX2_init 37 = .ok (.return_, 1) := by decide +kernel
theorem dX2_clear_0 : decode cX2_clear 0 = .ok (.aload_n 0, 1) := by decide +kernel
theorem dX2_clear_1 : decode cX2_clear 1 = .ok (.iconst 0, 1) := by decide +kernel
theorem dX2_clear_2 : decode cX2_clear 2 = .ok (.putfield 24, 3) := by decide +kernel
theorem dX2_clear_5 : decode cX2_clear 5 = .ok (.aload_n 0, 1) := by decide +kernel
theorem dX2_clear_6 : decode cX2_clear 6 = .ok (.iconst 0, 1) := by decide +kernel
theorem dX2_clear_7 : decode cX2_clear 7 = .ok (.putfield 28, 3) := by decide +kernel
theorem dX2_clear_10 : decode cX2_clear 10 = .ok (.aload_n 0, 1) := by decide +kernel
theorem dX2_clear_11 : decode cX2_clear 11 = .ok (.iconst 0, 1) := by decide +kernel
theorem dX2_clear_12 : decode cX2_clear 12 = .ok (.putfield 31, 3) := by decide +kernel
theorem dX2_clear_15 : decode cX2_clear 15 = .ok (.return_, 1) := by decide +kernel
theorem dX2_add_0 : decode cX2_add 0 = .ok (.aload_n 0, 1) := by decide +kernel
theorem dX2_add_1 : decode cX2_add 1 = .ok (.getfield 24, 3) := by decide +kernel
theorem dX2_add_4 : decode cX2_add 4 = .ok (.sipush 240, 3) := by decide +kernel
theorem dX2_add_7 : decode cX2_add 7 = .ok (.if_icmp .ge 23, 3) := by decide +kernel
theorem dX2_add_10 : decode cX2_add 10 = .ok (.aload_n 0, 1) := by decide +kernel
theorem dX2_add_11 : decode cX2_add 11 = .ok (.getfield 9, 3) := by decide +kernel
theorem dX2_add_14 : decode cX2_add 14 = .ok (.aload_n 0, 1) := by decide +kernel
theorem dX2_add_15 : decode cX2_add 15 = .ok (.getfield 24, 3) := by decide +kernel
theorem dX2_add_18 : decode cX2_add 18 = .ok (.iload_n 1, 1) := by decide +kernel
theorem dX2_add_19 : decode cX2_add 19 = .ok (.iastore, 1) := by decide +kernel
theorem dX2_add_20 : decode cX2_add 20 = .ok (.aload_n 0, 1) := by decide +kernel
theorem dX2_add_21 : decode cX2_add 21 = .ok (.dup, 1) := by decide +kernel
theorem dX2_add_22 : decode cX2_add 22 = .ok (.getfield 24, 3) := by decide +kernel
theorem dX2_add_25 : decode cX2_add 25 = .ok (.iconst 1, 1) := by decide +kernel
theorem dX2_add_26 : decode cX2_add 26 = .ok (.iadd, 1) := by decide +kernel
theorem dX2_add_27 : decode cX2_add 27 = .ok (.putfield 24, 3) := by decide +kernel
theorem dX2_add_30 : decode cX2_add 30 = .ok (.iload_n 1, 1) := by decide +kernel
theorem dX2_add_31 : decode cX2_add 31 = .ok (.iconst 2, 1) := by decide +kernel
theorem dX2_add_32 : decode cX2_add 32 = .ok (.if_icmp .ne 8, 3) := by decide +kernel
theorem dX2_add_35 : decode cX2_add 35 = .ok (.aload_n 0, 1) := by decide +kernel
theorem dX2_add_36 : decode cX2_add 36 = .ok (.iconst 1, 1) := by decide +kernel
theorem dX2_add_37 : decode cX2_add 37 = .ok (.putfield 31, 3) := by decide +kernel
theorem dX2_add_40 : decode cX2_add 40 = .ok (.return_, 1) := by decide +kernel
theorem dX2_addClause_0 : decode cX2_addClause 0 = .ok (.aload_n 0, 1) := by decide +kernel
theorem dX2_addClause_1 : decode cX2_addClause 1 = .ok (.getfield 28, 3) := by decide +kernel
theorem dX2_addClause_4 : decode cX2_addClause 4 = .ok (.bipush 61, 2) := by decide +kernel
theorem dX2_addClause_6 : decode cX2_addClause 6 = .ok (.if_icmp .ge 33, 3) := by decide +kernel
theorem dX2_addClause_9 : decode cX2_addClause 9 = .ok (.aload_n 0, 1) := by decide +kernel
theorem dX2_addClause_10 : decode cX2_addClause 10 = .ok (.getfield 15, 3) := by decide +kernel
theorem dX2_addClause_13 : decode cX2_addClause 13 = .ok (.aload_n 0, 1) := by decide +kernel
theorem dX2_addClause_14 : decode cX2_addClause 14 = .ok (.getfield 28, 3) := by decide +kernel
theorem dX2_addClause_17 : decode cX2_addClause 17 = .ok (.iload_n 1, 1) := by decide +kernel
theorem dX2_addClause_18 : decode cX2_addClause 18 = .ok (.iastore, 1) := by decide +kernel
theorem dX2_addClause_19 : decode cX2_addClause 19 = .ok (.aload_n 0, 1) := by decide +kernel
theorem dX2_addClause_20 : decode cX2_addClause 20 = .ok (.getfield 18, 3) := by decide +kernel
theorem dX2_addClause_23 : decode cX2_addClause 23 = .ok (.aload_n 0, 1) := by decide +kernel
theorem dX2_addClause_24 : decode cX2_addClause 24 = .ok (.getfield 28, 3) := by decide +kernel
theorem dX2_addClause_27 : decode cX2_addClause 27 = .ok (.iload_n 2, 1) := by decide +kernel
theorem dX2_addClause_28 : decode cX2_addClause 28 = .ok (.iastore, 1) := by decide +kernel
theorem dX2_addClause_29 : decode cX2_addClause 29 = .ok (.aload_n 0, 1) := by decide +kernel
theorem dX2_addClause_30 : decode cX2_addClause 30 = .ok (.dup, 1) := by decide +kernel
theorem dX2_addClause_31 : decode cX2_addClause 31 = .ok (.getfield 28, 3) := by decide +kernel
theorem dX2_addClause_34 : decode cX2_addClause 34 = .ok (.iconst 1, 1) := by decide +kernel
theorem dX2_addClause_35 : decode cX2_addClause 35 = .ok (.iadd, 1) := by decide +kernel
theorem dX2_addClause_36 : decode cX2_addClause 36 = .ok (.putfield 28, 3) := by decide +kernel
theorem dX2_addClause_39 : decode cX2_addClause 39 = .ok (.return_, 1) := by decide +kernel
theorem dX2_worth_0 : decode cX2_worth 0 = .ok (.iconst 0, 1) := by decide +kernel
theorem dX2_worth_1 : decode cX2_worth 1 = .ok (.istore_n 2, 1) := by decide +kernel
theorem dX2_worth_2 : decode cX2_worth 2 = .ok (.iload_n 2, 1) := by decide +kernel
theorem dX2_worth_3 : decode cX2_worth 3 = .ok (.aload_n 0, 1) := by decide +kernel
theorem dX2_worth_4 : decode cX2_worth 4 = .ok (.getfield 28, 3) := by decide +kernel
theorem dX2_worth_7 : decode cX2_worth 7 = .ok (.if_icmp .ge 83, 3) := by decide +kernel
theorem dX2_worth_10 : decode cX2_worth 10 = .ok (.aload_n 0, 1) := by decide +kernel
theorem dX2_worth_11 : decode cX2_worth 11 = .ok (.getfield 15, 3) := by decide +kernel
theorem dX2_worth_14 : decode cX2_worth 14 = .ok (.iload_n 2, 1) := by decide +kernel
theorem dX2_worth_15 : decode cX2_worth 15 = .ok (.iaload, 1) := by decide +kernel
theorem dX2_worth_16 : decode cX2_worth 16 = .ok (.aload_n 0, 1) := by decide +kernel
theorem dX2_worth_17 : decode cX2_worth 17 = .ok (.getfield 18, 3) := by decide +kernel
theorem dX2_worth_20 : decode cX2_worth 20 = .ok (.iload_n 2, 1) := by decide +kernel
theorem dX2_worth_21 : decode cX2_worth 21 = .ok (.iaload, 1) := by decide +kernel
theorem dX2_worth_22 : decode cX2_worth 22 = .ok (.if_icmp .eq 23, 3) := by decide +kernel
theorem dX2_worth_25 : decode cX2_worth 25 = .ok (.aload_n 0, 1) := by decide +kernel
theorem dX2_worth_26 : decode cX2_worth 26 = .ok (.aload_n 0, 1) := by decide +kernel
theorem dX2_worth_27 : decode cX2_worth 27 = .ok (.getfield 15, 3) := by decide +kernel
theorem dX2_worth_30 : decode cX2_worth 30 = .ok (.iload_n 2, 1) := by decide +kernel
theorem dX2_worth_31 : decode cX2_worth 31 = .ok (.iaload, 1) := by decide +kernel
theorem dX2_worth_32 : decode cX2_worth 32 = .ok (.aload_n 0, 1) := by decide +kernel
theorem dX2_worth_33 : decode cX2_worth 33 = .ok (.getfield 18, 3) := by decide +kernel
theorem dX2_worth_36 : decode cX2_worth 36 = .ok (.iload_n 2, 1) := by decide +kernel
theorem dX2_worth_37 : decode cX2_worth 37 = .ok (.iaload, 1) := by decide +kernel
theorem dX2_worth_38 : decode cX2_worth 38 = .ok (.aload_n 1, 1) := by decide +kernel
theorem dX2_worth_39 : decode cX2_worth 39 = .ok (.invokevirtual 35, 3) := by decide +kernel
theorem dX2_worth_42 : decode cX2_worth 42 = .ok (.ifCond .eq 42, 3) := by decide +kernel
theorem dX2_worth_45 : decode cX2_worth 45 = .ok (.iload_n 2, 1) := by decide +kernel
theorem dX2_worth_46 : decode cX2_worth 46 = .ok (.iconst 1, 1) := by decide +kernel
theorem dX2_worth_47 : decode cX2_worth 47 = .ok (.iadd, 1) := by decide +kernel
theorem dX2_worth_48 : decode cX2_worth 48 = .ok (.aload_n 0, 1) := by decide +kernel
theorem dX2_worth_49 : decode cX2_worth 49 = .ok (.getfield 28, 3) := by decide +kernel
theorem dX2_worth_52 : decode cX2_worth 52 = .ok (.if_icmp .ge 14, 3) := by decide +kernel
theorem dX2_worth_55 : decode cX2_worth 55 = .ok (.aload_n 0, 1) := by decide +kernel
theorem dX2_worth_56 : decode cX2_worth 56 = .ok (.getfield 15, 3) := by decide +kernel
theorem dX2_worth_59 : decode cX2_worth 59 = .ok (.iload_n 2, 1) := by decide +kernel
theorem dX2_worth_60 : decode cX2_worth 60 = .ok (.iconst 1, 1) := by decide +kernel
theorem dX2_worth_61 : decode cX2_worth 61 = .ok (.iadd, 1) := by decide +kernel
theorem dX2_worth_62 : decode cX2_worth 62 = .ok (.iaload, 1) := by decide +kernel
theorem dX2_worth_63 : decode cX2_worth 63 = .ok (.goto 7, 3) := by decide +kernel
theorem dX2_worth_66 : decode cX2_worth 66 = .ok (.aload_n 0, 1) := by decide +kernel
theorem dX2_worth_67 : decode cX2_worth 67 = .ok (.getfield 24, 3) := by decide +kernel
theorem dX2_worth_70 : decode cX2_worth 70 = .ok (.istore_n 3, 1) := by decide +kernel
theorem dX2_worth_71 : decode cX2_worth 71 = .ok (.aload_n 0, 1) := by decide +kernel
theorem dX2_worth_72 : decode cX2_worth 72 = .ok (.aload_n 0, 1) := by decide +kernel
theorem dX2_worth_73 : decode cX2_worth 73 = .ok (.getfield 18, 3) := by decide +kernel
theorem dX2_worth_76 : decode cX2_worth 76 = .ok (.iload_n 2, 1) := by decide +kernel
theorem dX2_worth_77 : decode cX2_worth 77 = .ok (.iaload, 1) := by decide +kernel
theorem dX2_worth_78 : decode cX2_worth 78 = .ok (.iload_n 3, 1) := by decide +kernel
theorem dX2_worth_79 : decode cX2_worth 79 = .ok (.aload_n 1, 1) := by decide +kernel
theorem dX2_worth_80 : decode cX2_worth 80 = .ok (.invokevirtual 35, 3) := by decide +kernel
theorem dX2_worth_83 : decode cX2_worth 83 = .ok (.ireturn, 1) := by decide +kernel
theorem dX2_worth_84 : decode cX2_worth 84 = .ok (.iinc 2 1, 3) := by decide +kernel
theorem dX2_worth_87 : decode cX2_worth 87 = .ok (.goto (-85), 3) := by decide +kernel
theorem dX2_worth_90 : decode cX2_worth 90 = .ok (.iconst 0, 1) := by decide +kernel
theorem dX2_worth_91 : decode cX2_worth 91 = .ok (.ireturn, 1) := by decide +kernel
theorem dX2_valueOf_0 : decode cX2_valueOf 0 = .ok (.iconst 0, 1) := by decide +kernel
theorem dX2_valueOf_1 : decode cX2_valueOf 1 = .ok (.istore 4, 2) := by decide +kernel
theorem dX2_valueOf_3 : decode cX2_valueOf 3 = .ok (.iload_n 1, 1) := by decide +kernel
theorem dX2_valueOf_4 : decode cX2_valueOf 4 = .ok (.istore 5, 2) := by decide +kernel
theorem dX2_valueOf_6 : decode cX2_valueOf 6 = .ok (.iload 5, 2) := by decide +kernel
theorem dX2_valueOf_8 : decode cX2_valueOf 8 = .ok (.iload_n 2, 1) := by decide +kernel
theorem dX2_valueOf_9 : decode cX2_valueOf 9 = .ok (.if_icmp .ge 147, 3) := by decide +kernel
theorem dX2_valueOf_12 : decode cX2_valueOf 12 = .ok (.aload_n 0, 1) := by decide +kernel
theorem dX2_valueOf_13 : decode cX2_valueOf 13 = .ok (.getfield 9, 3) := by decide +kernel
theorem dX2_valueOf_16 : decode cX2_valueOf 16 = .ok (.iload 5, 2) := by decide +kernel
theorem dX2_valueOf_18 : decode cX2_valueOf 18 = .ok (.iaload, 1) := by decide +kernel
theorem dX2_valueOf_19 : decode cX2_valueOf 19 = .ok (.istore 6, 2) := by decide +kernel
theorem dX2_valueOf_21 : decode cX2_valueOf 21 = .ok (.iload 6, 2) := by decide +kernel
theorem dX2_valueOf_23 : decode cX2_valueOf 23 = .ok (.bipush 16, 2) := by decide +kernel
theorem dX2_valueOf_25 : decode cX2_valueOf 25 = .ok (.if_icmp .ge 10, 3) := by decide +kernel
theorem dX2_valueOf_28 : decode cX2_valueOf 28 = .ok (.iload 6, 2) := by decide +kernel
theorem dX2_valueOf_30 : decode cX2_valueOf 30 = .ok (.bipush 6, 2) := by decide +kernel
theorem dX2_valueOf_32 : decode cX2_valueOf 32 = .ok (.if_icmp .ge 42, 3) := by decide +kernel
theorem dX2_valueOf_35 : decode cX2_valueOf 35 = .ok (.iload 4, 2) := by decide +kernel
theorem dX2_valueOf_37 : decode cX2_valueOf 37 = .ok (.bipush 64, 2) := by decide +kernel
theorem dX2_valueOf_39 : decode cX2_valueOf 39 = .ok (.if_icmp .ge 111, 3) := by decide +kernel
theorem dX2_valueOf_42 : decode cX2_valueOf 42 = .ok (.aload_n 0, 1) := by decide +kernel
theorem dX2_valueOf_43 : decode cX2_valueOf 43 = .ok (.getfield 21, 3) := by decide +kernel
theorem dX2_valueOf_46 : decode cX2_valueOf 46 = .ok (.iload 4, 2) := by decide +kernel
theorem dX2_valueOf_48 : decode cX2_valueOf 48 = .ok (.iload 6, 2) := by decide +kernel
theorem dX2_valueOf_50 : decode cX2_valueOf 50 = .ok (.bipush 16, 2) := by decide +kernel
theorem dX2_valueOf_52 : decode cX2_valueOf 52 = .ok (.if_icmp .lt 11, 3) := by decide +kernel
theorem dX2_valueOf_55 : decode cX2_valueOf 55 = .ok (.iload 6, 2) := by decide +kernel
theorem dX2_valueOf_57 : decode cX2_valueOf 57 = .ok (.bipush 16, 2) := by decide +kernel
theorem dX2_valueOf_59 : decode cX2_valueOf 59 = .ok (.isub, 1) := by decide +kernel
theorem dX2_valueOf_60 : decode cX2_valueOf 60 = .ok (.goto 7, 3) := by decide +kernel
theorem dX2_valueOf_63 : decode cX2_valueOf 63 = .ok (.aload_n 3, 1) := by decide +kernel
theorem dX2_valueOf_64 : decode cX2_valueOf 64 = .ok (.iload 6, 2) := by decide +kernel
theorem dX2_valueOf_66 : decode cX2_valueOf 66 = .ok (.iaload, 1) := by decide +kernel
theorem dX2_valueOf_67 : decode cX2_valueOf 67 = .ok (.iastore, 1) := by decide +kernel
theorem dX2_valueOf_68 : decode cX2_valueOf 68 = .ok (.iinc 4 1, 3) := by decide +kernel
theorem dX2_valueOf_71 : decode cX2_valueOf 71 = .ok (.goto 79, 3) := by decide +kernel
theorem dX2_valueOf_74 : decode cX2_valueOf 74 = .ok (.iload 6, 2) := by decide +kernel
theorem dX2_valueOf_76 : decode cX2_valueOf 76 = .ok (.bipush 8, 2) := by decide +kernel
theorem dX2_valueOf_78 : decode cX2_valueOf 78 = .ok (.if_icmp .ne 31, 3) := by decide +kernel
theorem dX2_valueOf_81 : decode cX2_valueOf 81 = .ok (.iload 4, 2) := by decide +kernel
theorem dX2_valueOf_83 : decode cX2_valueOf 83 = .ok (.ifCond .le 67, 3) := by decide +kernel
theorem dX2_valueOf_86 : decode cX2_valueOf 86 = .ok (.aload_n 0, 1) := by decide +kernel
theorem dX2_valueOf_87 : decode cX2_valueOf 87 = .ok (.getfield 21, 3) := by decide +kernel
theorem dX2_valueOf_90 : decode cX2_valueOf 90 = .ok (.iload 4, 2) := by decide +kernel
theorem dX2_valueOf_92 : decode cX2_valueOf 92 = .ok (.iconst 1, 1) := by decide +kernel
theorem dX2_valueOf_93 : decode cX2_valueOf 93 = .ok (.isub, 1) := by decide +kernel
theorem dX2_valueOf_94 : decode cX2_valueOf 94 = .ok (.iconst 1, 1) := by decide +kernel
theorem dX2_valueOf_95 : decode cX2_valueOf 95 = .ok (.aload_n 0, 1) := by decide +kernel
theorem dX2_valueOf_96 : decode cX2_valueOf 96 = .ok (.getfield 21, 3) := by decide +kernel
theorem dX2_valueOf_99 : decode cX2_valueOf 99 = .ok (.iload 4, 2) := by decide +kernel
theorem dX2_valueOf_101 : decode cX2_valueOf 101 = .ok (.iconst 1, 1) := by decide +kernel
theorem dX2_valueOf_102 : decode cX2_valueOf 102 = .ok (.isub, 1) := by decide +kernel
theorem dX2_valueOf_103 : decode cX2_valueOf 103 = .ok (.iaload, 1) := by decide +kernel
theorem dX2_valueOf_104 : decode cX2_valueOf 104 = .ok (.isub, 1) := by decide +kernel
theorem dX2_valueOf_105 : decode cX2_valueOf 105 = .ok (.iastore, 1) := by decide +kernel
theorem dX2_valueOf_106 : decode cX2_valueOf 106 = .ok (.goto 44, 3) := by decide +kernel
theorem dX2_valueOf_109 : decode cX2_valueOf 109 = .ok (.iload 4, 2) := by decide +kernel
theorem dX2_valueOf_111 : decode cX2_valueOf 111 = .ok (.iconst 1, 1) := by decide +kernel
theorem dX2_valueOf_112 : decode cX2_valueOf 112 = .ok (.if_icmp .le 38, 3) := by decide +kernel
theorem dX2_valueOf_115 : decode cX2_valueOf 115 = .ok (.iinc 4 (-1), 3) := by decide +kernel
theorem dX2_valueOf_118 : decode cX2_valueOf 118 = .ok (.aload_n 0, 1) := by decide +kernel
theorem dX2_valueOf_119 : decode cX2_valueOf 119 = .ok (.getfield 21, 3) := by decide +kernel
theorem dX2_valueOf_122 : decode cX2_valueOf 122 = .ok (.iload 4, 2) := by decide +kernel
theorem dX2_valueOf_124 : decode cX2_valueOf 124 = .ok (.iconst 1, 1) := by decide +kernel
theorem dX2_valueOf_125 : decode cX2_valueOf 125 = .ok (.isub, 1) := by decide +kernel
theorem dX2_valueOf_126 : decode cX2_valueOf 126 = .ok (.iload 6, 2) := by decide +kernel
theorem dX2_valueOf_128 : decode cX2_valueOf 128 = .ok (.aload_n 0, 1) := by decide +kernel
theorem dX2_valueOf_129 : decode cX2_valueOf 129 = .ok (.getfield 21, 3) := by decide +kernel
theorem dX2_valueOf_132 : decode cX2_valueOf 132 = .ok (.iload 4, 2) := by decide +kernel
theorem dX2_valueOf_134 : decode cX2_valueOf 134 = .ok (.iconst 1, 1) := by decide +kernel
theorem dX2_valueOf_135 : decode cX2_valueOf 135 = .ok (.isub, 1) := by decide +kernel
theorem dX2_valueOf_136 : decode cX2_valueOf 136 = .ok (.iaload, 1) := by decide +kernel
theorem dX2_valueOf_137 : decode cX2_valueOf 137 = .ok (.i2l, 1) := by decide +kernel
theorem dX2_valueOf_138 : decode cX2_valueOf 138 = .ok (.aload_n 0, 1) := by decide +kernel
theorem dX2_valueOf_139 : decode cX2_valueOf 139 = .ok (.getfield 21, 3) := by decide +kernel
theorem dX2_valueOf_142 : decode cX2_valueOf 142 = .ok (.iload 4, 2) := by decide +kernel
theorem dX2_valueOf_144 : decode cX2_valueOf 144 = .ok (.iaload, 1) := by decide +kernel
theorem dX2_valueOf_145 : decode cX2_valueOf 145 = .ok (.i2l, 1) := by decide +kernel
theorem dX2_valueOf_146 : decode cX2_valueOf 146 = .ok (.invokestatic 39, 3) := by decide +kernel
theorem dX2_valueOf_149 : decode cX2_valueOf 149 = .ok (.iastore, 1) := by decide +kernel
theorem dX2_valueOf_150 : decode cX2_valueOf 150 = .ok (.iinc 5 1, 3) := by decide +kernel
theorem dX2_valueOf_153 : decode cX2_valueOf 153 = .ok (.goto (-147), 3) := by decide +kernel
theorem dX2_valueOf_156 : decode cX2_valueOf 156 = .ok (.iload 4, 2) := by decide +kernel
theorem dX2_valueOf_158 : decode cX2_valueOf 158 = .ok (.ifCond .le 12, 3) := by decide +kernel
theorem dX2_valueOf_161 : decode cX2_valueOf 161 = .ok (.aload_n 0, 1) := by decide +kernel
theorem dX2_valueOf_162 : decode cX2_valueOf 162 = .ok (.getfield 21, 3) := by decide +kernel
theorem dX2_valueOf_165 : decode cX2_valueOf 165 = .ok (.iconst 0, 1) := by decide +kernel
theorem dX2_valueOf_166 : decode cX2_valueOf 166 = .ok (.iaload, 1) := by decide +kernel
theorem dX2_valueOf_167 : decode cX2_valueOf 167 = .ok (.goto 4, 3) := by decide +kernel
theorem dX2_valueOf_170 : decode cX2_valueOf 170 = .ok (.iconst 0, 1) := by decide +kernel
theorem dX2_valueOf_171 : decode cX2_valueOf 171 = .ok (.ireturn, 1) := by decide +kernel
theorem dX2_joined_0 : decode cX2_joined 0 = .ok (.iload_n 0, 1) := by decide +kernel
theorem dX2_joined_1 : decode cX2_joined 1 = .ok (.tableswitch 139 6 14 #[51, 59, 139, 67, 83, 99, 115, 123, 131], 51) := by decide +kernel
theorem dX2_joined_52 : decode cX2_joined 52 = .ok (.lload_n 1, 1) := by decide +kernel
theorem dX2_joined_53 : decode cX2_joined 53 = .ok (.lload_n 3, 1) := by decide +kernel
theorem dX2_joined_54 : decode cX2_joined 54 = .ok (.lor, 1) := by decide +kernel
theorem dX2_joined_55 : decode cX2_joined 55 = .ok (.lstore 5, 2) := by decide +kernel
theorem dX2_joined_57 : decode cX2_joined 57 = .ok (.goto 98, 3) := by decide +kernel
theorem dX2_joined_60 : decode cX2_joined 60 = .ok (.lload_n 1, 1) := by decide +kernel
theorem dX2_joined_61 : decode cX2_joined 61 = .ok (.lload_n 3, 1) := by decide +kernel
theorem dX2_joined_62 : decode cX2_joined 62 = .ok (.land, 1) := by decide +kernel
theorem dX2_joined_63 : decode cX2_joined 63 = .ok (.lstore 5, 2) := by decide +kernel
theorem dX2_joined_65 : decode cX2_joined 65 = .ok (.goto 90, 3) := by decide +kernel
theorem dX2_joined_68 : decode cX2_joined 68 = .ok (.lload_n 1, 1) := by decide +kernel
theorem dX2_joined_69 : decode cX2_joined 69 = .ok (.lload_n 3, 1) := by decide +kernel
theorem dX2_joined_70 : decode cX2_joined 70 = .ok (.lcmp, 1) := by decide +kernel
theorem dX2_joined_71 : decode cX2_joined 71 = .ok (.ifCond .ne 7, 3) := by decide +kernel
theorem dX2_joined_74 : decode cX2_joined 74 = .ok (.lconst 1, 1) := by decide +kernel
theorem dX2_joined_75 : decode cX2_joined 75 = .ok (.goto 4, 3) := by decide +kernel
theorem dX2_joined_78 : decode cX2_joined 78 = .ok (.lconst 0, 1) := by decide +kernel
theorem dX2_joined_79 : decode cX2_joined 79 = .ok (.lstore 5, 2) := by decide +kernel
theorem dX2_joined_81 : decode cX2_joined 81 = .ok (.goto 74, 3) := by decide +kernel
theorem dX2_joined_84 : decode cX2_joined 84 = .ok (.lload_n 1, 1) := by decide +kernel
theorem dX2_joined_85 : decode cX2_joined 85 = .ok (.lload_n 3, 1) := by decide +kernel
theorem dX2_joined_86 : decode cX2_joined 86 = .ok (.lcmp, 1) := by decide +kernel
theorem dX2_joined_87 : decode cX2_joined 87 = .ok (.ifCond .ge 7, 3) := by decide +kernel
theorem dX2_joined_90 : decode cX2_joined 90 = .ok (.lconst 1, 1) := by decide +kernel
theorem dX2_joined_91 : decode cX2_joined 91 = .ok (.goto 4, 3) := by decide +kernel
theorem dX2_joined_94 : decode cX2_joined 94 = .ok (.lconst 0, 1) := by decide +kernel
theorem dX2_joined_95 : decode cX2_joined 95 = .ok (.lstore 5, 2) := by decide +kernel
theorem dX2_joined_97 : decode cX2_joined 97 = .ok (.goto 58, 3) := by decide +kernel
theorem dX2_joined_100 : decode cX2_joined 100 = .ok (.lload_n 1, 1) := by decide +kernel
theorem dX2_joined_101 : decode cX2_joined 101 = .ok (.lload_n 3, 1) := by decide +kernel
theorem dX2_joined_102 : decode cX2_joined 102 = .ok (.lcmp, 1) := by decide +kernel
theorem dX2_joined_103 : decode cX2_joined 103 = .ok (.ifCond .le 7, 3) := by decide +kernel
theorem dX2_joined_106 : decode cX2_joined 106 = .ok (.lconst 1, 1) := by decide +kernel
theorem dX2_joined_107 : decode cX2_joined 107 = .ok (.goto 4, 3) := by decide +kernel
theorem dX2_joined_110 : decode cX2_joined 110 = .ok (.lconst 0, 1) := by decide +kernel
theorem dX2_joined_111 : decode cX2_joined 111 = .ok (.lstore 5, 2) := by decide +kernel
theorem dX2_joined_113 : decode cX2_joined 113 = .ok (.goto 42, 3) := by decide +kernel
theorem dX2_joined_116 : decode cX2_joined 116 = .ok (.lload_n 1, 1) := by decide +kernel
theorem dX2_joined_117 : decode cX2_joined 117 = .ok (.lload_n 3, 1) := by decide +kernel
theorem dX2_joined_118 : decode cX2_joined 118 = .ok (.ladd, 1) := by decide +kernel
theorem dX2_joined_119 : decode cX2_joined 119 = .ok (.lstore 5, 2) := by decide +kernel
theorem dX2_joined_121 : decode cX2_joined 121 = .ok (.goto 34, 3) := by decide +kernel
theorem dX2_joined_124 : decode cX2_joined 124 = .ok (.lload_n 1, 1) := by decide +kernel
theorem dX2_joined_125 : decode cX2_joined 125 = .ok (.lload_n 3, 1) := by decide +kernel
theorem dX2_joined_126 : decode cX2_joined 126 = .ok (.lsub, 1) := by decide +kernel
theorem dX2_joined_127 : decode cX2_joined 127 = .ok (.lstore 5, 2) := by decide +kernel
theorem dX2_joined_129 : decode cX2_joined 129 = .ok (.goto 26, 3) := by decide +kernel
theorem dX2_joined_132 : decode cX2_joined 132 = .ok (.lload_n 1, 1) := by decide +kernel
theorem dX2_joined_133 : decode cX2_joined 133 = .ok (.lload_n 3, 1) := by decide +kernel
theorem dX2_joined_134 : decode cX2_joined 134 = .ok (.lmul, 1) := by decide +kernel
theorem dX2_joined_135 : decode cX2_joined 135 = .ok (.lstore 5, 2) := by decide +kernel
theorem dX2_joined_137 : decode cX2_joined 137 = .ok (.goto 18, 3) := by decide +kernel
theorem dX2_joined_140 : decode cX2_joined 140 = .ok (.lload_n 3, 1) := by decide +kernel
theorem dX2_joined_141 : decode cX2_joined 141 = .ok (.lconst 0, 1) := by decide +kernel
theorem dX2_joined_142 : decode cX2_joined 142 = .ok (.lcmp, 1) := by decide +kernel
theorem dX2_joined_143 : decode cX2_joined 143 = .ok (.ifCond .ne 7, 3) := by decide +kernel
theorem dX2_joined_146 : decode cX2_joined 146 = .ok (.lconst 0, 1) := by decide +kernel
theorem dX2_joined_147 : decode cX2_joined 147 = .ok (.goto 6, 3) := by decide +kernel
theorem dX2_joined_150 : decode cX2_joined 150 = .ok (.lload_n 1, 1) := by decide +kernel
theorem dX2_joined_151 : decode cX2_joined 151 = .ok (.lload_n 3, 1) := by decide +kernel
theorem dX2_joined_152 : decode cX2_joined 152 = .ok (.ldiv, 1) := by decide +kernel
theorem dX2_joined_153 : decode cX2_joined 153 = .ok (.lstore 5, 2) := by decide +kernel
theorem dX2_joined_155 : decode cX2_joined 155 = .ok (.lload 5, 2) := by decide +kernel
theorem dX2_joined_157 : decode cX2_joined 157 = .ok (.ldc2_w 43, 3) := by decide +kernel
theorem dX2_joined_160 : decode cX2_joined 160 = .ok (.lcmp, 1) := by decide +kernel
theorem dX2_joined_161 : decode cX2_joined 161 = .ok (.ifCond .le 9, 3) := by decide +kernel
theorem dX2_joined_164 : decode cX2_joined 164 = .ok (.ldc2_w 43, 3) := by decide +kernel
theorem dX2_joined_167 : decode cX2_joined 167 = .ok (.goto 20, 3) := by decide +kernel
theorem dX2_joined_170 : decode cX2_joined 170 = .ok (.lload 5, 2) := by decide +kernel
theorem dX2_joined_172 : decode cX2_joined 172 = .ok (.ldc2_w 45, 3) := by decide +kernel
theorem dX2_joined_175 : decode cX2_joined 175 = .ok (.lcmp, 1) := by decide +kernel
theorem dX2_joined_176 : decode cX2_joined 176 = .ok (.ifCond .ge 9, 3) := by decide +kernel
theorem dX2_joined_179 : decode cX2_joined 179 = .ok (.ldc2_w 45, 3) := by decide +kernel
theorem dX2_joined_182 : decode cX2_joined 182 = .ok (.goto 5, 3) := by decide +kernel
theorem dX2_joined_185 : decode cX2_joined 185 = .ok (.lload 5, 2) := by decide +kernel
theorem dX2_joined_187 : decode cX2_joined 187 = .ok (.l2i, 1) := by decide +kernel
theorem dX2_joined_188 : decode cX2_joined 188 = .ok (.ireturn, 1) := by decide +kernel
theorem dX3_init_0 : decode cX3_init 0 = .ok (.aload_n 0, 1) := by decide +kernel
theorem dX3_init_1 : decode cX3_init 1 = .ok (.invokespecial 3, 3) := by decide +kernel
theorem dX3_init_4 : decode cX3_init 4 = .ok (.aload_n 0, 1) := by decide +kernel
theorem dX3_init_5 : decode cX3_init 5 = .ok (.new 9, 3) := by decide +kernel
theorem dX3_init_8 : decode cX3_init 8 = .ok (.dup, 1) := by decide +kernel
theorem dX3_init_9 : decode cX3_init 9 = .ok (.invokespecial 11, 3) := by decide +kernel
theorem dX3_init_12 : decode cX3_init 12 = .ok (.putfield 12, 3) := by decide +kernel
theorem dX3_init_15 : decode cX3_init 15 = .ok (.aload_n 0, 1) := by decide +kernel
theorem dX3_init_16 : decode cX3_init 16 = .ok (.aload_n 1, 1) := by decide +kernel
theorem dX3_init_17 : decode cX3_init 17 = .ok (.putfield 18, 3) := by decide +kernel
theorem dX3_init_20 : decode cX3_init 20 = .ok (.return_, 1) := by decide +kernel
theorem dX3_takeDraft_0 : decode cX3_takeDraft 0 = .ok (.aload_n 0, 1) := by decide +kernel
theorem dX3_takeDraft_1 : decode cX3_takeDraft 1 = .ok (.getfield 12, 3) := by decide +kernel
theorem dX3_takeDraft_4 : decode cX3_takeDraft 4 = .ok (.astore_n 1, 1) := by decide +kernel
theorem dX3_takeDraft_5 : decode cX3_takeDraft 5 = .ok (.aload_n 0, 1) := by decide +kernel
theorem dX3_takeDraft_6 : decode cX3_takeDraft 6 = .ok (.new 9, 3) := by decide +kernel
theorem dX3_takeDraft_9 : decode cX3_takeDraft 9 = .ok (.dup, 1) := by decide +kernel
theorem dX3_takeDraft_10 : decode cX3_takeDraft 10 = .ok (.invokespecial 11, 3) := by decide +kernel
theorem dX3_takeDraft_13 : decode cX3_takeDraft 13 = .ok (.putfield 12, 3) := by decide +kernel
theorem dX3_takeDraft_16 : decode cX3_takeDraft 16 = .ok (.aload_n 1, 1) := by decide +kernel
theorem dX3_takeDraft_17 : decode cX3_takeDraft 17 = .ok (.areturn, 1) := by decide +kernel
theorem dX3_faultOfTape_0 : decode cX3_faultOfTape 0 = .ok (.aload_n 0, 1) := by decide +kernel
theorem dX3_faultOfTape_1 : decode cX3_faultOfTape 1 = .ok (.getfield 18, 3) := by decide +kernel
theorem dX3_faultOfTape_4 : decode cX3_faultOfTape 4 = .ok (.iconst 0, 1) := by decide +kernel
theorem dX3_faultOfTape_5 : decode cX3_faultOfTape 5 = .ok (.putfield 22, 3) := by decide +kernel
theorem dX3_faultOfTape_8 : decode cX3_faultOfTape 8 = .ok (.aload_n 0, 1) := by decide +kernel
theorem dX3_faultOfTape_9 : decode cX3_faultOfTape 9 = .ok (.getfield 12, 3) := by decide +kernel
theorem dX3_faultOfTape_12 : decode cX3_faultOfTape 12 = .ok (.invokevirtual 28, 3) := by decide +kernel
theorem dX3_faultOfTape_15 : decode cX3_faultOfTape 15 = .ok (.iconst 1, 1) := by decide +kernel
theorem dX3_faultOfTape_16 : decode cX3_faultOfTape 16 = .ok (.istore_n 1, 1) := by decide +kernel
theorem dX3_faultOfTape_17 : decode cX3_faultOfTape 17 = .ok (.iconst 1, 1) := by decide +kernel
theorem dX3_faultOfTape_18 : decode cX3_faultOfTape 18 = .ok (.istore_n 2, 1) := by decide +kernel
theorem dX3_faultOfTape_19 : decode cX3_faultOfTape 19 = .ok (.iconst 0, 1) := by decide +kernel
theorem dX3_faultOfTape_20 : decode cX3_faultOfTape 20 = .ok (.istore_n 3, 1) := by decide +kernel
theorem dX3_faultOfTape_21 : decode cX3_faultOfTape 21 = .ok (.iload_n 3, 1) := by decide +kernel
theorem dX3_faultOfTape_22 : decode cX3_faultOfTape 22 = .ok (.bipush 61, 2) := by decide +kernel
theorem dX3_faultOfTape_24 : decode cX3_faultOfTape 24 = .ok (.if_icmp .ge 76, 3) := by decide +kernel
theorem dX3_faultOfTape_27 : decode cX3_faultOfTape 27 = .ok (.iload_n 1, 1) := by decide +kernel
theorem dX3_faultOfTape_28 : decode cX3_faultOfTape 28 = .ok (.ifCond .eq 72, 3) := by decide +kernel
theorem dX3_faultOfTape_31 : decode cX3_faultOfTape 31 = .ok (.iload_n 2, 1) := by decide +kernel
theorem dX3_faultOfTape_32 : decode cX3_faultOfTape 32 = .ok (.ifCond .eq 68, 3) := by decide +kernel
theorem dX3_faultOfTape_35 : decode cX3_faultOfTape 35 = .ok (.aload_n 0, 1) := by decide +kernel
theorem dX3_faultOfTape_36 : decode cX3_faultOfTape 36 = .ok (.getfield 18, 3) := by decide +kernel
theorem dX3_faultOfTape_39 : decode cX3_faultOfTape 39 = .ok (.bipush 121, 2) := by decide +kernel
theorem dX3_faultOfTape_41 : decode cX3_faultOfTape 41 = .ok (.invokevirtual 31, 3) := by decide +kernel
theorem dX3_faultOfTape_44 : decode cX3_faultOfTape 44 = .ok (.ifCond .eq 26, 3) := by decide +kernel
theorem dX3_faultOfTape_47 : decode cX3_faultOfTape 47 = .ok (.aload_n 0, 1) := by decide +kernel
theorem dX3_faultOfTape_48 : decode cX3_faultOfTape 48 = .ok (.getfield 18, 3) := by decide +kernel
theorem dX3_faultOfTape_51 : decode cX3_faultOfTape 51 = .ok (.bipush 58, 2) := by decide +kernel
theorem dX3_faultOfTape_53 : decode cX3_faultOfTape 53 = .ok (.invokevirtual 31, 3) := by decide +kernel
theorem dX3_faultOfTape_56 : decode cX3_faultOfTape 56 = .ok (.ifCond .eq 14, 3) := by decide +kernel
theorem dX3_faultOfTape_59 : decode cX3_faultOfTape 59 = .ok (.aload_n 0, 1) := by decide +kernel
theorem dX3_faultOfTape_60 : decode cX3_faultOfTape 60 = .ok (.invokevirtual 35, 3) := by decide +kernel
theorem dX3_faultOfTape_63 : decode cX3_faultOfTape 63 = .ok (.ifCond .eq 7, 3) := by decide +kernel
theorem dX3_faultOfTape_66 : decode cX3_faultOfTape 66 = .ok (.iconst 1, 1) := by decide +kernel
theorem dX3_faultOfTape_67 : decode cX3_faultOfTape 67 = .ok (.goto 4, 3) := by decide +kernel
theorem dX3_faultOfTape_70 : decode cX3_faultOfTape 70 = .ok (.iconst 0, 1) := by decide +kernel
theorem dX3_faultOfTape_71 : decode cX3_faultOfTape 71 = .ok (.istore_n 1, 1) := by decide +kernel
theorem dX3_faultOfTape_72 : decode cX3_faultOfTape 72 = .ok (.iload_n 1, 1) := by decide +kernel
theorem dX3_faultOfTape_73 : decode cX3_faultOfTape 73 = .ok (.ifCond .eq 19, 3) := by decide +kernel
theorem dX3_faultOfTape_76 : decode cX3_faultOfTape 76 = .ok (.aload_n 0, 1) := by decide +kernel
theorem dX3_faultOfTape_77 : decode cX3_faultOfTape 77 = .ok (.getfield 18, 3) := by decide +kernel
theorem dX3_faultOfTape_80 : decode cX3_faultOfTape 80 = .ok (.bipush 59, 2) := by decide +kernel
theorem dX3_faultOfTape_82 : decode cX3_faultOfTape 82 = .ok (.invokevirtual 31, 3) := by decide +kernel
theorem dX3_faultOfTape_85 : decode cX3_faultOfTape 85 = .ok (.ifCond .eq 7, 3) := by decide +kernel
theorem dX3_faultOfTape_88 : decode cX3_faultOfTape 88 = .ok (.iconst 1, 1) := by decide +kernel
theorem dX3_faultOfTape_89 : decode cX3_faultOfTape 89 = .ok (.goto 4, 3) := by decide +kernel
theorem dX3_faultOfTape_92 : decode cX3_faultOfTape 92 = .ok (.iconst 0, 1) := by decide +kernel
theorem dX3_faultOfTape_93 : decode cX3_faultOfTape 93 = .ok (.istore_n 2, 1) := by decide +kernel
theorem dX3_faultOfTape_94 : decode cX3_faultOfTape 94 = .ok (.iinc 3 1, 3) := by decide +kernel
theorem dX3_faultOfTape_97 : decode cX3_faultOfTape 97 = .ok (.goto (-76), 3) := by decide +kernel
theorem dX3_faultOfTape_100 : decode cX3_faultOfTape 100 = .ok (.iload_n 1, 1) := by decide +kernel
theorem dX3_faultOfTape_101 : decode cX3_faultOfTape 101 = .ok (.ifCond .eq 18, 3) := by decide +kernel
theorem dX3_faultOfTape_104 : decode cX3_faultOfTape 104 = .ok (.aload_n 0, 1) := by decide +kernel
theorem dX3_faultOfTape_105 : decode cX3_faultOfTape 105 = .ok (.getfield 18, 3) := by decide +kernel
theorem dX3_faultOfTape_108 : decode cX3_faultOfTape 108 = .ok (.invokevirtual 39, 3) := by decide +kernel
theorem dX3_faultOfTape_111 : decode cX3_faultOfTape 111 = .ok (.iconst (-1), 1) := by decide +kernel
theorem dX3_faultOfTape_112 : decode cX3_faultOfTape 112 = .ok (.if_icmp .ne 7, 3) := by decide +kernel
theorem dX3_faultOfTape_115 : decode cX3_faultOfTape 115 = .ok (.iconst (-1), 1) := by decide +kernel
theorem dX3_faultOfTape_116 : decode cX3_faultOfTape 116 = .ok (.goto 10, 3) := by decide +kernel
theorem dX3_faultOfTape_119 : decode cX3_faultOfTape 119 = .ok (.aload_n 0, 1) := by decide +kernel
theorem dX3_faultOfTape_120 : decode cX3_faultOfTape 120 = .ok (.getfield 18, 3) := by decide +kernel
theorem dX3_faultOfTape_123 : decode cX3_faultOfTape 123 = .ok (.getfield 22, 3) := by decide +kernel
theorem dX3_faultOfTape_126 : decode cX3_faultOfTape 126 = .ok (.ireturn, 1) := by decide +kernel
theorem dX3_readsClause_0 : decode cX3_readsClause 0 = .ok (.aload_n 0, 1) := by decide +kernel
theorem dX3_readsClause_1 : decode cX3_readsClause 1 = .ok (.getfield 12, 3) := by decide +kernel
theorem dX3_readsClause_4 : decode cX3_readsClause 4 = .ok (.getfield 43, 3) := by decide +kernel
theorem dX3_readsClause_7 : decode cX3_readsClause 7 = .ok (.istore_n 1, 1) := by decide +kernel
theorem dX3_readsClause_8 : decode cX3_readsClause 8 = .ok (.aload_n 0, 1) := by decide +kernel
theorem dX3_readsClause_9 : decode cX3_readsClause 9 = .ok (.getfield 18, 3) := by decide +kernel
theorem dX3_readsClause_12 : decode cX3_readsClause 12 = .ok (.invokevirtual 39, 3) := by decide +kernel
theorem dX3_readsClause_15 : decode cX3_readsClause 15 = .ok (.istore_n 2, 1) := by decide +kernel
theorem dX3_readsClause_16 : decode cX3_readsClause 16 = .ok (.iload_n 2, 1) := by decide +kernel
theorem dX3_readsClause_17 : decode cX3_readsClause 17 = .ok (.bipush 33, 2) := by decide +kernel
theorem dX3_readsClause_19 : decode cX3_readsClause 19 = .ok (.if_icmp .eq 13, 3) := by decide +kernel
theorem dX3_readsClause_22 : decode cX3_readsClause 22 = .ok (.iload_n 2, 1) := by decide +kernel
theorem dX3_readsClause_23 : decode cX3_readsClause 23 = .ok (.bipush 40, 2) := by decide +kernel
theorem dX3_readsClause_25 : decode cX3_readsClause 25 = .ok (.if_icmp .eq 7, 3) := by decide +kernel
theorem dX3_readsClause_28 : decode cX3_readsClause 28 = .ok (.iconst 1, 1) := by decide +kernel
theorem dX3_readsClause_29 : decode cX3_readsClause 29 = .ok (.goto 4, 3) := by decide +kernel
theorem dX3_readsClause_32 : decode cX3_readsClause 32 = .ok (.iconst 0, 1) := by decide +kernel
theorem dX3_readsClause_33 : decode cX3_readsClause 33 = .ok (.istore_n 3, 1) := by decide +kernel
theorem dX3_readsClause_34 : decode cX3_readsClause 34 = .ok (.iload_n 3, 1) := by decide +kernel
theorem dX3_readsClause_35 : decode cX3_readsClause 35 = .ok (.ifCond .eq 35, 3) := by decide +kernel
theorem dX3_readsClause_38 : decode cX3_readsClause 38 = .ok (.aload_n 0, 1) := by decide +kernel
theorem dX3_readsClause_39 : decode cX3_readsClause 39 = .ok (.iconst 3, 1) := by decide +kernel
theorem dX3_readsClause_40 : decode cX3_readsClause 40 = .ok (.iconst 0, 1) := by decide +kernel
theorem dX3_readsClause_41 : decode cX3_readsClause 41 = .ok (.iconst 0, 1) := by decide +kernel
theorem dX3_readsClause_42 : decode cX3_readsClause 42 = .ok (.invokevirtual 46, 3) := by decide +kernel
theorem dX3_readsClause_45 : decode cX3_readsClause 45 = .ok (.ifCond .ne 5, 3) := by decide +kernel
theorem dX3_readsClause_48 : decode cX3_readsClause 48 = .ok (.iconst 0, 1) := by decide +kernel
theorem dX3_readsClause_49 : decode cX3_readsClause 49 = .ok (.ireturn, 1) := by decide +kernel
theorem dX3_readsClause_50 : decode cX3_readsClause 50 = .ok (.aload_n 0, 1) := by decide +kernel
theorem dX3_readsClause_51 : decode cX3_readsClause 51 = .ok (.iconst 2, 1) := by decide +kernel
theorem dX3_readsClause_52 : decode cX3_readsClause 52 = .ok (.invokevirtual 50, 3) := by decide +kernel
theorem dX3_readsClause_55 : decode cX3_readsClause 55 = .ok (.iconst (-1), 1) := by decide +kernel
theorem dX3_readsClause_56 : decode cX3_readsClause 56 = .ok (.if_icmp .ne 14, 3) := by decide +kernel
theorem dX3_readsClause_59 : decode cX3_readsClause 59 = .ok (.aload_n 0, 1) := by decide +kernel
theorem dX3_readsClause_60 : decode cX3_readsClause 60 = .ok (.getfield 12, 3) := by decide +kernel
theorem dX3_readsClause_63 : decode cX3_readsClause 63 = .ok (.iload_n 1, 1) := by decide +kernel
theorem dX3_readsClause_64 : decode cX3_readsClause 64 = .ok (.iload_n 1, 1) := by decide +kernel
theorem dX3_readsClause_65 : decode cX3_readsClause 65 = .ok (.invokevirtual 54, 3) := by decide +kernel
theorem dX3_readsClause_68 : decode cX3_readsClause 68 = .ok (.iconst 1, 1) := by decide +kernel
theorem dX3_readsClause_69 : decode cX3_readsClause 69 = .ok (.ireturn, 1) := by decide +kernel
theorem dX3_readsClause_70 : decode cX3_readsClause 70 = .ok (.aload_n 0, 1) := by decide +kernel
theorem dX3_readsClause_71 : decode cX3_readsClause 71 = .ok (.iconst 0, 1) := by decide +kernel
theorem dX3_readsClause_72 : decode cX3_readsClause 72 = .ok (.iconst 0, 1) := by decide +kernel
theorem dX3_readsClause_73 : decode cX3_readsClause 73 = .ok (.iload_n 3, 1) := by decide +kernel
theorem dX3_readsClause_74 : decode cX3_readsClause 74 = .ok (.invokevirtual 46, 3) := by decide +kernel
theorem dX3_readsClause_77 : decode cX3_readsClause 77 = .ok (.ifCond .eq 15, 3) := by decide +kernel
theorem dX3_readsClause_80 : decode cX3_readsClause 80 = .ok (.aload_n 0, 1) := by decide +kernel
theorem dX3_readsClause_81 : decode cX3_readsClause 81 = .ok (.getfield 18, 3) := by decide +kernel
theorem dX3_readsClause_84 : decode cX3_readsClause 84 = .ok (.bipush 63, 2) := by decide +kernel
theorem dX3_readsClause_86 : decode cX3_readsClause 86 = .ok (.invokevirtual 31, 3) := by decide +kernel
theorem dX3_readsClause_89 : decode cX3_readsClause 89 = .ok (.ifCond .ne 5, 3) := by decide +kernel
theorem dX3_readsClause_92 : decode cX3_readsClause 92 = .ok (.iconst 0, 1) := by decide +kernel
theorem dX3_readsClause_93 : decode cX3_readsClause 93 = .ok (.ireturn, 1) := by decide +kernel
theorem dX3_readsClause_94 : decode cX3_readsClause 94 = .ok (.aload_n 0, 1) := by decide +kernel
theorem dX3_readsClause_95 : decode cX3_readsClause 95 = .ok (.getfield 12, 3) := by decide +kernel
theorem dX3_readsClause_98 : decode cX3_readsClause 98 = .ok (.iload_n 1, 1) := by decide +kernel
theorem dX3_readsClause_99 : decode cX3_readsClause 99 = .ok (.aload_n 0, 1) := by decide +kernel
theorem dX3_readsClause_100 : decode cX3_readsClause 100 = .ok (.getfield 12, 3) := by decide +kernel
theorem dX3_readsClause_103 : decode cX3_readsClause 103 = .ok (.getfield 43, 3) := by decide +kernel
theorem dX3_readsClause_106 : decode cX3_readsClause 106 = .ok (.invokevirtual 54, 3) := by decide +kernel
theorem dX3_readsClause_109 : decode cX3_readsClause 109 = .ok (.aload_n 0, 1) := by decide +kernel
theorem dX3_readsClause_110 : decode cX3_readsClause 110 = .ok (.iconst 3, 1) := by decide +kernel
theorem dX3_readsClause_111 : decode cX3_readsClause 111 = .ok (.iconst 0, 1) := by decide +kernel
theorem dX3_readsClause_112 : decode cX3_readsClause 112 = .ok (.iconst 0, 1) := by decide +kernel
theorem dX3_readsClause_113 : decode cX3_readsClause 113 = .ok (.invokevirtual 46, 3) := by decide +kernel
theorem dX3_readsClause_116 : decode cX3_readsClause 116 = .ok (.ireturn, 1) := by decide +kernel
theorem dX3_readsJoined_0 : decode cX3_readsJoined 0 = .ok (.iload_n 1, 1) := by decide +kernel
theorem dX3_readsJoined_1 : decode cX3_readsJoined 1 = .ok (.iconst 2, 1) := by decide +kernel
theorem dX3_readsJoined_2 : decode cX3_readsJoined 2 = .ok (.if_icmp .ne 10, 3) := by decide +kernel
theorem dX3_readsJoined_5 : decode cX3_readsJoined 5 = .ok (.aload_n 0, 1) := by decide +kernel
theorem dX3_readsJoined_6 : decode cX3_readsJoined 6 = .ok (.iload_n 2, 1) := by decide +kernel
theorem dX3_readsJoined_7 : decode cX3_readsJoined 7 = .ok (.iload_n 3, 1) := by decide +kernel
theorem dX3_readsJoined_8 : decode cX3_readsJoined 8 = .ok (.invokevirtual 58, 3) := by decide +kernel
theorem dX3_readsJoined_11 : decode cX3_readsJoined 11 = .ok (.ireturn, 1) := by decide +kernel
theorem dX3_readsJoined_12 : decode cX3_readsJoined 12 = .ok (.iload_n 1, 1) := by decide +kernel
theorem dX3_readsJoined_13 : decode cX3_readsJoined 13 = .ok (.iconst 5, 1) := by decide +kernel
theorem dX3_readsJoined_14 : decode cX3_readsJoined 14 = .ok (.if_icmp .lt 9, 3) := by decide +kernel
theorem dX3_readsJoined_17 : decode cX3_readsJoined 17 = .ok (.aload_n 0, 1) := by decide +kernel
theorem dX3_readsJoined_18 : decode cX3_readsJoined 18 = .ok (.iload_n 2, 1) := by decide +kernel
theorem dX3_readsJoined_19 : decode cX3_readsJoined 19 = .ok (.invokevirtual 62, 3) := by decide +kernel
theorem dX3_readsJoined_22 : decode cX3_readsJoined 22 = .ok (.ireturn, 1) := by decide +kernel
theorem dX3_readsJoined_23 : decode cX3_readsJoined 23 = .ok (.aload_n 0, 1) := by decide +kernel
theorem dX3_readsJoined_24 : decode cX3_readsJoined 24 = .ok (.iload_n 1, 1) := by decide +kernel
theorem dX3_readsJoined_25 : decode cX3_readsJoined 25 = .ok (.iconst 1, 1) := by decide +kernel
theorem dX3_readsJoined_26 : decode cX3_readsJoined 26 = .ok (.iadd, 1) := by decide +kernel
theorem dX3_readsJoined_27 : decode cX3_readsJoined 27 = .ok (.iload_n 2, 1) := by decide +kernel
theorem dX3_readsJoined_28 : decode cX3_readsJoined 28 = .ok (.iload_n 3, 1) := by decide +kernel
theorem dX3_readsJoined_29 : decode cX3_readsJoined 29 = .ok (.invokevirtual 46, 3) := by decide +kernel
theorem dX3_readsJoined_32 : decode cX3_readsJoined 32 = .ok (.ifCond .ne 5, 3) := by decide +kernel
theorem dX3_readsJoined_35 : decode cX3_readsJoined 35 = .ok (.iconst 0, 1) := by decide +kernel
theorem dX3_readsJoined_36 : decode cX3_readsJoined 36 = .ok (.ireturn, 1) := by decide +kernel
theorem dX3_readsJoined_37 : decode cX3_readsJoined 37 = .ok (.aload_n 0, 1) := by decide +kernel
theorem dX3_readsJoined_38 : decode cX3_readsJoined 38 = .ok (.iload_n 1, 1) := by decide +kernel
theorem dX3_readsJoined_39 : decode cX3_readsJoined 39 = .ok (.invokevirtual 50, 3) := by decide +kernel
theorem dX3_readsJoined_42 : decode cX3_readsJoined 42 = .ok (.istore 4, 2) := by decide +kernel
theorem dX3_readsJoined_44 : decode cX3_readsJoined 44 = .ok (.iconst 0, 1) := by decide +kernel
theorem dX3_readsJoined_45 : decode cX3_readsJoined 45 = .ok (.istore 5, 2) := by decide +kernel
theorem dX3_readsJoined_47 : decode cX3_readsJoined 47 = .ok (.iload 5, 2) := by decide +kernel
theorem dX3_readsJoined_49 : decode cX3_readsJoined 49 = .ok (.sipush 240, 3) := by decide +kernel
theorem dX3_readsJoined_52 : decode cX3_readsJoined 52 = .ok (.if_icmp .ge 52, 3) := by decide +kernel
theorem dX3_readsJoined_55 : decode cX3_readsJoined 55 = .ok (.iload 4, 2) := by decide +kernel
theorem dX3_readsJoined_57 : decode cX3_readsJoined 57 = .ok (.iconst (-1), 1) := by decide +kernel
theorem dX3_readsJoined_58 : decode cX3_readsJoined 58 = .ok (.if_icmp .eq 46, 3) := by decide +kernel
theorem dX3_readsJoined_61 : decode cX3_readsJoined 61 = .ok (.aload_n 0, 1) := by decide +kernel
theorem dX3_readsJoined_62 : decode cX3_readsJoined 62 = .ok (.getfield 18, 3) := by decide +kernel
theorem dX3_readsJoined_65 : decode cX3_readsJoined 65 = .ok (.invokevirtual 66, 3) := by decide +kernel
theorem dX3_readsJoined_68 : decode cX3_readsJoined 68 = .ok (.aload_n 0, 1) := by decide +kernel
theorem dX3_readsJoined_69 : decode cX3_readsJoined 69 = .ok (.iload_n 1, 1) := by decide +kernel
theorem dX3_readsJoined_70 : decode cX3_readsJoined 70 = .ok (.iconst 1, 1) := by decide +kernel
theorem dX3_readsJoined_71 : decode cX3_readsJoined 71 = .ok (.iadd, 1) := by decide +kernel
theorem dX3_readsJoined_72 : decode cX3_readsJoined 72 = .ok (.iload_n 2, 1) := by decide +kernel
theorem dX3_readsJoined_73 : decode cX3_readsJoined 73 = .ok (.iconst 0, 1) := by decide +kernel
theorem dX3_readsJoined_74 : decode cX3_readsJoined 74 = .ok (.invokevirtual 46, 3) := by decide +kernel
theorem dX3_readsJoined_77 : decode cX3_readsJoined 77 = .ok (.ifCond .ne 5, 3) := by decide +kernel
theorem dX3_readsJoined_80 : decode cX3_readsJoined 80 = .ok (.iconst 0, 1) := by decide +kernel
theorem dX3_readsJoined_81 : decode cX3_readsJoined 81 = .ok (.ireturn, 1) := by decide +kernel
theorem dX3_readsJoined_82 : decode cX3_readsJoined 82 = .ok (.aload_n 0, 1) := by decide +kernel
theorem dX3_readsJoined_83 : decode cX3_readsJoined 83 = .ok (.getfield 12, 3) := by decide +kernel
theorem dX3_readsJoined_86 : decode cX3_readsJoined 86 = .ok (.iload 4, 2) := by decide +kernel
theorem dX3_readsJoined_88 : decode cX3_readsJoined 88 = .ok (.invokevirtual 69, 3) := by decide +kernel
theorem dX3_readsJoined_91 : decode cX3_readsJoined 91 = .ok (.aload_n 0, 1) := by decide +kernel
theorem dX3_readsJoined_92 : decode cX3_readsJoined 92 = .ok (.iload_n 1, 1) := by decide +kernel
theorem dX3_readsJoined_93 : decode cX3_readsJoined 93 = .ok (.invokevirtual 50, 3) := by decide +kernel
theorem dX3_readsJoined_96 : decode cX3_readsJoined 96 = .ok (.istore 4, 2) := by decide +kernel
theorem dX3_readsJoined_98 : decode cX3_readsJoined 98 = .ok (.iinc 5 1, 3) := by decide +kernel
theorem dX3_readsJoined_101 : decode cX3_readsJoined 101 = .ok (.goto (-54), 3) := by decide +kernel
theorem dX3_readsJoined_104 : decode cX3_readsJoined 104 = .ok (.iconst 1, 1) := by decide +kernel
theorem dX3_readsJoined_105 : decode cX3_readsJoined 105 = .ok (.ireturn, 1) := by decide +kernel
theorem dX3_jointIn_0 : decode cX3_jointIn 0 = .ok (.aload_n 0, 1) := by decide +kernel
theorem dX3_jointIn_1 : decode cX3_jointIn 1 = .ok (.ldc 73, 2) := by decide +kernel
theorem dX3_jointIn_3 : decode cX3_jointIn 3 = .ok (.invokevirtual 75, 3) := by decide +kernel
theorem dX3_jointIn_6 : decode cX3_jointIn 6 = .ok (.istore_n 2, 1) := by decide +kernel
theorem dX3_jointIn_7 : decode cX3_jointIn 7 = .ok (.iload_n 2, 1) := by decide +kernel
theorem dX3_jointIn_8 : decode cX3_jointIn 8 = .ok (.ifCond .lt 19, 3) := by decide +kernel
theorem dX3_jointIn_11 : decode cX3_jointIn 11 = .ok (.getstatic 79, 3) := by decide +kernel
theorem dX3_jointIn_14 : decode cX3_jointIn 14 = .ok (.iload_n 2, 1) := by decide +kernel
theorem dX3_jointIn_15 : decode cX3_jointIn 15 = .ok (.iaload, 1) := by decide +kernel
theorem dX3_jointIn_16 : decode cX3_jointIn 16 = .ok (.iload_n 1, 1) := by decide +kernel
theorem dX3_jointIn_17 : decode cX3_jointIn 17 = .ok (.if_icmp .ne 10, 3) := by decide +kernel
theorem dX3_jointIn_20 : decode cX3_jointIn 20 = .ok (.bipush 6, 2) := by decide +kernel
theorem dX3_jointIn_22 : decode cX3_jointIn 22 = .ok (.iload_n 2, 1) := by decide +kernel
theorem dX3_jointIn_23 : decode cX3_jointIn 23 = .ok (.iadd, 1) := by decide +kernel
theorem dX3_jointIn_24 : decode cX3_jointIn 24 = .ok (.goto 4, 3) := by decide +kernel
theorem dX3_jointIn_27 : decode cX3_jointIn 27 = .ok (.iconst (-1), 1) := by decide +kernel
theorem dX3_jointIn_28 : decode cX3_jointIn 28 = .ok (.ireturn, 1) := by decide +kernel
theorem dX3_indexIn_0 : decode cX3_indexIn 0 = .ok (.aload_n 0, 1) := by decide +kernel
theorem dX3_indexIn_1 : decode cX3_indexIn 1 = .ok (.getfield 18, 3) := by decide +kernel
theorem dX3_indexIn_4 : decode cX3_indexIn 4 = .ok (.invokevirtual 39, 3) := by decide +kernel
theorem dX3_indexIn_7 : decode cX3_indexIn 7 = .ok (.istore_n 2, 1) := by decide +kernel
theorem dX3_indexIn_8 : decode cX3_indexIn 8 = .ok (.iload_n 2, 1) := by decide +kernel
theorem dX3_indexIn_9 : decode cX3_indexIn 9 = .ok (.iconst (-1), 1) := by decide +kernel
theorem dX3_indexIn_10 : decode cX3_indexIn 10 = .ok (.if_icmp .ne 7, 3) := by decide +kernel
theorem dX3_indexIn_13 : decode cX3_indexIn 13 = .ok (.iconst (-1), 1) := by decide +kernel
theorem dX3_indexIn_14 : decode cX3_indexIn 14 = .ok (.goto 9, 3) := by decide +kernel
theorem dX3_indexIn_17 : decode cX3_indexIn 17 = .ok (.aload_n 1, 1) := by decide +kernel
theorem dX3_indexIn_18 : decode cX3_indexIn 18 = .ok (.iload_n 2, 1) := by decide +kernel
theorem dX3_indexIn_19 : decode cX3_indexIn 19 = .ok (.i2c, 1) := by decide +kernel
theorem dX3_indexIn_20 : decode cX3_indexIn 20 = .ok (.invokevirtual 83, 3) := by decide +kernel
theorem dX3_indexIn_23 : decode cX3_indexIn 23 = .ok (.ireturn, 1) := by decide +kernel
theorem dX3_readsUnit_0 : decode cX3_readsUnit 0 = .ok (.iload_n 2, 1) := by decide +kernel
theorem dX3_readsUnit_1 : decode cX3_readsUnit 1 = .ok (.ifCond .ne 42, 3) := by decide +kernel
theorem dX3_readsUnit_4 : decode cX3_readsUnit 4 = .ok (.aload_n 0, 1) := by decide +kernel
theorem dX3_readsUnit_5 : decode cX3_readsUnit 5 = .ok (.getfield 18, 3) := by decide +kernel
theorem dX3_readsUnit_8 : decode cX3_readsUnit 8 = .ok (.invokevirtual 39, 3) := by decide +kernel
theorem dX3_readsUnit_11 : decode cX3_readsUnit 11 = .ok (.istore_n 3, 1) := by decide +kernel
theorem dX3_readsUnit_12 : decode cX3_readsUnit 12 = .ok (.iload_n 3, 1) := by decide +kernel
theorem dX3_readsUnit_13 : decode cX3_readsUnit 13 = .ok (.bipush 33, 2) := by decide +kernel
theorem dX3_readsUnit_15 : decode cX3_readsUnit 15 = .ok (.if_icmp .eq 9, 3) := by decide +kernel
theorem dX3_readsUnit_18 : decode cX3_readsUnit 18 = .ok (.iload_n 3, 1) := by decide +kernel
theorem dX3_readsUnit_19 : decode cX3_readsUnit 19 = .ok (.bipush 40, 2) := by decide +kernel
theorem dX3_readsUnit_21 : decode cX3_readsUnit 21 = .ok (.if_icmp .ne 10, 3) := by decide +kernel
theorem dX3_readsUnit_24 : decode cX3_readsUnit 24 = .ok (.aload_n 0, 1) := by decide +kernel
theorem dX3_readsUnit_25 : decode cX3_readsUnit 25 = .ok (.iload_n 3, 1) := by decide +kernel
theorem dX3_readsUnit_26 : decode cX3_readsUnit 26 = .ok (.iload_n 1, 1) := by decide +kernel
theorem dX3_readsUnit_27 : decode cX3_readsUnit 27 = .ok (.invokevirtual 88, 3) := by decide +kernel
theorem dX3_readsUnit_30 : decode cX3_readsUnit 30 = .ok (.ireturn, 1) := by decide +kernel
theorem dX3_readsUnit_31 : decode cX3_readsUnit 31 = .ok (.aload_n 0, 1) := by decide +kernel
theorem dX3_readsUnit_32 : decode cX3_readsUnit 32 = .ok (.iconst 3, 1) := by decide +kernel
theorem dX3_readsUnit_33 : decode cX3_readsUnit 33 = .ok (.iload_n 1, 1) := by decide +kernel
theorem dX3_readsUnit_34 : decode cX3_readsUnit 34 = .ok (.iconst 0, 1) := by decide +kernel
theorem dX3_readsUnit_35 : decode cX3_readsUnit 35 = .ok (.invokevirtual 46, 3) := by decide +kernel
theorem dX3_readsUnit_38 : decode cX3_readsUnit 38 = .ok (.ifCond .ne 5, 3) := by decide +kernel
theorem dX3_readsUnit_41 : decode cX3_readsUnit 41 = .ok (.iconst 0, 1) := by decide +kernel
theorem dX3_readsUnit_42 : decode cX3_readsUnit 42 = .ok (.ireturn, 1) := by decide +kernel
theorem dX3_readsUnit_43 : decode cX3_readsUnit 43 = .ok (.aload_n 0, 1) := by decide +kernel
theorem dX3_readsUnit_44 : decode cX3_readsUnit 44 = .ok (.iconst 2, 1) := by decide +kernel
theorem dX3_readsUnit_45 : decode cX3_readsUnit 45 = .ok (.invokevirtual 50, 3) := by decide +kernel
theorem dX3_readsUnit_48 : decode cX3_readsUnit 48 = .ok (.istore_n 3, 1) := by decide +kernel
theorem dX3_readsUnit_49 : decode cX3_readsUnit 49 = .ok (.iload_n 3, 1) := by decide +kernel
theorem dX3_readsUnit_50 : decode cX3_readsUnit 50 = .ok (.iconst (-1), 1) := by decide +kernel
theorem dX3_readsUnit_51 : decode cX3_readsUnit 51 = .ok (.if_icmp .ne 5, 3) := by decide +kernel
theorem dX3_readsUnit_54 : decode cX3_readsUnit 54 = .ok (.iconst 0, 1) := by decide +kernel
theorem dX3_readsUnit_55 : decode cX3_readsUnit 55 = .ok (.ireturn, 1) := by decide +kernel
theorem dX3_readsUnit_56 : decode cX3_readsUnit 56 = .ok (.aload_n 0, 1) := by decide +kernel
theorem dX3_readsUnit_57 : decode cX3_readsUnit 57 = .ok (.getfield 18, 3) := by decide +kernel
theorem dX3_readsUnit_60 : decode cX3_readsUnit 60 = .ok (.invokevirtual 66, 3) := by decide +kernel
theorem dX3_readsUnit_63 : decode cX3_readsUnit 63 = .ok (.aload_n 0, 1) := by decide +kernel
theorem dX3_readsUnit_64 : decode cX3_readsUnit 64 = .ok (.iconst 3, 1) := by decide +kernel
theorem dX3_readsUnit_65 : decode cX3_readsUnit 65 = .ok (.iload_n 1, 1) := by decide +kernel
theorem dX3_readsUnit_66 : decode cX3_readsUnit 66 = .ok (.iconst 0, 1) := by decide +kernel
theorem dX3_readsUnit_67 : decode cX3_readsUnit 67 = .ok (.invokevirtual 46, 3) := by decide +kernel
theorem dX3_readsUnit_70 : decode cX3_readsUnit 70 = .ok (.ifCond .ne 5, 3) := by decide +kernel
theorem dX3_readsUnit_73 : decode cX3_readsUnit 73 = .ok (.iconst 0, 1) := by decide +kernel
theorem dX3_readsUnit_74 : decode cX3_readsUnit 74 = .ok (.ireturn, 1) := by decide +kernel
theorem dX3_readsUnit_75 : decode cX3_readsUnit 75 = .ok (.aload_n 0, 1) := by decide +kernel
theorem dX3_readsUnit_76 : decode cX3_readsUnit 76 = .ok (.getfield 12, 3) := by decide +kernel
theorem dX3_readsUnit_79 : decode cX3_readsUnit 79 = .ok (.iload_n 3, 1) := by decide +kernel
theorem dX3_readsUnit_80 : decode cX3_readsUnit 80 = .ok (.invokevirtual 69, 3) := by decide +kernel
theorem dX3_readsUnit_83 : decode cX3_readsUnit 83 = .ok (.iconst 1, 1) := by decide +kernel
theorem dX3_readsUnit_84 : decode cX3_readsUnit 84 = .ok (.ireturn, 1) := by decide +kernel
theorem dX3_readsAtom_0 : decode cX3_readsAtom 0 = .ok (.aload_n 0, 1) := by decide +kernel
theorem dX3_readsAtom_1 : decode cX3_readsAtom 1 = .ok (.ldc 92, 2) := by decide +kernel
theorem dX3_readsAtom_3 : decode cX3_readsAtom 3 = .ok (.invokevirtual 75, 3) := by decide +kernel
theorem dX3_readsAtom_6 : decode cX3_readsAtom 6 = .ok (.istore_n 2, 1) := by decide +kernel
theorem dX3_readsAtom_7 : decode cX3_readsAtom 7 = .ok (.iload_n 2, 1) := by decide +kernel
theorem dX3_readsAtom_8 : decode cX3_readsAtom 8 = .ok (.ifCond .lt 20, 3) := by decide +kernel
theorem dX3_readsAtom_11 : decode cX3_readsAtom 11 = .ok (.aload_n 0, 1) := by decide +kernel
theorem dX3_readsAtom_12 : decode cX3_readsAtom 12 = .ok (.getfield 18, 3) := by decide +kernel
theorem dX3_readsAtom_15 : decode cX3_readsAtom 15 = .ok (.invokevirtual 66, 3) := by decide +kernel
theorem dX3_readsAtom_18 : decode cX3_readsAtom 18 = .ok (.aload_n 0, 1) := by decide +kernel
theorem dX3_readsAtom_19 : decode cX3_readsAtom 19 = .ok (.getfield 12, 3) := by decide +kernel
theorem dX3_readsAtom_22 : decode cX3_readsAtom 22 = .ok (.iload_n 2, 1) := by decide +kernel
theorem dX3_readsAtom_23 : decode cX3_readsAtom 23 = .ok (.invokevirtual 69, 3) := by decide +kernel
theorem dX3_readsAtom_26 : decode cX3_readsAtom 26 = .ok (.iconst 1, 1) := by decide +kernel
theorem dX3_readsAtom_27 : decode cX3_readsAtom 27 = .ok (.ireturn, 1) := by decide +kernel
theorem dX3_readsAtom_28 : decode cX3_readsAtom 28 = .ok (.aload_n 0, 1) := by decide +kernel
theorem dX3_readsAtom_29 : decode cX3_readsAtom 29 = .ok (.getfield 18, 3) := by decide +kernel
theorem dX3_readsAtom_32 : decode cX3_readsAtom 32 = .ok (.invokevirtual 39, 3) := by decide +kernel
theorem dX3_readsAtom_35 : decode cX3_readsAtom 35 = .ok (.bipush 91, 2) := by decide +kernel
theorem dX3_readsAtom_37 : decode cX3_readsAtom 37 = .ok (.if_icmp .ne 11, 3) := by decide +kernel
theorem dX3_readsAtom_40 : decode cX3_readsAtom 40 = .ok (.aload_n 0, 1) := by decide +kernel
theorem dX3_readsAtom_41 : decode cX3_readsAtom 41 = .ok (.bipush 91, 2) := by decide +kernel
theorem dX3_readsAtom_43 : decode cX3_readsAtom 43 = .ok (.iload_n 1, 1) := by decide +kernel
theorem dX3_readsAtom_44 : decode cX3_readsAtom 44 = .ok (.invokevirtual 88, 3) := by decide +kernel
theorem dX3_readsAtom_47 : decode cX3_readsAtom 47 = .ok (.ireturn, 1) := by decide +kernel
theorem dX3_readsAtom_48 : decode cX3_readsAtom 48 = .ok (.aload_n 0, 1) := by decide +kernel
theorem dX3_readsAtom_49 : decode cX3_readsAtom 49 = .ok (.getfield 18, 3) := by decide +kernel
theorem dX3_readsAtom_52 : decode cX3_readsAtom 52 = .ok (.iconst 4, 1) := by decide +kernel
theorem dX3_readsAtom_53 : decode cX3_readsAtom 53 = .ok (.iconst 0, 1) := by decide +kernel
theorem dX3_readsAtom_54 : decode cX3_readsAtom 54 = .ok (.sipush 9999, 3) := by decide +kernel
theorem dX3_readsAtom_57 : decode cX3_readsAtom 57 = .ok (.invokevirtual 94, 3) := by decide +kernel
theorem dX3_readsAtom_60 : decode cX3_readsAtom 60 = .ok (.ifCond .ne 5, 3) := by decide +kernel
theorem dX3_readsAtom_63 : decode cX3_readsAtom 63 = .ok (.iconst 0, 1) := by decide +kernel
theorem dX3_readsAtom_64 : decode cX3_readsAtom 64 = .ok (.ireturn, 1) := by decide +kernel
theorem dX3_readsAtom_65 : decode cX3_readsAtom 65 = .ok (.aload_n 0, 1) := by decide +kernel
theorem dX3_readsAtom_66 : decode cX3_readsAtom 66 = .ok (.getfield 12, 3) := by decide +kernel
theorem dX3_readsAtom_69 : decode cX3_readsAtom 69 = .ok (.bipush 16, 2) := by decide +kernel
theorem dX3_readsAtom_71 : decode cX3_readsAtom 71 = .ok (.aload_n 0, 1) := by decide +kernel
theorem dX3_readsAtom_72 : decode cX3_readsAtom 72 = .ok (.getfield 18, 3) := by decide +kernel
theorem dX3_readsAtom_75 : decode cX3_readsAtom 75 = .ok (.getfield 98, 3) := by decide +kernel
theorem dX3_readsAtom_78 : decode cX3_readsAtom 78 = .ok (.iadd, 1) := by decide +kernel
theorem dX3_readsAtom_79 : decode cX3_readsAtom 79 = .ok (.invokevirtual 69, 3) := by decide +kernel
theorem dX3_readsAtom_82 : decode cX3_readsAtom 82 = .ok (.iconst 1, 1) := by decide +kernel
theorem dX3_readsAtom_83 : decode cX3_readsAtom 83 = .ok (.ireturn, 1) := by decide +kernel
theorem dX3_readsInner_0 : decode cX3_readsInner 0 = .ok (.iload_n 2, 1) := by decide +kernel
theorem dX3_readsInner_1 : decode cX3_readsInner 1 = .ok (.bipush 6, 2) := by decide +kernel
theorem dX3_readsInner_3 : decode cX3_readsInner 3 = .ok (.if_icmp .lt 5, 3) := by decide +kernel
theorem dX3_readsInner_6 : decode cX3_readsInner 6 = .ok (.iconst 0, 1) := by decide +kernel
theorem dX3_readsInner_7 : decode cX3_readsInner 7 = .ok (.ireturn, 1) := by decide +kernel
theorem dX3_readsInner_8 : decode cX3_readsInner 8 = .ok (.aload_n 0, 1) := by decide +kernel
theorem dX3_readsInner_9 : decode cX3_readsInner 9 = .ok (.getfield 18, 3) := by decide +kernel
theorem dX3_readsInner_12 : decode cX3_readsInner 12 = .ok (.invokevirtual 66, 3) := by decide +kernel
theorem dX3_readsInner_15 : decode cX3_readsInner 15 = .ok (.iload_n 1, 1) := by decide +kernel
theorem dX3_readsInner_16 : decode cX3_readsInner 16 = .ok (.bipush 40, 2) := by decide +kernel
theorem dX3_readsInner_18 : decode cX3_readsInner 18 = .ok (.if_icmp .ne 33, 3) := by decide +kernel
theorem dX3_readsInner_21 : decode cX3_readsInner 21 = .ok (.aload_n 0, 1) := by decide +kernel
theorem dX3_readsInner_22 : decode cX3_readsInner 22 = .ok (.iconst 0, 1) := by decide +kernel
theorem dX3_readsInner_23 : decode cX3_readsInner 23 = .ok (.iload_n 2, 1) := by decide +kernel
theorem dX3_readsInner_24 : decode cX3_readsInner 24 = .ok (.iconst 1, 1) := by decide +kernel
theorem dX3_readsInner_25 : decode cX3_readsInner 25 = .ok (.iadd, 1) := by decide +kernel
theorem dX3_readsInner_26 : decode cX3_readsInner 26 = .ok (.iconst 0, 1) := by decide +kernel
theorem dX3_readsInner_27 : decode cX3_readsInner 27 = .ok (.invokevirtual 46, 3) := by decide +kernel
theorem dX3_readsInner_30 : decode cX3_readsInner 30 = .ok (.ifCond .eq 19, 3) := by decide +kernel
theorem dX3_readsInner_33 : decode cX3_readsInner 33 = .ok (.aload_n 0, 1) := by decide +kernel
theorem dX3_readsInner_34 : decode cX3_readsInner 34 = .ok (.getfield 18, 3) := by decide +kernel
theorem dX3_readsInner_37 : decode cX3_readsInner 37 = .ok (.bipush 41, 2) := by decide +kernel
theorem dX3_readsInner_39 : decode cX3_readsInner 39 = .ok (.invokevirtual 31, 3) := by decide +kernel
theorem dX3_readsInner_42 : decode cX3_readsInner 42 = .ok (.ifCond .eq 7, 3) := by decide +kernel
theorem dX3_readsInner_45 : decode cX3_readsInner 45 = .ok (.iconst 1, 1) := by decide +kernel
theorem dX3_readsInner_46 : decode cX3_readsInner 46 = .ok (.goto 4, 3) := by decide +kernel
theorem dX3_readsInner_49 : decode cX3_readsInner 49 = .ok (.iconst 0, 1) := by decide +kernel
theorem dX3_readsInner_50 : decode cX3_readsInner 50 = .ok (.ireturn, 1) := by decide +kernel
theorem dX3_readsInner_51 : decode cX3_readsInner 51 = .ok (.iload_n 1, 1) := by decide +kernel
theorem dX3_readsInner_52 : decode cX3_readsInner 52 = .ok (.bipush 91, 2) := by decide +kernel
theorem dX3_readsInner_54 : decode cX3_readsInner 54 = .ok (.if_icmp .ne 33, 3) := by decide +kernel
theorem dX3_readsInner_57 : decode cX3_readsInner 57 = .ok (.aload_n 0, 1) := by decide +kernel
theorem dX3_readsInner_58 : decode cX3_readsInner 58 = .ok (.iconst 3, 1) := by decide +kernel
theorem dX3_readsInner_59 : decode cX3_readsInner 59 = .ok (.iload_n 2, 1) := by decide +kernel
theorem dX3_readsInner_60 : decode cX3_readsInner 60 = .ok (.iconst 1, 1) := by decide +kernel
theorem dX3_readsInner_61 : decode cX3_readsInner 61 = .ok (.iadd, 1) := by decide +kernel
theorem dX3_readsInner_62 : decode cX3_readsInner 62 = .ok (.iconst 0, 1) := by decide +kernel
theorem dX3_readsInner_63 : decode cX3_readsInner 63 = .ok (.invokevirtual 46, 3) := by decide +kernel
theorem dX3_readsInner_66 : decode cX3_readsInner 66 = .ok (.ifCond .eq 19, 3) := by decide +kernel
theorem dX3_readsInner_69 : decode cX3_readsInner 69 = .ok (.aload_n 0, 1) := by decide +kernel
theorem dX3_readsInner_70 : decode cX3_readsInner 70 = .ok (.getfield 18, 3) := by decide +kernel
theorem dX3_readsInner_73 : decode cX3_readsInner 73 = .ok (.bipush 93, 2) := by decide +kernel
theorem dX3_readsInner_75 : decode cX3_readsInner 75 = .ok (.invokevirtual 31, 3) := by decide +kernel
theorem dX3_readsInner_78 : decode cX3_readsInner 78 = .ok (.ifCond .eq 7, 3) := by decide +kernel
theorem dX3_readsInner_81 : decode cX3_readsInner 81 = .ok (.iconst 1, 1) := by decide +kernel
theorem dX3_readsInner_82 : decode cX3_readsInner 82 = .ok (.goto 4, 3) := by decide +kernel
theorem dX3_readsInner_85 : decode cX3_readsInner 85 = .ok (.iconst 0, 1) := by decide +kernel
theorem dX3_readsInner_86 : decode cX3_readsInner 86 = .ok (.ireturn, 1) := by decide +kernel
theorem dX3_readsInner_87 : decode cX3_readsInner 87 = .ok (.aload_n 0, 1) := by decide +kernel
theorem dX3_readsInner_88 : decode cX3_readsInner 88 = .ok (.iload_n 2, 1) := by decide +kernel
theorem dX3_readsInner_89 : decode cX3_readsInner 89 = .ok (.iconst 1, 1) := by decide +kernel
theorem dX3_readsInner_90 : decode cX3_readsInner 90 = .ok (.iadd, 1) := by decide +kernel
theorem dX3_readsInner_91 : decode cX3_readsInner 91 = .ok (.iconst 0, 1) := by decide +kernel
theorem dX3_readsInner_92 : decode cX3_readsInner 92 = .ok (.invokevirtual 58, 3) := by decide +kernel
theorem dX3_readsInner_95 : decode cX3_readsInner 95 = .ok (.ifCond .ne 5, 3) := by decide +kernel
theorem dX3_readsInner_98 : decode cX3_readsInner 98 = .ok (.iconst 0, 1) := by decide +kernel
theorem dX3_readsInner_99 : decode cX3_readsInner 99 = .ok (.ireturn, 1) := by decide +kernel
theorem dX3_readsInner_100 : decode cX3_readsInner 100 = .ok (.aload_n 0, 1) := by decide +kernel
theorem dX3_readsInner_101 : decode cX3_readsInner 101 = .ok (.getfield 12, 3) := by decide +kernel
theorem dX3_readsInner_104 : decode cX3_readsInner 104 = .ok (.bipush 8, 2) := by decide +kernel
theorem dX3_readsInner_106 : decode cX3_readsInner 106 = .ok (.invokevirtual 69, 3) := by decide +kernel
theorem dX3_readsInner_109 : decode cX3_readsInner 109 = .ok (.iconst 1, 1) := by decide +kernel
theorem dX3_readsInner_110 : decode cX3_readsInner 110 = .ok (.ireturn, 1) := by decide +kernel
theorem dX4_init_0 : decode cX4_init 0 = .ok (.aload_n 0, 1) := by decide +kernel
theorem dX4_init_1 : decode cX4_init 1 = .ok (.invokespecial 5, 3) := by decide +kernel
theorem dX4_init_4 : decode cX4_init 4 = .ok (.aload_n 0, 1) := by decide +kernel
theorem dX4_init_5 : decode cX4_init 5 = .ok (.bipush 67, 2) := by decide +kernel
theorem dX4_init_7 : decode cX4_init 7 = .ok (.newarray .int, 2) := by decide +kernel
theorem dX4_init_9 : decode cX4_init 9 = .ok (.putfield 11, 3) := by decide +kernel
theorem dX4_init_12 : decode cX4_init 12 = .ok (.aload_n 0, 1) := by decide +kernel
theorem dX4_init_13 : decode cX4_init 13 = .ok (.sipush 384, 3) := by decide +kernel
theorem dX4_init_16 : decode cX4_init 16 = .ok (.newarray .int, 2) := by decide +kernel
theorem dX4_init_18 : decode cX4_init 18 = .ok (.putfield 15, 3) := by decide +kernel
theorem dX4_init_21 : decode cX4_init 21 = .ok (.aload_n 0, 1) := by decide +kernel
theorem dX4_init_22 : decode cX4_init 22 = .ok (.aload_n 1, 1) := by decide +kernel
theorem dX4_init_23 : decode cX4_init 23 = .ok (.putfield 18, 3) := by decide +kernel
theorem dX4_init_26 : decode cX4_init 26 = .ok (.return_, 1) := by decide +kernel
theorem dX4_begin_0 : decode cX4_begin 0 = .ok (.aload_n 0, 1) := by decide +kernel
theorem dX4_begin_1 : decode cX4_begin 1 = .ok (.getfield 11, 3) := by decide +kernel
theorem dX4_begin_4 : decode cX4_begin 4 = .ok (.iconst 0, 1) := by decide +kernel
theorem dX4_begin_5 : decode cX4_begin 5 = .ok (.invokestatic 22, 3) := by decide +kernel
theorem dX4_begin_8 : decode cX4_begin 8 = .ok (.iconst 0, 1) := by decide +kernel
theorem dX4_begin_9 : decode cX4_begin 9 = .ok (.istore_n 1, 1) := by decide +kernel
theorem dX4_begin_10 : decode cX4_begin 10 = .ok (.iload_n 1, 1) := by decide +kernel
theorem dX4_begin_11 : decode cX4_begin 11 = .ok (.aload_n 0, 1) := by decide +kernel
theorem dX4_begin_12 : decode cX4_begin 12 = .ok (.getfield 18, 3) := by decide +kernel
theorem dX4_begin_15 : decode cX4_begin 15 = .ok (.getfield 28, 3) := by decide +kernel
theorem dX4_begin_18 : decode cX4_begin 18 = .ok (.if_icmp .ge 26, 3) := by decide +kernel
theorem dX4_begin_21 : decode cX4_begin 21 = .ok (.aload_n 0, 1) := by decide +kernel
theorem dX4_begin_22 : decode cX4_begin 22 = .ok (.getfield 11, 3) := by decide +kernel
theorem dX4_begin_25 : decode cX4_begin 25 = .ok (.iconst 0, 1) := by decide +kernel
theorem dX4_begin_26 : decode cX4_begin 26 = .ok (.iload_n 1, 1) := by decide +kernel
theorem dX4_begin_27 : decode cX4_begin 27 = .ok (.iadd, 1) := by decide +kernel
theorem dX4_begin_28 : decode cX4_begin 28 = .ok (.aload_n 0, 1) := by decide +kernel
theorem dX4_begin_29 : decode cX4_begin 29 = .ok (.getfield 18, 3) := by decide +kernel
theorem dX4_begin_32 : decode cX4_begin 32 = .ok (.getfield 34, 3) := by decide +kernel
theorem dX4_begin_35 : decode cX4_begin 35 = .ok (.iload_n 1, 1) := by decide +kernel
theorem dX4_begin_36 : decode cX4_begin 36 = .ok (.iaload, 1) := by decide +kernel
theorem dX4_begin_37 : decode cX4_begin 37 = .ok (.iastore, 1) := by decide +kernel
theorem dX4_begin_38 : decode cX4_begin 38 = .ok (.iinc 1 1, 3) := by decide +kernel
theorem dX4_begin_41 : decode cX4_begin 41 = .ok (.goto (-31), 3) := by decide +kernel
theorem dX4_begin_44 : decode cX4_begin 44 = .ok (.aload_n 0, 1) := by decide +kernel
theorem dX4_begin_45 : decode cX4_begin 45 = .ok (.getfield 11, 3) := by decide +kernel
theorem dX4_begin_48 : decode cX4_begin 48 = .ok (.bipush 65, 2) := by decide +kernel
theorem dX4_begin_50 : decode cX4_begin 50 = .ok (.aload_n 0, 1) := by decide +kernel
theorem dX4_begin_51 : decode cX4_begin 51 = .ok (.getfield 18, 3) := by decide +kernel
theorem dX4_begin_54 : decode cX4_begin 54 = .ok (.getfield 37, 3) := by decide +kernel
theorem dX4_begin_57 : decode cX4_begin 57 = .ok (.iastore, 1) := by decide +kernel
theorem dX4_begin_58 : decode cX4_begin 58 = .ok (.return_, 1) := by decide +kernel
theorem dX4_copy_0 : decode cX4_copy 0 = .ok (.aload_n 1, 1) := by decide +kernel
theorem dX4_copy_1 : decode cX4_copy 1 = .ok (.getfield 11, 3) := by decide +kernel
theorem dX4_copy_4 : decode cX4_copy 4 = .ok (.iconst 0, 1) := by decide +kernel
theorem dX4_copy_5 : decode cX4_copy 5 = .ok (.aload_n 0, 1) := by decide +kernel
theorem dX4_copy_6 : decode cX4_copy 6 = .ok (.getfield 11, 3) := by decide +kernel
theorem dX4_copy_9 : decode cX4_copy 9 = .ok (.iconst 0, 1) := by decide +kernel
theorem dX4_copy_10 : decode cX4_copy 10 = .ok (.bipush 67, 2) := by decide +kernel
theorem dX4_copy_12 : decode cX4_copy 12 = .ok (.invokestatic 40, 3) := by decide +kernel
theorem dX4_copy_15 : decode cX4_copy 15 = .ok (.aload_n 1, 1) := by decide +kernel
theorem dX4_copy_16 : decode cX4_copy 16 = .ok (.getfield 15, 3) := by decide +kernel
theorem dX4_copy_19 : decode cX4_copy 19 = .ok (.iconst 0, 1) := by decide +kernel
theorem dX4_copy_20 : decode cX4_copy 20 = .ok (.aload_n 0, 1) := by decide +kernel
theorem dX4_copy_21 : decode cX4_copy 21 = .ok (.getfield 15, 3) := by decide +kernel
theorem dX4_copy_24 : decode cX4_copy 24 = .ok (.iconst 0, 1) := by decide +kernel
theorem dX4_copy_25 : decode cX4_copy 25 = .ok (.sipush 384, 3) := by decide +kernel
theorem dX4_copy_28 : decode cX4_copy 28 = .ok (.invokestatic 40, 3) := by decide +kernel
theorem dX4_copy_31 : decode cX4_copy 31 = .ok (.return_, 1) := by decide +kernel
theorem dX4_get_0 : decode cX4_get 0 = .ok (.aload_n 0, 1) := by decide +kernel
theorem dX4_get_1 : decode cX4_get 1 = .ok (.getfield 11, 3) := by decide +kernel
theorem dX4_get_4 : decode cX4_get 4 = .ok (.iload_n 1, 1) := by decide +kernel
theorem dX4_get_5 : decode cX4_get 5 = .ok (.iaload, 1) := by decide +kernel
theorem dX4_get_6 : decode cX4_get 6 = .ok (.ireturn, 1) := by decide +kernel
theorem dX4_beardOf_0 : decode cX4_beardOf 0 = .ok (.aload_n 0, 1) := by decide +kernel
theorem dX4_beardOf_1 : decode cX4_beardOf 1 = .ok (.getfield 11, 3) := by decide +kernel
theorem dX4_beardOf_4 : decode cX4_beardOf 4 = .ok (.iconst 0, 1) := by decide +kernel
theorem dX4_beardOf_5 : decode cX4_beardOf 5 = .ok (.iload_n 1, 1) := by decide +kernel
theorem dX4_beardOf_6 : decode cX4_beardOf 6 = .ok (.iadd, 1) := by decide +kernel
theorem dX4_beardOf_7 : decode cX4_beardOf 7 = .ok (.iaload, 1) := by decide +kernel
theorem dX4_beardOf_8 : decode cX4_beardOf 8 = .ok (.ireturn, 1) := by decide +kernel
theorem dX4_shavedOf_0 : decode cX4_shavedOf 0 = .ok (.aload_n 0, 1) := by decide +kernel
theorem dX4_shavedOf_1 : decode cX4_shavedOf 1 = .ok (.getfield 11, 3) := by decide +kernel
theorem dX4_shavedOf_4 : decode cX4_shavedOf 4 = .ok (.bipush 6, 2) := by decide +kernel
theorem dX4_shavedOf_6 : decode cX4_shavedOf 6 = .ok (.iload_n 1, 1) := by decide +kernel
theorem dX4_shavedOf_7 : decode cX4_shavedOf 7 = .ok (.iadd, 1) := by decide +kernel
theorem dX4_shavedOf_8 : decode cX4_shavedOf 8 = .ok (.iaload, 1) := by decide +kernel
theorem dX4_shavedOf_9 : decode cX4_shavedOf 9 = .ok (.ireturn, 1) := by decide +kernel
theorem dX4_leftOf_0 : decode cX4_leftOf 0 = .ok (.aload_n 0, 1) := by decide +kernel
theorem dX4_leftOf_1 : decode cX4_leftOf 1 = .ok (.getfield 11, 3) := by decide +kernel
theorem dX4_leftOf_4 : decode cX4_leftOf 4 = .ok (.bipush 12, 2) := by decide +kernel
theorem dX4_leftOf_6 : decode cX4_leftOf 6 = .ok (.iload_n 1, 1) := by decide +kernel
theorem dX4_leftOf_7 : decode cX4_leftOf 7 = .ok (.bipush 8, 2) := by decide +kernel
theorem dX4_leftOf_9 : decode cX4_leftOf 9 = .ok (.imul, 1) := by decide +kernel
theorem dX4_leftOf_10 : decode cX4_leftOf 10 = .ok (.iadd, 1) := by decide +kernel
theorem dX4_leftOf_11 : decode cX4_leftOf 11 = .ok (.iload_n 2, 1) := by decide +kernel
theorem dX4_leftOf_12 : decode cX4_leftOf 12 = .ok (.iadd, 1) := by decide +kernel
theorem dX4_leftOf_13 : decode cX4_leftOf 13 = .ok (.iaload, 1) := by decide +kernel
theorem dX4_leftOf_14 : decode cX4_leftOf 14 = .ok (.ireturn, 1) := by decide +kernel
theorem dX4_setLeft_0 : decode cX4_setLeft 0 = .ok (.aload_n 0, 1) := by decide +kernel
theorem dX4_setLeft_1 : decode cX4_setLeft 1 = .ok (.getfield 11, 3) := by decide +kernel
theorem dX4_setLeft_4 : decode cX4_setLeft 4 = .ok (.bipush 12, 2) := by decide +kernel
theorem dX4_setLeft_6 : decode cX4_setLeft 6 = .ok (.iload_n 1, 1) := by decide +kernel
theorem dX4_setLeft_7 : decode cX4_setLeft 7 = .ok (.bipush 8, 2) := by decide +kernel
theorem dX4_setLeft_9 : decode cX4_setLeft 9 = .ok (.imul, 1) := by decide +kernel
theorem dX4_setLeft_10 : decode cX4_setLeft 10 = .ok (.iadd, 1) := by decide +kernel
theorem dX4_setLeft_11 : decode cX4_setLeft 11 = .ok (.iload_n 2, 1) := by decide +kernel
theorem dX4_setLeft_12 : decode cX4_setLeft 12 = .ok (.iadd, 1) := by decide +kernel
theorem dX4_setLeft_13 : decode cX4_setLeft 13 = .ok (.iload_n 3, 1) := by decide +kernel
theorem dX4_setLeft_14 : decode cX4_setLeft 14 = .ok (.iastore, 1) := by decide +kernel
theorem dX4_setLeft_15 : decode cX4_setLeft 15 = .ok (.return_, 1) := by decide +kernel
theorem dX4_went_0 : decode cX4_went 0 = .ok (.aload_n 0, 1) := by decide +kernel
theorem dX4_went_1 : decode cX4_went 1 = .ok (.getfield 11, 3) := by decide +kernel
theorem dX4_went_4 : decode cX4_went 4 = .ok (.bipush 60, 2) := by decide +kernel
theorem dX4_went_6 : decode cX4_went 6 = .ok (.iaload, 1) := by decide +kernel
theorem dX4_went_7 : decode cX4_went 7 = .ok (.iload_n 1, 1) := by decide +kernel
theorem dX4_went_8 : decode cX4_went 8 = .ok (.ishr, 1) := by decide +kernel
theorem dX4_went_9 : decode cX4_went 9 = .ok (.iconst 1, 1) := by decide +kernel
theorem dX4_went_10 : decode cX4_went 10 = .ok (.iand, 1) := by decide +kernel
theorem dX4_went_11 : decode cX4_went 11 = .ok (.iconst 1, 1) := by decide +kernel
theorem dX4_went_12 : decode cX4_went 12 = .ok (.if_icmp .ne 7, 3) := by decide +kernel
theorem dX4_went_15 : decode cX4_went 15 = .ok (.iconst 1, 1) := by decide +kernel
theorem dX4_went_16 : decode cX4_went 16 = .ok (.goto 4, 3) := by decide +kernel
theorem dX4_went_19 : decode cX4_went 19 = .ok (.iconst 0, 1) := by decide +kernel
theorem dX4_went_20 : decode cX4_went 20 = .ok (.ireturn, 1) := by decide +kernel
theorem dX4_deedsOf_0 : decode cX4_deedsOf 0 = .ok (.aload_n 0, 1) := by decide +kernel
theorem dX4_deedsOf_1 : decode cX4_deedsOf 1 = .ok (.iload_n 1, 1) := by decide +kernel
theorem dX4_deedsOf_2 : decode cX4_deedsOf 2 = .ok (.iconst 0, 1) := by decide +kernel
theorem dX4_deedsOf_3 : decode cX4_deedsOf 3 = .ok (.invokevirtual 46, 3) := by decide +kernel
theorem dX4_deedsOf_6 : decode cX4_deedsOf 6 = .ok (.ireturn, 1) := by decide +kernel
theorem dX4_deedsIn_0 : decode cX4_deedsIn 0 = .ok (.iconst 0, 1) := by decide +kernel
theorem dX4_deedsIn_1 : decode cX4_deedsIn 1 = .ok (.istore_n 3, 1) := by decide +kernel
theorem dX4_deedsIn_2 : decode cX4_deedsIn 2 = .ok (.iconst 0, 1) := by decide +kernel
theorem dX4_deedsIn_3 : decode cX4_deedsIn 3 = .ok (.istore 4, 2) := by decide +kernel
theorem dX4_deedsIn_5 : decode cX4_deedsIn 5 = .ok (.iload 4, 2) := by decide +kernel
theorem dX4_deedsIn_7 : decode cX4_deedsIn 7 = .ok (.aload_n 0, 1) := by decide +kernel
theorem dX4_deedsIn_8 : decode cX4_deedsIn 8 = .ok (.getfield 18, 3) := by decide +kernel
theorem dX4_deedsIn_11 : decode cX4_deedsIn 11 = .ok (.getfield 50, 3) := by decide +kernel
theorem dX4_deedsIn_14 : decode cX4_deedsIn 14 = .ok (.if_icmp .ge 27, 3) := by decide +kernel
theorem dX4_deedsIn_17 : decode cX4_deedsIn 17 = .ok (.aload_n 0, 1) := by decide +kernel
theorem dX4_deedsIn_18 : decode cX4_deedsIn 18 = .ok (.iload_n 1, 1) := by decide +kernel
theorem dX4_deedsIn_19 : decode cX4_deedsIn 19 = .ok (.iload 4, 2) := by decide +kernel
theorem dX4_deedsIn_21 : decode cX4_deedsIn 21 = .ok (.invokevirtual 53, 3) := by decide +kernel
theorem dX4_deedsIn_24 : decode cX4_deedsIn 24 = .ok (.iload_n 2, 1) := by decide +kernel
theorem dX4_deedsIn_25 : decode cX4_deedsIn 25 = .ok (.if_icmp .le 10, 3) := by decide +kernel
theorem dX4_deedsIn_28 : decode cX4_deedsIn 28 = .ok (.iload_n 3, 1) := by decide +kernel
theorem dX4_deedsIn_29 : decode cX4_deedsIn 29 = .ok (.iconst 1, 1) := by decide +kernel
theorem dX4_deedsIn_30 : decode cX4_deedsIn 30 = .ok (.iload 4, 2) := by decide +kernel
theorem dX4_deedsIn_32 : decode cX4_deedsIn 32 = .ok (.ishl, 1) := by decide +kernel
theorem dX4_deedsIn_33 : decode cX4_deedsIn 33 = .ok (.ior, 1) := by decide +kernel
theorem dX4_deedsIn_34 : decode cX4_deedsIn 34 = .ok (.istore_n 3, 1) := by decide +kernel
theorem dX4_deedsIn_35 : decode cX4_deedsIn 35 = .ok (.iinc 4 1, 3) := by decide +kernel
theorem dX4_deedsIn_38 : decode cX4_deedsIn 38 = .ok (.goto (-33), 3) := by decide +kernel
theorem dX4_deedsIn_41 : decode cX4_deedsIn 41 = .ok (.iload_n 3, 1) := by decide +kernel
theorem dX4_deedsIn_42 : decode cX4_deedsIn 42 = .ok (.ireturn, 1) := by decide +kernel
theorem dX4_guiltOf_0 : decode cX4_guiltOf 0 = .ok (.aload_n 0, 1) := by decide +kernel
theorem dX4_guiltOf_1 : decode cX4_guiltOf 1 = .ok (.getfield 18, 3) := by decide +kernel
theorem dX4_guiltOf_4 : decode cX4_guiltOf 4 = .ok (.aload_n 0, 1) := by decide +kernel
theorem dX4_guiltOf_5 : decode cX4_guiltOf 5 = .ok (.iload_n 1, 1) := by decide +kernel
theorem dX4_guiltOf_6 : decode cX4_guiltOf 6 = .ok (.invokevirtual 56, 3) := by decide +kernel
theorem dX4_guiltOf_9 : decode cX4_guiltOf 9 = .ok (.invokevirtual 60, 3) := by decide +kernel
theorem dX4_guiltOf_12 : decode cX4_guiltOf 12 = .ok (.ireturn, 1) := by decide +kernel
theorem dX4_smooth_0 : decode cX4_smooth 0 = .ok (.iconst 0, 1) := by decide +kernel
theorem dX4_smooth_1 : decode cX4_smooth 1 = .ok (.istore_n 1, 1) := by decide +kernel
theorem dX4_smooth_2 : decode cX4_smooth 2 = .ok (.iconst 0, 1) := by decide +kernel
theorem dX4_smooth_3 : decode cX4_smooth 3 = .ok (.istore_n 2, 1) := by decide +kernel
theorem dX4_smooth_4 : decode cX4_smooth 4 = .ok (.iload_n 2, 1) := by decide +kernel
theorem dX4_smooth_5 : decode cX4_smooth 5 = .ok (.aload_n 0, 1) := by decide +kernel
theorem dX4_smooth_6 : decode cX4_smooth 6 = .ok (.getfield 18, 3) := by decide +kernel
theorem dX4_smooth_9 : decode cX4_smooth 9 = .ok (.getfield 28, 3) := by decide +kernel
theorem dX4_smooth_12 : decode cX4_smooth 12 = .ok (.if_icmp .ge 23, 3) := by decide +kernel
theorem dX4_smooth_15 : decode cX4_smooth 15 = .ok (.aload_n 0, 1) := by decide +kernel
theorem dX4_smooth_16 : decode cX4_smooth 16 = .ok (.iload_n 2, 1) := by decide +kernel
theorem dX4_smooth_17 : decode cX4_smooth 17 = .ok (.invokevirtual 63, 3) := by decide +kernel
theorem dX4_smooth_20 : decode cX4_smooth 20 = .ok (.ifCond .ne 9, 3) := by decide +kernel
theorem dX4_smooth_23 : decode cX4_smooth 23 = .ok (.iload_n 1, 1) := by decide +kernel
theorem dX4_smooth_24 : decode cX4_smooth 24 = .ok (.iconst 1, 1) := by decide +kernel
theorem dX4_smooth_25 : decode cX4_smooth 25 = .ok (.iload_n 2, 1) := by decide +kernel
theorem dX4_smooth_26 : decode cX4_smooth 26 = .ok (.ishl, 1) := by decide +kernel
theorem dX4_smooth_27 : decode cX4_smooth 27 = .ok (.ior, 1) := by decide +kernel
theorem dX4_smooth_28 : decode cX4_smooth 28 = .ok (.istore_n 1, 1) := by decide +kernel
theorem dX4_smooth_29 : decode cX4_smooth 29 = .ok (.iinc 2 1, 3) := by decide +kernel
theorem dX4_smooth_32 : decode cX4_smooth 32 = .ok (.goto (-28), 3) := by decide +kernel
theorem dX4_smooth_35 : decode cX4_smooth 35 = .ok (.iload_n 1, 1) := by decide +kernel
theorem dX4_smooth_36 : decode cX4_smooth 36 = .ok (.ireturn, 1) := by decide +kernel
theorem dX4_mayTakeOn_0 : decode cX4_mayTakeOn 0 = .ok (.aload_n 0, 1) := by decide +kernel
theorem dX4_mayTakeOn_1 : decode cX4_mayTakeOn 1 = .ok (.getfield 18, 3) := by decide +kernel
theorem dX4_mayTakeOn_4 : decode cX4_mayTakeOn 4 = .ok (.iload_n 1, 1) := by decide +kernel
theorem dX4_mayTakeOn_5 : decode cX4_mayTakeOn 5 = .ok (.iload_n 2, 1) := by decide +kernel
theorem dX4_mayTakeOn_6 : decode cX4_mayTakeOn 6 = .ok (.invokevirtual 66, 3) := by decide +kernel
theorem dX4_mayTakeOn_9 : decode cX4_mayTakeOn 9 = .ok (.ifCond .eq 16, 3) := by decide +kernel
theorem dX4_mayTakeOn_12 : decode cX4_mayTakeOn 12 = .ok (.aload_n 0, 1) := by decide +kernel
theorem dX4_mayTakeOn_13 : decode cX4_mayTakeOn 13 = .ok (.iload_n 1, 1) := by decide +kernel
theorem dX4_mayTakeOn_14 : decode cX4_mayTakeOn 14 = .ok (.iload_n 2, 1) := by decide +kernel
theorem dX4_mayTakeOn_15 : decode cX4_mayTakeOn 15 = .ok (.invokevirtual 53, 3) := by decide +kernel
theorem dX4_mayTakeOn_18 : decode cX4_mayTakeOn 18 = .ok (.ifCond .ne 7, 3) := by decide +kernel
theorem dX4_mayTakeOn_21 : decode cX4_mayTakeOn 21 = .ok (.iconst 1, 1) := by decide +kernel
theorem dX4_mayTakeOn_22 : decode cX4_mayTakeOn 22 = .ok (.goto 4, 3) := by decide +kernel
theorem dX4_mayTakeOn_25 : decode cX4_mayTakeOn 25 = .ok (.iconst 0, 1) := by decide +kernel
theorem dX4_mayTakeOn_26 : decode cX4_mayTakeOn 26 = .ok (.ireturn, 1) := by decide +kernel
theorem dX4_takeOn_0 : decode cX4_takeOn 0 = .ok (.aload_n 0, 1) := by decide +kernel
theorem dX4_takeOn_1 : decode cX4_takeOn 1 = .ok (.iload_n 1, 1) := by decide +kernel
theorem dX4_takeOn_2 : decode cX4_takeOn 2 = .ok (.iload_n 2, 1) := by decide +kernel
theorem dX4_takeOn_3 : decode cX4_takeOn 3 = .ok (.aload_n 0, 1) := by decide +kernel
theorem dX4_takeOn_4 : decode cX4_takeOn 4 = .ok (.getfield 18, 3) := by decide +kernel
theorem dX4_takeOn_7 : decode cX4_takeOn 7 = .ok (.getfield 70, 3) := by decide +kernel
theorem dX4_takeOn_10 : decode cX4_takeOn 10 = .ok (.iload_n 2, 1) := by decide +kernel
theorem dX4_takeOn_11 : decode cX4_takeOn 11 = .ok (.iaload, 1) := by decide +kernel
theorem dX4_takeOn_12 : decode cX4_takeOn 12 = .ok (.invokevirtual 73, 3) := by decide +kernel
theorem dX4_takeOn_15 : decode cX4_takeOn 15 = .ok (.aload_n 0, 1) := by decide +kernel
theorem dX4_takeOn_16 : decode cX4_takeOn 16 = .ok (.getfield 11, 3) := by decide +kernel
theorem dX4_takeOn_19 : decode cX4_takeOn 19 = .ok (.bipush 62, 2) := by decide +kernel
theorem dX4_takeOn_21 : decode cX4_takeOn 21 = .ok (.sipush 9999, 3) := by decide +kernel
theorem dX4_takeOn_24 : decode cX4_takeOn 24 = .ok (.aload_n 0, 1) := by decide +kernel
theorem dX4_takeOn_25 : decode cX4_takeOn 25 = .ok (.getfield 11, 3) := by decide +kernel
theorem dX4_takeOn_28 : decode cX4_takeOn 28 = .ok (.bipush 62, 2) := by decide +kernel
theorem dX4_takeOn_30 : decode cX4_takeOn 30 = .ok (.iaload, 1) := by decide +kernel
theorem dX4_takeOn_31 : decode cX4_takeOn 31 = .ok (.aload_n 0, 1) := by decide +kernel
theorem dX4_takeOn_32 : decode cX4_takeOn 32 = .ok (.getfield 18, 3) := by decide +kernel
theorem dX4_takeOn_35 : decode cX4_takeOn 35 = .ok (.getfield 77, 3) := by decide +kernel
theorem dX4_takeOn_38 : decode cX4_takeOn 38 = .ok (.iload_n 2, 1) := by decide +kernel
theorem dX4_takeOn_39 : decode cX4_takeOn 39 = .ok (.iaload, 1) := by decide +kernel
theorem dX4_takeOn_40 : decode cX4_takeOn 40 = .ok (.iadd, 1) := by decide +kernel
theorem dX4_takeOn_41 : decode cX4_takeOn 41 = .ok (.invokestatic 80, 3) := by decide +kernel
theorem dX4_takeOn_44 : decode cX4_takeOn 44 = .ok (.iastore, 1) := by decide +kernel
theorem dX4_takeOn_45 : decode cX4_takeOn 45 = .ok (.return_, 1) := by decide +kernel
theorem dX4_maySellTo_0 : decode cX4_maySellTo 0 = .ok (.aload_n 0, 1) := by decide +kernel
theorem dX4_maySellTo_1 : decode cX4_maySellTo 1 = .ok (.getfield 18, 3) := by decide +kernel
theorem dX4_maySellTo_4 : decode cX4_maySellTo 4 = .ok (.iload_n 1, 1) := by decide +kernel
theorem dX4_maySellTo_5 : decode cX4_maySellTo 5 = .ok (.iload_n 3, 1) := by decide +kernel
theorem dX4_maySellTo_6 : decode cX4_maySellTo 6 = .ok (.invokevirtual 66, 3) := by decide +kernel
theorem dX4_maySellTo_9 : decode cX4_maySellTo 9 = .ok (.ifCond .eq 52, 3) := by decide +kernel
theorem dX4_maySellTo_12 : decode cX4_maySellTo 12 = .ok (.aload_n 0, 1) := by decide +kernel
theorem dX4_maySellTo_13 : decode cX4_maySellTo 13 = .ok (.getfield 18, 3) := by decide +kernel
theorem dX4_maySellTo_16 : decode cX4_maySellTo 16 = .ok (.iload_n 2, 1) := by decide +kernel
theorem dX4_maySellTo_17 : decode cX4_maySellTo 17 = .ok (.invokevirtual 85, 3) := by decide +kernel
theorem dX4_maySellTo_20 : decode cX4_maySellTo 20 = .ok (.ifCond .eq 41, 3) := by decide +kernel
theorem dX4_maySellTo_23 : decode cX4_maySellTo 23 = .ok (.iload_n 1, 1) := by decide +kernel
theorem dX4_maySellTo_24 : decode cX4_maySellTo 24 = .ok (.iload_n 2, 1) := by decide +kernel
theorem dX4_maySellTo_25 : decode cX4_maySellTo 25 = .ok (.if_icmp .eq 36, 3) := by decide +kernel
theorem dX4_maySellTo_28 : decode cX4_maySellTo 28 = .ok (.aload_n 0, 1) := by decide +kernel
theorem dX4_maySellTo_29 : decode cX4_maySellTo 29 = .ok (.iload_n 1, 1) := by decide +kernel
theorem dX4_maySellTo_30 : decode cX4_maySellTo 30 = .ok (.iload_n 3, 1) := by decide +kernel
theorem dX4_maySellTo_31 : decode cX4_maySellTo 31 = .ok (.invokevirtual 53, 3) := by decide +kernel
theorem dX4_maySellTo_34 : decode cX4_maySellTo 34 = .ok (.ifCond .le 27, 3) := by decide +kernel
theorem dX4_maySellTo_37 : decode cX4_maySellTo 37 = .ok (.aload_n 0, 1) := by decide +kernel
theorem dX4_maySellTo_38 : decode cX4_maySellTo 38 = .ok (.iload_n 2, 1) := by decide +kernel
theorem dX4_maySellTo_39 : decode cX4_maySellTo 39 = .ok (.iload_n 3, 1) := by decide +kernel
theorem dX4_maySellTo_40 : decode cX4_maySellTo 40 = .ok (.invokevirtual 53, 3) := by decide +kernel
theorem dX4_maySellTo_43 : decode cX4_maySellTo 43 = .ok (.ifCond .ne 18, 3) := by decide +kernel
theorem dX4_maySellTo_46 : decode cX4_maySellTo 46 = .ok (.aload_n 0, 1) := by decide +kernel
theorem dX4_maySellTo_47 : decode cX4_maySellTo 47 = .ok (.getfield 11, 3) := by decide +kernel
theorem dX4_maySellTo_50 : decode cX4_maySellTo 50 = .ok (.bipush 65, 2) := by decide +kernel
theorem dX4_maySellTo_52 : decode cX4_maySellTo 52 = .ok (.iaload, 1) := by decide +kernel
theorem dX4_maySellTo_53 : decode cX4_maySellTo 53 = .ok (.iconst 1, 1) := by decide +kernel
theorem dX4_maySellTo_54 : decode cX4_maySellTo 54 = .ok (.if_icmp .lt 7, 3) := by decide +kernel
theorem dX4_maySellTo_57 : decode cX4_maySellTo 57 = .ok (.iconst 1, 1) := by decide +kernel
theorem dX4_maySellTo_58 : decode cX4_maySellTo 58 = .ok (.goto 4, 3) := by decide +kernel
theorem dX4_maySellTo_61 : decode cX4_maySellTo 61 = .ok (.iconst 0, 1) := by decide +kernel
theorem dX4_maySellTo_62 : decode cX4_maySellTo 62 = .ok (.ireturn, 1) := by decide +kernel
theorem dX4_sellTo_0 : decode cX4_sellTo 0 = .ok (.aload_n 0, 1) := by decide +kernel
theorem dX4_sellTo_1 : decode cX4_sellTo 1 = .ok (.iload_n 2, 1) := by decide +kernel
theorem dX4_sellTo_2 : decode cX4_sellTo 2 = .ok (.iload_n 3, 1) := by decide +kernel
theorem dX4_sellTo_3 : decode cX4_sellTo 3 = .ok (.aload_n 0, 1) := by decide +kernel
theorem dX4_sellTo_4 : decode cX4_sellTo 4 = .ok (.iload_n 1, 1) := by decide +kernel
theorem dX4_sellTo_5 : decode cX4_sellTo 5 = .ok (.iload_n 3, 1) := by decide +kernel
theorem dX4_sellTo_6 : decode cX4_sellTo 6 = .ok (.invokevirtual 53, 3) := by decide +kernel
theorem dX4_sellTo_9 : decode cX4_sellTo 9 = .ok (.invokevirtual 73, 3) := by decide +kernel
theorem dX4_sellTo_12 : decode cX4_sellTo 12 = .ok (.aload_n 0, 1) := by decide +kernel
theorem dX4_sellTo_13 : decode cX4_sellTo 13 = .ok (.iload_n 1, 1) := by decide +kernel
theorem dX4_sellTo_14 : decode cX4_sellTo 14 = .ok (.iload_n 3, 1) := by decide +kernel
theorem dX4_sellTo_15 : decode cX4_sellTo 15 = .ok (.iconst 0, 1) := by decide +kernel
theorem dX4_sellTo_16 : decode cX4_sellTo 16 = .ok (.invokevirtual 73, 3) := by decide +kernel
theorem dX4_sellTo_19 : decode cX4_sellTo 19 = .ok (.aload_n 0, 1) := by decide +kernel
theorem dX4_sellTo_20 : decode cX4_sellTo 20 = .ok (.getfield 11, 3) := by decide +kernel
theorem dX4_sellTo_23 : decode cX4_sellTo 23 = .ok (.bipush 65, 2) := by decide +kernel
theorem dX4_sellTo_25 : decode cX4_sellTo 25 = .ok (.dup2, 1) := by decide +kernel
theorem dX4_sellTo_26 : decode cX4_sellTo 26 = .ok (.iaload, 1) := by decide +kernel
theorem dX4_sellTo_27 : decode cX4_sellTo 27 = .ok (.iconst 1, 1) := by decide +kernel
theorem dX4_sellTo_28 : decode cX4_sellTo 28 = .ok (.isub, 1) := by decide +kernel
theorem dX4_sellTo_29 : decode cX4_sellTo 29 = .ok (.iastore, 1) := by decide +kernel
theorem dX4_sellTo_30 : decode cX4_sellTo 30 = .ok (.return_, 1) := by decide +kernel
theorem dX4_mayAtoneFor_0 : decode cX4_mayAtoneFor 0 = .ok (.aload_n 0, 1) := by decide +kernel
theorem dX4_mayAtoneFor_1 : decode cX4_mayAtoneFor 1 = .ok (.getfield 18, 3) := by decide +kernel
theorem dX4_mayAtoneFor_4 : decode cX4_mayAtoneFor 4 = .ok (.iload_n 1, 1) := by decide +kernel
theorem dX4_mayAtoneFor_5 : decode cX4_mayAtoneFor 5 = .ok (.iload_n 2, 1) := by decide +kernel
theorem dX4_mayAtoneFor_6 : decode cX4_mayAtoneFor 6 = .ok (.invokevirtual 66, 3) := by decide +kernel
theorem dX4_mayAtoneFor_9 : decode cX4_mayAtoneFor 9 = .ok (.ifCond .eq 27, 3) := by decide +kernel
theorem dX4_mayAtoneFor_12 : decode cX4_mayAtoneFor 12 = .ok (.aload_n 0, 1) := by decide +kernel
theorem dX4_mayAtoneFor_13 : decode cX4_mayAtoneFor 13 = .ok (.iload_n 1, 1) := by decide +kernel
theorem dX4_mayAtoneFor_14 : decode cX4_mayAtoneFor 14 = .ok (.iload_n 2, 1) := by decide +kernel
theorem dX4_mayAtoneFor_15 : decode cX4_mayAtoneFor 15 = .ok (.invokevirtual 53, 3) := by decide +kernel
theorem dX4_mayAtoneFor_18 : decode cX4_mayAtoneFor 18 = .ok (.ifCond .le 18, 3) := by decide +kernel
theorem dX4_mayAtoneFor_21 : decode cX4_mayAtoneFor 21 = .ok (.aload_n 0, 1) := by decide +kernel
theorem dX4_mayAtoneFor_22 : decode cX4_mayAtoneFor 22 = .ok (.getfield 11, 3) := by decide +kernel
theorem dX4_mayAtoneFor_25 : decode cX4_mayAtoneFor 25 = .ok (.bipush 65, 2) := by decide +kernel
theorem dX4_mayAtoneFor_27 : decode cX4_mayAtoneFor 27 = .ok (.iaload, 1) := by decide +kernel
theorem dX4_mayAtoneFor_28 : decode cX4_mayAtoneFor 28 = .ok (.iconst 2, 1) := by decide +kernel
theorem dX4_mayAtoneFor_29 : decode cX4_mayAtoneFor 29 = .ok (.if_icmp .lt 7, 3) := by decide +kernel
theorem dX4_mayAtoneFor_32 : decode cX4_mayAtoneFor 32 = .ok (.iconst 1, 1) := by decide +kernel
theorem dX4_mayAtoneFor_33 : decode cX4_mayAtoneFor 33 = .ok (.goto 4, 3) := by decide +kernel
theorem dX4_mayAtoneFor_36 : decode cX4_mayAtoneFor 36 = .ok (.iconst 0, 1) := by decide +kernel
theorem dX4_mayAtoneFor_37 : decode cX4_mayAtoneFor 37 = .ok (.ireturn, 1) := by decide +kernel
theorem dX4_atoneFor_0 : decode cX4_atoneFor 0 = .ok (.aload_n 0, 1) := by decide +kernel
theorem dX4_atoneFor_1 : decode cX4_atoneFor 1 = .ok (.iload_n 1, 1) := by decide +kernel
theorem dX4_atoneFor_2 : decode cX4_atoneFor 2 = .ok (.iload_n 2, 1) := by decide +kernel
theorem dX4_atoneFor_3 : decode cX4_atoneFor 3 = .ok (.iconst 0, 1) := by decide +kernel
theorem dX4_atoneFor_4 : decode cX4_atoneFor 4 = .ok (.invokevirtual 73, 3) := by decide +kernel
theorem dX4_atoneFor_7 : decode cX4_atoneFor 7 = .ok (.aload_n 0, 1) := by decide +kernel
theorem dX4_atoneFor_8 : decode cX4_atoneFor 8 = .ok (.getfield 11, 3) := by decide +kernel
theorem dX4_atoneFor_11 : decode cX4_atoneFor 11 = .ok (.bipush 65, 2) := by decide +kernel
theorem dX4_atoneFor_13 : decode cX4_atoneFor 13 = .ok (.dup2, 1) := by decide +kernel
theorem dX4_atoneFor_14 : decode cX4_atoneFor 14 = .ok (.iaload, 1) := by decide +kernel
theorem dX4_atoneFor_15 : decode cX4_atoneFor 15 = .ok (.iconst 2, 1) := by decide +kernel
theorem dX4_atoneFor_16 : decode cX4_atoneFor 16 = .ok (.isub, 1) := by decide +kernel
theorem dX4_atoneFor_17 : decode cX4_atoneFor 17 = .ok (.iastore, 1) := by decide +kernel
theorem dX4_atoneFor_18 : decode cX4_atoneFor 18 = .ok (.return_, 1) := by decide +kernel
theorem dX4_mayGo_0 : decode cX4_mayGo 0 = .ok (.aload_n 0, 1) := by decide +kernel
theorem dX4_mayGo_1 : decode cX4_mayGo 1 = .ok (.getfield 18, 3) := by decide +kernel
theorem dX4_mayGo_4 : decode cX4_mayGo 4 = .ok (.iload_n 1, 1) := by decide +kernel
theorem dX4_mayGo_5 : decode cX4_mayGo 5 = .ok (.invokevirtual 85, 3) := by decide +kernel
theorem dX4_mayGo_8 : decode cX4_mayGo 8 = .ok (.ifCond .eq 15, 3) := by decide +kernel
theorem dX4_mayGo_11 : decode cX4_mayGo 11 = .ok (.aload_n 0, 1) := by decide +kernel
theorem dX4_mayGo_12 : decode cX4_mayGo 12 = .ok (.iload_n 1, 1) := by decide +kernel
theorem dX4_mayGo_13 : decode cX4_mayGo 13 = .ok (.invokevirtual 89, 3) := by decide +kernel
theorem dX4_mayGo_16 : decode cX4_mayGo 16 = .ok (.ifCond .ne 7, 3) := by decide +kernel
theorem dX4_mayGo_19 : decode cX4_mayGo 19 = .ok (.iconst 1, 1) := by decide +kernel
theorem dX4_mayGo_20 : decode cX4_mayGo 20 = .ok (.goto 4, 3) := by decide +kernel
theorem dX4_mayGo_23 : decode cX4_mayGo 23 = .ok (.iconst 0, 1) := by decide +kernel
theorem dX4_mayGo_24 : decode cX4_mayGo 24 = .ok (.ireturn, 1) := by decide +kernel
theorem dX4_go_0 : decode cX4_go 0 = .ok (.aload_n 0, 1) := by decide +kernel
theorem dX4_go_1 : decode cX4_go 1 = .ok (.getfield 11, 3) := by decide +kernel
theorem dX4_go_4 : decode cX4_go 4 = .ok (.bipush 60, 2) := by decide +kernel
theorem dX4_go_6 : decode cX4_go 6 = .ok (.dup2, 1) := by decide +kernel
theorem dX4_go_7 : decode cX4_go 7 = .ok (.iaload, 1) := by decide +kernel
theorem dX4_go_8 : decode cX4_go 8 = .ok (.iconst 1, 1) := by decide +kernel
theorem dX4_go_9 : decode cX4_go 9 = .ok (.iload_n 1, 1) := by decide +kernel
theorem dX4_go_10 : decode cX4_go 10 = .ok (.ishl, 1) := by decide +kernel
theorem dX4_go_11 : decode cX4_go 11 = .ok (.ior, 1) := by decide +kernel
theorem dX4_go_12 : decode cX4_go 12 = .ok (.iastore, 1) := by decide +kernel
theorem dX4_go_13 : decode cX4_go 13 = .ok (.iload_n 2, 1) := by decide +kernel
theorem dX4_go_14 : decode cX4_go 14 = .ok (.ifCond .eq 54, 3) := by decide +kernel
theorem dX4_go_17 : decode cX4_go 17 = .ok (.aload_n 0, 1) := by decide +kernel
theorem dX4_go_18 : decode cX4_go 18 = .ok (.getfield 11, 3) := by decide +kernel
theorem dX4_go_21 : decode cX4_go 21 = .ok (.iconst 0, 1) := by decide +kernel
theorem dX4_go_22 : decode cX4_go 22 = .ok (.iload_n 1, 1) := by decide +kernel
theorem dX4_go_23 : decode cX4_go 23 = .ok (.iadd, 1) := by decide +kernel
theorem dX4_go_24 : decode cX4_go 24 = .ok (.iconst 0, 1) := by decide +kernel
theorem dX4_go_25 : decode cX4_go 25 = .ok (.iastore, 1) := by decide +kernel
theorem dX4_go_26 : decode cX4_go 26 = .ok (.aload_n 0, 1) := by decide +kernel
theorem dX4_go_27 : decode cX4_go 27 = .ok (.getfield 11, 3) := by decide +kernel
theorem dX4_go_30 : decode cX4_go 30 = .ok (.bipush 6, 2) := by decide +kernel
theorem dX4_go_32 : decode cX4_go 32 = .ok (.iload_n 1, 1) := by decide +kernel
theorem dX4_go_33 : decode cX4_go 33 = .ok (.iadd, 1) := by decide +kernel
theorem dX4_go_34 : decode cX4_go 34 = .ok (.sipush 999, 3) := by decide +kernel
theorem dX4_go_37 : decode cX4_go 37 = .ok (.aload_n 0, 1) := by decide +kernel
theorem dX4_go_38 : decode cX4_go 38 = .ok (.getfield 11, 3) := by decide +kernel
theorem dX4_go_41 : decode cX4_go 41 = .ok (.bipush 6, 2) := by decide +kernel
theorem dX4_go_43 : decode cX4_go 43 = .ok (.iload_n 1, 1) := by decide +kernel
theorem dX4_go_44 : decode cX4_go 44 = .ok (.iadd, 1) := by decide +kernel
theorem dX4_go_45 : decode cX4_go 45 = .ok (.iaload, 1) := by decide +kernel
theorem dX4_go_46 : decode cX4_go 46 = .ok (.iconst 1, 1) := by decide +kernel
theorem dX4_go_47 : decode cX4_go 47 = .ok (.iadd, 1) := by decide +kernel
theorem dX4_go_48 : decode cX4_go 48 = .ok (.invokestatic 80, 3) := by decide +kernel
theorem dX4_go_51 : decode cX4_go 51 = .ok (.iastore, 1) := by decide +kernel
theorem dX4_go_52 : decode cX4_go 52 = .ok (.aload_n 0, 1) := by decide +kernel
theorem dX4_go_53 : decode cX4_go 53 = .ok (.getfield 11, 3) := by decide +kernel
theorem dX4_go_56 : decode cX4_go 56 = .ok (.bipush 61, 2) := by decide +kernel
theorem dX4_go_58 : decode cX4_go 58 = .ok (.dup2, 1) := by decide +kernel
theorem dX4_go_59 : decode cX4_go 59 = .ok (.iaload, 1) := by decide +kernel
theorem dX4_go_60 : decode cX4_go 60 = .ok (.iconst 1, 1) := by decide +kernel
theorem dX4_go_61 : decode cX4_go 61 = .ok (.iload_n 1, 1) := by decide +kernel
theorem dX4_go_62 : decode cX4_go 62 = .ok (.ishl, 1) := by decide +kernel
theorem dX4_go_63 : decode cX4_go 63 = .ok (.ior, 1) := by decide +kernel
theorem dX4_go_64 : decode cX4_go 64 = .ok (.iastore, 1) := by decide +kernel
theorem dX4_go_65 : decode cX4_go 65 = .ok (.goto 51, 3) := by decide +kernel
theorem dX4_go_68 : decode cX4_go 68 = .ok (.aload_n 0, 1) := by decide +kernel
theorem dX4_go_69 : decode cX4_go 69 = .ok (.getfield 11, 3) := by decide +kernel
theorem dX4_go_72 : decode cX4_go 72 = .ok (.bipush 63, 2) := by decide +kernel
theorem dX4_go_74 : decode cX4_go 74 = .ok (.sipush 999, 3) := by decide +kernel
theorem dX4_go_77 : decode cX4_go 77 = .ok (.aload_n 0, 1) := by decide +kernel
theorem dX4_go_78 : decode cX4_go 78 = .ok (.getfield 11, 3) := by decide +kernel
theorem dX4_go_81 : decode cX4_go 81 = .ok (.bipush 63, 2) := by decide +kernel
theorem dX4_go_83 : decode cX4_go 83 = .ok (.iaload, 1) := by decide +kernel
theorem dX4_go_84 : decode cX4_go 84 = .ok (.iconst 1, 1) := by decide +kernel
theorem dX4_go_85 : decode cX4_go 85 = .ok (.iadd, 1) := by decide +kernel
theorem dX4_go_86 : decode cX4_go 86 = .ok (.invokestatic 80, 3) := by decide +kernel
theorem dX4_go_89 : decode cX4_go 89 = .ok (.iastore, 1) := by decide +kernel
theorem dX4_go_90 : decode cX4_go 90 = .ok (.aload_n 0, 1) := by decide +kernel
theorem dX4_go_91 : decode cX4_go 91 = .ok (.getfield 11, 3) := by decide +kernel
theorem dX4_go_94 : decode cX4_go 94 = .ok (.bipush 65, 2) := by decide +kernel
theorem dX4_go_96 : decode cX4_go 96 = .ok (.iconst 0, 1) := by decide +kernel
theorem dX4_go_97 : decode cX4_go 97 = .ok (.aload_n 0, 1) := by decide +kernel
theorem dX4_go_98 : decode cX4_go 98 = .ok (.getfield 11, 3) := by decide +kernel
theorem dX4_go_101 : decode cX4_go 101 = .ok (.bipush 65, 2) := by decide +kernel
theorem dX4_go_103 : decode cX4_go 103 = .ok (.iaload, 1) := by decide +kernel
theorem dX4_go_104 : decode cX4_go 104 = .ok (.aload_n 0, 1) := by decide +kernel
theorem dX4_go_105 : decode cX4_go 105 = .ok (.getfield 18, 3) := by decide +kernel
theorem dX4_go_108 : decode cX4_go 108 = .ok (.getfield 92, 3) := by decide +kernel
theorem dX4_go_111 : decode cX4_go 111 = .ok (.isub, 1) := by decide +kernel
theorem dX4_go_112 : decode cX4_go 112 = .ok (.invokestatic 95, 3) := by decide +kernel
theorem dX4_go_115 : decode cX4_go 115 = .ok (.iastore, 1) := by decide +kernel
theorem dX4_go_116 : decode cX4_go 116 = .ok (.return_, 1) := by decide +kernel
theorem dX4_receive_0 : decode cX4_receive 0 = .ok (.aload_n 0, 1) := by decide +kernel
theorem dX4_receive_1 : decode cX4_receive 1 = .ok (.getfield 11, 3) := by decide +kernel
theorem dX4_receive_4 : decode cX4_receive 4 = .ok (.bipush 65, 2) := by decide +kernel
theorem dX4_receive_6 : decode cX4_receive 6 = .ok (.dup2, 1) := by decide +kernel
theorem dX4_receive_7 : decode cX4_receive 7 = .ok (.iaload, 1) := by decide +kernel
theorem dX4_receive_8 : decode cX4_receive 8 = .ok (.iload_n 1, 1) := by decide +kernel
theorem dX4_receive_9 : decode cX4_receive 9 = .ok (.iadd, 1) := by decide +kernel
theorem dX4_receive_10 : decode cX4_receive 10 = .ok (.iastore, 1) := by decide +kernel
theorem dX4_receive_11 : decode cX4_receive 11 = .ok (.return_, 1) := by decide +kernel
theorem dX4_mayPassDay_0 : decode cX4_mayPassDay 0 = .ok (.aload_n 0, 1) := by decide +kernel
theorem dX4_mayPassDay_1 : decode cX4_mayPassDay 1 = .ok (.getfield 18, 3) := by decide +kernel
theorem dX4_mayPassDay_4 : decode cX4_mayPassDay 4 = .ok (.getfield 28, 3) := by decide +kernel
theorem dX4_mayPassDay_7 : decode cX4_mayPassDay 7 = .ok (.ifCond .le 20, 3) := by decide +kernel
theorem dX4_mayPassDay_10 : decode cX4_mayPassDay 10 = .ok (.aload_n 0, 1) := by decide +kernel
theorem dX4_mayPassDay_11 : decode cX4_mayPassDay 11 = .ok (.getfield 11, 3) := by decide +kernel
theorem dX4_mayPassDay_14 : decode cX4_mayPassDay 14 = .ok (.bipush 66, 2) := by decide +kernel
theorem dX4_mayPassDay_16 : decode cX4_mayPassDay 16 = .ok (.iaload, 1) := by decide +kernel
theorem dX4_mayPassDay_17 : decode cX4_mayPassDay 17 = .ok (.sipush 999, 3) := by decide +kernel
theorem dX4_mayPassDay_20 : decode cX4_mayPassDay 20 = .ok (.if_icmp .ge 7, 3) := by decide +kernel
theorem dX4_mayPassDay_23 : decode cX4_mayPassDay 23 = .ok (.iconst 1, 1) := by decide +kernel
theorem dX4_mayPassDay_24 : decode cX4_mayPassDay 24 = .ok (.goto 4, 3) := by decide +kernel
theorem dX4_mayPassDay_27 : decode cX4_mayPassDay 27 = .ok (.iconst 0, 1) := by decide +kernel
theorem dX4_mayPassDay_28 : decode cX4_mayPassDay 28 = .ok (.ireturn, 1) := by decide +kernel
theorem dX4_passDay_0 : decode cX4_passDay 0 = .ok (.aload_n 0, 1) := by decide +kernel
theorem dX4_passDay_1 : decode cX4_passDay 1 = .ok (.invokevirtual 98, 3) := by decide +kernel
theorem dX4_passDay_4 : decode cX4_passDay 4 = .ok (.istore_n 1, 1) := by decide +kernel
theorem dX4_passDay_5 : decode cX4_passDay 5 = .ok (.aload_n 0, 1) := by decide +kernel
theorem dX4_passDay_6 : decode cX4_passDay 6 = .ok (.iload_n 1, 1) := by decide +kernel
theorem dX4_passDay_7 : decode cX4_passDay 7 = .ok (.invokevirtual 102, 3) := by decide +kernel
theorem dX4_passDay_10 : decode cX4_passDay 10 = .ok (.aload_n 0, 1) := by decide +kernel
theorem dX4_passDay_11 : decode cX4_passDay 11 = .ok (.getfield 11, 3) := by decide +kernel
theorem dX4_passDay_14 : decode cX4_passDay 14 = .ok (.bipush 64, 2) := by decide +kernel
theorem dX4_passDay_16 : decode cX4_passDay 16 = .ok (.sipush 9999, 3) := by decide +kernel
theorem dX4_passDay_19 : decode cX4_passDay 19 = .ok (.aload_n 0, 1) := by decide +kernel
theorem dX4_passDay_20 : decode cX4_passDay 20 = .ok (.getfield 11, 3) := by decide +kernel
theorem dX4_passDay_23 : decode cX4_passDay 23 = .ok (.bipush 64, 2) := by decide +kernel
theorem dX4_passDay_25 : decode cX4_passDay 25 = .ok (.iaload, 1) := by decide +kernel
theorem dX4_passDay_26 : decode cX4_passDay 26 = .ok (.aload_n 0, 1) := by decide +kernel
theorem dX4_passDay_27 : decode cX4_passDay 27 = .ok (.iload_n 1, 1) := by decide +kernel
theorem dX4_passDay_28 : decode cX4_passDay 28 = .ok (.invokevirtual 106, 3) := by decide +kernel
theorem dX4_passDay_31 : decode cX4_passDay 31 = .ok (.iadd, 1) := by decide +kernel
theorem dX4_passDay_32 : decode cX4_passDay 32 = .ok (.invokestatic 80, 3) := by decide +kernel
theorem dX4_passDay_35 : decode cX4_passDay 35 = .ok (.iastore, 1) := by decide +kernel
theorem dX4_passDay_36 : decode cX4_passDay 36 = .ok (.iconst 0, 1) := by decide +kernel
theorem dX4_passDay_37 : decode cX4_passDay 37 = .ok (.istore_n 2, 1) := by decide +kernel
theorem dX4_passDay_38 : decode cX4_passDay 38 = .ok (.iload_n 2, 1) := by decide +kernel
theorem dX4_passDay_39 : decode cX4_passDay 39 = .ok (.aload_n 0, 1) := by decide +kernel
theorem dX4_passDay_40 : decode cX4_passDay 40 = .ok (.getfield 18, 3) := by decide +kernel
theorem dX4_passDay_43 : decode cX4_passDay 43 = .ok (.getfield 28, 3) := by decide +kernel
theorem dX4_passDay_46 : decode cX4_passDay 46 = .ok (.if_icmp .ge 66, 3) := by decide +kernel
theorem dX4_passDay_49 : decode cX4_passDay 49 = .ok (.aload_n 0, 1) := by decide +kernel
theorem dX4_passDay_50 : decode cX4_passDay 50 = .ok (.getfield 11, 3) := by decide +kernel
theorem dX4_passDay_53 : decode cX4_passDay 53 = .ok (.iconst 0, 1) := by decide +kernel
theorem dX4_passDay_54 : decode cX4_passDay 54 = .ok (.iload_n 2, 1) := by decide +kernel
theorem dX4_passDay_55 : decode cX4_passDay 55 = .ok (.iadd, 1) := by decide +kernel
theorem dX4_passDay_56 : decode cX4_passDay 56 = .ok (.bipush 99, 2) := by decide +kernel
theorem dX4_passDay_58 : decode cX4_passDay 58 = .ok (.aload_n 0, 1) := by decide +kernel
theorem dX4_passDay_59 : decode cX4_passDay 59 = .ok (.iload_n 2, 1) := by decide +kernel
theorem dX4_passDay_60 : decode cX4_passDay 60 = .ok (.invokevirtual 63, 3) := by decide +kernel
theorem dX4_passDay_63 : decode cX4_passDay 63 = .ok (.iconst 1, 1) := by decide +kernel
theorem dX4_passDay_64 : decode cX4_passDay 64 = .ok (.iadd, 1) := by decide +kernel
theorem dX4_passDay_65 : decode cX4_passDay 65 = .ok (.invokestatic 80, 3) := by decide +kernel
theorem dX4_passDay_68 : decode cX4_passDay 68 = .ok (.iastore, 1) := by decide +kernel
theorem dX4_passDay_69 : decode cX4_passDay 69 = .ok (.iconst 0, 1) := by decide +kernel
theorem dX4_passDay_70 : decode cX4_passDay 70 = .ok (.istore_n 3, 1) := by decide +kernel
theorem dX4_passDay_71 : decode cX4_passDay 71 = .ok (.iload_n 3, 1) := by decide +kernel
theorem dX4_passDay_72 : decode cX4_passDay 72 = .ok (.aload_n 0, 1) := by decide +kernel
theorem dX4_passDay_73 : decode cX4_passDay 73 = .ok (.getfield 18, 3) := by decide +kernel
theorem dX4_passDay_76 : decode cX4_passDay 76 = .ok (.getfield 50, 3) := by decide +kernel
theorem dX4_passDay_79 : decode cX4_passDay 79 = .ok (.if_icmp .ge 27, 3) := by decide +kernel
theorem dX4_passDay_82 : decode cX4_passDay 82 = .ok (.aload_n 0, 1) := by decide +kernel
theorem dX4_passDay_83 : decode cX4_passDay 83 = .ok (.iload_n 2, 1) := by decide +kernel
theorem dX4_passDay_84 : decode cX4_passDay 84 = .ok (.iload_n 3, 1) := by decide +kernel
theorem dX4_passDay_85 : decode cX4_passDay 85 = .ok (.iconst 0, 1) := by decide +kernel
theorem dX4_passDay_86 : decode cX4_passDay 86 = .ok (.aload_n 0, 1) := by decide +kernel
theorem dX4_passDay_87 : decode cX4_passDay 87 = .ok (.iload_n 2, 1) := by decide +kernel
theorem dX4_passDay_88 : decode cX4_passDay 88 = .ok (.iload_n 3, 1) := by decide +kernel
theorem dX4_passDay_89 : decode cX4_passDay 89 = .ok (.invokevirtual 53, 3) := by decide +kernel
theorem dX4_passDay_92 : decode cX4_passDay 92 = .ok (.iconst 1, 1) := by decide +kernel
theorem dX4_passDay_93 : decode cX4_passDay 93 = .ok (.isub, 1) := by decide +kernel
theorem dX4_passDay_94 : decode cX4_passDay 94 = .ok (.invokestatic 95, 3) := by decide +kernel
theorem dX4_passDay_97 : decode cX4_passDay 97 = .ok (.invokevirtual 73, 3) := by decide +kernel
theorem dX4_passDay_100 : decode cX4_passDay 100 = .ok (.iinc 3 1, 3) := by decide +kernel
theorem dX4_passDay_103 : decode cX4_passDay 103 = .ok (.goto (-32), 3) := by decide +kernel
theorem dX4_passDay_106 : decode cX4_passDay 106 = .ok (.iinc 2 1, 3) := by decide +kernel
theorem dX4_passDay_109 : decode cX4_passDay 109 = .ok (.goto (-71), 3) := by decide +kernel
theorem dX4_passDay_112 : decode cX4_passDay 112 = .ok (.aload_n 0, 1) := by decide +kernel
theorem dX4_passDay_113 : decode cX4_passDay 113 = .ok (.getfield 11, 3) := by decide +kernel
theorem dX4_passDay_116 : decode cX4_passDay 116 = .ok (.bipush 60, 2) := by decide +kernel
theorem dX4_passDay_118 : decode cX4_passDay 118 = .ok (.iconst 0, 1) := by decide +kernel
theorem dX4_passDay_119 : decode cX4_passDay 119 = .ok (.iastore, 1) := by decide +kernel
theorem dX4_passDay_120 : decode cX4_passDay 120 = .ok (.aload_n 0, 1) := by decide +kernel
theorem dX4_passDay_121 : decode cX4_passDay 121 = .ok (.getfield 11, 3) := by decide +kernel
theorem dX4_passDay_124 : decode cX4_passDay 124 = .ok (.bipush 61, 2) := by decide +kernel
theorem dX4_passDay_126 : decode cX4_passDay 126 = .ok (.iconst 0, 1) := by decide +kernel
theorem dX4_passDay_127 : decode cX4_passDay 127 = .ok (.iastore, 1) := by decide +kernel
theorem dX4_passDay_128 : decode cX4_passDay 128 = .ok (.aload_n 0, 1) := by decide +kernel
theorem dX4_passDay_129 : decode cX4_passDay 129 = .ok (.getfield 11, 3) := by decide +kernel
theorem dX4_passDay_132 : decode cX4_passDay 132 = .ok (.bipush 66, 2) := by decide +kernel
theorem dX4_passDay_134 : decode cX4_passDay 134 = .ok (.dup2, 1) := by decide +kernel
theorem dX4_passDay_135 : decode cX4_passDay 135 = .ok (.iaload, 1) := by decide +kernel
theorem dX4_passDay_136 : decode cX4_passDay 136 = .ok (.iconst 1, 1) := by decide +kernel
theorem dX4_passDay_137 : decode cX4_passDay 137 = .ok (.iadd, 1) := by decide +kernel
theorem dX4_passDay_138 : decode cX4_passDay 138 = .ok (.iastore, 1) := by decide +kernel
theorem dX4_passDay_139 : decode cX4_passDay 139 = .ok (.return_, 1) := by decide +kernel
theorem dX4_wishersAmong_0 : decode cX4_wishersAmong 0 = .ok (.iconst 0, 1) := by decide +kernel
theorem dX4_wishersAmong_1 : decode cX4_wishersAmong 1 = .ok (.istore_n 2, 1) := by decide +kernel
theorem dX4_wishersAmong_2 : decode cX4_wishersAmong 2 = .ok (.iconst 0, 1) := by decide +kernel
theorem dX4_wishersAmong_3 : decode cX4_wishersAmong 3 = .ok (.istore_n 3, 1) := by decide +kernel
theorem dX4_wishersAmong_4 : decode cX4_wishersAmong 4 = .ok (.iload_n 3, 1) := by decide +kernel
theorem dX4_wishersAmong_5 : decode cX4_wishersAmong 5 = .ok (.aload_n 0, 1) := by decide +kernel
theorem dX4_wishersAmong_6 : decode cX4_wishersAmong 6 = .ok (.getfield 18, 3) := by decide +kernel
theorem dX4_wishersAmong_9 : decode cX4_wishersAmong 9 = .ok (.getfield 28, 3) := by decide +kernel
theorem dX4_wishersAmong_12 : decode cX4_wishersAmong 12 = .ok (.if_icmp .ge 43, 3) := by decide +kernel
theorem dX4_wishersAmong_15 : decode cX4_wishersAmong 15 = .ok (.iload_n 1, 1) := by decide +kernel
theorem dX4_wishersAmong_16 : decode cX4_wishersAmong 16 = .ok (.iload_n 3, 1) := by decide +kernel
theorem dX4_wishersAmong_17 : decode cX4_wishersAmong 17 = .ok (.ishr, 1) := by decide +kernel
theorem dX4_wishersAmong_18 : decode cX4_wishersAmong 18 = .ok (.iconst 1, 1) := by decide +kernel
theorem dX4_wishersAmong_19 : decode cX4_wishersAmong 19 = .ok (.iand, 1) := by decide +kernel
theorem dX4_wishersAmong_20 : decode cX4_wishersAmong 20 = .ok (.iconst 1, 1) := by decide +kernel
theorem dX4_wishersAmong_21 : decode cX4_wishersAmong 21 = .ok (.if_icmp .ne 28, 3) := by decide +kernel
theorem dX4_wishersAmong_24 : decode cX4_wishersAmong 24 = .ok (.aload_n 0, 1) := by decide +kernel
theorem dX4_wishersAmong_25 : decode cX4_wishersAmong 25 = .ok (.getfield 18, 3) := by decide +kernel
theorem dX4_wishersAmong_28 : decode cX4_wishersAmong 28 = .ok (.getfield 109, 3) := by decide +kernel
theorem dX4_wishersAmong_31 : decode cX4_wishersAmong 31 = .ok (.iload_n 3, 1) := by decide +kernel
theorem dX4_wishersAmong_32 : decode cX4_wishersAmong 32 = .ok (.iaload, 1) := by decide +kernel
theorem dX4_wishersAmong_33 : decode cX4_wishersAmong 33 = .ok (.aload_n 0, 1) := by decide +kernel
theorem dX4_wishersAmong_34 : decode cX4_wishersAmong 34 = .ok (.getfield 11, 3) := by decide +kernel
theorem dX4_wishersAmong_37 : decode cX4_wishersAmong 37 = .ok (.bipush 66, 2) := by decide +kernel
theorem dX4_wishersAmong_39 : decode cX4_wishersAmong 39 = .ok (.iaload, 1) := by decide +kernel
theorem dX4_wishersAmong_40 : decode cX4_wishersAmong 40 = .ok (.bipush 7, 2) := by decide +kernel
theorem dX4_wishersAmong_42 : decode cX4_wishersAmong 42 = .ok (.irem, 1) := by decide +kernel
theorem dX4_wishersAmong_43 : decode cX4_wishersAmong 43 = .ok (.if_icmp .ne 6, 3) := by decide +kernel
theorem dX4_wishersAmong_46 : decode cX4_wishersAmong 46 = .ok (.iinc 2 1, 3) := by decide +kernel
theorem dX4_wishersAmong_49 : decode cX4_wishersAmong 49 = .ok (.iinc 3 1, 3) := by decide +kernel
theorem dX4_wishersAmong_52 : decode cX4_wishersAmong 52 = .ok (.goto (-48), 3) := by decide +kernel
theorem dX4_wishersAmong_55 : decode cX4_wishersAmong 55 = .ok (.iload_n 2, 1) := by decide +kernel
theorem dX4_wishersAmong_56 : decode cX4_wishersAmong 56 = .ok (.ireturn, 1) := by decide +kernel
theorem dX4_write_0 : decode cX4_write 0 = .ok (.aload_n 0, 1) := by decide +kernel
theorem dX4_write_1 : decode cX4_write 1 = .ok (.getfield 11, 3) := by decide +kernel
theorem dX4_write_4 : decode cX4_write 4 = .ok (.bipush 66, 2) := by decide +kernel
theorem dX4_write_6 : decode cX4_write 6 = .ok (.iaload, 1) := by decide +kernel
theorem dX4_write_7 : decode cX4_write 7 = .ok (.sipush 128, 3) := by decide +kernel
theorem dX4_write_10 : decode cX4_write 10 = .ok (.irem, 1) := by decide +kernel
theorem dX4_write_11 : decode cX4_write 11 = .ok (.iconst 3, 1) := by decide +kernel
theorem dX4_write_12 : decode cX4_write 12 = .ok (.imul, 1) := by decide +kernel
theorem dX4_write_13 : decode cX4_write 13 = .ok (.istore_n 2, 1) := by decide +kernel
theorem dX4_write_14 : decode cX4_write 14 = .ok (.aload_n 0, 1) := by decide +kernel
theorem dX4_write_15 : decode cX4_write 15 = .ok (.getfield 15, 3) := by decide +kernel
theorem dX4_write_18 : decode cX4_write 18 = .ok (.iload_n 2, 1) := by decide +kernel
theorem dX4_write_19 : decode cX4_write 19 = .ok (.iload_n 1, 1) := by decide +kernel
theorem dX4_write_20 : decode cX4_write 20 = .ok (.iastore, 1) := by decide +kernel
theorem dX4_write_21 : decode cX4_write 21 = .ok (.aload_n 0, 1) := by decide +kernel
theorem dX4_write_22 : decode cX4_write 22 = .ok (.getfield 15, 3) := by decide +kernel
theorem dX4_write_25 : decode cX4_write 25 = .ok (.iload_n 2, 1) := by decide +kernel
theorem dX4_write_26 : decode cX4_write 26 = .ok (.iconst 1, 1) := by decide +kernel
theorem dX4_write_27 : decode cX4_write 27 = .ok (.iadd, 1) := by decide +kernel
theorem dX4_write_28 : decode cX4_write 28 = .ok (.aload_n 0, 1) := by decide +kernel
theorem dX4_write_29 : decode cX4_write 29 = .ok (.getfield 11, 3) := by decide +kernel
theorem dX4_write_32 : decode cX4_write 32 = .ok (.bipush 61, 2) := by decide +kernel
theorem dX4_write_34 : decode cX4_write 34 = .ok (.iaload, 1) := by decide +kernel
theorem dX4_write_35 : decode cX4_write 35 = .ok (.iastore, 1) := by decide +kernel
theorem dX4_write_36 : decode cX4_write 36 = .ok (.aload_n 0, 1) := by decide +kernel
theorem dX4_write_37 : decode cX4_write 37 = .ok (.getfield 15, 3) := by decide +kernel
theorem dX4_write_40 : decode cX4_write 40 = .ok (.iload_n 2, 1) := by decide +kernel
theorem dX4_write_41 : decode cX4_write 41 = .ok (.iconst 2, 1) := by decide +kernel
theorem dX4_write_42 : decode cX4_write 42 = .ok (.iadd, 1) := by decide +kernel
theorem dX4_write_43 : decode cX4_write 43 = .ok (.aload_n 0, 1) := by decide +kernel
theorem dX4_write_44 : decode cX4_write 44 = .ok (.getfield 11, 3) := by decide +kernel
theorem dX4_write_47 : decode cX4_write 47 = .ok (.bipush 62, 2) := by decide +kernel
theorem dX4_write_49 : decode cX4_write 49 = .ok (.iaload, 1) := by decide +kernel
theorem dX4_write_50 : decode cX4_write 50 = .ok (.iastore, 1) := by decide +kernel
theorem dX4_write_51 : decode cX4_write 51 = .ok (.return_, 1) := by decide +kernel
theorem dX4_logLength_0 : decode cX4_logLength 0 = .ok (.bipush 60, 2) := by decide +kernel
theorem dX4_logLength_2 : decode cX4_logLength 2 = .ok (.aload_n 0, 1) := by decide +kernel
theorem dX4_logLength_3 : decode cX4_logLength 3 = .ok (.getfield 11, 3) := by decide +kernel
theorem dX4_logLength_6 : decode cX4_logLength 6 = .ok (.bipush 66, 2) := by decide +kernel
theorem dX4_logLength_8 : decode cX4_logLength 8 = .ok (.iaload, 1) := by decide +kernel
theorem dX4_logLength_9 : decode cX4_logLength 9 = .ok (.invokestatic 80, 3) := by decide +kernel
theorem dX4_logLength_12 : decode cX4_logLength 12 = .ok (.ireturn, 1) := by decide +kernel
theorem dX4_logged_0 : decode cX4_logged 0 = .ok (.aload_n 0, 1) := by decide +kernel
theorem dX4_logged_1 : decode cX4_logged 1 = .ok (.getfield 11, 3) := by decide +kernel
theorem dX4_logged_4 : decode cX4_logged 4 = .ok (.bipush 66, 2) := by decide +kernel
theorem dX4_logged_6 : decode cX4_logged 6 = .ok (.iaload, 1) := by decide +kernel
theorem dX4_logged_7 : decode cX4_logged 7 = .ok (.iconst 1, 1) := by decide +kernel
theorem dX4_logged_8 : decode cX4_logged 8 = .ok (.isub, 1) := by decide +kernel
theorem dX4_logged_9 : decode cX4_logged 9 = .ok (.iload_n 1, 1) := by decide +kernel
theorem dX4_logged_10 : decode cX4_logged 10 = .ok (.isub, 1) := by decide +kernel
theorem dX4_logged_11 : decode cX4_logged 11 = .ok (.istore_n 3, 1) := by decide +kernel
theorem dX4_logged_12 : decode cX4_logged 12 = .ok (.iload_n 3, 1) := by decide +kernel
theorem dX4_logged_13 : decode cX4_logged 13 = .ok (.ifCond .ge 7, 3) := by decide +kernel
theorem dX4_logged_16 : decode cX4_logged 16 = .ok (.iconst (-1), 1) := by decide +kernel
theorem dX4_logged_17 : decode cX4_logged 17 = .ok (.goto 17, 3) := by decide +kernel
theorem dX4_logged_20 : decode cX4_logged 20 = .ok (.aload_n 0, 1) := by decide +kernel
theorem dX4_logged_21 : decode cX4_logged 21 = .ok (.getfield 15, 3) := by decide +kernel
theorem dX4_logged_24 : decode cX4_logged 24 = .ok (.iload_n 3, 1) := by decide +kernel
theorem dX4_logged_25 : decode cX4_logged 25 = .ok (.sipush 128, 3) := by decide +kernel
theorem dX4_logged_28 : decode cX4_logged 28 = .ok (.irem, 1) := by decide +kernel
theorem dX4_logged_29 : decode cX4_logged 29 = .ok (.iconst 3, 1) := by decide +kernel
theorem dX4_logged_30 : decode cX4_logged 30 = .ok (.imul, 1) := by decide +kernel
theorem dX4_logged_31 : decode cX4_logged 31 = .ok (.iload_n 2, 1) := by decide +kernel
theorem dX4_logged_32 : decode cX4_logged 32 = .ok (.iadd, 1) := by decide +kernel
theorem dX4_logged_33 : decode cX4_logged 33 = .ok (.iaload, 1) := by decide +kernel
theorem dX4_logged_34 : decode cX4_logged 34 = .ok (.ireturn, 1) := by decide +kernel
theorem dX5_init_0 : decode cX5_init 0 = .ok (.aload_n 0, 1) := by decide +kernel
theorem dX5_init_1 : decode cX5_init 1 = .ok (.invokespecial 3, 3) := by decide +kernel
theorem dX5_init_4 : decode cX5_init 4 = .ok (.aload_n 0, 1) := by decide +kernel
theorem dX5_init_5 : decode cX5_init 5 = .ok (.bipush 40, 2) := by decide +kernel
theorem dX5_init_7 : decode cX5_init 7 = .ok (.bipush 67, 2) := by decide +kernel
theorem dX5_init_9 : decode cX5_init 9 = .ok (.multianewarray 11 2, 4) := by decide +kernel
theorem dX5_init_13 : decode cX5_init 13 = .ok (.putfield 13, 3) := by decide +kernel
theorem dX5_init_16 : decode cX5_init 16 = .ok (.return_, 1) := by decide +kernel
theorem dX5_keep_0 : decode cX5_keep 0 = .ok (.aload_n 1, 1) := by decide +kernel
theorem dX5_keep_1 : decode cX5_keep 1 = .ok (.getfield 18, 3) := by decide +kernel
theorem dX5_keep_4 : decode cX5_keep 4 = .ok (.iconst 0, 1) := by decide +kernel
theorem dX5_keep_5 : decode cX5_keep 5 = .ok (.aload_n 0, 1) := by decide +kernel
theorem dX5_keep_6 : decode cX5_keep 6 = .ok (.getfield 13, 3) := by decide +kernel
theorem dX5_keep_9 : decode cX5_keep 9 = .ok (.aload_n 0, 1) := by decide +kernel
theorem dX5_keep_10 : decode cX5_keep 10 = .ok (.getfield 22, 3) := by decide +kernel
theorem dX5_keep_13 : decode cX5_keep 13 = .ok (.aaload, 1) := by decide +kernel
theorem dX5_keep_14 : decode cX5_keep 14 = .ok (.iconst 0, 1) := by decide +kernel
theorem dX5_keep_15 : decode cX5_keep 15 = .ok (.bipush 67, 2) := by decide +kernel
theorem dX5_keep_17 : decode cX5_keep 17 = .ok (.invokestatic 26, 3) := by decide +kernel
theorem dX5_keep_20 : decode cX5_keep 20 = .ok (.aload_n 0, 1) := by decide +kernel
theorem dX5_keep_21 : decode cX5_keep 21 = .ok (.aload_n 0, 1) := by decide +kernel
theorem dX5_keep_22 : decode cX5_keep 22 = .ok (.getfield 22, 3) := by decide +kernel
theorem dX5_keep_25 : decode cX5_keep 25 = .ok (.iconst 1, 1) := by decide +kernel
theorem dX5_keep_26 : decode cX5_keep 26 = .ok (.iadd, 1) := by decide +kernel
theorem dX5_keep_27 : decode cX5_keep 27 = .ok (.bipush 40, 2) := by decide +kernel
theorem dX5_keep_29 : decode cX5_keep 29 = .ok (.irem, 1) := by decide +kernel
theorem dX5_keep_30 : decode cX5_keep 30 = .ok (.putfield 22, 3) := by decide +kernel
theorem dX5_keep_33 : decode cX5_keep 33 = .ok (.aload_n 0, 1) := by decide +kernel
theorem dX5_keep_34 : decode cX5_keep 34 = .ok (.bipush 40, 2) := by decide +kernel
theorem dX5_keep_36 : decode cX5_keep 36 = .ok (.aload_n 0, 1) := by decide +kernel
theorem dX5_keep_37 : decode cX5_keep 37 = .ok (.getfield 32, 3) := by decide +kernel
theorem dX5_keep_40 : decode cX5_keep 40 = .ok (.iconst 1, 1) := by decide +kernel
theorem dX5_keep_41 : decode cX5_keep 41 = .ok (.iadd, 1) := by decide +kernel
theorem dX5_keep_42 : decode cX5_keep 42 = .ok (.invokestatic 35, 3) := by decide +kernel
theorem dX5_keep_45 : decode cX5_keep 45 = .ok (.putfield 32, 3) := by decide +kernel
theorem dX5_keep_48 : decode cX5_keep 48 = .ok (.return_, 1) := by decide +kernel
theorem dX5_takeBack_0 : decode cX5_takeBack 0 = .ok (.aload_n 0, 1) := by decide +kernel
theorem dX5_takeBack_1 : decode cX5_takeBack 1 = .ok (.getfield 32, 3) := by decide +kernel
theorem dX5_takeBack_4 : decode cX5_takeBack 4 = .ok (.ifCond .ne 5, 3) := by decide +kernel
theorem dX5_takeBack_7 : decode cX5_takeBack 7 = .ok (.iconst (-1), 1) := by decide +kernel
theorem dX5_takeBack_8 : decode cX5_takeBack 8 = .ok (.ireturn, 1) := by decide +kernel
theorem dX5_takeBack_9 : decode cX5_takeBack 9 = .ok (.aload_n 0, 1) := by decide +kernel
theorem dX5_takeBack_10 : decode cX5_takeBack 10 = .ok (.aload_n 0, 1) := by decide +kernel
theorem dX5_takeBack_11 : decode cX5_takeBack 11 = .ok (.getfield 22, 3) := by decide +kernel
theorem dX5_takeBack_14 : decode cX5_takeBack 14 = .ok (.bipush 40, 2) := by decide +kernel
theorem dX5_takeBack_16 : decode cX5_takeBack 16 = .ok (.iadd, 1) := by decide +kernel
theorem dX5_takeBack_17 : decode cX5_takeBack 17 = .ok (.iconst 1, 1) := by decide +kernel
theorem dX5_takeBack_18 : decode cX5_takeBack 18 = .ok (.isub, 1) := by decide +kernel
theorem dX5_takeBack_19 : decode cX5_takeBack 19 = .ok (.bipush 40, 2) := by decide +kernel
theorem dX5_takeBack_21 : decode cX5_takeBack 21 = .ok (.irem, 1) := by decide +kernel
theorem dX5_takeBack_22 : decode cX5_takeBack 22 = .ok (.putfield 22, 3) := by decide +kernel
theorem dX5_takeBack_25 : decode cX5_takeBack 25 = .ok (.aload_n 0, 1) := by decide +kernel
theorem dX5_takeBack_26 : decode cX5_takeBack 26 = .ok (.getfield 13, 3) := by decide +kernel
theorem dX5_takeBack_29 : decode cX5_takeBack 29 = .ok (.aload_n 0, 1) := by decide +kernel
theorem dX5_takeBack_30 : decode cX5_takeBack 30 = .ok (.getfield 22, 3) := by decide +kernel
theorem dX5_takeBack_33 : decode cX5_takeBack 33 = .ok (.aaload, 1) := by decide +kernel
theorem dX5_takeBack_34 : decode cX5_takeBack 34 = .ok (.iconst 0, 1) := by decide +kernel
theorem dX5_takeBack_35 : decode cX5_takeBack 35 = .ok (.aload_n 1, 1) := by decide +kernel
theorem dX5_takeBack_36 : decode cX5_takeBack 36 = .ok (.getfield 18, 3) := by decide +kernel
theorem dX5_takeBack_39 : decode cX5_takeBack 39 = .ok (.iconst 0, 1) := by decide +kernel
theorem dX5_takeBack_40 : decode cX5_takeBack 40 = .ok (.bipush 67, 2) := by decide +kernel
theorem dX5_takeBack_42 : decode cX5_takeBack 42 = .ok (.invokestatic 26, 3) := by decide +kernel
theorem dX5_takeBack_45 : decode cX5_takeBack 45 = .ok (.aload_n 0, 1) := by decide +kernel
theorem dX5_takeBack_46 : decode cX5_takeBack 46 = .ok (.dup, 1) := by decide +kernel
theorem dX5_takeBack_47 : decode cX5_takeBack 47 = .ok (.getfield 32, 3) := by decide +kernel
theorem dX5_takeBack_50 : decode cX5_takeBack 50 = .ok (.iconst 1, 1) := by decide +kernel
theorem dX5_takeBack_51 : decode cX5_takeBack 51 = .ok (.isub, 1) := by decide +kernel
theorem dX5_takeBack_52 : decode cX5_takeBack 52 = .ok (.putfield 32, 3) := by decide +kernel
theorem dX5_takeBack_55 : decode cX5_takeBack 55 = .ok (.aload_n 0, 1) := by decide +kernel
theorem dX5_takeBack_56 : decode cX5_takeBack 56 = .ok (.getfield 32, 3) := by decide +kernel
theorem dX5_takeBack_59 : decode cX5_takeBack 59 = .ok (.ireturn, 1) := by decide +kernel
theorem dX5_forget_0 : decode cX5_forget 0 = .ok (.aload_n 0, 1) := by decide +kernel
theorem dX5_forget_1 : decode cX5_forget 1 = .ok (.iconst 0, 1) := by decide +kernel
theorem dX5_forget_2 : decode cX5_forget 2 = .ok (.putfield 32, 3) := by decide +kernel
theorem dX5_forget_5 : decode cX5_forget 5 = .ok (.return_, 1) := by decide +kernel
theorem dX6_init_0 : decode cX6_init 0 = .ok (.aload_n 0, 1) := by decide +kernel
theorem dX6_init_1 : decode cX6_init 1 = .ok (.invokespecial 5, 3) := by decide +kernel
theorem dX6_init_4 : decode cX6_init 4 = .ok (.aload_n 0, 1) := by decide +kernel
theorem dX6_init_5 : decode cX6_init 5 = .ok (.bipush 10, 2) := by decide +kernel
theorem dX6_init_7 : decode cX6_init 7 = .ok (.newarray .int, 2) := by decide +kernel
theorem dX6_init_9 : decode cX6_init 9 = .ok (.putfield 11, 3) := by decide +kernel
theorem dX6_init_12 : decode cX6_init 12 = .ok (.aload_n 0, 1) := by decide +kernel
theorem dX6_init_13 : decode cX6_init 13 = .ok (.bipush 10, 2) := by decide +kernel
theorem dX6_init_15 : decode cX6_init 15 = .ok (.newarray .int, 2) := by decide +kernel
theorem dX6_init_17 : decode cX6_init 17 = .ok (.putfield 15, 3) := by decide +kernel
theorem dX6_init_20 : decode cX6_init 20 = .ok (.aload_n 0, 1) := by decide +kernel
theorem dX6_init_21 : decode cX6_init 21 = .ok (.bipush 10, 2) := by decide +kernel
theorem dX6_init_23 : decode cX6_init 23 = .ok (.newarray .boolean, 2) := by decide +kernel
theorem dX6_init_25 : decode cX6_init 25 = .ok (.putfield 18, 3) := by decide +kernel
theorem dX6_init_28 : decode cX6_init 28 = .ok (.aload_n 0, 1) := by decide +kernel
theorem dX6_init_29 : decode cX6_init 29 = .ok (.sipush 657, 3) := by decide +kernel
theorem dX6_init_32 : decode cX6_init 32 = .ok (.newarray .int, 2) := by decide +kernel
theorem dX6_init_34 : decode cX6_init 34 = .ok (.putfield 22, 3) := by decide +kernel
theorem dX6_init_37 : decode cX6_init 37 = .ok (.aload_n 0, 1) := by decide +kernel
theorem dX6_init_38 : decode cX6_init 38 = .ok (.sipush 256, 3) := by decide +kernel
theorem dX6_init_41 : decode cX6_init 41 = .ok (.newarray .int, 2) := by decide +kernel
theorem dX6_init_43 : decode cX6_init 43 = .ok (.putfield 25, 3) := by decide +kernel
theorem dX6_init_46 : decode cX6_init 46 = .ok (.aload_n 0, 1) := by decide +kernel
theorem dX6_init_47 : decode cX6_init 47 = .ok (.aload_n 1, 1) := by decide +kernel
theorem dX6_init_48 : decode cX6_init 48 = .ok (.putfield 28, 3) := by decide +kernel
theorem dX6_init_51 : decode cX6_init 51 = .ok (.aload_n 0, 1) := by decide +kernel
theorem dX6_init_52 : decode cX6_init 52 = .ok (.aload_n 2, 1) := by decide +kernel
theorem dX6_init_53 : decode cX6_init 53 = .ok (.putfield 32, 3) := by decide +kernel
theorem dX6_init_56 : decode cX6_init 56 = .ok (.return_, 1) := by decide +kernel
theorem dX6_forget_0 : decode cX6_forget 0 = .ok (.aload_n 0, 1) := by decide +kernel
theorem dX6_forget_1 : decode cX6_forget 1 = .ok (.iconst 0, 1) := by decide +kernel
theorem dX6_forget_2 : decode cX6_forget 2 = .ok (.putfield 36, 3) := by decide +kernel
theorem dX6_forget_5 : decode cX6_forget 5 = .ok (.return_, 1) := by decide +kernel
theorem dX6_add_0 : decode cX6_add 0 = .ok (.aload_n 0, 1) := by decide +kernel
theorem dX6_add_1 : decode cX6_add 1 = .ok (.getfield 36, 3) := by decide +kernel
theorem dX6_add_4 : decode cX6_add 4 = .ok (.bipush 10, 2) := by decide +kernel
theorem dX6_add_6 : decode cX6_add 6 = .ok (.if_icmp .ne 5, 3) := by decide +kernel
theorem dX6_add_9 : decode cX6_add 9 = .ok (.iconst (-1), 1) := by decide +kernel
theorem dX6_add_10 : decode cX6_add 10 = .ok (.ireturn, 1) := by decide +kernel
theorem dX6_add_11 : decode cX6_add 11 = .ok (.aload_n 0, 1) := by decide +kernel
theorem dX6_add_12 : decode cX6_add 12 = .ok (.getfield 11, 3) := by decide +kernel
theorem dX6_add_15 : decode cX6_add 15 = .ok (.aload_n 0, 1) := by decide +kernel
theorem dX6_add_16 : decode cX6_add 16 = .ok (.getfield 36, 3) := by decide +kernel
theorem dX6_add_19 : decode cX6_add 19 = .ok (.iload_n 1, 1) := by decide +kernel
theorem dX6_add_20 : decode cX6_add 20 = .ok (.iastore, 1) := by decide +kernel
theorem dX6_add_21 : decode cX6_add 21 = .ok (.aload_n 0, 1) := by decide +kernel
theorem dX6_add_22 : decode cX6_add 22 = .ok (.getfield 15, 3) := by decide +kernel
theorem dX6_add_25 : decode cX6_add 25 = .ok (.aload_n 0, 1) := by decide +kernel
theorem dX6_add_26 : decode cX6_add 26 = .ok (.getfield 36, 3) := by decide +kernel
theorem dX6_add_29 : decode cX6_add 29 = .ok (.iload_n 2, 1) := by decide +kernel
theorem dX6_add_30 : decode cX6_add 30 = .ok (.iastore, 1) := by decide +kernel
theorem dX6_add_31 : decode cX6_add 31 = .ok (.aload_n 0, 1) := by decide +kernel
theorem dX6_add_32 : decode cX6_add 32 = .ok (.getfield 18, 3) := by decide +kernel
theorem dX6_add_35 : decode cX6_add 35 = .ok (.aload_n 0, 1) := by decide +kernel
theorem dX6_add_36 : decode cX6_add 36 = .ok (.getfield 36, 3) := by decide +kernel
theorem dX6_add_39 : decode cX6_add 39 = .ok (.iload_n 3, 1) := by decide +kernel
theorem dX6_add_40 : decode cX6_add 40 = .ok (.bastore, 1) := by decide +kernel
theorem dX6_add_41 : decode cX6_add 41 = .ok (.aload_n 0, 1) := by decide +kernel
theorem dX6_add_42 : decode cX6_add 42 = .ok (.dup, 1) := by decide +kernel
theorem dX6_add_43 : decode cX6_add 43 = .ok (.getfield 36, 3) := by decide +kernel
theorem dX6_add_46 : decode cX6_add 46 = .ok (.iconst 1, 1) := by decide +kernel
theorem dX6_add_47 : decode cX6_add 47 = .ok (.iadd, 1) := by decide +kernel
theorem dX6_add_48 : decode cX6_add 48 = .ok (.putfield 36, 3) := by decide +kernel
theorem dX6_add_51 : decode cX6_add 51 = .ok (.aload_n 0, 1) := by decide +kernel
theorem dX6_add_52 : decode cX6_add 52 = .ok (.getfield 36, 3) := by decide +kernel
theorem dX6_add_55 : decode cX6_add 55 = .ok (.ireturn, 1) := by decide +kernel
theorem dX6_fits_0 : decode cX6_fits 0 = .ok (.iconst 0, 1) := by decide +kernel
theorem dX6_fits_1 : decode cX6_fits 1 = .ok (.istore 4, 2) := by decide +kernel
theorem dX6_fits_3 : decode cX6_fits 3 = .ok (.iload 4, 2) := by decide +kernel
theorem dX6_fits_5 : decode cX6_fits 5 = .ok (.aload_n 0, 1) := by decide +kernel
theorem dX6_fits_6 : decode cX6_fits 6 = .ok (.getfield 36, 3) := by decide +kernel
theorem dX6_fits_9 : decode cX6_fits 9 = .ok (.if_icmp .ge 59, 3) := by decide +kernel
theorem dX6_fits_12 : decode cX6_fits 12 = .ok (.aload_n 0, 1) := by decide +kernel
theorem dX6_fits_13 : decode cX6_fits 13 = .ok (.getfield 11, 3) := by decide +kernel
theorem dX6_fits_16 : decode cX6_fits 16 = .ok (.iload 4, 2) := by decide +kernel
theorem dX6_fits_18 : decode cX6_fits 18 = .ok (.iaload, 1) := by decide +kernel
theorem dX6_fits_19 : decode cX6_fits 19 = .ok (.iload_n 1, 1) := by decide +kernel
theorem dX6_fits_20 : decode cX6_fits 20 = .ok (.if_icmp .ne 42, 3) := by decide +kernel
theorem dX6_fits_23 : decode cX6_fits 23 = .ok (.aload_n 0, 1) := by decide +kernel
theorem dX6_fits_24 : decode cX6_fits 24 = .ok (.getfield 32, 3) := by decide +kernel
theorem dX6_fits_27 : decode cX6_fits 27 = .ok (.iload_n 1, 1) := by decide +kernel
theorem dX6_fits_28 : decode cX6_fits 28 = .ok (.iload_n 2, 1) := by decide +kernel
theorem dX6_fits_29 : decode cX6_fits 29 = .ok (.iload_n 3, 1) := by decide +kernel
theorem dX6_fits_30 : decode cX6_fits 30 = .ok (.aload_n 0, 1) := by decide +kernel
theorem dX6_fits_31 : decode cX6_fits 31 = .ok (.getfield 15, 3) := by decide +kernel
theorem dX6_fits_34 : decode cX6_fits 34 = .ok (.iload 4, 2) := by decide +kernel
theorem dX6_fits_36 : decode cX6_fits 36 = .ok (.iaload, 1) := by decide +kernel
theorem dX6_fits_37 : decode cX6_fits 37 = .ok (.iconst 0, 1) := by decide +kernel
theorem dX6_fits_38 : decode cX6_fits 38 = .ok (.iconst 0, 1) := by decide +kernel
theorem dX6_fits_39 : decode cX6_fits 39 = .ok (.invokevirtual 40, 3) := by decide +kernel
theorem dX6_fits_42 : decode cX6_fits 42 = .ok (.ifCond .le 7, 3) := by decide +kernel
theorem dX6_fits_45 : decode cX6_fits 45 = .ok (.iconst 1, 1) := by decide +kernel
theorem dX6_fits_46 : decode cX6_fits 46 = .ok (.goto 4, 3) := by decide +kernel
theorem dX6_fits_49 : decode cX6_fits 49 = .ok (.iconst 0, 1) := by decide +kernel
theorem dX6_fits_50 : decode cX6_fits 50 = .ok (.aload_n 0, 1) := by decide +kernel
theorem dX6_fits_51 : decode cX6_fits 51 = .ok (.getfield 18, 3) := by decide +kernel
theorem dX6_fits_54 : decode cX6_fits 54 = .ok (.iload 4, 2) := by decide +kernel
theorem dX6_fits_56 : decode cX6_fits 56 = .ok (.baload, 1) := by decide +kernel
theorem dX6_fits_57 : decode cX6_fits 57 = .ok (.if_icmp .eq 5, 3) := by decide +kernel
theorem dX6_fits_60 : decode cX6_fits 60 = .ok (.iconst 0, 1) := by decide +kernel
theorem dX6_fits_61 : decode cX6_fits 61 = .ok (.ireturn, 1) := by decide +kernel
theorem dX6_fits_62 : decode cX6_fits 62 = .ok (.iinc 4 1, 3) := by decide +kernel
theorem dX6_fits_65 : decode cX6_fits 65 = .ok (.goto (-62), 3) := by decide +kernel
theorem dX6_fits_68 : decode cX6_fits 68 = .ok (.iconst 1, 1) := by decide +kernel
theorem dX6_fits_69 : decode cX6_fits 69 = .ok (.ireturn, 1) := by decide +kernel
theorem dX6_fittingSet_0 : decode cX6_fittingSet 0 = .ok (.iconst 0, 1) := by decide +kernel
theorem dX6_fittingSet_1 : decode cX6_fittingSet 1 = .ok (.istore_n 3, 1) := by decide +kernel
theorem dX6_fittingSet_2 : decode cX6_fittingSet 2 = .ok (.iconst 1, 1) := by decide +kernel
theorem dX6_fittingSet_3 : decode cX6_fittingSet 3 = .ok (.aload_n 0, 1) := by decide +kernel
theorem dX6_fittingSet_4 : decode cX6_fittingSet 4 = .ok (.getfield 28, 3) := by decide +kernel
theorem dX6_fittingSet_7 : decode cX6_fittingSet 7 = .ok (.getfield 46, 3) := by decide +kernel
theorem dX6_fittingSet_10 : decode cX6_fittingSet 10 = .ok (.ishl, 1) := by decide +kernel
theorem dX6_fittingSet_11 : decode cX6_fittingSet 11 = .ok (.istore 4, 2) := by decide +kernel
theorem dX6_fittingSet_13 : decode cX6_fittingSet 13 = .ok (.iconst 0, 1) := by decide +kernel
theorem dX6_fittingSet_14 : decode cX6_fittingSet 14 = .ok (.istore 5, 2) := by decide +kernel
theorem dX6_fittingSet_16 : decode cX6_fittingSet 16 = .ok (.iload 5, 2) := by decide +kernel
theorem dX6_fittingSet_18 : decode cX6_fittingSet 18 = .ok (.iload 4, 2) := by decide +kernel
theorem dX6_fittingSet_20 : decode cX6_fittingSet 20 = .ok (.if_icmp .ge 42, 3) := by decide +kernel
theorem dX6_fittingSet_23 : decode cX6_fittingSet 23 = .ok (.aload_n 0, 1) := by decide +kernel
theorem dX6_fittingSet_24 : decode cX6_fittingSet 24 = .ok (.iload_n 1, 1) := by decide +kernel
theorem dX6_fittingSet_25 : decode cX6_fittingSet 25 = .ok (.aload_n 0, 1) := by decide +kernel
theorem dX6_fittingSet_26 : decode cX6_fittingSet 26 = .ok (.getfield 28, 3) := by decide +kernel
theorem dX6_fittingSet_29 : decode cX6_fittingSet 29 = .ok (.iload 5, 2) := by decide +kernel
theorem dX6_fittingSet_31 : decode cX6_fittingSet 31 = .ok (.invokevirtual 51, 3) := by decide +kernel
theorem dX6_fittingSet_34 : decode cX6_fittingSet 34 = .ok (.iload 5, 2) := by decide +kernel
theorem dX6_fittingSet_36 : decode cX6_fittingSet 36 = .ok (.invokestatic 55, 3) := by decide +kernel
theorem dX6_fittingSet_39 : decode cX6_fittingSet 39 = .ok (.invokevirtual 60, 3) := by decide +kernel
theorem dX6_fittingSet_42 : decode cX6_fittingSet 42 = .ok (.ifCond .eq 14, 3) := by decide +kernel
theorem dX6_fittingSet_45 : decode cX6_fittingSet 45 = .ok (.iload_n 3, 1) := by decide +kernel
theorem dX6_fittingSet_46 : decode cX6_fittingSet 46 = .ok (.iload_n 2, 1) := by decide +kernel
theorem dX6_fittingSet_47 : decode cX6_fittingSet 47 = .ok (.if_icmp .ne 6, 3) := by decide +kernel
theorem dX6_fittingSet_50 : decode cX6_fittingSet 50 = .ok (.iload 5, 2) := by decide +kernel
theorem dX6_fittingSet_52 : decode cX6_fittingSet 52 = .ok (.ireturn, 1) := by decide +kernel
theorem dX6_fittingSet_53 : decode cX6_fittingSet 53 = .ok (.iinc 3 1, 3) := by decide +kernel
theorem dX6_fittingSet_56 : decode cX6_fittingSet 56 = .ok (.iinc 5 1, 3) := by decide +kernel
theorem dX6_fittingSet_59 : decode cX6_fittingSet 59 = .ok (.goto (-43), 3) := by decide +kernel
theorem dX6_fittingSet_62 : decode cX6_fittingSet 62 = .ok (.iload_n 2, 1) := by decide +kernel
theorem dX6_fittingSet_63 : decode cX6_fittingSet 63 = .ok (.iconst (-1), 1) := by decide +kernel
theorem dX6_fittingSet_64 : decode cX6_fittingSet 64 = .ok (.if_icmp .ne 7, 3) := by decide +kernel
theorem dX6_fittingSet_67 : decode cX6_fittingSet 67 = .ok (.iload_n 3, 1) := by decide +kernel
theorem dX6_fittingSet_68 : decode cX6_fittingSet 68 = .ok (.goto 4, 3) := by decide +kernel
theorem dX6_fittingSet_71 : decode cX6_fittingSet 71 = .ok (.iconst (-1), 1) := by decide +kernel
theorem dX6_fittingSet_72 : decode cX6_fittingSet 72 = .ok (.ireturn, 1) := by decide +kernel
theorem dX6_bestBeard_0 : decode cX6_bestBeard 0 = .ok (.aload_n 0, 1) := by decide +kernel
theorem dX6_bestBeard_1 : decode cX6_bestBeard 1 = .ok (.iload_n 1, 1) := by decide +kernel
theorem dX6_bestBeard_2 : decode cX6_bestBeard 2 = .ok (.invokevirtual 64, 3) := by decide +kernel
theorem dX6_bestBeard_5 : decode cX6_bestBeard 5 = .ok (.istore_n 2, 1) := by decide +kernel
theorem dX6_bestBeard_6 : decode cX6_bestBeard 6 = .ok (.iload_n 2, 1) := by decide +kernel
theorem dX6_bestBeard_7 : decode cX6_bestBeard 7 = .ok (.ifCond .ne 5, 3) := by decide +kernel
theorem dX6_bestBeard_10 : decode cX6_bestBeard 10 = .ok (.iconst (-1), 1) := by decide +kernel
theorem dX6_bestBeard_11 : decode cX6_bestBeard 11 = .ok (.ireturn, 1) := by decide +kernel
theorem dX6_bestBeard_12 : decode cX6_bestBeard 12 = .ok (.iconst 0, 1) := by decide +kernel
theorem dX6_bestBeard_13 : decode cX6_bestBeard 13 = .ok (.istore_n 3, 1) := by decide +kernel
theorem dX6_bestBeard_14 : decode cX6_bestBeard 14 = .ok (.iload_n 2, 1) := by decide +kernel
theorem dX6_bestBeard_15 : decode cX6_bestBeard 15 = .ok (.iconst 1, 1) := by decide +kernel
theorem dX6_bestBeard_16 : decode cX6_bestBeard 16 = .ok (.iadd, 1) := by decide +kernel
theorem dX6_bestBeard_17 : decode cX6_bestBeard 17 = .ok (.istore 4, 2) := by decide +kernel
theorem dX6_bestBeard_19 : decode cX6_bestBeard 19 = .ok (.aload_n 0, 1) := by decide +kernel
theorem dX6_bestBeard_20 : decode cX6_bestBeard 20 = .ok (.getfield 32, 3) := by decide +kernel
theorem dX6_bestBeard_23 : decode cX6_bestBeard 23 = .ok (.invokevirtual 67, 3) := by decide +kernel
theorem dX6_bestBeard_26 : decode cX6_bestBeard 26 = .ok (.ifCond .eq 8, 3) := by decide +kernel
theorem dX6_bestBeard_29 : decode cX6_bestBeard 29 = .ok (.bipush 99, 2) := by decide +kernel
theorem dX6_bestBeard_31 : decode cX6_bestBeard 31 = .ok (.goto 4, 3) := by decide +kernel
theorem dX6_bestBeard_34 : decode cX6_bestBeard 34 = .ok (.iconst 0, 1) := by decide +kernel
theorem dX6_bestBeard_35 : decode cX6_bestBeard 35 = .ok (.istore 5, 2) := by decide +kernel
theorem dX6_bestBeard_37 : decode cX6_bestBeard 37 = .ok (.iconst 0, 1) := by decide +kernel
theorem dX6_bestBeard_38 : decode cX6_bestBeard 38 = .ok (.istore 6, 2) := by decide +kernel
theorem dX6_bestBeard_40 : decode cX6_bestBeard 40 = .ok (.iload 6, 2) := by decide +kernel
theorem dX6_bestBeard_42 : decode cX6_bestBeard 42 = .ok (.iload 5, 2) := by decide +kernel
theorem dX6_bestBeard_44 : decode cX6_bestBeard 44 = .ok (.if_icmp .gt 47, 3) := by decide +kernel
theorem dX6_bestBeard_47 : decode cX6_bestBeard 47 = .ok (.iconst 2, 1) := by decide +kernel
theorem dX6_bestBeard_48 : decode cX6_bestBeard 48 = .ok (.aload_n 0, 1) := by decide +kernel
theorem dX6_bestBeard_49 : decode cX6_bestBeard 49 = .ok (.iload_n 1, 1) := by decide +kernel
theorem dX6_bestBeard_50 : decode cX6_bestBeard 50 = .ok (.iload 6, 2) := by decide +kernel
theorem dX6_bestBeard_52 : decode cX6_bestBeard 52 = .ok (.invokevirtual 71, 3) := by decide +kernel
theorem dX6_bestBeard_55 : decode cX6_bestBeard 55 = .ok (.imul, 1) := by decide +kernel
theorem dX6_bestBeard_56 : decode cX6_bestBeard 56 = .ok (.iload_n 2, 1) := by decide +kernel
theorem dX6_bestBeard_57 : decode cX6_bestBeard 57 = .ok (.isub, 1) := by decide +kernel
theorem dX6_bestBeard_58 : decode cX6_bestBeard 58 = .ok (.invokestatic 75, 3) := by decide +kernel
theorem dX6_bestBeard_61 : decode cX6_bestBeard 61 = .ok (.istore 7, 2) := by decide +kernel
theorem dX6_bestBeard_63 : decode cX6_bestBeard 63 = .ok (.iload 7, 2) := by decide +kernel
theorem dX6_bestBeard_65 : decode cX6_bestBeard 65 = .ok (.iload 4, 2) := by decide +kernel
theorem dX6_bestBeard_67 : decode cX6_bestBeard 67 = .ok (.if_icmp .ge 10, 3) := by decide +kernel
theorem dX6_bestBeard_70 : decode cX6_bestBeard 70 = .ok (.iload 6, 2) := by decide +kernel
theorem dX6_bestBeard_72 : decode cX6_bestBeard 72 = .ok (.istore_n 3, 1) := by decide +kernel
theorem dX6_bestBeard_73 : decode cX6_bestBeard 73 = .ok (.iload 7, 2) := by decide +kernel
theorem dX6_bestBeard_75 : decode cX6_bestBeard 75 = .ok (.istore 4, 2) := by decide +kernel
theorem dX6_bestBeard_77 : decode cX6_bestBeard 77 = .ok (.iload 7, 2) := by decide +kernel
theorem dX6_bestBeard_79 : decode cX6_bestBeard 79 = .ok (.iconst 2, 1) := by decide +kernel
theorem dX6_bestBeard_80 : decode cX6_bestBeard 80 = .ok (.if_icmp .ge 5, 3) := by decide +kernel
theorem dX6_bestBeard_83 : decode cX6_bestBeard 83 = .ok (.iload_n 3, 1) := by decide +kernel
theorem dX6_bestBeard_84 : decode cX6_bestBeard 84 = .ok (.ireturn, 1) := by decide +kernel
theorem dX6_bestBeard_85 : decode cX6_bestBeard 85 = .ok (.iinc 6 1, 3) := by decide +kernel
theorem dX6_bestBeard_88 : decode cX6_bestBeard 88 = .ok (.goto (-48), 3) := by decide +kernel
theorem dX6_bestBeard_91 : decode cX6_bestBeard 91 = .ok (.iload_n 3, 1) := by decide +kernel
theorem dX6_bestBeard_92 : decode cX6_bestBeard 92 = .ok (.ireturn, 1) := by decide +kernel
theorem dX6_gatherCases_0 : decode cX6_gatherCases 0 = .ok (.iconst 1, 1) := by decide +kernel
theorem dX6_gatherCases_1 : decode cX6_gatherCases 1 = .ok (.aload_n 0, 1) := by decide +kernel
theorem dX6_gatherCases_2 : decode cX6_gatherCases 2 = .ok (.getfield 28, 3) := by decide +kernel
theorem dX6_gatherCases_5 : decode cX6_gatherCases 5 = .ok (.getfield 46, 3) := by decide +kernel
theorem dX6_gatherCases_8 : decode cX6_gatherCases 8 = .ok (.ishl, 1) := by decide +kernel
theorem dX6_gatherCases_9 : decode cX6_gatherCases 9 = .ok (.istore_n 2, 1) := by decide +kernel
theorem dX6_gatherCases_10 : decode cX6_gatherCases 10 = .ok (.aload_n 0, 1) := by decide +kernel
theorem dX6_gatherCases_11 : decode cX6_gatherCases 11 = .ok (.getfield 28, 3) := by decide +kernel
theorem dX6_gatherCases_14 : decode cX6_gatherCases 14 = .ok (.iload_n 2, 1) := by decide +kernel
theorem dX6_gatherCases_15 : decode cX6_gatherCases 15 = .ok (.iconst 1, 1) := by decide +kernel
theorem dX6_gatherCases_16 : decode cX6_gatherCases 16 = .ok (.isub, 1) := by decide +kernel
theorem dX6_gatherCases_17 : decode cX6_gatherCases 17 = .ok (.invokevirtual 51, 3) := by decide +kernel
theorem dX6_gatherCases_20 : decode cX6_gatherCases 20 = .ok (.iconst 1, 1) := by decide +kernel
theorem dX6_gatherCases_21 : decode cX6_gatherCases 21 = .ok (.iadd, 1) := by decide +kernel
theorem dX6_gatherCases_22 : decode cX6_gatherCases 22 = .ok (.bipush 9, 2) := by decide +kernel
theorem dX6_gatherCases_24 : decode cX6_gatherCases 24 = .ok (.imul, 1) := by decide +kernel
theorem dX6_gatherCases_25 : decode cX6_gatherCases 25 = .ok (.istore_n 3, 1) := by decide +kernel
theorem dX6_gatherCases_26 : decode cX6_gatherCases 26 = .ok (.aload_n 0, 1) := by decide +kernel
theorem dX6_gatherCases_27 : decode cX6_gatherCases 27 = .ok (.getfield 22, 3) := by decide +kernel
theorem dX6_gatherCases_30 : decode cX6_gatherCases 30 = .ok (.iconst 0, 1) := by decide +kernel
theorem dX6_gatherCases_31 : decode cX6_gatherCases 31 = .ok (.invokestatic 80, 3) := by decide +kernel
theorem dX6_gatherCases_34 : decode cX6_gatherCases 34 = .ok (.iconst 0, 1) := by decide +kernel
theorem dX6_gatherCases_35 : decode cX6_gatherCases 35 = .ok (.istore 4, 2) := by decide +kernel
theorem dX6_gatherCases_37 : decode cX6_gatherCases 37 = .ok (.iload 4, 2) := by decide +kernel
theorem dX6_gatherCases_39 : decode cX6_gatherCases 39 = .ok (.iload_n 2, 1) := by decide +kernel
theorem dX6_gatherCases_40 : decode cX6_gatherCases 40 = .ok (.if_icmp .ge 36, 3) := by decide +kernel
theorem dX6_gatherCases_43 : decode cX6_gatherCases 43 = .ok (.aload_n 0, 1) := by decide +kernel
theorem dX6_gatherCases_44 : decode cX6_gatherCases 44 = .ok (.getfield 22, 3) := by decide +kernel
theorem dX6_gatherCases_47 : decode cX6_gatherCases 47 = .ok (.aload_n 0, 1) := by decide +kernel
theorem dX6_gatherCases_48 : decode cX6_gatherCases 48 = .ok (.getfield 28, 3) := by decide +kernel
theorem dX6_gatherCases_51 : decode cX6_gatherCases 51 = .ok (.iload 4, 2) := by decide +kernel
theorem dX6_gatherCases_53 : decode cX6_gatherCases 53 = .ok (.invokevirtual 51, 3) := by decide +kernel
theorem dX6_gatherCases_56 : decode cX6_gatherCases 56 = .ok (.bipush 9, 2) := by decide +kernel
theorem dX6_gatherCases_58 : decode cX6_gatherCases 58 = .ok (.imul, 1) := by decide +kernel
theorem dX6_gatherCases_59 : decode cX6_gatherCases 59 = .ok (.iload 4, 2) := by decide +kernel
theorem dX6_gatherCases_61 : decode cX6_gatherCases 61 = .ok (.invokestatic 55, 3) := by decide +kernel
theorem dX6_gatherCases_64 : decode cX6_gatherCases 64 = .ok (.iadd, 1) := by decide +kernel
theorem dX6_gatherCases_65 : decode cX6_gatherCases 65 = .ok (.dup2, 1) := by decide +kernel
theorem dX6_gatherCases_66 : decode cX6_gatherCases 66 = .ok (.iaload, 1) := by decide +kernel
theorem dX6_gatherCases_67 : decode cX6_gatherCases 67 = .ok (.iconst 1, 1) := by decide +kernel
theorem dX6_gatherCases_68 : decode cX6_gatherCases 68 = .ok (.iadd, 1) := by decide +kernel
theorem dX6_gatherCases_69 : decode cX6_gatherCases 69 = .ok (.iastore, 1) := by decide +kernel
theorem dX6_gatherCases_70 : decode cX6_gatherCases 70 = .ok (.iinc 4 1, 3) := by decide +kernel
theorem dX6_gatherCases_73 : decode cX6_gatherCases 73 = .ok (.goto (-36), 3) := by decide +kernel
theorem dX6_gatherCases_76 : decode cX6_gatherCases 76 = .ok (.iconst 0, 1) := by decide +kernel
theorem dX6_gatherCases_77 : decode cX6_gatherCases 77 = .ok (.istore 4, 2) := by decide +kernel
theorem dX6_gatherCases_79 : decode cX6_gatherCases 79 = .ok (.aload_n 0, 1) := by decide +kernel
theorem dX6_gatherCases_80 : decode cX6_gatherCases 80 = .ok (.iconst 0, 1) := by decide +kernel
theorem dX6_gatherCases_81 : decode cX6_gatherCases 81 = .ok (.putfield 86, 3) := by decide +kernel
theorem dX6_gatherCases_84 : decode cX6_gatherCases 84 = .ok (.iconst 0, 1) := by decide +kernel
theorem dX6_gatherCases_85 : decode cX6_gatherCases 85 = .ok (.istore 5, 2) := by decide +kernel
theorem dX6_gatherCases_87 : decode cX6_gatherCases 87 = .ok (.iload 5, 2) := by decide +kernel
theorem dX6_gatherCases_89 : decode cX6_gatherCases 89 = .ok (.iload_n 3, 1) := by decide +kernel
theorem dX6_gatherCases_90 : decode cX6_gatherCases 90 = .ok (.if_icmp .ge 70, 3) := by decide +kernel
theorem dX6_gatherCases_93 : decode cX6_gatherCases 93 = .ok (.aload_n 0, 1) := by decide +kernel
theorem dX6_gatherCases_94 : decode cX6_gatherCases 94 = .ok (.getfield 22, 3) := by decide +kernel
theorem dX6_gatherCases_97 : decode cX6_gatherCases 97 = .ok (.iload 5, 2) := by decide +kernel
theorem dX6_gatherCases_99 : decode cX6_gatherCases 99 = .ok (.iaload, 1) := by decide +kernel
theorem dX6_gatherCases_100 : decode cX6_gatherCases 100 = .ok (.ifCond .le 54, 3) := by decide +kernel
theorem dX6_gatherCases_103 : decode cX6_gatherCases 103 = .ok (.aload_n 0, 1) := by decide +kernel
theorem dX6_gatherCases_104 : decode cX6_gatherCases 104 = .ok (.iload_n 1, 1) := by decide +kernel
theorem dX6_gatherCases_105 : decode cX6_gatherCases 105 = .ok (.iload 5, 2) := by decide +kernel
theorem dX6_gatherCases_107 : decode cX6_gatherCases 107 = .ok (.bipush 9, 2) := by decide +kernel
theorem dX6_gatherCases_109 : decode cX6_gatherCases 109 = .ok (.idiv, 1) := by decide +kernel
theorem dX6_gatherCases_110 : decode cX6_gatherCases 110 = .ok (.iload 5, 2) := by decide +kernel
theorem dX6_gatherCases_112 : decode cX6_gatherCases 112 = .ok (.bipush 9, 2) := by decide +kernel
theorem dX6_gatherCases_114 : decode cX6_gatherCases 114 = .ok (.irem, 1) := by decide +kernel
theorem dX6_gatherCases_115 : decode cX6_gatherCases 115 = .ok (.invokevirtual 60, 3) := by decide +kernel
theorem dX6_gatherCases_118 : decode cX6_gatherCases 118 = .ok (.ifCond .eq 36, 3) := by decide +kernel
theorem dX6_gatherCases_121 : decode cX6_gatherCases 121 = .ok (.aload_n 0, 1) := by decide +kernel
theorem dX6_gatherCases_122 : decode cX6_gatherCases 122 = .ok (.getfield 25, 3) := by decide +kernel
theorem dX6_gatherCases_125 : decode cX6_gatherCases 125 = .ok (.aload_n 0, 1) := by decide +kernel
theorem dX6_gatherCases_126 : decode cX6_gatherCases 126 = .ok (.getfield 86, 3) := by decide +kernel
theorem dX6_gatherCases_129 : decode cX6_gatherCases 129 = .ok (.iload 5, 2) := by decide +kernel
theorem dX6_gatherCases_131 : decode cX6_gatherCases 131 = .ok (.iastore, 1) := by decide +kernel
theorem dX6_gatherCases_132 : decode cX6_gatherCases 132 = .ok (.aload_n 0, 1) := by decide +kernel
theorem dX6_gatherCases_133 : decode cX6_gatherCases 133 = .ok (.dup, 1) := by decide +kernel
theorem dX6_gatherCases_134 : decode cX6_gatherCases 134 = .ok (.getfield 86, 3) := by decide +kernel
theorem dX6_gatherCases_137 : decode cX6_gatherCases 137 = .ok (.iconst 1, 1) := by decide +kernel
theorem dX6_gatherCases_138 : decode cX6_gatherCases 138 = .ok (.iadd, 1) := by decide +kernel
theorem dX6_gatherCases_139 : decode cX6_gatherCases 139 = .ok (.putfield 86, 3) := by decide +kernel
theorem dX6_gatherCases_142 : decode cX6_gatherCases 142 = .ok (.iload 4, 2) := by decide +kernel
theorem dX6_gatherCases_144 : decode cX6_gatherCases 144 = .ok (.aload_n 0, 1) := by decide +kernel
theorem dX6_gatherCases_145 : decode cX6_gatherCases 145 = .ok (.getfield 22, 3) := by decide +kernel
theorem dX6_gatherCases_148 : decode cX6_gatherCases 148 = .ok (.iload 5, 2) := by decide +kernel
theorem dX6_gatherCases_150 : decode cX6_gatherCases 150 = .ok (.iaload, 1) := by decide +kernel
theorem dX6_gatherCases_151 : decode cX6_gatherCases 151 = .ok (.iadd, 1) := by decide +kernel
theorem dX6_gatherCases_152 : decode cX6_gatherCases 152 = .ok (.istore 4, 2) := by decide +kernel
theorem dX6_gatherCases_154 : decode cX6_gatherCases 154 = .ok (.iinc 5 1, 3) := by decide +kernel
theorem dX6_gatherCases_157 : decode cX6_gatherCases 157 = .ok (.goto (-70), 3) := by decide +kernel
theorem dX6_gatherCases_160 : decode cX6_gatherCases 160 = .ok (.iload 4, 2) := by decide +kernel
theorem dX6_gatherCases_162 : decode cX6_gatherCases 162 = .ok (.ireturn, 1) := by decide +kernel
theorem dX6_guiltyAt_0 : decode cX6_guiltyAt 0 = .ok (.iconst 0, 1) := by decide +kernel
theorem dX6_guiltyAt_1 : decode cX6_guiltyAt 1 = .ok (.istore_n 3, 1) := by decide +kernel
theorem dX6_guiltyAt_2 : decode cX6_guiltyAt 2 = .ok (.iconst 0, 1) := by decide +kernel
theorem dX6_guiltyAt_3 : decode cX6_guiltyAt 3 = .ok (.istore 4, 2) := by decide +kernel
theorem dX6_guiltyAt_5 : decode cX6_guiltyAt 5 = .ok (.iload 4, 2) := by decide +kernel
theorem dX6_guiltyAt_7 : decode cX6_guiltyAt 7 = .ok (.aload_n 0, 1) := by decide +kernel
theorem dX6_guiltyAt_8 : decode cX6_guiltyAt 8 = .ok (.getfield 86, 3) := by decide +kernel
theorem dX6_guiltyAt_11 : decode cX6_guiltyAt 11 = .ok (.if_icmp .ge 52, 3) := by decide +kernel
theorem dX6_guiltyAt_14 : decode cX6_guiltyAt 14 = .ok (.aload_n 0, 1) := by decide +kernel
theorem dX6_guiltyAt_15 : decode cX6_guiltyAt 15 = .ok (.getfield 25, 3) := by decide +kernel
theorem dX6_guiltyAt_18 : decode cX6_guiltyAt 18 = .ok (.iload 4, 2) := by decide +kernel
theorem dX6_guiltyAt_20 : decode cX6_guiltyAt 20 = .ok (.iaload, 1) := by decide +kernel
theorem dX6_guiltyAt_21 : decode cX6_guiltyAt 21 = .ok (.istore 5, 2) := by decide +kernel
theorem dX6_guiltyAt_23 : decode cX6_guiltyAt 23 = .ok (.aload_n 0, 1) := by decide +kernel
theorem dX6_guiltyAt_24 : decode cX6_guiltyAt 24 = .ok (.getfield 32, 3) := by decide +kernel
theorem dX6_guiltyAt_27 : decode cX6_guiltyAt 27 = .ok (.iload_n 1, 1) := by decide +kernel
theorem dX6_guiltyAt_28 : decode cX6_guiltyAt 28 = .ok (.iload 5, 2) := by decide +kernel
theorem dX6_guiltyAt_30 : decode cX6_guiltyAt 30 = .ok (.bipush 9, 2) := by decide +kernel
theorem dX6_guiltyAt_32 : decode cX6_guiltyAt 32 = .ok (.idiv, 1) := by decide +kernel
theorem dX6_guiltyAt_33 : decode cX6_guiltyAt 33 = .ok (.iload 5, 2) := by decide +kernel
theorem dX6_guiltyAt_35 : decode cX6_guiltyAt 35 = .ok (.bipush 9, 2) := by decide +kernel
theorem dX6_guiltyAt_37 : decode cX6_guiltyAt 37 = .ok (.irem, 1) := by decide +kernel
theorem dX6_guiltyAt_38 : decode cX6_guiltyAt 38 = .ok (.iload_n 2, 1) := by decide +kernel
theorem dX6_guiltyAt_39 : decode cX6_guiltyAt 39 = .ok (.iconst 0, 1) := by decide +kernel
theorem dX6_guiltyAt_40 : decode cX6_guiltyAt 40 = .ok (.iconst 0, 1) := by decide +kernel
theorem dX6_guiltyAt_41 : decode cX6_guiltyAt 41 = .ok (.invokevirtual 40, 3) := by decide +kernel
theorem dX6_guiltyAt_44 : decode cX6_guiltyAt 44 = .ok (.ifCond .le 13, 3) := by decide +kernel
theorem dX6_guiltyAt_47 : decode cX6_guiltyAt 47 = .ok (.iload_n 3, 1) := by decide +kernel
theorem dX6_guiltyAt_48 : decode cX6_guiltyAt 48 = .ok (.aload_n 0, 1) := by decide +kernel
theorem dX6_guiltyAt_49 : decode cX6_guiltyAt 49 = .ok (.getfield 22, 3) := by decide +kernel
theorem dX6_guiltyAt_52 : decode cX6_guiltyAt 52 = .ok (.iload 5, 2) := by decide +kernel
theorem dX6_guiltyAt_54 : decode cX6_guiltyAt 54 = .ok (.iaload, 1) := by decide +kernel
theorem dX6_guiltyAt_55 : decode cX6_guiltyAt 55 = .ok (.iadd, 1) := by decide +kernel
theorem dX6_guiltyAt_56 : decode cX6_guiltyAt 56 = .ok (.istore_n 3, 1) := by decide +kernel
theorem dX6_guiltyAt_57 : decode cX6_guiltyAt 57 = .ok (.iinc 4 1, 3) := by decide +kernel
theorem dX6_guiltyAt_60 : decode cX6_guiltyAt 60 = .ok (.goto (-55), 3) := by decide +kernel
theorem dX6_guiltyAt_63 : decode cX6_guiltyAt 63 = .ok (.iload_n 3, 1) := by decide +kernel
theorem dX6_guiltyAt_64 : decode cX6_guiltyAt 64 = .ok (.ireturn, 1) := by decide +kernel
theorem dX7_init_0 : decode cX7_init 0 = .ok (.aload_n 0, 1) := by decide +kernel
theorem dX7_init_1 : decode cX7_init 1 = .ok (.invokespecial 3, 3) := by decide +kernel
theorem dX7_init_4 : decode cX7_init 4 = .ok (.aload_n 0, 1) := by decide +kernel
theorem dX7_init_5 : decode cX7_init 5 = .ok (.sipush 240, 3) := by decide +kernel
theorem dX7_init_8 : decode cX7_init 8 = .ok (.newarray .char, 2) := by decide +kernel
theorem dX7_init_10 : decode cX7_init 10 = .ok (.putfield 9, 3) := by decide +kernel
theorem dX7_init_13 : decode cX7_init 13 = .ok (.return_, 1) := by decide +kernel
theorem dX7_bytesIn_0 : decode cX7_bytesIn 0 = .ok (.iconst 0, 1) := by decide +kernel
theorem dX7_bytesIn_1 : decode cX7_bytesIn 1 = .ok (.istore_n 1, 1) := by decide +kernel
theorem dX7_bytesIn_2 : decode cX7_bytesIn 2 = .ok (.bipush 24, 2) := by decide +kernel
theorem dX7_bytesIn_4 : decode cX7_bytesIn 4 = .ok (.istore_n 2, 1) := by decide +kernel
theorem dX7_bytesIn_5 : decode cX7_bytesIn 5 = .ok (.iload_n 2, 1) := by decide +kernel
theorem dX7_bytesIn_6 : decode cX7_bytesIn 6 = .ok (.ifCond .lt 22, 3) := by decide +kernel
theorem dX7_bytesIn_9 : decode cX7_bytesIn 9 = .ok (.iload_n 0, 1) := by decide +kernel
theorem dX7_bytesIn_10 : decode cX7_bytesIn 10 = .ok (.iload_n 2, 1) := by decide +kernel
theorem dX7_bytesIn_11 : decode cX7_bytesIn 11 = .ok (.iushr, 1) := by decide +kernel
theorem dX7_bytesIn_12 : decode cX7_bytesIn 12 = .ok (.sipush 255, 3) := by decide +kernel
theorem dX7_bytesIn_15 : decode cX7_bytesIn 15 = .ok (.iand, 1) := by decide +kernel
theorem dX7_bytesIn_16 : decode cX7_bytesIn 16 = .ok (.ifCond .eq 6, 3) := by decide +kernel
theorem dX7_bytesIn_19 : decode cX7_bytesIn 19 = .ok (.iinc 1 1, 3) := by decide +kernel
theorem dX7_bytesIn_22 : decode cX7_bytesIn 22 = .ok (.iinc 2 (-8), 3) := by decide +kernel
theorem dX7_bytesIn_25 : decode cX7_bytesIn 25 = .ok (.goto (-20), 3) := by decide +kernel
theorem dX7_bytesIn_28 : decode cX7_bytesIn 28 = .ok (.iload_n 1, 1) := by decide +kernel
theorem dX7_bytesIn_29 : decode cX7_bytesIn 29 = .ok (.ireturn, 1) := by decide +kernel
theorem dX7_add_0 : decode cX7_add 0 = .ok (.bipush 24, 2) := by decide +kernel
theorem dX7_add_2 : decode cX7_add 2 = .ok (.istore_n 2, 1) := by decide +kernel
theorem dX7_add_3 : decode cX7_add 3 = .ok (.iload_n 2, 1) := by decide +kernel
theorem dX7_add_4 : decode cX7_add 4 = .ok (.ifCond .lt 52, 3) := by decide +kernel
theorem dX7_add_7 : decode cX7_add 7 = .ok (.iload_n 1, 1) := by decide +kernel
theorem dX7_add_8 : decode cX7_add 8 = .ok (.iload_n 2, 1) := by decide +kernel
theorem dX7_add_9 : decode cX7_add 9 = .ok (.iushr, 1) := by decide +kernel
theorem dX7_add_10 : decode cX7_add 10 = .ok (.sipush 255, 3) := by decide +kernel
theorem dX7_add_13 : decode cX7_add 13 = .ok (.iand, 1) := by decide +kernel
theorem dX7_add_14 : decode cX7_add 14 = .ok (.istore_n 3, 1) := by decide +kernel
theorem dX7_add_15 : decode cX7_add 15 = .ok (.iload_n 3, 1) := by decide +kernel
theorem dX7_add_16 : decode cX7_add 16 = .ok (.ifCond .eq 34, 3) := by decide +kernel
theorem dX7_add_19 : decode cX7_add 19 = .ok (.aload_n 0, 1) := by decide +kernel
theorem dX7_add_20 : decode cX7_add 20 = .ok (.getfield 15, 3) := by decide +kernel
theorem dX7_add_23 : decode cX7_add 23 = .ok (.sipush 240, 3) := by decide +kernel
theorem dX7_add_26 : decode cX7_add 26 = .ok (.if_icmp .ge 24, 3) := by decide +kernel
theorem dX7_add_29 : decode cX7_add 29 = .ok (.aload_n 0, 1) := by decide +kernel
theorem dX7_add_30 : decode cX7_add 30 = .ok (.getfield 9, 3) := by decide +kernel
theorem dX7_add_33 : decode cX7_add 33 = .ok (.aload_n 0, 1) := by decide +kernel
theorem dX7_add_34 : decode cX7_add 34 = .ok (.getfield 15, 3) := by decide +kernel
theorem dX7_add_37 : decode cX7_add 37 = .ok (.iload_n 3, 1) := by decide +kernel
theorem dX7_add_38 : decode cX7_add 38 = .ok (.i2c, 1) := by decide +kernel
theorem dX7_add_39 : decode cX7_add 39 = .ok (.castore, 1) := by decide +kernel
theorem dX7_add_40 : decode cX7_add 40 = .ok (.aload_n 0, 1) := by decide +kernel
theorem dX7_add_41 : decode cX7_add 41 = .ok (.dup, 1) := by decide +kernel
theorem dX7_add_42 : decode cX7_add 42 = .ok (.getfield 15, 3) := by decide +kernel
theorem dX7_add_45 : decode cX7_add 45 = .ok (.iconst 1, 1) := by decide +kernel
theorem dX7_add_46 : decode cX7_add 46 = .ok (.iadd, 1) := by decide +kernel
theorem dX7_add_47 : decode cX7_add 47 = .ok (.putfield 15, 3) := by decide +kernel
theorem dX7_add_50 : decode cX7_add 50 = .ok (.iinc 2 (-8), 3) := by decide +kernel
theorem dX7_add_53 : decode cX7_add 53 = .ok (.goto (-50), 3) := by decide +kernel
theorem dX7_add_56 : decode cX7_add 56 = .ok (.return_, 1) := by decide +kernel
theorem dX7_next_0 : decode cX7_next 0 = .ok (.aload_n 0, 1) := by decide +kernel
theorem dX7_next_1 : decode cX7_next 1 = .ok (.getfield 19, 3) := by decide +kernel
theorem dX7_next_4 : decode cX7_next 4 = .ok (.aload_n 0, 1) := by decide +kernel
theorem dX7_next_5 : decode cX7_next 5 = .ok (.getfield 15, 3) := by decide +kernel
theorem dX7_next_8 : decode cX7_next 8 = .ok (.if_icmp .ge 30, 3) := by decide +kernel
theorem dX7_next_11 : decode cX7_next 11 = .ok (.aload_n 0, 1) := by decide +kernel
theorem dX7_next_12 : decode cX7_next 12 = .ok (.getfield 9, 3) := by decide +kernel
theorem dX7_next_15 : decode cX7_next 15 = .ok (.aload_n 0, 1) := by decide +kernel
theorem dX7_next_16 : decode cX7_next 16 = .ok (.getfield 19, 3) := by decide +kernel
theorem dX7_next_19 : decode cX7_next 19 = .ok (.caload, 1) := by decide +kernel
theorem dX7_next_20 : decode cX7_next 20 = .ok (.bipush 32, 2) := by decide +kernel
theorem dX7_next_22 : decode cX7_next 22 = .ok (.if_icmp .ne 16, 3) := by decide +kernel
theorem dX7_next_25 : decode cX7_next 25 = .ok (.aload_n 0, 1) := by decide +kernel
theorem dX7_next_26 : decode cX7_next 26 = .ok (.dup, 1) := by decide +kernel
theorem dX7_next_27 : decode cX7_next 27 = .ok (.getfield 19, 3) := by decide +kernel
theorem dX7_next_30 : decode cX7_next 30 = .ok (.iconst 1, 1) := by decide +kernel
theorem dX7_next_31 : decode cX7_next 31 = .ok (.iadd, 1) := by decide +kernel
theorem dX7_next_32 : decode cX7_next 32 = .ok (.putfield 19, 3) := by decide +kernel
theorem dX7_next_35 : decode cX7_next 35 = .ok (.goto (-35), 3) := by decide +kernel
theorem dX7_next_38 : decode cX7_next 38 = .ok (.aload_n 0, 1) := by decide +kernel
theorem dX7_next_39 : decode cX7_next 39 = .ok (.getfield 19, 3) := by decide +kernel
theorem dX7_next_42 : decode cX7_next 42 = .ok (.aload_n 0, 1) := by decide +kernel
theorem dX7_next_43 : decode cX7_next 43 = .ok (.getfield 15, 3) := by decide +kernel
theorem dX7_next_46 : decode cX7_next 46 = .ok (.if_icmp .ge 15, 3) := by decide +kernel
theorem dX7_next_49 : decode cX7_next 49 = .ok (.aload_n 0, 1) := by decide +kernel
theorem dX7_next_50 : decode cX7_next 50 = .ok (.getfield 9, 3) := by decide +kernel
theorem dX7_next_53 : decode cX7_next 53 = .ok (.aload_n 0, 1) := by decide +kernel
theorem dX7_next_54 : decode cX7_next 54 = .ok (.getfield 19, 3) := by decide +kernel
theorem dX7_next_57 : decode cX7_next 57 = .ok (.caload, 1) := by decide +kernel
theorem dX7_next_58 : decode cX7_next 58 = .ok (.goto 4, 3) := by decide +kernel
theorem dX7_next_61 : decode cX7_next 61 = .ok (.iconst (-1), 1) := by decide +kernel
theorem dX7_next_62 : decode cX7_next 62 = .ok (.ireturn, 1) := by decide +kernel
theorem dX7_pass_0 : decode cX7_pass 0 = .ok (.aload_n 0, 1) := by decide +kernel
theorem dX7_pass_1 : decode cX7_pass 1 = .ok (.dup, 1) := by decide +kernel
theorem dX7_pass_2 : decode cX7_pass 2 = .ok (.getfield 19, 3) := by decide +kernel
theorem dX7_pass_5 : decode cX7_pass 5 = .ok (.iconst 1, 1) := by decide +kernel
theorem dX7_pass_6 : decode cX7_pass 6 = .ok (.iadd, 1) := by decide +kernel
theorem dX7_pass_7 : decode cX7_pass 7 = .ok (.putfield 19, 3) := by decide +kernel
theorem dX7_pass_10 : decode cX7_pass 10 = .ok (.return_, 1) := by decide +kernel
theorem dX7_passed_0 : decode cX7_passed 0 = .ok (.aload_n 0, 1) := by decide +kernel
theorem dX7_passed_1 : decode cX7_passed 1 = .ok (.invokevirtual 22, 3) := by decide +kernel
theorem dX7_passed_4 : decode cX7_passed 4 = .ok (.iload_n 1, 1) := by decide +kernel
theorem dX7_passed_5 : decode cX7_passed 5 = .ok (.if_icmp .eq 5, 3) := by decide +kernel
theorem dX7_passed_8 : decode cX7_passed 8 = .ok (.iconst 0, 1) := by decide +kernel
theorem dX7_passed_9 : decode cX7_passed 9 = .ok (.ireturn, 1) := by decide +kernel
theorem dX7_passed_10 : decode cX7_passed 10 = .ok (.aload_n 0, 1) := by decide +kernel
theorem dX7_passed_11 : decode cX7_passed 11 = .ok (.dup, 1) := by decide +kernel
theorem dX7_passed_12 : decode cX7_passed 12 = .ok (.getfield 19, 3) := by decide +kernel
theorem dX7_passed_15 : decode cX7_passed 15 = .ok (.iconst 1, 1) := by decide +kernel
theorem dX7_passed_16 : decode cX7_passed 16 = .ok (.iadd, 1) := by decide +kernel
theorem dX7_passed_17 : decode cX7_passed 17 = .ok (.putfield 19, 3) := by decide +kernel
theorem dX7_passed_20 : decode cX7_passed 20 = .ok (.iconst 1, 1) := by decide +kernel
theorem dX7_passed_21 : decode cX7_passed 21 = .ok (.ireturn, 1) := by decide +kernel
theorem dX7_isDigitHere_0 : decode cX7_isDigitHere 0 = .ok (.aload_n 0, 1) := by decide +kernel
theorem dX7_isDigitHere_1 : decode cX7_isDigitHere 1 = .ok (.getfield 19, 3) := by decide +kernel
theorem dX7_isDigitHere_4 : decode cX7_isDigitHere 4 = .ok (.aload_n 0, 1) := by decide +kernel
theorem dX7_isDigitHere_5 : decode cX7_isDigitHere 5 = .ok (.getfield 15, 3) := by decide +kernel
theorem dX7_isDigitHere_8 : decode cX7_isDigitHere 8 = .ok (.if_icmp .ge 35, 3) := by decide +kernel
theorem dX7_isDigitHere_11 : decode cX7_isDigitHere 11 = .ok (.aload_n 0, 1) := by decide +kernel
theorem dX7_isDigitHere_12 : decode cX7_isDigitHere 12 = .ok (.getfield 9, 3) := by decide +kernel
theorem dX7_isDigitHere_15 : decode cX7_isDigitHere 15 = .ok (.aload_n 0, 1) := by decide +kernel
theorem dX7_isDigitHere_16 : decode cX7_isDigitHere 16 = .ok (.getfield 19, 3) := by decide +kernel
theorem dX7_isDigitHere_19 : decode cX7_isDigitHere 19 = .ok (.caload, 1) := by decide +kernel
theorem dX7_isDigitHere_20 : decode cX7_isDigitHere 20 = .ok (.bipush 48, 2) := by decide +kernel
theorem dX7_isDigitHere_22 : decode cX7_isDigitHere 22 = .ok (.if_icmp .lt 21, 3) := by decide +kernel
theorem dX7_isDigitHere_25 : decode cX7_isDigitHere 25 = .ok (.aload_n 0, 1) := by decide +kernel
theorem dX7_isDigitHere_26 : decode cX7_isDigitHere 26 = .ok (.getfield 9, 3) := by decide +kernel
theorem dX7_isDigitHere_29 : decode cX7_isDigitHere 29 = .ok (.aload_n 0, 1) := by decide +kernel
theorem dX7_isDigitHere_30 : decode cX7_isDigitHere 30 = .ok (.getfield 19, 3) := by decide +kernel
theorem dX7_isDigitHere_33 : decode cX7_isDigitHere 33 = .ok (.caload, 1) := by decide +kernel
theorem dX7_isDigitHere_34 : decode cX7_isDigitHere 34 = .ok (.bipush 57, 2) := by decide +kernel
theorem dX7_isDigitHere_36 : decode cX7_isDigitHere 36 = .ok (.if_icmp .gt 7, 3) := by decide +kernel
theorem dX7_isDigitHere_39 : decode cX7_isDigitHere 39 = .ok (.iconst 1, 1) := by decide +kernel
theorem dX7_isDigitHere_40 : decode cX7_isDigitHere 40 = .ok (.goto 4, 3) := by decide +kernel
theorem dX7_isDigitHere_43 : decode cX7_isDigitHere 43 = .ok (.iconst 0, 1) := by decide +kernel
theorem dX7_isDigitHere_44 : decode cX7_isDigitHere 44 = .ok (.ireturn, 1) := by decide +kernel
theorem dX7_readsNumber_0 : decode cX7_readsNumber 0 = .ok (.aload_n 0, 1) := by decide +kernel
theorem dX7_readsNumber_1 : decode cX7_readsNumber 1 = .ok (.invokevirtual 22, 3) := by decide +kernel
theorem dX7_readsNumber_4 : decode cX7_readsNumber 4 = .ok (.pop, 1) := by decide +kernel
theorem dX7_readsNumber_5 : decode cX7_readsNumber 5 = .ok (.aload_n 0, 1) := by decide +kernel
theorem dX7_readsNumber_6 : decode cX7_readsNumber 6 = .ok (.invokevirtual 26, 3) := by decide +kernel
theorem dX7_readsNumber_9 : decode cX7_readsNumber 9 = .ok (.ifCond .ne 5, 3) := by decide +kernel
theorem dX7_readsNumber_12 : decode cX7_readsNumber 12 = .ok (.iconst 0, 1) := by decide +kernel
theorem dX7_readsNumber_13 : decode cX7_readsNumber 13 = .ok (.ireturn, 1) := by decide +kernel
theorem dX7_readsNumber_14 : decode cX7_readsNumber 14 = .ok (.aload_n 0, 1) := by decide +kernel
theorem dX7_readsNumber_15 : decode cX7_readsNumber 15 = .ok (.iconst 0, 1) := by decide +kernel
theorem dX7_readsNumber_16 : decode cX7_readsNumber 16 = .ok (.putfield 30, 3) := by decide +kernel
theorem dX7_readsNumber_19 : decode cX7_readsNumber 19 = .ok (.iconst 0, 1) := by decide +kernel
theorem dX7_readsNumber_20 : decode cX7_readsNumber 20 = .ok (.istore 4, 2) := by decide +kernel
theorem dX7_readsNumber_22 : decode cX7_readsNumber 22 = .ok (.iload 4, 2) := by decide +kernel
theorem dX7_readsNumber_24 : decode cX7_readsNumber 24 = .ok (.iload_n 1, 1) := by decide +kernel
theorem dX7_readsNumber_25 : decode cX7_readsNumber 25 = .ok (.if_icmp .ge 50, 3) := by decide +kernel
theorem dX7_readsNumber_28 : decode cX7_readsNumber 28 = .ok (.aload_n 0, 1) := by decide +kernel
theorem dX7_readsNumber_29 : decode cX7_readsNumber 29 = .ok (.invokevirtual 26, 3) := by decide +kernel
theorem dX7_readsNumber_32 : decode cX7_readsNumber 32 = .ok (.ifCond .eq 43, 3) := by decide +kernel
theorem dX7_readsNumber_35 : decode cX7_readsNumber 35 = .ok (.aload_n 0, 1) := by decide +kernel
theorem dX7_readsNumber_36 : decode cX7_readsNumber 36 = .ok (.aload_n 0, 1) := by decide +kernel
theorem dX7_readsNumber_37 : decode cX7_readsNumber 37 = .ok (.getfield 30, 3) := by decide +kernel
theorem dX7_readsNumber_40 : decode cX7_readsNumber 40 = .ok (.bipush 10, 2) := by decide +kernel
theorem dX7_readsNumber_42 : decode cX7_readsNumber 42 = .ok (.imul, 1) := by decide +kernel
theorem dX7_readsNumber_43 : decode cX7_readsNumber 43 = .ok (.aload_n 0, 1) := by decide +kernel
theorem dX7_readsNumber_44 : decode cX7_readsNumber 44 = .ok (.getfield 9, 3) := by decide +kernel
theorem dX7_readsNumber_47 : decode cX7_readsNumber 47 = .ok (.aload_n 0, 1) := by decide +kernel
theorem dX7_readsNumber_48 : decode cX7_readsNumber 48 = .ok (.getfield 19, 3) := by decide +kernel
theorem dX7_readsNumber_51 : decode cX7_readsNumber 51 = .ok (.caload, 1) := by decide +kernel
theorem dX7_readsNumber_52 : decode cX7_readsNumber 52 = .ok (.iadd, 1) := by decide +kernel
theorem dX7_readsNumber_53 : decode cX7_readsNumber 53 = .ok (.bipush 48, 2) := by decide +kernel
theorem dX7_readsNumber_55 : decode cX7_readsNumber 55 = .ok (.isub, 1) := by decide +kernel
theorem dX7_readsNumber_56 : decode cX7_readsNumber 56 = .ok (.putfield 30, 3) := by decide +kernel
theorem dX7_readsNumber_59 : decode cX7_readsNumber 59 = .ok (.aload_n 0, 1) := by decide +kernel
theorem dX7_readsNumber_60 : decode cX7_readsNumber 60 = .ok (.dup, 1) := by decide +kernel
theorem dX7_readsNumber_61 : decode cX7_readsNumber 61 = .ok (.getfield 19, 3) := by decide +kernel
theorem dX7_readsNumber_64 : decode cX7_readsNumber 64 = .ok (.iconst 1, 1) := by decide +kernel
theorem dX7_readsNumber_65 : decode cX7_readsNumber 65 = .ok (.iadd, 1) := by decide +kernel
theorem dX7_readsNumber_66 : decode cX7_readsNumber 66 = .ok (.putfield 19, 3) := by decide +kernel
theorem dX7_readsNumber_69 : decode cX7_readsNumber 69 = .ok (.iinc 4 1, 3) := by decide +kernel
theorem dX7_readsNumber_72 : decode cX7_readsNumber 72 = .ok (.goto (-50), 3) := by decide +kernel
theorem dX7_readsNumber_75 : decode cX7_readsNumber 75 = .ok (.aload_n 0, 1) := by decide +kernel
theorem dX7_readsNumber_76 : decode cX7_readsNumber 76 = .ok (.invokevirtual 26, 3) := by decide +kernel
theorem dX7_readsNumber_79 : decode cX7_readsNumber 79 = .ok (.ifCond .eq 5, 3) := by decide +kernel
theorem dX7_readsNumber_82 : decode cX7_readsNumber 82 = .ok (.iconst 0, 1) := by decide +kernel
theorem dX7_readsNumber_83 : decode cX7_readsNumber 83 = .ok (.ireturn, 1) := by decide +kernel
theorem dX7_readsNumber_84 : decode cX7_readsNumber 84 = .ok (.aload_n 0, 1) := by decide +kernel
theorem dX7_readsNumber_85 : decode cX7_readsNumber 85 = .ok (.getfield 30, 3) := by decide +kernel
theorem dX7_readsNumber_88 : decode cX7_readsNumber 88 = .ok (.iload_n 2, 1) := by decide +kernel
theorem dX7_readsNumber_89 : decode cX7_readsNumber 89 = .ok (.if_icmp .lt 11, 3) := by decide +kernel
theorem dX7_readsNumber_92 : decode cX7_readsNumber 92 = .ok (.aload_n 0, 1) := by decide +kernel
theorem dX7_readsNumber_93 : decode cX7_readsNumber 93 = .ok (.getfield 30, 3) := by decide +kernel
theorem dX7_readsNumber_96 : decode cX7_readsNumber 96 = .ok (.iload_n 3, 1) := by decide +kernel
theorem dX7_readsNumber_97 : decode cX7_readsNumber 97 = .ok (.if_icmp .le 15, 3) := by decide +kernel
theorem dX7_readsNumber_100 : decode cX7_readsNumber 100 = .ok (.aload_n 0, 1) := by decide +kernel
theorem dX7_readsNumber_101 : decode cX7_readsNumber 101 = .ok (.dup, 1) := by decide +kernel
theorem dX7_readsNumber_102 : decode cX7_readsNumber 102 = .ok (.getfield 19, 3) := by decide +kernel
theorem dX7_readsNumber_105 : decode cX7_readsNumber 105 = .ok (.iconst 1, 1) := by decide +kernel
theorem dX7_readsNumber_106 : decode cX7_readsNumber 106 = .ok (.isub, 1) := by decide +kernel
theorem dX7_readsNumber_107 : decode cX7_readsNumber 107 = .ok (.putfield 19, 3) := by decide +kernel
theorem dX7_readsNumber_110 : decode cX7_readsNumber 110 = .ok (.iconst 0, 1) := by decide +kernel
theorem dX7_readsNumber_111 : decode cX7_readsNumber 111 = .ok (.ireturn, 1) := by decide +kernel
theorem dX7_readsNumber_112 : decode cX7_readsNumber 112 = .ok (.iconst 1, 1) := by decide +kernel
theorem dX7_readsNumber_113 : decode cX7_readsNumber 113 = .ok (.ireturn, 1) := by decide +kernel
theorem dX7_readsDigit_0 : decode cX7_readsDigit 0 = .ok (.aload_n 0, 1) := by decide +kernel
theorem dX7_readsDigit_1 : decode cX7_readsDigit 1 = .ok (.invokevirtual 22, 3) := by decide +kernel
theorem dX7_readsDigit_4 : decode cX7_readsDigit 4 = .ok (.pop, 1) := by decide +kernel
theorem dX7_readsDigit_5 : decode cX7_readsDigit 5 = .ok (.aload_n 0, 1) := by decide +kernel
theorem dX7_readsDigit_6 : decode cX7_readsDigit 6 = .ok (.invokevirtual 26, 3) := by decide +kernel
theorem dX7_readsDigit_9 : decode cX7_readsDigit 9 = .ok (.ifCond .ne 5, 3) := by decide +kernel
theorem dX7_readsDigit_12 : decode cX7_readsDigit 12 = .ok (.iconst 0, 1) := by decide +kernel
theorem dX7_readsDigit_13 : decode cX7_readsDigit 13 = .ok (.ireturn, 1) := by decide +kernel
theorem dX7_readsDigit_14 : decode cX7_readsDigit 14 = .ok (.aload_n 0, 1) := by decide +kernel
theorem dX7_readsDigit_15 : decode cX7_readsDigit 15 = .ok (.aload_n 0, 1) := by decide +kernel
theorem dX7_readsDigit_16 : decode cX7_readsDigit 16 = .ok (.getfield 9, 3) := by decide +kernel
theorem dX7_readsDigit_19 : decode cX7_readsDigit 19 = .ok (.aload_n 0, 1) := by decide +kernel
theorem dX7_readsDigit_20 : decode cX7_readsDigit 20 = .ok (.getfield 19, 3) := by decide +kernel
theorem dX7_readsDigit_23 : decode cX7_readsDigit 23 = .ok (.caload, 1) := by decide +kernel
theorem dX7_readsDigit_24 : decode cX7_readsDigit 24 = .ok (.bipush 48, 2) := by decide +kernel
theorem dX7_readsDigit_26 : decode cX7_readsDigit 26 = .ok (.isub, 1) := by decide +kernel
theorem dX7_readsDigit_27 : decode cX7_readsDigit 27 = .ok (.putfield 30, 3) := by decide +kernel
theorem dX7_readsDigit_30 : decode cX7_readsDigit 30 = .ok (.aload_n 0, 1) := by decide +kernel
theorem dX7_readsDigit_31 : decode cX7_readsDigit 31 = .ok (.dup, 1) := by decide +kernel
theorem dX7_readsDigit_32 : decode cX7_readsDigit 32 = .ok (.getfield 19, 3) := by decide +kernel
theorem dX7_readsDigit_35 : decode cX7_readsDigit 35 = .ok (.iconst 1, 1) := by decide +kernel
theorem dX7_readsDigit_36 : decode cX7_readsDigit 36 = .ok (.iadd, 1) := by decide +kernel
theorem dX7_readsDigit_37 : decode cX7_readsDigit 37 = .ok (.putfield 19, 3) := by decide +kernel
theorem dX7_readsDigit_40 : decode cX7_readsDigit 40 = .ok (.iconst 1, 1) := by decide +kernel
theorem dX7_readsDigit_41 : decode cX7_readsDigit 41 = .ok (.ireturn, 1) := by decide +kernel
theorem dX8_init_0 : decode cX8_init 0 = .ok (.aload_n 0, 1) := by decide +kernel
theorem dX8_init_1 : decode cX8_init 1 = .ok (.invokespecial 3, 3) := by decide +kernel
theorem dX8_init_4 : decode cX8_init 4 = .ok (.aload_n 0, 1) := by decide +kernel
theorem dX8_init_5 : decode cX8_init 5 = .ok (.bipush 6, 2) := by decide +kernel
theorem dX8_init_7 : decode cX8_init 7 = .ok (.newarray .int, 2) := by decide +kernel
theorem dX8_init_9 : decode cX8_init 9 = .ok (.putfield 9, 3) := by decide +kernel
theorem dX8_init_12 : decode cX8_init 12 = .ok (.aload_n 0, 1) := by decide +kernel
theorem dX8_init_13 : decode cX8_init 13 = .ok (.bipush 6, 2) := by decide +kernel
theorem dX8_init_15 : decode cX8_init 15 = .ok (.newarray .int, 2) := by decide +kernel
theorem dX8_init_17 : decode cX8_init 17 = .ok (.putfield 15, 3) := by decide +kernel
theorem dX8_init_20 : decode cX8_init 20 = .ok (.aload_n 0, 1) := by decide +kernel
theorem dX8_init_21 : decode cX8_init 21 = .ok (.bipush 6, 2) := by decide +kernel
theorem dX8_init_23 : decode cX8_init 23 = .ok (.newarray .int, 2) := by decide +kernel
theorem dX8_init_25 : decode cX8_init 25 = .ok (.putfield 18, 3) := by decide +kernel
theorem dX8_init_28 : decode cX8_init 28 = .ok (.aload_n 0, 1) := by decide +kernel
theorem dX8_init_29 : decode cX8_init 29 = .ok (.bipush 8, 2) := by decide +kernel
theorem dX8_init_31 : decode cX8_init 31 = .ok (.newarray .int, 2) := by decide +kernel
theorem dX8_init_33 : decode cX8_init 33 = .ok (.putfield 21, 3) := by decide +kernel
theorem dX8_init_36 : decode cX8_init 36 = .ok (.aload_n 0, 1) := by decide +kernel
theorem dX8_init_37 : decode cX8_init 37 = .ok (.bipush 8, 2) := by decide +kernel
theorem dX8_init_39 : decode cX8_init 39 = .ok (.newarray .int, 2) := by decide +kernel
theorem dX8_init_41 : decode cX8_init 41 = .ok (.putfield 24, 3) := by decide +kernel
theorem dX8_init_44 : decode cX8_init 44 = .ok (.aload_n 0, 1) := by decide +kernel
theorem dX8_init_45 : decode cX8_init 45 = .ok (.bipush 8, 2) := by decide +kernel
theorem dX8_init_47 : decode cX8_init 47 = .ok (.newarray .int, 2) := by decide +kernel
theorem dX8_init_49 : decode cX8_init 49 = .ok (.putfield 27, 3) := by decide +kernel
theorem dX8_init_52 : decode cX8_init 52 = .ok (.aload_n 0, 1) := by decide +kernel
theorem dX8_init_53 : decode cX8_init 53 = .ok (.iconst 3, 1) := by decide +kernel
theorem dX8_init_54 : decode cX8_init 54 = .ok (.newarray .int, 2) := by decide +kernel
theorem dX8_init_56 : decode cX8_init 56 = .ok (.putfield 30, 3) := by decide +kernel
theorem dX8_init_59 : decode cX8_init 59 = .ok (.return_, 1) := by decide +kernel
theorem dX8_hasPerson_0 : decode cX8_hasPerson 0 = .ok (.iload_n 1, 1) := by decide +kernel
theorem dX8_hasPerson_1 : decode cX8_hasPerson 1 = .ok (.ifCond .lt 15, 3) := by decide +kernel
theorem dX8_hasPerson_4 : decode cX8_hasPerson 4 = .ok (.iload_n 1, 1) := by decide +kernel
theorem dX8_hasPerson_5 : decode cX8_hasPerson 5 = .ok (.aload_n 0, 1) := by decide +kernel
theorem dX8_hasPerson_6 : decode cX8_hasPerson 6 = .ok (.getfield 33, 3) := by decide +kernel
