theorem dX0_init_0 : decode cX0_init 0 = .ok (.aload_n 0, 1) := by decide +kernel
theorem dX0_init_1 : decode cX0_init 1 = .ok (.invokespecial 3, 3) := by decide +kernel
theorem dX0_init_4 : decode cX0_init 4 = .ok (.aload_n 0, 1) := by decide +kernel
theorem dX0_init_5 : decode cX0_init 5 = .ok (.iconst 0, 1) := by decide +kernel
theorem dX0_init_6 : decode cX0_init 6 = .ok (.putfield 9, 3) := by decide +kernel
theorem dX0_init_9 : decode cX0_init 9 = .ok (.aload_n 0, 1) := by decide +kernel
theorem dX0_init_10 : decode cX0_init 10 = .ok (.bipush 8, 2) := by decide +kernel
theorem dX0_init_12 : decode cX0_init 12 = .ok (.newarray .int, 2) := by decide +kernel
theorem dX0_init_14 : decode cX0_init 14 = .ok (.putfield 15, 3) := by decide +kernel
theorem dX0_init_17 : decode cX0_init 17 = .ok (.aload_n 0, 1) := by decide +kernel
theorem dX0_init_18 : decode cX0_init 18 = .ok (.bipush 8, 2) := by decide +kernel
theorem dX0_init_20 : decode cX0_init 20 = .ok (.newarray .int, 2) := by decide +kernel
theorem dX0_init_22 : decode cX0_init 22 = .ok (.putfield 19, 3) := by decide +kernel
theorem dX0_init_25 : decode cX0_init 25 = .ok (.aload_n 0, 1) := by decide +kernel
theorem dX0_init_26 : decode cX0_init 26 = .ok (.bipush 8, 2) := by decide +kernel
theorem dX0_init_28 : decode cX0_init 28 = .ok (.newarray .int, 2) := by decide +kernel
theorem dX0_init_30 : decode cX0_init 30 = .ok (.putfield 22, 3) := by decide +kernel
theorem dX0_init_33 : decode cX0_init 33 = .ok (.aload_n 0, 1) := by decide +kernel
theorem dX0_init_34 : decode cX0_init 34 = .ok (.bipush 8, 2) := by decide +kernel
theorem dX0_init_36 : decode cX0_init 36 = .ok (.newarray .int, 2) := by decide +kernel
theorem dX0_init_38 : decode cX0_init 38 = .ok (.putfield 25, 3) := by decide +kernel
theorem dX0_init_41 : decode cX0_init 41 = .ok (.aload_n 0, 1) := by decide +kernel
theorem dX0_init_42 : decode cX0_init 42 = .ok (.bipush 8, 2) := by decide +kernel
theorem dX0_init_44 : decode cX0_init 44 = .ok (.newarray .int, 2) := by decide +kernel
theorem dX0_init_46 : decode cX0_init 46 = .ok (.putfield 28, 3) := by decide +kernel
theorem dX0_init_49 : decode cX0_init 49 = .ok (.aload_n 0, 1) := by decide +kernel
theorem dX0_init_50 : decode cX0_init 50 = .ok (.bipush 8, 2) := by decide +kernel
theorem dX0_init_52 : decode cX0_init 52 = .ok (.newarray .int, 2) := by decide +kernel
theorem dX0_init_54 : decode cX0_init 54 = .ok (.putfield 31, 3) := by decide +kernel
theorem dX0_init_57 : decode cX0_init 57 = .ok (.aload_n 0, 1) := by decide +kernel
theorem dX0_init_58 : decode cX0_init 58 = .ok (.bipush 8, 2) := by decide +kernel
theorem dX0_init_60 : decode cX0_init 60 = .ok (.newarray .int, 2) := by decide +kernel
theorem dX0_init_62 : decode cX0_init 62 = .ok (.putfield 34, 3) := by decide +kernel
theorem dX0_init_65 : decode cX0_init 65 = .ok (.aload_n 0, 1) := by decide +kernel
theorem dX0_init_66 : decode cX0_init 66 = .ok (.bipush 8, 2) := by decide +kernel
theorem dX0_init_68 : decode cX0_init 68 = .ok (.bipush 6, 2) := by decide +kernel
theorem dX0_init_70 : decode cX0_init 70 = .ok (.multianewarray 37 2, 4) := by decide +kernel
theorem dX0_init_74 : decode cX0_init 74 = .ok (.putfield 39, 3) := by decide +kernel
theorem dX0_init_77 : decode cX0_init 77 = .ok (.return_, 1) := by decide +kernel
theorem dX0_add_0 : decode cX0_add 0 = .ok (.aload_n 0, 1) := by decide +kernel
theorem dX0_add_1 : decode cX0_add 1 = .ok (.getfield 9, 3) := by decide +kernel
theorem dX0_add_4 : decode cX0_add 4 = .ok (.istore 5, 2) := by decide +kernel
theorem dX0_add_6 : decode cX0_add 6 = .ok (.iload 5, 2) := by decide +kernel
theorem dX0_add_8 : decode cX0_add 8 = .ok (.bipush 8, 2) := by decide +kernel
theorem dX0_add_10 : decode cX0_add 10 = .ok (.if_icmp .lt 5, 3) := by decide +kernel
theorem dX0_add_13 : decode cX0_add 13 = .ok (.iconst (-1), 1) := by decide +kernel
theorem dX0_add_14 : decode cX0_add 14 = .ok (.ireturn, 1) := by decide +kernel
theorem dX0_add_15 : decode cX0_add 15 = .ok (.aload_n 0, 1) := by decide +kernel
theorem dX0_add_16 : decode cX0_add 16 = .ok (.getfield 15, 3) := by decide +kernel
theorem dX0_add_19 : decode cX0_add 19 = .ok (.iload 5, 2) := by decide +kernel
theorem dX0_add_21 : decode cX0_add 21 = .ok (.iload_n 1, 1) := by decide +kernel
theorem dX0_add_22 : decode cX0_add 22 = .ok (.iastore, 1) := by decide +kernel
theorem dX0_add_23 : decode cX0_add 23 = .ok (.aload_n 0, 1) := by decide +kernel
theorem dX0_add_24 : decode cX0_add 24 = .ok (.getfield 19, 3) := by decide +kernel
theorem dX0_add_27 : decode cX0_add 27 = .ok (.iload 5, 2) := by decide +kernel
theorem dX0_add_29 : decode cX0_add 29 = .ok (.iload_n 2, 1) := by decide +kernel
theorem dX0_add_30 : decode cX0_add 30 = .ok (.iastore, 1) := by decide +kernel
theorem dX0_add_31 : decode cX0_add 31 = .ok (.aload_n 0, 1) := by decide +kernel
theorem dX0_add_32 : decode cX0_add 32 = .ok (.getfield 22, 3) := by decide +kernel
theorem dX0_add_35 : decode cX0_add 35 = .ok (.iload 5, 2) := by decide +kernel
theorem dX0_add_37 : decode cX0_add 37 = .ok (.iload_n 3, 1) := by decide +kernel
theorem dX0_add_38 : decode cX0_add 38 = .ok (.iastore, 1) := by decide +kernel
theorem dX0_add_39 : decode cX0_add 39 = .ok (.aload_n 0, 1) := by decide +kernel
theorem dX0_add_40 : decode cX0_add 40 = .ok (.getfield 25, 3) := by decide +kernel
theorem dX0_add_43 : decode cX0_add 43 = .ok (.iload 5, 2) := by decide +kernel
theorem dX0_add_45 : decode cX0_add 45 = .ok (.iload 4, 2) := by decide +kernel
theorem dX0_add_47 : decode cX0_add 47 = .ok (.iastore, 1) := by decide +kernel
theorem dX0_add_48 : decode cX0_add 48 = .ok (.aload_n 0, 1) := by decide +kernel
theorem dX0_add_49 : decode cX0_add 49 = .ok (.iload 5, 2) := by decide +kernel
theorem dX0_add_51 : decode cX0_add 51 = .ok (.iconst 1, 1) := by decide +kernel
theorem dX0_add_52 : decode cX0_add 52 = .ok (.iadd, 1) := by decide +kernel
theorem dX0_add_53 : decode cX0_add 53 = .ok (.putfield 9, 3) := by decide +kernel
theorem dX0_add_56 : decode cX0_add 56 = .ok (.iload 5, 2) := by decide +kernel
theorem dX0_add_58 : decode cX0_add 58 = .ok (.ireturn, 1) := by decide +kernel
theorem dX0_frighten_0 : decode cX0_frighten 0 = .ok (.aload_n 0, 1) := by decide +kernel
theorem dX0_frighten_1 : decode cX0_frighten 1 = .ok (.getfield 39, 3) := by decide +kernel
theorem dX0_frighten_4 : decode cX0_frighten 4 = .ok (.iload_n 1, 1) := by decide +kernel
theorem dX0_frighten_5 : decode cX0_frighten 5 = .ok (.aaload, 1) := by decide +kernel
theorem dX0_frighten_6 : decode cX0_frighten 6 = .ok (.iload_n 2, 1) := by decide +kernel
theorem dX0_frighten_7 : decode cX0_frighten 7 = .ok (.bipush 99, 2) := by decide +kernel
theorem dX0_frighten_9 : decode cX0_frighten 9 = .ok (.aload_n 0, 1) := by decide +kernel
theorem dX0_frighten_10 : decode cX0_frighten 10 = .ok (.getfield 39, 3) := by decide +kernel
theorem dX0_frighten_13 : decode cX0_frighten 13 = .ok (.iload_n 1, 1) := by decide +kernel
theorem dX0_frighten_14 : decode cX0_frighten 14 = .ok (.aaload, 1) := by decide +kernel
theorem dX0_frighten_15 : decode cX0_frighten 15 = .ok (.iload_n 2, 1) := by decide +kernel
theorem dX0_frighten_16 : decode cX0_frighten 16 = .ok (.iaload, 1) := by decide +kernel
theorem dX0_frighten_17 : decode cX0_frighten 17 = .ok (.iload_n 3, 1) := by decide +kernel
theorem dX0_frighten_18 : decode cX0_frighten 18 = .ok (.iadd, 1) := by decide +kernel
theorem dX0_frighten_19 : decode cX0_frighten 19 = .ok (.invokestatic 42, 3) := by decide +kernel
theorem dX0_frighten_22 : decode cX0_frighten 22 = .ok (.iastore, 1) := by decide +kernel
theorem dX0_frighten_23 : decode cX0_frighten 23 = .ok (.return_, 1) := by decide +kernel
theorem dX0_calm_0 : decode cX0_calm 0 = .ok (.iconst 0, 1) := by decide +kernel
theorem dX0_calm_1 : decode cX0_calm 1 = .ok (.istore_n 1, 1) := by decide +kernel
theorem dX0_calm_2 : decode cX0_calm 2 = .ok (.iload_n 1, 1) := by decide +kernel
theorem dX0_calm_3 : decode cX0_calm 3 = .ok (.aload_n 0, 1) := by decide +kernel
theorem dX0_calm_4 : decode cX0_calm 4 = .ok (.getfield 9, 3) := by decide +kernel
theorem dX0_calm_7 : decode cX0_calm 7 = .ok (.if_icmp .ge 46, 3) := by decide +kernel
theorem dX0_calm_10 : decode cX0_calm 10 = .ok (.iconst 0, 1) := by decide +kernel
theorem dX0_calm_11 : decode cX0_calm 11 = .ok (.istore_n 2, 1) := by decide +kernel
theorem dX0_calm_12 : decode cX0_calm 12 = .ok (.iload_n 2, 1) := by decide +kernel
theorem dX0_calm_13 : decode cX0_calm 13 = .ok (.bipush 6, 2) := by decide +kernel
theorem dX0_calm_15 : decode cX0_calm 15 = .ok (.if_icmp .ge 32, 3) := by decide +kernel
theorem dX0_calm_18 : decode cX0_calm 18 = .ok (.aload_n 0, 1) := by decide +kernel
theorem dX0_calm_19 : decode cX0_calm 19 = .ok (.getfield 39, 3) := by decide +kernel
theorem dX0_calm_22 : decode cX0_calm 22 = .ok (.iload_n 1, 1) := by decide +kernel
theorem dX0_calm_23 : decode cX0_calm 23 = .ok (.aaload, 1) := by decide +kernel
theorem dX0_calm_24 : decode cX0_calm 24 = .ok (.iload_n 2, 1) := by decide +kernel
theorem dX0_calm_25 : decode cX0_calm 25 = .ok (.iaload, 1) := by decide +kernel
theorem dX0_calm_26 : decode cX0_calm 26 = .ok (.ifCond .le 15, 3) := by decide +kernel
theorem dX0_calm_29 : decode cX0_calm 29 = .ok (.aload_n 0, 1) := by decide +kernel
theorem dX0_calm_30 : decode cX0_calm 30 = .ok (.getfield 39, 3) := by decide +kernel
theorem dX0_calm_33 : decode cX0_calm 33 = .ok (.iload_n 1, 1) := by decide +kernel
theorem dX0_calm_34 : decode cX0_calm 34 = .ok (.aaload, 1) := by decide +kernel
theorem dX0_calm_35 : decode cX0_calm 35 = .ok (.iload_n 2, 1) := by decide +kernel
theorem dX0_calm_36 : decode cX0_calm 36 = .ok (.dup2, 1) := by decide +kernel
theorem dX0_calm_37 : decode cX0_calm 37 = .ok (.iaload, 1) := by decide +kernel
theorem dX0_calm_38 : decode cX0_calm 38 = .ok (.iconst 1, 1) := by decide +kernel
theorem dX0_calm_39 : decode cX0_calm 39 = .ok (.isub, 1) := by decide +kernel
theorem dX0_calm_40 : decode cX0_calm 40 = .ok (.iastore, 1) := by decide +kernel
theorem dX0_calm_41 : decode cX0_calm 41 = .ok (.iinc 2 1, 3) := by decide +kernel
theorem dX0_calm_44 : decode cX0_calm 44 = .ok (.goto (-32), 3) := by decide +kernel
theorem dX0_calm_47 : decode cX0_calm 47 = .ok (.iinc 1 1, 3) := by decide +kernel
theorem dX0_calm_50 : decode cX0_calm 50 = .ok (.goto (-48), 3) := by decide +kernel
theorem dX0_calm_53 : decode cX0_calm 53 = .ok (.return_, 1) := by decide +kernel
theorem dX1_init_0 : decode cX1_init 0 = .ok (.aload_n 0, 1) := by decide +kernel
theorem dX1_init_1 : decode cX1_init 1 = .ok (.invokespecial 3, 3) := by decide +kernel
theorem dX1_init_4 : decode cX1_init 4 = .ok (.aload_n 0, 1) := by decide +kernel
theorem dX1_init_5 : decode cX1_init 5 = .ok (.bipush 6, 2) := by decide +kernel
theorem dX1_init_7 : decode cX1_init 7 = .ok (.newarray .int, 2) := by decide +kernel
theorem dX1_init_9 : decode cX1_init 9 = .ok (.putfield 9, 3) := by decide +kernel
theorem dX1_init_12 : decode cX1_init 12 = .ok (.aload_n 0, 1) := by decide +kernel
theorem dX1_init_13 : decode cX1_init 13 = .ok (.bipush 6, 2) := by decide +kernel
theorem dX1_init_15 : decode cX1_init 15 = .ok (.newarray .int, 2) := by decide +kernel
theorem dX1_init_17 : decode cX1_init 17 = .ok (.putfield 15, 3) := by decide +kernel
theorem dX1_init_20 : decode cX1_init 20 = .ok (.aload_n 0, 1) := by decide +kernel
theorem dX1_init_21 : decode cX1_init 21 = .ok (.bipush 6, 2) := by decide +kernel
theorem dX1_init_23 : decode cX1_init 23 = .ok (.newarray .int, 2) := by decide +kernel
theorem dX1_init_25 : decode cX1_init 25 = .ok (.putfield 18, 3) := by decide +kernel
theorem dX1_init_28 : decode cX1_init 28 = .ok (.aload_n 0, 1) := by decide +kernel
theorem dX1_init_29 : decode cX1_init 29 = .ok (.bipush 6, 2) := by decide +kernel
theorem dX1_init_31 : decode cX1_init 31 = .ok (.newarray .int, 2) := by decide +kernel
theorem dX1_init_33 : decode cX1_init 33 = .ok (.putfield 21, 3) := by decide +kernel
theorem dX1_init_36 : decode cX1_init 36 = .ok (.aload_n 0, 1) := by decide +kernel
theorem dX1_init_37 : decode cX1_init 37 = .ok (.bipush 6, 2) := by decide +kernel
theorem dX1_init_39 : decode cX1_init 39 = .ok (.newarray .int, 2) := by decide +kernel
theorem dX1_init_41 : decode cX1_init 41 = .ok (.putfield 24, 3) := by decide +kernel
theorem dX1_init_44 : decode cX1_init 44 = .ok (.aload_n 0, 1) := by decide +kernel
theorem dX1_init_45 : decode cX1_init 45 = .ok (.bipush 6, 2) := by decide +kernel
theorem dX1_init_47 : decode cX1_init 47 = .ok (.newarray .boolean, 2) := by decide +kernel
theorem dX1_init_49 : decode cX1_init 49 = .ok (.putfield 27, 3) := by decide +kernel
theorem dX1_init_52 : decode cX1_init 52 = .ok (.aload_n 0, 1) := by decide +kernel
theorem dX1_init_53 : decode cX1_init 53 = .ok (.bipush 6, 2) := by decide +kernel
theorem dX1_init_55 : decode cX1_init 55 = .ok (.newarray .int, 2) := by decide +kernel
theorem dX1_init_57 : decode cX1_init 57 = .ok (.putfield 31, 3) := by decide +kernel
theorem dX1_init_60 : decode cX1_init 60 = .ok (.iconst 0, 1) := by decide +kernel
theorem dX1_init_61 : decode cX1_init 61 = .ok (.istore_n 1, 1) := by decide +kernel
theorem dX1_init_62 : decode cX1_init 62 = .ok (.iload_n 1, 1) := by decide +kernel
theorem dX1_init_63 : decode cX1_init 63 = .ok (.bipush 6, 2) := by decide +kernel
theorem dX1_init_65 : decode cX1_init 65 = .ok (.if_icmp .ge 31, 3) := by decide +kernel
theorem dX1_init_68 : decode cX1_init 68 = .ok (.aload_n 0, 1) := by decide +kernel
theorem dX1_init_69 : decode cX1_init 69 = .ok (.getfield 9, 3) := by decide +kernel
theorem dX1_init_72 : decode cX1_init 72 = .ok (.iload_n 1, 1) := by decide +kernel
theorem dX1_init_73 : decode cX1_init 73 = .ok (.iconst 3, 1) := by decide +kernel
theorem dX1_init_74 : decode cX1_init 74 = .ok (.iastore, 1) := by decide +kernel
theorem dX1_init_75 : decode cX1_init 75 = .ok (.aload_n 0, 1) := by decide +kernel
theorem dX1_init_76 : decode cX1_init 76 = .ok (.getfield 15, 3) := by decide +kernel
theorem dX1_init_79 : decode cX1_init 79 = .ok (.iload_n 1, 1) := by decide +kernel
theorem dX1_init_80 : decode cX1_init 80 = .ok (.bipush 10, 2) := by decide +kernel
theorem dX1_init_82 : decode cX1_init 82 = .ok (.iastore, 1) := by decide +kernel
theorem dX1_init_83 : decode cX1_init 83 = .ok (.aload_n 0, 1) := by decide +kernel
theorem dX1_init_84 : decode cX1_init 84 = .ok (.getfield 18, 3) := by decide +kernel
theorem dX1_init_87 : decode cX1_init 87 = .ok (.iload_n 1, 1) := by decide +kernel
theorem dX1_init_88 : decode cX1_init 88 = .ok (.iconst (-1), 1) := by decide +kernel
theorem dX1_init_89 : decode cX1_init 89 = .ok (.iastore, 1) := by decide +kernel
theorem dX1_init_90 : decode cX1_init 90 = .ok (.iinc 1 1, 3) := by decide +kernel
theorem dX1_init_93 : decode cX1_init 93 = .ok (.goto (-31), 3) := by decide +kernel
theorem dX1_init_96 : decode cX1_init 96 = .ok (.return_, 1) := by decide +kernel
theorem dX1_sumOfShares_0 : decode cX1_sumOfShares 0 = .ok (.iconst 0, 1) := by decide +kernel
theorem dX1_sumOfShares_1 : decode cX1_sumOfShares 1 = .ok (.istore_n 1, 1) := by decide +kernel
theorem dX1_sumOfShares_2 : decode cX1_sumOfShares 2 = .ok (.iconst 0, 1) := by decide +kernel
theorem dX1_sumOfShares_3 : decode cX1_sumOfShares 3 = .ok (.istore_n 2, 1) := by decide +kernel
theorem dX1_sumOfShares_4 : decode cX1_sumOfShares 4 = .ok (.iload_n 2, 1) := by decide +kernel
theorem dX1_sumOfShares_5 : decode cX1_sumOfShares 5 = .ok (.bipush 6, 2) := by decide +kernel
theorem dX1_sumOfShares_7 : decode cX1_sumOfShares 7 = .ok (.if_icmp .ge 18, 3) := by decide +kernel
theorem dX1_sumOfShares_10 : decode cX1_sumOfShares 10 = .ok (.iload_n 1, 1) := by decide +kernel
theorem dX1_sumOfShares_11 : decode cX1_sumOfShares 11 = .ok (.aload_n 0, 1) := by decide +kernel
theorem dX1_sumOfShares_12 : decode cX1_sumOfShares 12 = .ok (.getfield 24, 3) := by decide +kernel
theorem dX1_sumOfShares_15 : decode cX1_sumOfShares 15 = .ok (.iload_n 2, 1) := by decide +kernel
theorem dX1_sumOfShares_16 : decode cX1_sumOfShares 16 = .ok (.iaload, 1) := by decide +kernel
theorem dX1_sumOfShares_17 : decode cX1_sumOfShares 17 = .ok (.iadd, 1) := by decide +kernel
theorem dX1_sumOfShares_18 : decode cX1_sumOfShares 18 = .ok (.istore_n 1, 1) := by decide +kernel
theorem dX1_sumOfShares_19 : decode cX1_sumOfShares 19 = .ok (.iinc 2 1, 3) := by decide +kernel
theorem dX1_sumOfShares_22 : decode cX1_sumOfShares 22 = .ok (.goto (-18), 3) := by decide +kernel
theorem dX1_sumOfShares_25 : decode cX1_sumOfShares 25 = .ok (.iload_n 1, 1) := by decide +kernel
theorem dX1_sumOfShares_26 : decode cX1_sumOfShares 26 = .ok (.ireturn, 1) := by decide +kernel
theorem dX1_coveOfShare_0 : decode cX1_coveOfShare 0 = .ok (.iconst 0, 1) := by decide +kernel
theorem dX1_coveOfShare_1 : decode cX1_coveOfShare 1 = .ok (.istore_n 2, 1) := by decide +kernel
theorem dX1_coveOfShare_2 : decode cX1_coveOfShare 2 = .ok (.iconst 0, 1) := by decide +kernel
theorem dX1_coveOfShare_3 : decode cX1_coveOfShare 3 = .ok (.istore_n 3, 1) := by decide +kernel
theorem dX1_coveOfShare_4 : decode cX1_coveOfShare 4 = .ok (.iload_n 3, 1) := by decide +kernel
theorem dX1_coveOfShare_5 : decode cX1_coveOfShare 5 = .ok (.bipush 6, 2) := by decide +kernel
theorem dX1_coveOfShare_7 : decode cX1_coveOfShare 7 = .ok (.if_icmp .ge 25, 3) := by decide +kernel
theorem dX1_coveOfShare_10 : decode cX1_coveOfShare 10 = .ok (.iload_n 2, 1) := by decide +kernel
theorem dX1_coveOfShare_11 : decode cX1_coveOfShare 11 = .ok (.aload_n 0, 1) := by decide +kernel
theorem dX1_coveOfShare_12 : decode cX1_coveOfShare 12 = .ok (.getfield 24, 3) := by decide +kernel
theorem dX1_coveOfShare_15 : decode cX1_coveOfShare 15 = .ok (.iload_n 3, 1) := by decide +kernel
theorem dX1_coveOfShare_16 : decode cX1_coveOfShare 16 = .ok (.iaload, 1) := by decide +kernel
theorem dX1_coveOfShare_17 : decode cX1_coveOfShare 17 = .ok (.iadd, 1) := by decide +kernel
theorem dX1_coveOfShare_18 : decode cX1_coveOfShare 18 = .ok (.istore_n 2, 1) := by decide +kernel
theorem dX1_coveOfShare_19 : decode cX1_coveOfShare 19 = .ok (.iload_n 2, 1) := by decide +kernel
theorem dX1_coveOfShare_20 : decode cX1_coveOfShare 20 = .ok (.iload_n 1, 1) := by decide +kernel
theorem dX1_coveOfShare_21 : decode cX1_coveOfShare 21 = .ok (.if_icmp .le 5, 3) := by decide +kernel
theorem dX1_coveOfShare_24 : decode cX1_coveOfShare 24 = .ok (.iload_n 3, 1) := by decide +kernel
theorem dX1_coveOfShare_25 : decode cX1_coveOfShare 25 = .ok (.ireturn, 1) := by decide +kernel
theorem dX1_coveOfShare_26 : decode cX1_coveOfShare 26 = .ok (.iinc 3 1, 3) := by decide +kernel
theorem dX1_coveOfShare_29 : decode cX1_coveOfShare 29 = .ok (.goto (-25), 3) := by decide +kernel
theorem dX1_coveOfShare_32 : decode cX1_coveOfShare 32 = .ok (.iconst 5, 1) := by decide +kernel
theorem dX1_coveOfShare_33 : decode cX1_coveOfShare 33 = .ok (.ireturn, 1) := by decide +kernel
theorem dX1_countingAt_0 : decode cX1_countingAt 0 = .ok (.aload_n 0, 1) := by decide +kernel
theorem dX1_countingAt_1 : decode cX1_countingAt 1 = .ok (.getfield 27, 3) := by decide +kernel
theorem dX1_countingAt_4 : decode cX1_countingAt 4 = .ok (.iload_n 1, 1) := by decide +kernel
theorem dX1_countingAt_5 : decode cX1_countingAt 5 = .ok (.baload, 1) := by decide +kernel
theorem dX1_countingAt_6 : decode cX1_countingAt 6 = .ok (.ifCond .eq 23, 3) := by decide +kernel
theorem dX1_countingAt_9 : decode cX1_countingAt 9 = .ok (.aload_n 0, 1) := by decide +kernel
theorem dX1_countingAt_10 : decode cX1_countingAt 10 = .ok (.getfield 31, 3) := by decide +kernel
theorem dX1_countingAt_13 : decode cX1_countingAt 13 = .ok (.iload_n 1, 1) := by decide +kernel
theorem dX1_countingAt_14 : decode cX1_countingAt 14 = .ok (.iaload, 1) := by decide +kernel
theorem dX1_countingAt_15 : decode cX1_countingAt 15 = .ok (.ifCond .le 14, 3) := by decide +kernel
theorem dX1_countingAt_18 : decode cX1_countingAt 18 = .ok (.aload_n 0, 1) := by decide +kernel
theorem dX1_countingAt_19 : decode cX1_countingAt 19 = .ok (.getfield 31, 3) := by decide +kernel
theorem dX1_countingAt_22 : decode cX1_countingAt 22 = .ok (.iload_n 1, 1) := by decide +kernel
theorem dX1_countingAt_23 : decode cX1_countingAt 23 = .ok (.iaload, 1) := by decide +kernel
theorem dX1_countingAt_24 : decode cX1_countingAt 24 = .ok (.iconst 1, 1) := by decide +kernel
theorem dX1_countingAt_25 : decode cX1_countingAt 25 = .ok (.isub, 1) := by decide +kernel
theorem dX1_countingAt_26 : decode cX1_countingAt 26 = .ok (.goto 9, 3) := by decide +kernel
theorem dX1_countingAt_29 : decode cX1_countingAt 29 = .ok (.aload_n 0, 1) := by decide +kernel
theorem dX1_countingAt_30 : decode cX1_countingAt 30 = .ok (.getfield 31, 3) := by decide +kernel
theorem dX1_countingAt_33 : decode cX1_countingAt 33 = .ok (.iload_n 1, 1) := by decide +kernel
theorem dX1_countingAt_34 : decode cX1_countingAt 34 = .ok (.iaload, 1) := by decide +kernel
theorem dX1_countingAt_35 : decode cX1_countingAt 35 = .ok (.ireturn, 1) := by decide +kernel
theorem dX2_init_0 : decode cX2_init 0 = .ok (.aload_n 0, 1) := by decide +kernel
theorem dX2_init_1 : decode cX2_init 1 = .ok (.invokespecial 3, 3) := by decide +kernel
theorem dX2_init_4 : decode cX2_init 4 = .ok (.aload_n 0, 1) := by decide +kernel
theorem dX2_init_5 : decode cX2_init 5 = .ok (.bipush 6, 2) := by decide +kernel
theorem dX2_init_7 : decode cX2_init 7 = .ok (.newarray .int, 2) := by decide +kernel
theorem dX2_init_9 : decode cX2_init 9 = .ok (.putfield 9, 3) := by decide +kernel
theorem dX2_init_12 : decode cX2_init 12 = .ok (.aload_n 0, 1) := by decide +kernel
theorem dX2_init_13 : decode cX2_init 13 = .ok (.lconst 0, 1) := by decide +kernel
theorem dX2_init_14 : decode cX2_init 14 = .ok (.putfield 15, 3) := by decide +kernel
theorem dX2_init_17 : decode cX2_init 17 = .ok (.aload_n 0, 1) := by decide +kernel
theorem dX2_init_18 : decode cX2_init 18 = .ok (.lconst 1, 1) := by decide +kernel
theorem dX2_init_19 : decode cX2_init 19 = .ok (.putfield 19, 3) := by decide +kernel
theorem dX2_init_22 : decode cX2_init 22 = .ok (.return_, 1) := by decide +kernel
set_option maxRecDepth 20000 in
theorem ggX2_solve_X2_sortDown : GoodIn wsX2_solve wsX2_sortDown := goodIn_r _ [8, 1, 9, 10, 11] (by decide +kernel) (by decide +kernel)
set_option maxRecDepth 20000 in
theorem gX2_solve_X2_sortDown : GoodIn wsX2_solve (wsV RX2 22 RX2 yX2_sortDown wsX2_sortDown) := goodIn_app (goodIn_of _ (by decide +kernel)) ggX2_solve_X2_sortDown
theorem dX2_solve_0 : decode cX2_solve 0 = .ok (.aload_n 0, 1) := by decide +kernel
theorem dX2_solve_1 : decode cX2_solve 1 = .ok (.aload_n 1, 1) := by decide +kernel
theorem dX2_solve_2 : decode cX2_solve 2 = .ok (.invokevirtual 22, 3) := by decide +kernel
theorem dX2_solve_5 : decode cX2_solve 5 = .ok (.lconst 1, 1) := by decide +kernel
theorem dX2_solve_6 : decode cX2_solve 6 = .ok (.lstore 4, 2) := by decide +kernel
theorem dX2_solve_8 : decode cX2_solve 8 = .ok (.lconst 0, 1) := by decide +kernel
theorem dX2_solve_9 : decode cX2_solve 9 = .ok (.lstore 6, 2) := by decide +kernel
theorem dX2_solve_11 : decode cX2_solve 11 = .ok (.lconst 0, 1) := by decide +kernel
theorem dX2_solve_12 : decode cX2_solve 12 = .ok (.lstore 8, 2) := by decide +kernel
theorem dX2_solve_14 : decode cX2_solve 14 = .ok (.iconst 0, 1) := by decide +kernel
theorem dX2_solve_15 : decode cX2_solve 15 = .ok (.istore 10, 2) := by decide +kernel
theorem dX2_solve_17 : decode cX2_solve 17 = .ok (.iload 10, 2) := by decide +kernel
theorem dX2_solve_19 : decode cX2_solve 19 = .ok (.bipush 6, 2) := by decide +kernel
theorem dX2_solve_21 : decode cX2_solve 21 = .ok (.if_icmp .ge 108, 3) := by decide +kernel
theorem dX2_solve_24 : decode cX2_solve 24 = .ok (.aload_n 0, 1) := by decide +kernel
theorem dX2_solve_25 : decode cX2_solve 25 = .ok (.getfield 9, 3) := by decide +kernel
theorem dX2_solve_28 : decode cX2_solve 28 = .ok (.iload 10, 2) := by decide +kernel
theorem dX2_solve_30 : decode cX2_solve 30 = .ok (.iaload, 1) := by decide +kernel
theorem dX2_solve_31 : decode cX2_solve 31 = .ok (.iload_n 3, 1) := by decide +kernel
theorem dX2_solve_32 : decode cX2_solve 32 = .ok (.iadd, 1) := by decide +kernel
theorem dX2_solve_33 : decode cX2_solve 33 = .ok (.i2l, 1) := by decide +kernel
theorem dX2_solve_34 : decode cX2_solve 34 = .ok (.lstore 11, 2) := by decide +kernel
theorem dX2_solve_36 : decode cX2_solve 36 = .ok (.lload 6, 2) := by decide +kernel
theorem dX2_solve_38 : decode cX2_solve 38 = .ok (.lload 11, 2) := by decide +kernel
theorem dX2_solve_40 : decode cX2_solve 40 = .ok (.lmul, 1) := by decide +kernel
theorem dX2_solve_41 : decode cX2_solve 41 = .ok (.aload_n 0, 1) := by decide +kernel
theorem dX2_solve_42 : decode cX2_solve 42 = .ok (.getfield 9, 3) := by decide +kernel
theorem dX2_solve_45 : decode cX2_solve 45 = .ok (.iload 10, 2) := by decide +kernel
theorem dX2_solve_47 : decode cX2_solve 47 = .ok (.iaload, 1) := by decide +kernel
theorem dX2_solve_48 : decode cX2_solve 48 = .ok (.i2l, 1) := by decide +kernel
theorem dX2_solve_49 : decode cX2_solve 49 = .ok (.lload 4, 2) := by decide +kernel
theorem dX2_solve_51 : decode cX2_solve 51 = .ok (.lmul, 1) := by decide +kernel
theorem dX2_solve_52 : decode cX2_solve 52 = .ok (.ladd, 1) := by decide +kernel
theorem dX2_solve_53 : decode cX2_solve 53 = .ok (.lstore 6, 2) := by decide +kernel
theorem dX2_solve_55 : decode cX2_solve 55 = .ok (.lload 8, 2) := by decide +kernel
theorem dX2_solve_57 : decode cX2_solve 57 = .ok (.lload 11, 2) := by decide +kernel
theorem dX2_solve_59 : decode cX2_solve 59 = .ok (.lmul, 1) := by decide +kernel
theorem dX2_solve_60 : decode cX2_solve 60 = .ok (.lload 4, 2) := by decide +kernel
theorem dX2_solve_62 : decode cX2_solve 62 = .ok (.ladd, 1) := by decide +kernel
theorem dX2_solve_63 : decode cX2_solve 63 = .ok (.lstore 8, 2) := by decide +kernel
theorem dX2_solve_65 : decode cX2_solve 65 = .ok (.lload 4, 2) := by decide +kernel
theorem dX2_solve_67 : decode cX2_solve 67 = .ok (.lload 11, 2) := by decide +kernel
theorem dX2_solve_69 : decode cX2_solve 69 = .ok (.lmul, 1) := by decide +kernel
theorem dX2_solve_70 : decode cX2_solve 70 = .ok (.lstore 4, 2) := by decide +kernel
theorem dX2_solve_72 : decode cX2_solve 72 = .ok (.aload_n 0, 1) := by decide +kernel
theorem dX2_solve_73 : decode cX2_solve 73 = .ok (.lload 6, 2) := by decide +kernel
theorem dX2_solve_75 : decode cX2_solve 75 = .ok (.iload_n 2, 1) := by decide +kernel
theorem dX2_solve_76 : decode cX2_solve 76 = .ok (.i2l, 1) := by decide +kernel
theorem dX2_solve_77 : decode cX2_solve 77 = .ok (.lload 4, 2) := by decide +kernel
theorem dX2_solve_79 : decode cX2_solve 79 = .ok (.lmul, 1) := by decide +kernel
theorem dX2_solve_80 : decode cX2_solve 80 = .ok (.lsub, 1) := by decide +kernel
theorem dX2_solve_81 : decode cX2_solve 81 = .ok (.putfield 15, 3) := by decide +kernel
theorem dX2_solve_84 : decode cX2_solve 84 = .ok (.aload_n 0, 1) := by decide +kernel
theorem dX2_solve_85 : decode cX2_solve 85 = .ok (.lload 8, 2) := by decide +kernel
theorem dX2_solve_87 : decode cX2_solve 87 = .ok (.putfield 19, 3) := by decide +kernel
theorem dX2_solve_90 : decode cX2_solve 90 = .ok (.iload 10, 2) := by decide +kernel
theorem dX2_solve_92 : decode cX2_solve 92 = .ok (.iconst 1, 1) := by decide +kernel
theorem dX2_solve_93 : decode cX2_solve 93 = .ok (.iadd, 1) := by decide +kernel
theorem dX2_solve_94 : decode cX2_solve 94 = .ok (.bipush 6, 2) := by decide +kernel
theorem dX2_solve_96 : decode cX2_solve 96 = .ok (.if_icmp .ge 27, 3) := by decide +kernel
theorem dX2_solve_99 : decode cX2_solve 99 = .ok (.aload_n 0, 1) := by decide +kernel
theorem dX2_solve_100 : decode cX2_solve 100 = .ok (.getfield 15, 3) := by decide +kernel
theorem dX2_solve_103 : decode cX2_solve 103 = .ok (.aload_n 0, 1) := by decide +kernel
theorem dX2_solve_104 : decode cX2_solve 104 = .ok (.getfield 9, 3) := by decide +kernel
theorem dX2_solve_107 : decode cX2_solve 107 = .ok (.iload 10, 2) := by decide +kernel
theorem dX2_solve_109 : decode cX2_solve 109 = .ok (.iconst 1, 1) := by decide +kernel
theorem dX2_solve_110 : decode cX2_solve 110 = .ok (.iadd, 1) := by decide +kernel
theorem dX2_solve_111 : decode cX2_solve 111 = .ok (.iaload, 1) := by decide +kernel
theorem dX2_solve_112 : decode cX2_solve 112 = .ok (.i2l, 1) := by decide +kernel
theorem dX2_solve_113 : decode cX2_solve 113 = .ok (.aload_n 0, 1) := by decide +kernel
theorem dX2_solve_114 : decode cX2_solve 114 = .ok (.getfield 19, 3) := by decide +kernel
theorem dX2_solve_117 : decode cX2_solve 117 = .ok (.lmul, 1) := by decide +kernel
theorem dX2_solve_118 : decode cX2_solve 118 = .ok (.lcmp, 1) := by decide +kernel
theorem dX2_solve_119 : decode cX2_solve 119 = .ok (.ifCond .lt 4, 3) := by decide +kernel
theorem dX2_solve_122 : decode cX2_solve 122 = .ok (.return_, 1) := by decide +kernel
theorem dX2_solve_123 : decode cX2_solve 123 = .ok (.iinc 10 1, 3) := by decide +kernel
theorem dX2_solve_126 : decode cX2_solve 126 = .ok (.goto (-109), 3) := by decide +kernel
theorem dX2_solve_129 : decode cX2_solve 129 = .ok (.return_, 1) := by decide +kernel
theorem dX2_sortDown_0 : decode cX2_sortDown 0 = .ok (.iconst 0, 1) := by decide +kernel
theorem dX2_sortDown_1 : decode cX2_sortDown 1 = .ok (.istore_n 2, 1) := by decide +kernel
theorem dX2_sortDown_2 : decode cX2_sortDown 2 = .ok (.iload_n 2, 1) := by decide +kernel
theorem dX2_sortDown_3 : decode cX2_sortDown 3 = .ok (.bipush 6, 2) := by decide +kernel
theorem dX2_sortDown_5 : decode cX2_sortDown 5 = .ok (.if_icmp .ge 70, 3) := by decide +kernel
theorem dX2_sortDown_8 : decode cX2_sortDown 8 = .ok (.iload_n 2, 1) := by decide +kernel
theorem dX2_sortDown_9 : decode cX2_sortDown 9 = .ok (.istore_n 3, 1) := by decide +kernel
theorem dX2_sortDown_10 : decode cX2_sortDown 10 = .ok (.iload_n 2, 1) := by decide +kernel
theorem dX2_sortDown_11 : decode cX2_sortDown 11 = .ok (.istore 4, 2) := by decide +kernel
theorem dX2_sortDown_13 : decode cX2_sortDown 13 = .ok (.iload 4, 2) := by decide +kernel
theorem dX2_sortDown_15 : decode cX2_sortDown 15 = .ok (.ifCond .le 45, 3) := by decide +kernel
theorem dX2_sortDown_18 : decode cX2_sortDown 18 = .ok (.aload_n 0, 1) := by decide +kernel
theorem dX2_sortDown_19 : decode cX2_sortDown 19 = .ok (.getfield 9, 3) := by decide +kernel
theorem dX2_sortDown_22 : decode cX2_sortDown 22 = .ok (.iload 4, 2) := by decide +kernel
theorem dX2_sortDown_24 : decode cX2_sortDown 24 = .ok (.iconst 1, 1) := by decide +kernel
theorem dX2_sortDown_25 : decode cX2_sortDown 25 = .ok (.isub, 1) := by decide +kernel
theorem dX2_sortDown_26 : decode cX2_sortDown 26 = .ok (.iaload, 1) := by decide +kernel
theorem dX2_sortDown_27 : decode cX2_sortDown 27 = .ok (.aload_n 1, 1) := by decide +kernel
theorem dX2_sortDown_28 : decode cX2_sortDown 28 = .ok (.iload_n 2, 1) := by decide +kernel
theorem dX2_sortDown_29 : decode cX2_sortDown 29 = .ok (.iaload, 1) := by decide +kernel
theorem dX2_sortDown_30 : decode cX2_sortDown 30 = .ok (.if_icmp .ge 30, 3) := by decide +kernel
theorem dX2_sortDown_33 : decode cX2_sortDown 33 = .ok (.aload_n 0, 1) := by decide +kernel
theorem dX2_sortDown_34 : decode cX2_sortDown 34 = .ok (.getfield 9, 3) := by decide +kernel
theorem dX2_sortDown_37 : decode cX2_sortDown 37 = .ok (.iload 4, 2) := by decide +kernel
theorem dX2_sortDown_39 : decode cX2_sortDown 39 = .ok (.aload_n 0, 1) := by decide +kernel
theorem dX2_sortDown_40 : decode cX2_sortDown 40 = .ok (.getfield 9, 3) := by decide +kernel
theorem dX2_sortDown_43 : decode cX2_sortDown 43 = .ok (.iload 4, 2) := by decide +kernel
theorem dX2_sortDown_45 : decode cX2_sortDown 45 = .ok (.iconst 1, 1) := by decide +kernel
theorem dX2_sortDown_46 : decode cX2_sortDown 46 = .ok (.isub, 1) := by decide +kernel
theorem dX2_sortDown_47 : decode cX2_sortDown 47 = .ok (.iaload, 1) := by decide +kernel
theorem dX2_sortDown_48 : decode cX2_sortDown 48 = .ok (.iastore, 1) := by decide +kernel
theorem dX2_sortDown_49 : decode cX2_sortDown 49 = .ok (.iload 4, 2) := by decide +kernel
theorem dX2_sortDown_51 : decode cX2_sortDown 51 = .ok (.iconst 1, 1) := by decide +kernel
theorem dX2_sortDown_52 : decode cX2_sortDown 52 = .ok (.isub, 1) := by decide +kernel
theorem dX2_sortDown_53 : decode cX2_sortDown 53 = .ok (.istore_n 3, 1) := by decide +kernel
theorem dX2_sortDown_54 : decode cX2_sortDown 54 = .ok (.iinc 4 (-1), 3) := by decide +kernel
theorem dX2_sortDown_57 : decode cX2_sortDown 57 = .ok (.goto (-44), 3) := by decide +kernel
theorem dX2_sortDown_60 : decode cX2_sortDown 60 = .ok (.aload_n 0, 1) := by decide +kernel
theorem dX2_sortDown_61 : decode cX2_sortDown 61 = .ok (.getfield 9, 3) := by decide +kernel
theorem dX2_sortDown_64 : decode cX2_sortDown 64 = .ok (.iload_n 3, 1) := by decide +kernel
theorem dX2_sortDown_65 : decode cX2_sortDown 65 = .ok (.aload_n 1, 1) := by decide +kernel
theorem dX2_sortDown_66 : decode cX2_sortDown 66 = .ok (.iload_n 2, 1) := by decide +kernel
theorem dX2_sortDown_67 : decode cX2_sortDown 67 = .ok (.iaload, 1) := by decide +kernel
theorem dX2_sortDown_68 : decode cX2_sortDown 68 = .ok (.iastore, 1) := by decide +kernel
theorem dX2_sortDown_69 : decode cX2_sortDown 69 = .ok (.iinc 2 1, 3) := by decide +kernel
theorem dX2_sortDown_72 : decode cX2_sortDown 72 = .ok (.goto (-70), 3) := by decide +kernel
theorem dX2_sortDown_75 : decode cX2_sortDown 75 = .ok (.return_, 1) := by decide +kernel
theorem dX3_init_0 : decode cX3_init 0 = .ok (.aload_n 0, 1) := by decide +kernel
theorem dX3_init_1 : decode cX3_init 1 = .ok (.invokespecial 5, 3) := by decide +kernel
theorem dX3_init_4 : decode cX3_init 4 = .ok (.aload_n 0, 1) := by decide +kernel
theorem dX3_init_5 : decode cX3_init 5 = .ok (.iconst 0, 1) := by decide +kernel
theorem dX3_init_6 : decode cX3_init 6 = .ok (.putfield 11, 3) := by decide +kernel
theorem dX3_init_9 : decode cX3_init 9 = .ok (.aload_n 0, 1) := by decide +kernel
theorem dX3_init_10 : decode cX3_init 10 = .ok (.bipush 12, 2) := by decide +kernel
theorem dX3_init_12 : decode cX3_init 12 = .ok (.newarray .int, 2) := by decide +kernel
theorem dX3_init_14 : decode cX3_init 14 = .ok (.putfield 15, 3) := by decide +kernel
theorem dX3_init_17 : decode cX3_init 17 = .ok (.aload_n 0, 1) := by decide +kernel
theorem dX3_init_18 : decode cX3_init 18 = .ok (.bipush 12, 2) := by decide +kernel
theorem dX3_init_20 : decode cX3_init 20 = .ok (.newarray .int, 2) := by decide +kernel
theorem dX3_init_22 : decode cX3_init 22 = .ok (.putfield 19, 3) := by decide +kernel
theorem dX3_init_25 : decode cX3_init 25 = .ok (.aload_n 0, 1) := by decide +kernel
theorem dX3_init_26 : decode cX3_init 26 = .ok (.bipush 12, 2) := by decide +kernel
theorem dX3_init_28 : decode cX3_init 28 = .ok (.newarray .int, 2) := by decide +kernel
theorem dX3_init_30 : decode cX3_init 30 = .ok (.putfield 22, 3) := by decide +kernel
theorem dX3_init_33 : decode cX3_init 33 = .ok (.aload_n 0, 1) := by decide +kernel
theorem dX3_init_34 : decode cX3_init 34 = .ok (.bipush 12, 2) := by decide +kernel
theorem dX3_init_36 : decode cX3_init 36 = .ok (.newarray .int, 2) := by decide +kernel
theorem dX3_init_38 : decode cX3_init 38 = .ok (.putfield 25, 3) := by decide +kernel
theorem dX3_init_41 : decode cX3_init 41 = .ok (.aload_n 0, 1) := by decide +kernel
theorem dX3_init_42 : decode cX3_init 42 = .ok (.bipush 12, 2) := by decide +kernel
theorem dX3_init_44 : decode cX3_init 44 = .ok (.newarray .int, 2) := by decide +kernel
theorem dX3_init_46 : decode cX3_init 46 = .ok (.putfield 28, 3) := by decide +kernel
theorem dX3_init_49 : decode cX3_init 49 = .ok (.aload_n 0, 1) := by decide +kernel
theorem dX3_init_50 : decode cX3_init 50 = .ok (.bipush 101, 2) := by decide +kernel
theorem dX3_init_52 : decode cX3_init 52 = .ok (.newarray .long, 2) := by decide +kernel
theorem dX3_init_54 : decode cX3_init 54 = .ok (.putfield 31, 3) := by decide +kernel
theorem dX3_init_57 : decode cX3_init 57 = .ok (.return_, 1) := by decide +kernel
theorem dX3_add_0 : decode cX3_add 0 = .ok (.aload_n 0, 1) := by decide +kernel
theorem dX3_add_1 : decode cX3_add 1 = .ok (.getfield 11, 3) := by decide +kernel
theorem dX3_add_4 : decode cX3_add 4 = .ok (.istore 4, 2) := by decide +kernel
theorem dX3_add_6 : decode cX3_add 6 = .ok (.iload 4, 2) := by decide +kernel
theorem dX3_add_8 : decode cX3_add 8 = .ok (.bipush 12, 2) := by decide +kernel
theorem dX3_add_10 : decode cX3_add 10 = .ok (.if_icmp .lt 5, 3) := by decide +kernel
theorem dX3_add_13 : decode cX3_add 13 = .ok (.iconst (-1), 1) := by decide +kernel
theorem dX3_add_14 : decode cX3_add 14 = .ok (.ireturn, 1) := by decide +kernel
theorem dX3_add_15 : decode cX3_add 15 = .ok (.aload_n 0, 1) := by decide +kernel
theorem dX3_add_16 : decode cX3_add 16 = .ok (.getfield 15, 3) := by decide +kernel
theorem dX3_add_19 : decode cX3_add 19 = .ok (.iload 4, 2) := by decide +kernel
theorem dX3_add_21 : decode cX3_add 21 = .ok (.iload_n 1, 1) := by decide +kernel
theorem dX3_add_22 : decode cX3_add 22 = .ok (.iastore, 1) := by decide +kernel
theorem dX3_add_23 : decode cX3_add 23 = .ok (.aload_n 0, 1) := by decide +kernel
theorem dX3_add_24 : decode cX3_add 24 = .ok (.getfield 19, 3) := by decide +kernel
theorem dX3_add_27 : decode cX3_add 27 = .ok (.iload 4, 2) := by decide +kernel
theorem dX3_add_29 : decode cX3_add 29 = .ok (.iload_n 2, 1) := by decide +kernel
theorem dX3_add_30 : decode cX3_add 30 = .ok (.iastore, 1) := by decide +kernel
theorem dX3_add_31 : decode cX3_add 31 = .ok (.aload_n 0, 1) := by decide +kernel
theorem dX3_add_32 : decode cX3_add 32 = .ok (.getfield 22, 3) := by decide +kernel
theorem dX3_add_35 : decode cX3_add 35 = .ok (.iload 4, 2) := by decide +kernel
theorem dX3_add_37 : decode cX3_add 37 = .ok (.iload_n 3, 1) := by decide +kernel
theorem dX3_add_38 : decode cX3_add 38 = .ok (.iastore, 1) := by decide +kernel
theorem dX3_add_39 : decode cX3_add 39 = .ok (.aload_n 0, 1) := by decide +kernel
theorem dX3_add_40 : decode cX3_add 40 = .ok (.iload 4, 2) := by decide +kernel
theorem dX3_add_42 : decode cX3_add 42 = .ok (.iconst 1, 1) := by decide +kernel
theorem dX3_add_43 : decode cX3_add 43 = .ok (.iadd, 1) := by decide +kernel
theorem dX3_add_44 : decode cX3_add 44 = .ok (.putfield 11, 3) := by decide +kernel
theorem dX3_add_47 : decode cX3_add 47 = .ok (.iload 4, 2) := by decide +kernel
theorem dX3_add_49 : decode cX3_add 49 = .ok (.ireturn, 1) := by decide +kernel
theorem dX3_firstWithRoom_0 : decode cX3_firstWithRoom 0 = .ok (.iconst 0, 1) := by decide +kernel
theorem dX3_firstWithRoom_1 : decode cX3_firstWithRoom 1 = .ok (.istore_n 3, 1) := by decide +kernel
theorem dX3_firstWithRoom_2 : decode cX3_firstWithRoom 2 = .ok (.iload_n 3, 1) := by decide +kernel
theorem dX3_firstWithRoom_3 : decode cX3_firstWithRoom 3 = .ok (.aload_n 0, 1) := by decide +kernel
theorem dX3_firstWithRoom_4 : decode cX3_firstWithRoom 4 = .ok (.getfield 11, 3) := by decide +kernel
theorem dX3_firstWithRoom_7 : decode cX3_firstWithRoom 7 = .ok (.if_icmp .ge 38, 3) := by decide +kernel
theorem dX3_firstWithRoom_10 : decode cX3_firstWithRoom 10 = .ok (.aload_n 0, 1) := by decide +kernel
theorem dX3_firstWithRoom_11 : decode cX3_firstWithRoom 11 = .ok (.getfield 15, 3) := by decide +kernel
theorem dX3_firstWithRoom_14 : decode cX3_firstWithRoom 14 = .ok (.iload_n 3, 1) := by decide +kernel
theorem dX3_firstWithRoom_15 : decode cX3_firstWithRoom 15 = .ok (.iaload, 1) := by decide +kernel
theorem dX3_firstWithRoom_16 : decode cX3_firstWithRoom 16 = .ok (.iload_n 1, 1) := by decide +kernel
theorem dX3_firstWithRoom_17 : decode cX3_firstWithRoom 17 = .ok (.if_icmp .ne 22, 3) := by decide +kernel
theorem dX3_firstWithRoom_20 : decode cX3_firstWithRoom 20 = .ok (.iload_n 2, 1) := by decide +kernel
theorem dX3_firstWithRoom_21 : decode cX3_firstWithRoom 21 = .ok (.aload_n 0, 1) := by decide +kernel
theorem dX3_firstWithRoom_22 : decode cX3_firstWithRoom 22 = .ok (.getfield 19, 3) := by decide +kernel
theorem dX3_firstWithRoom_25 : decode cX3_firstWithRoom 25 = .ok (.iload_n 3, 1) := by decide +kernel
theorem dX3_firstWithRoom_26 : decode cX3_firstWithRoom 26 = .ok (.iaload, 1) := by decide +kernel
theorem dX3_firstWithRoom_27 : decode cX3_firstWithRoom 27 = .ok (.aload_n 0, 1) := by decide +kernel
theorem dX3_firstWithRoom_28 : decode cX3_firstWithRoom 28 = .ok (.getfield 28, 3) := by decide +kernel
theorem dX3_firstWithRoom_31 : decode cX3_firstWithRoom 31 = .ok (.iload_n 3, 1) := by decide +kernel
theorem dX3_firstWithRoom_32 : decode cX3_firstWithRoom 32 = .ok (.iaload, 1) := by decide +kernel
theorem dX3_firstWithRoom_33 : decode cX3_firstWithRoom 33 = .ok (.isub, 1) := by decide +kernel
theorem dX3_firstWithRoom_34 : decode cX3_firstWithRoom 34 = .ok (.if_icmp .gt 5, 3) := by decide +kernel
theorem dX3_firstWithRoom_37 : decode cX3_firstWithRoom 37 = .ok (.iload_n 3, 1) := by decide +kernel
theorem dX3_firstWithRoom_38 : decode cX3_firstWithRoom 38 = .ok (.ireturn, 1) := by decide +kernel
theorem dX3_firstWithRoom_39 : decode cX3_firstWithRoom 39 = .ok (.iinc 3 1, 3) := by decide +kernel
theorem dX3_firstWithRoom_42 : decode cX3_firstWithRoom 42 = .ok (.goto (-40), 3) := by decide +kernel
theorem dX3_firstWithRoom_45 : decode cX3_firstWithRoom 45 = .ok (.iconst (-1), 1) := by decide +kernel
theorem dX3_firstWithRoom_46 : decode cX3_firstWithRoom 46 = .ok (.ireturn, 1) := by decide +kernel
theorem dX3_suspect_0 : decode cX3_suspect 0 = .ok (.iconst 0, 1) := by decide +kernel
theorem dX3_suspect_1 : decode cX3_suspect 1 = .ok (.istore_n 2, 1) := by decide +kernel
theorem dX3_suspect_2 : decode cX3_suspect 2 = .ok (.iload_n 2, 1) := by decide +kernel
theorem dX3_suspect_3 : decode cX3_suspect 3 = .ok (.aload_n 0, 1) := by decide +kernel
theorem dX3_suspect_4 : decode cX3_suspect 4 = .ok (.getfield 11, 3) := by decide +kernel
theorem dX3_suspect_7 : decode cX3_suspect 7 = .ok (.if_icmp .ge 40, 3) := by decide +kernel
theorem dX3_suspect_10 : decode cX3_suspect 10 = .ok (.aload_n 0, 1) := by decide +kernel
theorem dX3_suspect_11 : decode cX3_suspect 11 = .ok (.getfield 15, 3) := by decide +kernel
theorem dX3_suspect_14 : decode cX3_suspect 14 = .ok (.iload_n 2, 1) := by decide +kernel
theorem dX3_suspect_15 : decode cX3_suspect 15 = .ok (.iaload, 1) := by decide +kernel
theorem dX3_suspect_16 : decode cX3_suspect 16 = .ok (.iload_n 1, 1) := by decide +kernel
theorem dX3_suspect_17 : decode cX3_suspect 17 = .ok (.if_icmp .ne 24, 3) := by decide +kernel
theorem dX3_suspect_20 : decode cX3_suspect 20 = .ok (.aload_n 0, 1) := by decide +kernel
theorem dX3_suspect_21 : decode cX3_suspect 21 = .ok (.getfield 25, 3) := by decide +kernel
theorem dX3_suspect_24 : decode cX3_suspect 24 = .ok (.iload_n 2, 1) := by decide +kernel
theorem dX3_suspect_25 : decode cX3_suspect 25 = .ok (.sipush 999, 3) := by decide +kernel
theorem dX3_suspect_28 : decode cX3_suspect 28 = .ok (.aload_n 0, 1) := by decide +kernel
theorem dX3_suspect_29 : decode cX3_suspect 29 = .ok (.getfield 25, 3) := by decide +kernel
theorem dX3_suspect_32 : decode cX3_suspect 32 = .ok (.iload_n 2, 1) := by decide +kernel
theorem dX3_suspect_33 : decode cX3_suspect 33 = .ok (.iaload, 1) := by decide +kernel
theorem dX3_suspect_34 : decode cX3_suspect 34 = .ok (.bipush 10, 2) := by decide +kernel
theorem dX3_suspect_36 : decode cX3_suspect 36 = .ok (.iadd, 1) := by decide +kernel
theorem dX3_suspect_37 : decode cX3_suspect 37 = .ok (.invokestatic 35, 3) := by decide +kernel
theorem dX3_suspect_40 : decode cX3_suspect 40 = .ok (.iastore, 1) := by decide +kernel
theorem dX3_suspect_41 : decode cX3_suspect 41 = .ok (.iinc 2 1, 3) := by decide +kernel
theorem dX3_suspect_44 : decode cX3_suspect 44 = .ok (.goto (-42), 3) := by decide +kernel
theorem dX3_suspect_47 : decode cX3_suspect 47 = .ok (.return_, 1) := by decide +kernel
theorem dX3_bestSet_0 : decode cX3_bestSet 0 = .ok (.iload_n 1, 1) := by decide +kernel
theorem dX3_bestSet_1 : decode cX3_bestSet 1 = .ok (.bipush 100, 2) := by decide +kernel
theorem dX3_bestSet_3 : decode cX3_bestSet 3 = .ok (.invokestatic 35, 3) := by decide +kernel
theorem dX3_bestSet_6 : decode cX3_bestSet 6 = .ok (.istore_n 2, 1) := by decide +kernel
theorem dX3_bestSet_7 : decode cX3_bestSet 7 = .ok (.iconst 0, 1) := by decide +kernel
theorem dX3_bestSet_8 : decode cX3_bestSet 8 = .ok (.istore_n 3, 1) := by decide +kernel
theorem dX3_bestSet_9 : decode cX3_bestSet 9 = .ok (.iload_n 3, 1) := by decide +kernel
theorem dX3_bestSet_10 : decode cX3_bestSet 10 = .ok (.iload_n 2, 1) := by decide +kernel
theorem dX3_bestSet_11 : decode cX3_bestSet 11 = .ok (.if_icmp .gt 16, 3) := by decide +kernel
theorem dX3_bestSet_14 : decode cX3_bestSet 14 = .ok (.aload_n 0, 1) := by decide +kernel
theorem dX3_bestSet_15 : decode cX3_bestSet 15 = .ok (.getfield 31, 3) := by decide +kernel
theorem dX3_bestSet_18 : decode cX3_bestSet 18 = .ok (.iload_n 3, 1) := by decide +kernel
theorem dX3_bestSet_19 : decode cX3_bestSet 19 = .ok (.lconst 0, 1) := by decide +kernel
theorem dX3_bestSet_20 : decode cX3_bestSet 20 = .ok (.lastore, 1) := by decide +kernel
theorem dX3_bestSet_21 : decode cX3_bestSet 21 = .ok (.iinc 3 1, 3) := by decide +kernel
theorem dX3_bestSet_24 : decode cX3_bestSet 24 = .ok (.goto (-15), 3) := by decide +kernel
theorem dX3_bestSet_27 : decode cX3_bestSet 27 = .ok (.iconst 0, 1) := by decide +kernel
theorem dX3_bestSet_28 : decode cX3_bestSet 28 = .ok (.istore_n 3, 1) := by decide +kernel
theorem dX3_bestSet_29 : decode cX3_bestSet 29 = .ok (.iload_n 3, 1) := by decide +kernel
theorem dX3_bestSet_30 : decode cX3_bestSet 30 = .ok (.aload_n 0, 1) := by decide +kernel
theorem dX3_bestSet_31 : decode cX3_bestSet 31 = .ok (.getfield 11, 3) := by decide +kernel
theorem dX3_bestSet_34 : decode cX3_bestSet 34 = .ok (.if_icmp .ge 83, 3) := by decide +kernel
theorem dX3_bestSet_37 : decode cX3_bestSet 37 = .ok (.aload_n 0, 1) := by decide +kernel
theorem dX3_bestSet_38 : decode cX3_bestSet 38 = .ok (.getfield 25, 3) := by decide +kernel
theorem dX3_bestSet_41 : decode cX3_bestSet 41 = .ok (.iload_n 3, 1) := by decide +kernel
theorem dX3_bestSet_42 : decode cX3_bestSet 42 = .ok (.iaload, 1) := by decide +kernel
theorem dX3_bestSet_43 : decode cX3_bestSet 43 = .ok (.i2l, 1) := by decide +kernel
theorem dX3_bestSet_44 : decode cX3_bestSet 44 = .ok (.bipush 20, 2) := by decide +kernel
theorem dX3_bestSet_46 : decode cX3_bestSet 46 = .ok (.lshl, 1) := by decide +kernel
theorem dX3_bestSet_47 : decode cX3_bestSet 47 = .ok (.ldc2_w 41, 3) := by decide +kernel
theorem dX3_bestSet_50 : decode cX3_bestSet 50 = .ok (.lsub, 1) := by decide +kernel
theorem dX3_bestSet_51 : decode cX3_bestSet 51 = .ok (.lconst 1, 1) := by decide +kernel
theorem dX3_bestSet_52 : decode cX3_bestSet 52 = .ok (.iload_n 3, 1) := by decide +kernel
theorem dX3_bestSet_53 : decode cX3_bestSet 53 = .ok (.lshl, 1) := by decide +kernel
theorem dX3_bestSet_54 : decode cX3_bestSet 54 = .ok (.lsub, 1) := by decide +kernel
theorem dX3_bestSet_55 : decode cX3_bestSet 55 = .ok (.lstore 4, 2) := by decide +kernel
theorem dX3_bestSet_57 : decode cX3_bestSet 57 = .ok (.iload_n 2, 1) := by decide +kernel
theorem dX3_bestSet_58 : decode cX3_bestSet 58 = .ok (.istore 6, 2) := by decide +kernel
theorem dX3_bestSet_60 : decode cX3_bestSet 60 = .ok (.iload 6, 2) := by decide +kernel
theorem dX3_bestSet_62 : decode cX3_bestSet 62 = .ok (.aload_n 0, 1) := by decide +kernel
theorem dX3_bestSet_63 : decode cX3_bestSet 63 = .ok (.getfield 22, 3) := by decide +kernel
theorem dX3_bestSet_66 : decode cX3_bestSet 66 = .ok (.iload_n 3, 1) := by decide +kernel
theorem dX3_bestSet_67 : decode cX3_bestSet 67 = .ok (.iaload, 1) := by decide +kernel
theorem dX3_bestSet_68 : decode cX3_bestSet 68 = .ok (.if_icmp .lt 43, 3) := by decide +kernel
theorem dX3_bestSet_71 : decode cX3_bestSet 71 = .ok (.aload_n 0, 1) := by decide +kernel
theorem dX3_bestSet_72 : decode cX3_bestSet 72 = .ok (.getfield 31, 3) := by decide +kernel
theorem dX3_bestSet_75 : decode cX3_bestSet 75 = .ok (.iload 6, 2) := by decide +kernel
theorem dX3_bestSet_77 : decode cX3_bestSet 77 = .ok (.aload_n 0, 1) := by decide +kernel
theorem dX3_bestSet_78 : decode cX3_bestSet 78 = .ok (.getfield 31, 3) := by decide +kernel
theorem dX3_bestSet_81 : decode cX3_bestSet 81 = .ok (.iload 6, 2) := by decide +kernel
theorem dX3_bestSet_83 : decode cX3_bestSet 83 = .ok (.laload, 1) := by decide +kernel
theorem dX3_bestSet_84 : decode cX3_bestSet 84 = .ok (.aload_n 0, 1) := by decide +kernel
theorem dX3_bestSet_85 : decode cX3_bestSet 85 = .ok (.getfield 31, 3) := by decide +kernel
theorem dX3_bestSet_88 : decode cX3_bestSet 88 = .ok (.iload 6, 2) := by decide +kernel
theorem dX3_bestSet_90 : decode cX3_bestSet 90 = .ok (.aload_n 0, 1) := by decide +kernel
theorem dX3_bestSet_91 : decode cX3_bestSet 91 = .ok (.getfield 22, 3) := by decide +kernel
theorem dX3_bestSet_94 : decode cX3_bestSet 94 = .ok (.iload_n 3, 1) := by decide +kernel
theorem dX3_bestSet_95 : decode cX3_bestSet 95 = .ok (.iaload, 1) := by decide +kernel
theorem dX3_bestSet_96 : decode cX3_bestSet 96 = .ok (.isub, 1) := by decide +kernel
theorem dX3_bestSet_97 : decode cX3_bestSet 97 = .ok (.laload, 1) := by decide +kernel
theorem dX3_bestSet_98 : decode cX3_bestSet 98 = .ok (.lload 4, 2) := by decide +kernel
theorem dX3_bestSet_100 : decode cX3_bestSet 100 = .ok (.ladd, 1) := by decide +kernel
theorem dX3_bestSet_101 : decode cX3_bestSet 101 = .ok (.invokestatic 43, 3) := by decide +kernel
theorem dX3_bestSet_104 : decode cX3_bestSet 104 = .ok (.lastore, 1) := by decide +kernel
theorem dX3_bestSet_105 : decode cX3_bestSet 105 = .ok (.iinc 6 (-1), 3) := by decide +kernel
theorem dX3_bestSet_108 : decode cX3_bestSet 108 = .ok (.goto (-48), 3) := by decide +kernel
theorem dX3_bestSet_111 : decode cX3_bestSet 111 = .ok (.iinc 3 1, 3) := by decide +kernel
theorem dX3_bestSet_114 : decode cX3_bestSet 114 = .ok (.goto (-85), 3) := by decide +kernel
theorem dX3_bestSet_117 : decode cX3_bestSet 117 = .ok (.iload_n 2, 1) := by decide +kernel
theorem dX3_bestSet_118 : decode cX3_bestSet 118 = .ok (.ifCond .ge 7, 3) := by decide +kernel
theorem dX3_bestSet_121 : decode cX3_bestSet 121 = .ok (.iconst 0, 1) := by decide +kernel
theorem dX3_bestSet_122 : decode cX3_bestSet 122 = .ok (.goto 15, 3) := by decide +kernel
theorem dX3_bestSet_125 : decode cX3_bestSet 125 = .ok (.aload_n 0, 1) := by decide +kernel
theorem dX3_bestSet_126 : decode cX3_bestSet 126 = .ok (.getfield 31, 3) := by decide +kernel
theorem dX3_bestSet_129 : decode cX3_bestSet 129 = .ok (.iload_n 2, 1) := by decide +kernel
theorem dX3_bestSet_130 : decode cX3_bestSet 130 = .ok (.laload, 1) := by decide +kernel
theorem dX3_bestSet_131 : decode cX3_bestSet 131 = .ok (.lneg, 1) := by decide +kernel
theorem dX3_bestSet_132 : decode cX3_bestSet 132 = .ok (.ldc2_w 47, 3) := by decide +kernel
theorem dX3_bestSet_135 : decode cX3_bestSet 135 = .ok (.land, 1) := by decide +kernel
theorem dX3_bestSet_136 : decode cX3_bestSet 136 = .ok (.l2i, 1) := by decide +kernel
theorem dX3_bestSet_137 : decode cX3_bestSet 137 = .ok (.ireturn, 1) := by decide +kernel
theorem dX4_init_0 : decode cX4_init 0 = .ok (.aload_n 0, 1) := by decide +kernel
theorem dX4_init_1 : decode cX4_init 1 = .ok (.invokespecial 3, 3) := by decide +kernel
theorem dX4_init_4 : decode cX4_init 4 = .ok (.aload_n 0, 1) := by decide +kernel
theorem dX4_init_5 : decode cX4_init 5 = .ok (.iconst 0, 1) := by decide +kernel
theorem dX4_init_6 : decode cX4_init 6 = .ok (.putfield 9, 3) := by decide +kernel
theorem dX4_init_9 : decode cX4_init 9 = .ok (.aload_n 0, 1) := by decide +kernel
theorem dX4_init_10 : decode cX4_init 10 = .ok (.bipush 20, 2) := by decide +kernel
theorem dX4_init_12 : decode cX4_init 12 = .ok (.newarray .int, 2) := by decide +kernel
theorem dX4_init_14 : decode cX4_init 14 = .ok (.putfield 15, 3) := by decide +kernel
theorem dX4_init_17 : decode cX4_init 17 = .ok (.aload_n 0, 1) := by decide +kernel
theorem dX4_init_18 : decode cX4_init 18 = .ok (.bipush 20, 2) := by decide +kernel
theorem dX4_init_20 : decode cX4_init 20 = .ok (.newarray .int, 2) := by decide +kernel
theorem dX4_init_22 : decode cX4_init 22 = .ok (.putfield 19, 3) := by decide +kernel
theorem dX4_init_25 : decode cX4_init 25 = .ok (.aload_n 0, 1) := by decide +kernel
theorem dX4_init_26 : decode cX4_init 26 = .ok (.bipush 20, 2) := by decide +kernel
theorem dX4_init_28 : decode cX4_init 28 = .ok (.newarray .int, 2) := by decide +kernel
theorem dX4_init_30 : decode cX4_init 30 = .ok (.putfield 22, 3) := by decide +kernel
theorem dX4_init_33 : decode cX4_init 33 = .ok (.return_, 1) := by decide +kernel
theorem dX4_add_0 : decode cX4_add 0 = .ok (.aload_n 0, 1) := by decide +kernel
theorem dX4_add_1 : decode cX4_add 1 = .ok (.getfield 9, 3) := by decide +kernel
theorem dX4_add_4 : decode cX4_add 4 = .ok (.istore 4, 2) := by decide +kernel
theorem dX4_add_6 : decode cX4_add 6 = .ok (.iload 4, 2) := by decide +kernel
theorem dX4_add_8 : decode cX4_add 8 = .ok (.bipush 20, 2) := by decide +kernel
theorem dX4_add_10 : decode cX4_add 10 = .ok (.if_icmp .lt 5, 3) := by decide +kernel
theorem dX4_add_13 : decode cX4_add 13 = .ok (.iconst (-1), 1) := by decide +kernel
theorem dX4_add_14 : decode cX4_add 14 = .ok (.ireturn, 1) := by decide +kernel
theorem dX4_add_15 : decode cX4_add 15 = .ok (.aload_n 0, 1) := by decide +kernel
theorem dX4_add_16 : decode cX4_add 16 = .ok (.getfield 15, 3) := by decide +kernel
theorem dX4_add_19 : decode cX4_add 19 = .ok (.iload 4, 2) := by decide +kernel
theorem dX4_add_21 : decode cX4_add 21 = .ok (.iload_n 1, 1) := by decide +kernel
theorem dX4_add_22 : decode cX4_add 22 = .ok (.iastore, 1) := by decide +kernel
theorem dX4_add_23 : decode cX4_add 23 = .ok (.aload_n 0, 1) := by decide +kernel
theorem dX4_add_24 : decode cX4_add 24 = .ok (.getfield 19, 3) := by decide +kernel
theorem dX4_add_27 : decode cX4_add 27 = .ok (.iload 4, 2) := by decide +kernel
theorem dX4_add_29 : decode cX4_add 29 = .ok (.iload_n 2, 1) := by decide +kernel
theorem dX4_add_30 : decode cX4_add 30 = .ok (.iastore, 1) := by decide +kernel
theorem dX4_add_31 : decode cX4_add 31 = .ok (.aload_n 0, 1) := by decide +kernel
theorem dX4_add_32 : decode cX4_add 32 = .ok (.getfield 22, 3) := by decide +kernel
theorem dX4_add_35 : decode cX4_add 35 = .ok (.iload 4, 2) := by decide +kernel
theorem dX4_add_37 : decode cX4_add 37 = .ok (.iload_n 3, 1) := by decide +kernel
theorem dX4_add_38 : decode cX4_add 38 = .ok (.iastore, 1) := by decide +kernel
theorem dX4_add_39 : decode cX4_add 39 = .ok (.aload_n 0, 1) := by decide +kernel
theorem dX4_add_40 : decode cX4_add 40 = .ok (.iload 4, 2) := by decide +kernel
theorem dX4_add_42 : decode cX4_add 42 = .ok (.iconst 1, 1) := by decide +kernel
theorem dX4_add_43 : decode cX4_add 43 = .ok (.iadd, 1) := by decide +kernel
theorem dX4_add_44 : decode cX4_add 44 = .ok (.putfield 9, 3) := by decide +kernel
theorem dX4_add_47 : decode cX4_add 47 = .ok (.iload 4, 2) := by decide +kernel
theorem dX4_add_49 : decode cX4_add 49 = .ok (.ireturn, 1) := by decide +kernel
theorem dX4_inForceOn_0 : decode cX4_inForceOn 0 = .ok (.iconst (-1), 1) := by decide +kernel
theorem dX4_inForceOn_1 : decode cX4_inForceOn 1 = .ok (.istore_n 2, 1) := by decide +kernel
theorem dX4_inForceOn_2 : decode cX4_inForceOn 2 = .ok (.iconst 0, 1) := by decide +kernel
theorem dX4_inForceOn_3 : decode cX4_inForceOn 3 = .ok (.istore_n 3, 1) := by decide +kernel
theorem dX4_inForceOn_4 : decode cX4_inForceOn 4 = .ok (.iload_n 3, 1) := by decide +kernel
theorem dX4_inForceOn_5 : decode cX4_inForceOn 5 = .ok (.aload_n 0, 1) := by decide +kernel
theorem dX4_inForceOn_6 : decode cX4_inForceOn 6 = .ok (.getfield 9, 3) := by decide +kernel
theorem dX4_inForceOn_9 : decode cX4_inForceOn 9 = .ok (.if_icmp .ge 41, 3) := by decide +kernel
theorem dX4_inForceOn_12 : decode cX4_inForceOn 12 = .ok (.aload_n 0, 1) := by decide +kernel
theorem dX4_inForceOn_13 : decode cX4_inForceOn 13 = .ok (.getfield 22, 3) := by decide +kernel
theorem dX4_inForceOn_16 : decode cX4_inForceOn 16 = .ok (.iload_n 3, 1) := by decide +kernel
theorem dX4_inForceOn_17 : decode cX4_inForceOn 17 = .ok (.iaload, 1) := by decide +kernel
theorem dX4_inForceOn_18 : decode cX4_inForceOn 18 = .ok (.iload_n 1, 1) := by decide +kernel
theorem dX4_inForceOn_19 : decode cX4_inForceOn 19 = .ok (.if_icmp .gt 25, 3) := by decide +kernel
theorem dX4_inForceOn_22 : decode cX4_inForceOn 22 = .ok (.iload_n 2, 1) := by decide +kernel
theorem dX4_inForceOn_23 : decode cX4_inForceOn 23 = .ok (.iconst (-1), 1) := by decide +kernel
theorem dX4_inForceOn_24 : decode cX4_inForceOn 24 = .ok (.if_icmp .eq 18, 3) := by decide +kernel
theorem dX4_inForceOn_27 : decode cX4_inForceOn 27 = .ok (.aload_n 0, 1) := by decide +kernel
theorem dX4_inForceOn_28 : decode cX4_inForceOn 28 = .ok (.getfield 22, 3) := by decide +kernel
theorem dX4_inForceOn_31 : decode cX4_inForceOn 31 = .ok (.iload_n 3, 1) := by decide +kernel
theorem dX4_inForceOn_32 : decode cX4_inForceOn 32 = .ok (.iaload, 1) := by decide +kernel
theorem dX4_inForceOn_33 : decode cX4_inForceOn 33 = .ok (.aload_n 0, 1) := by decide +kernel
theorem dX4_inForceOn_34 : decode cX4_inForceOn 34 = .ok (.getfield 22, 3) := by decide +kernel
theorem dX4_inForceOn_37 : decode cX4_inForceOn 37 = .ok (.iload_n 2, 1) := by decide +kernel
theorem dX4_inForceOn_38 : decode cX4_inForceOn 38 = .ok (.iaload, 1) := by decide +kernel
theorem dX4_inForceOn_39 : decode cX4_inForceOn 39 = .ok (.if_icmp .lt 5, 3) := by decide +kernel
theorem dX4_inForceOn_42 : decode cX4_inForceOn 42 = .ok (.iload_n 3, 1) := by decide +kernel
theorem dX4_inForceOn_43 : decode cX4_inForceOn 43 = .ok (.istore_n 2, 1) := by decide +kernel
theorem dX4_inForceOn_44 : decode cX4_inForceOn 44 = .ok (.iinc 3 1, 3) := by decide +kernel
theorem dX4_inForceOn_47 : decode cX4_inForceOn 47 = .ok (.goto (-43), 3) := by decide +kernel
theorem dX4_inForceOn_50 : decode cX4_inForceOn 50 = .ok (.iload_n 2, 1) := by decide +kernel
theorem dX4_inForceOn_51 : decode cX4_inForceOn 51 = .ok (.ireturn, 1) := by decide +kernel
theorem dX5_init_0 : decode cX5_init 0 = .ok (.aload_n 0, 1) := by decide +kernel
theorem dX5_init_1 : decode cX5_init 1 = .ok (.invokespecial 3, 3) := by decide +kernel
theorem dX5_init_4 : decode cX5_init 4 = .ok (.aload_n 0, 1) := by decide +kernel
theorem dX5_init_5 : decode cX5_init 5 = .ok (.iconst 0, 1) := by decide +kernel
theorem dX5_init_6 : decode cX5_init 6 = .ok (.putfield 9, 3) := by decide +kernel
theorem dX5_init_9 : decode cX5_init 9 = .ok (.aload_n 0, 1) := by decide +kernel
theorem dX5_init_10 : decode cX5_init 10 = .ok (.bipush 100, 2) := by decide +kernel
theorem dX5_init_12 : decode cX5_init 12 = .ok (.newarray .int, 2) := by decide +kernel
theorem dX5_init_14 : decode cX5_init 14 = .ok (.putfield 15, 3) := by decide +kernel
theorem dX5_init_17 : decode cX5_init 17 = .ok (.aload_n 0, 1) := by decide +kernel
theorem dX5_init_18 : decode cX5_init 18 = .ok (.bipush 100, 2) := by decide +kernel
theorem dX5_init_20 : decode cX5_init 20 = .ok (.newarray .int, 2) := by decide +kernel
theorem dX5_init_22 : decode cX5_init 22 = .ok (.putfield 19, 3) := by decide +kernel
theorem dX5_init_25 : decode cX5_init 25 = .ok (.aload_n 0, 1) := by decide +kernel
theorem dX5_init_26 : decode cX5_init 26 = .ok (.bipush 100, 2) := by decide +kernel
theorem dX5_init_28 : decode cX5_init 28 = .ok (.newarray .int, 2) := by decide +kernel
theorem dX5_init_30 : decode cX5_init 30 = .ok (.putfield 22, 3) := by decide +kernel
theorem dX5_init_33 : decode cX5_init 33 = .ok (.aload_n 0, 1) := by decide +kernel
theorem dX5_init_34 : decode cX5_init 34 = .ok (.bipush 100, 2) := by decide +kernel
theorem dX5_init_36 : decode cX5_init 36 = .ok (.newarray .int, 2) := by decide +kernel
theorem dX5_init_38 : decode cX5_init 38 = .ok (.putfield 25, 3) := by decide +kernel
theorem dX5_init_41 : decode cX5_init 41 = .ok (.aload_n 0, 1) := by decide +kernel
theorem dX5_init_42 : decode cX5_init 42 = .ok (.bipush 100, 2) := by decide +kernel
theorem dX5_init_44 : decode cX5_init 44 = .ok (.newarray .int, 2) := by decide +kernel
theorem dX5_init_46 : decode cX5_init 46 = .ok (.putfield 28, 3) := by decide +kernel
theorem dX5_init_49 : decode cX5_init 49 = .ok (.aload_n 0, 1) := by decide +kernel
theorem dX5_init_50 : decode cX5_init 50 = .ok (.bipush 100, 2) := by decide +kernel
theorem dX5_init_52 : decode cX5_init 52 = .ok (.newarray .int, 2) := by decide +kernel
theorem dX5_init_54 : decode cX5_init 54 = .ok (.putfield 31, 3) := by decide +kernel
theorem dX5_init_57 : decode cX5_init 57 = .ok (.return_, 1) := by decide +kernel
theorem dX5_add_0 : decode cX5_add 0 = .ok (.aload_n 0, 1) := by decide +kernel
theorem dX5_add_1 : decode cX5_add 1 = .ok (.getfield 9, 3) := by decide +kernel
theorem dX5_add_4 : decode cX5_add 4 = .ok (.bipush 100, 2) := by decide +kernel
theorem dX5_add_6 : decode cX5_add 6 = .ok (.if_icmp .lt 4, 3) := by decide +kernel
theorem dX5_add_9 : decode cX5_add 9 = .ok (.return_, 1) := by decide +kernel
theorem dX5_add_10 : decode cX5_add 10 = .ok (.aload_n 0, 1) := by decide +kernel
theorem dX5_add_11 : decode cX5_add 11 = .ok (.getfield 15, 3) := by decide +kernel
theorem dX5_add_14 : decode cX5_add 14 = .ok (.aload_n 0, 1) := by decide +kernel
theorem dX5_add_15 : decode cX5_add 15 = .ok (.getfield 9, 3) := by decide +kernel
theorem dX5_add_18 : decode cX5_add 18 = .ok (.iload_n 1, 1) := by decide +kernel
theorem dX5_add_19 : decode cX5_add 19 = .ok (.iastore, 1) := by decide +kernel
theorem dX5_add_20 : decode cX5_add 20 = .ok (.aload_n 0, 1) := by decide +kernel
theorem dX5_add_21 : decode cX5_add 21 = .ok (.getfield 19, 3) := by decide +kernel
theorem dX5_add_24 : decode cX5_add 24 = .ok (.aload_n 0, 1) := by decide +kernel
theorem dX5_add_25 : decode cX5_add 25 = .ok (.getfield 9, 3) := by decide +kernel
theorem dX5_add_28 : decode cX5_add 28 = .ok (.iload_n 2, 1) := by decide +kernel
theorem dX5_add_29 : decode cX5_add 29 = .ok (.iastore, 1) := by decide +kernel
theorem dX5_add_30 : decode cX5_add 30 = .ok (.aload_n 0, 1) := by decide +kernel
theorem dX5_add_31 : decode cX5_add 31 = .ok (.getfield 22, 3) := by decide +kernel
theorem dX5_add_34 : decode cX5_add 34 = .ok (.aload_n 0, 1) := by decide +kernel
theorem dX5_add_35 : decode cX5_add 35 = .ok (.getfield 9, 3) := by decide +kernel
theorem dX5_add_38 : decode cX5_add 38 = .ok (.iload_n 3, 1) := by decide +kernel
theorem dX5_add_39 : decode cX5_add 39 = .ok (.iastore, 1) := by decide +kernel
theorem dX5_add_40 : decode cX5_add 40 = .ok (.aload_n 0, 1) := by decide +kernel
theorem dX5_add_41 : decode cX5_add 41 = .ok (.getfield 25, 3) := by decide +kernel
theorem dX5_add_44 : decode cX5_add 44 = .ok (.aload_n 0, 1) := by decide +kernel
theorem dX5_add_45 : decode cX5_add 45 = .ok (.getfield 9, 3) := by decide +kernel
theorem dX5_add_48 : decode cX5_add 48 = .ok (.iload 4, 2) := by decide +kernel
theorem dX5_add_50 : decode cX5_add 50 = .ok (.iastore, 1) := by decide +kernel
theorem dX5_add_51 : decode cX5_add 51 = .ok (.aload_n 0, 1) := by decide +kernel
theorem dX5_add_52 : decode cX5_add 52 = .ok (.getfield 28, 3) := by decide +kernel
theorem dX5_add_55 : decode cX5_add 55 = .ok (.aload_n 0, 1) := by decide +kernel
theorem dX5_add_56 : decode cX5_add 56 = .ok (.getfield 9, 3) := by decide +kernel
theorem dX5_add_59 : decode cX5_add 59 = .ok (.iload 5, 2) := by decide +kernel
theorem dX5_add_61 : decode cX5_add 61 = .ok (.iastore, 1) := by decide +kernel
theorem dX5_add_62 : decode cX5_add 62 = .ok (.aload_n 0, 1) := by decide +kernel
theorem dX5_add_63 : decode cX5_add 63 = .ok (.getfield 31, 3) := by decide +kernel
theorem dX5_add_66 : decode cX5_add 66 = .ok (.aload_n 0, 1) := by decide +kernel
theorem dX5_add_67 : decode cX5_add 67 = .ok (.getfield 9, 3) := by decide +kernel
theorem dX5_add_70 : decode cX5_add 70 = .ok (.iload 6, 2) := by decide +kernel
theorem dX5_add_72 : decode cX5_add 72 = .ok (.iastore, 1) := by decide +kernel
theorem dX5_add_73 : decode cX5_add 73 = .ok (.aload_n 0, 1) := by decide +kernel
theorem dX5_add_74 : decode cX5_add 74 = .ok (.dup, 1) := by decide +kernel
theorem dX5_add_75 : decode cX5_add 75 = .ok (.getfield 9, 3) := by decide +kernel
theorem dX5_add_78 : decode cX5_add 78 = .ok (.iconst 1, 1) := by decide +kernel
theorem dX5_add_79 : decode cX5_add 79 = .ok (.iadd, 1) := by decide +kernel
theorem dX5_add_80 : decode cX5_add 80 = .ok (.putfield 9, 3) := by decide +kernel
theorem dX5_add_83 : decode cX5_add 83 = .ok (.return_, 1) := by decide +kernel
theorem dX5_liesIn_0 : decode cX5_liesIn 0 = .ok (.aload_n 0, 1) := by decide +kernel
theorem dX5_liesIn_1 : decode cX5_liesIn 1 = .ok (.getfield 28, 3) := by decide +kernel
theorem dX5_liesIn_4 : decode cX5_liesIn 4 = .ok (.iload_n 1, 1) := by decide +kernel
theorem dX5_liesIn_5 : decode cX5_liesIn 5 = .ok (.iaload, 1) := by decide +kernel
theorem dX5_liesIn_6 : decode cX5_liesIn 6 = .ok (.ifCond .ne 17, 3) := by decide +kernel
theorem dX5_liesIn_9 : decode cX5_liesIn 9 = .ok (.aload_n 0, 1) := by decide +kernel
theorem dX5_liesIn_10 : decode cX5_liesIn 10 = .ok (.getfield 31, 3) := by decide +kernel
theorem dX5_liesIn_13 : decode cX5_liesIn 13 = .ok (.iload_n 1, 1) := by decide +kernel
theorem dX5_liesIn_14 : decode cX5_liesIn 14 = .ok (.iaload, 1) := by decide +kernel
theorem dX5_liesIn_15 : decode cX5_liesIn 15 = .ok (.iload_n 2, 1) := by decide +kernel
theorem dX5_liesIn_16 : decode cX5_liesIn 16 = .ok (.if_icmp .ne 7, 3) := by decide +kernel
theorem dX5_liesIn_19 : decode cX5_liesIn 19 = .ok (.iconst 1, 1) := by decide +kernel
theorem dX5_liesIn_20 : decode cX5_liesIn 20 = .ok (.goto 4, 3) := by decide +kernel
theorem dX5_liesIn_23 : decode cX5_liesIn 23 = .ok (.iconst 0, 1) := by decide +kernel
theorem dX5_liesIn_24 : decode cX5_liesIn 24 = .ok (.ireturn, 1) := by decide +kernel
theorem dX5_cameTo_0 : decode cX5_cameTo 0 = .ok (.iconst 0, 1) := by decide +kernel
theorem dX5_cameTo_1 : decode cX5_cameTo 1 = .ok (.istore_n 3, 1) := by decide +kernel
theorem dX5_cameTo_2 : decode cX5_cameTo 2 = .ok (.iload_n 3, 1) := by decide +kernel
theorem dX5_cameTo_3 : decode cX5_cameTo 3 = .ok (.aload_n 0, 1) := by decide +kernel
theorem dX5_cameTo_4 : decode cX5_cameTo 4 = .ok (.getfield 9, 3) := by decide +kernel
theorem dX5_cameTo_7 : decode cX5_cameTo 7 = .ok (.if_icmp .ge 31, 3) := by decide +kernel
theorem dX5_cameTo_10 : decode cX5_cameTo 10 = .ok (.aload_n 0, 1) := by decide +kernel
theorem dX5_cameTo_11 : decode cX5_cameTo 11 = .ok (.getfield 25, 3) := by decide +kernel
theorem dX5_cameTo_14 : decode cX5_cameTo 14 = .ok (.iload_n 3, 1) := by decide +kernel
theorem dX5_cameTo_15 : decode cX5_cameTo 15 = .ok (.iaload, 1) := by decide +kernel
theorem dX5_cameTo_16 : decode cX5_cameTo 16 = .ok (.iload_n 1, 1) := by decide +kernel
theorem dX5_cameTo_17 : decode cX5_cameTo 17 = .ok (.if_icmp .ne 15, 3) := by decide +kernel
theorem dX5_cameTo_20 : decode cX5_cameTo 20 = .ok (.aload_n 0, 1) := by decide +kernel
theorem dX5_cameTo_21 : decode cX5_cameTo 21 = .ok (.getfield 22, 3) := by decide +kernel
theorem dX5_cameTo_24 : decode cX5_cameTo 24 = .ok (.iload_n 3, 1) := by decide +kernel
theorem dX5_cameTo_25 : decode cX5_cameTo 25 = .ok (.iaload, 1) := by decide +kernel
theorem dX5_cameTo_26 : decode cX5_cameTo 26 = .ok (.iload_n 2, 1) := by decide +kernel
theorem dX5_cameTo_27 : decode cX5_cameTo 27 = .ok (.if_icmp .ne 5, 3) := by decide +kernel
theorem dX5_cameTo_30 : decode cX5_cameTo 30 = .ok (.iconst 1, 1) := by decide +kernel
theorem dX5_cameTo_31 : decode cX5_cameTo 31 = .ok (.ireturn, 1) := by decide +kernel
theorem dX5_cameTo_32 : decode cX5_cameTo 32 = .ok (.iinc 3 1, 3) := by decide +kernel
theorem dX5_cameTo_35 : decode cX5_cameTo 35 = .ok (.goto (-33), 3) := by decide +kernel
theorem dX5_cameTo_38 : decode cX5_cameTo 38 = .ok (.iconst 0, 1) := by decide +kernel
theorem dX5_cameTo_39 : decode cX5_cameTo 39 = .ok (.ireturn, 1) := by decide +kernel
theorem dX5_heldIn_0 : decode cX5_heldIn 0 = .ok (.iconst 0, 1) := by decide +kernel
theorem dX5_heldIn_1 : decode cX5_heldIn 1 = .ok (.istore_n 2, 1) := by decide +kernel
theorem dX5_heldIn_2 : decode cX5_heldIn 2 = .ok (.iconst 0, 1) := by decide +kernel
theorem dX5_heldIn_3 : decode cX5_heldIn 3 = .ok (.istore_n 3, 1) := by decide +kernel
theorem dX5_heldIn_4 : decode cX5_heldIn 4 = .ok (.iload_n 3, 1) := by decide +kernel
theorem dX5_heldIn_5 : decode cX5_heldIn 5 = .ok (.aload_n 0, 1) := by decide +kernel
theorem dX5_heldIn_6 : decode cX5_heldIn 6 = .ok (.getfield 9, 3) := by decide +kernel
theorem dX5_heldIn_9 : decode cX5_heldIn 9 = .ok (.if_icmp .ge 40, 3) := by decide +kernel
theorem dX5_heldIn_12 : decode cX5_heldIn 12 = .ok (.aload_n 0, 1) := by decide +kernel
theorem dX5_heldIn_13 : decode cX5_heldIn 13 = .ok (.getfield 22, 3) := by decide +kernel
theorem dX5_heldIn_16 : decode cX5_heldIn 16 = .ok (.iload_n 3, 1) := by decide +kernel
theorem dX5_heldIn_17 : decode cX5_heldIn 17 = .ok (.iaload, 1) := by decide +kernel
theorem dX5_heldIn_18 : decode cX5_heldIn 18 = .ok (.bipush 30, 2) := by decide +kernel
theorem dX5_heldIn_20 : decode cX5_heldIn 20 = .ok (.idiv, 1) := by decide +kernel
theorem dX5_heldIn_21 : decode cX5_heldIn 21 = .ok (.iload_n 1, 1) := by decide +kernel
theorem dX5_heldIn_22 : decode cX5_heldIn 22 = .ok (.if_icmp .ne 21, 3) := by decide +kernel
theorem dX5_heldIn_25 : decode cX5_heldIn 25 = .ok (.aload_n 0, 1) := by decide +kernel
theorem dX5_heldIn_26 : decode cX5_heldIn 26 = .ok (.getfield 28, 3) := by decide +kernel
theorem dX5_heldIn_29 : decode cX5_heldIn 29 = .ok (.iload_n 3, 1) := by decide +kernel
theorem dX5_heldIn_30 : decode cX5_heldIn 30 = .ok (.iaload, 1) := by decide +kernel
theorem dX5_heldIn_31 : decode cX5_heldIn 31 = .ok (.ifCond .ne 12, 3) := by decide +kernel
theorem dX5_heldIn_34 : decode cX5_heldIn 34 = .ok (.iload_n 2, 1) := by decide +kernel
theorem dX5_heldIn_35 : decode cX5_heldIn 35 = .ok (.aload_n 0, 1) := by decide +kernel
theorem dX5_heldIn_36 : decode cX5_heldIn 36 = .ok (.getfield 19, 3) := by decide +kernel
theorem dX5_heldIn_39 : decode cX5_heldIn 39 = .ok (.iload_n 3, 1) := by decide +kernel
theorem dX5_heldIn_40 : decode cX5_heldIn 40 = .ok (.iaload, 1) := by decide +kernel
theorem dX5_heldIn_41 : decode cX5_heldIn 41 = .ok (.iadd, 1) := by decide +kernel
theorem dX5_heldIn_42 : decode cX5_heldIn 42 = .ok (.istore_n 2, 1) := by decide +kernel
theorem dX5_heldIn_43 : decode cX5_heldIn 43 = .ok (.iinc 3 1, 3) := by decide +kernel
theorem dX5_heldIn_46 : decode cX5_heldIn 46 = .ok (.goto (-42), 3) := by decide +kernel
theorem dX5_heldIn_49 : decode cX5_heldIn 49 = .ok (.iload_n 2, 1) := by decide +kernel
theorem dX5_heldIn_50 : decode cX5_heldIn 50 = .ok (.ireturn, 1) := by decide +kernel
theorem dX5_seizedIn_0 : decode cX5_seizedIn 0 = .ok (.iconst 0, 1) := by decide +kernel
theorem dX5_seizedIn_1 : decode cX5_seizedIn 1 = .ok (.istore_n 2, 1) := by decide +kernel
theorem dX5_seizedIn_2 : decode cX5_seizedIn 2 = .ok (.iconst 0, 1) := by decide +kernel
theorem dX5_seizedIn_3 : decode cX5_seizedIn 3 = .ok (.istore_n 3, 1) := by decide +kernel
theorem dX5_seizedIn_4 : decode cX5_seizedIn 4 = .ok (.iload_n 3, 1) := by decide +kernel
theorem dX5_seizedIn_5 : decode cX5_seizedIn 5 = .ok (.aload_n 0, 1) := by decide +kernel
theorem dX5_seizedIn_6 : decode cX5_seizedIn 6 = .ok (.getfield 9, 3) := by decide +kernel
theorem dX5_seizedIn_9 : decode cX5_seizedIn 9 = .ok (.if_icmp .ge 40, 3) := by decide +kernel
theorem dX5_seizedIn_12 : decode cX5_seizedIn 12 = .ok (.aload_n 0, 1) := by decide +kernel
theorem dX5_seizedIn_13 : decode cX5_seizedIn 13 = .ok (.getfield 22, 3) := by decide +kernel
theorem dX5_seizedIn_16 : decode cX5_seizedIn 16 = .ok (.iload_n 3, 1) := by decide +kernel
theorem dX5_seizedIn_17 : decode cX5_seizedIn 17 = .ok (.iaload, 1) := by decide +kernel
theorem dX5_seizedIn_18 : decode cX5_seizedIn 18 = .ok (.bipush 30, 2) := by decide +kernel
theorem dX5_seizedIn_20 : decode cX5_seizedIn 20 = .ok (.idiv, 1) := by decide +kernel
theorem dX5_seizedIn_21 : decode cX5_seizedIn 21 = .ok (.iload_n 1, 1) := by decide +kernel
theorem dX5_seizedIn_22 : decode cX5_seizedIn 22 = .ok (.if_icmp .ne 21, 3) := by decide +kernel
theorem dX5_seizedIn_25 : decode cX5_seizedIn 25 = .ok (.aload_n 0, 1) := by decide +kernel
theorem dX5_seizedIn_26 : decode cX5_seizedIn 26 = .ok (.getfield 28, 3) := by decide +kernel
theorem dX5_seizedIn_29 : decode cX5_seizedIn 29 = .ok (.iload_n 3, 1) := by decide +kernel
theorem dX5_seizedIn_30 : decode cX5_seizedIn 30 = .ok (.iaload, 1) := by decide +kernel
theorem dX5_seizedIn_31 : decode cX5_seizedIn 31 = .ok (.ifCond .eq 12, 3) := by decide +kernel
theorem dX5_seizedIn_34 : decode cX5_seizedIn 34 = .ok (.iload_n 2, 1) := by decide +kernel
theorem dX5_seizedIn_35 : decode cX5_seizedIn 35 = .ok (.aload_n 0, 1) := by decide +kernel
theorem dX5_seizedIn_36 : decode cX5_seizedIn 36 = .ok (.getfield 19, 3) := by decide +kernel
theorem dX5_seizedIn_39 : decode cX5_seizedIn 39 = .ok (.iload_n 3, 1) := by decide +kernel
theorem dX5_seizedIn_40 : decode cX5_seizedIn 40 = .ok (.iaload, 1) := by decide +kernel
theorem dX5_seizedIn_41 : decode cX5_seizedIn 41 = .ok (.iadd, 1) := by decide +kernel
theorem dX5_seizedIn_42 : decode cX5_seizedIn 42 = .ok (.istore_n 2, 1) := by decide +kernel
theorem dX5_seizedIn_43 : decode cX5_seizedIn 43 = .ok (.iinc 3 1, 3) := by decide +kernel
theorem dX5_seizedIn_46 : decode cX5_seizedIn 46 = .ok (.goto (-42), 3) := by decide +kernel
theorem dX5_seizedIn_49 : decode cX5_seizedIn 49 = .ok (.iload_n 2, 1) := by decide +kernel
theorem dX5_seizedIn_50 : decode cX5_seizedIn 50 = .ok (.ireturn, 1) := by decide +kernel
theorem dX6_init_0 : decode cX6_init 0 = .ok (.aload_n 0, 1) := by decide +kernel
theorem dX6_init_1 : decode cX6_init 1 = .ok (.invokespecial 3, 3) := by decide +kernel
theorem dX6_init_4 : decode cX6_init 4 = .ok (.aload_n 0, 1) := by decide +kernel
theorem dX6_init_5 : decode cX6_init 5 = .ok (.bipush 34, 2) := by decide +kernel
theorem dX6_init_7 : decode cX6_init 7 = .ok (.newarray .int, 2) := by decide +kernel
theorem dX6_init_9 : decode cX6_init 9 = .ok (.putfield 9, 3) := by decide +kernel
theorem dX6_init_12 : decode cX6_init 12 = .ok (.aload_n 0, 1) := by decide +kernel
theorem dX6_init_13 : decode cX6_init 13 = .ok (.bipush 34, 2) := by decide +kernel
theorem dX6_init_15 : decode cX6_init 15 = .ok (.newarray .int, 2) := by decide +kernel
theorem dX6_init_17 : decode cX6_init 17 = .ok (.putfield 15, 3) := by decide +kernel
theorem dX6_init_20 : decode cX6_init 20 = .ok (.aload_n 0, 1) := by decide +kernel
theorem dX6_init_21 : decode cX6_init 21 = .ok (.bipush 34, 2) := by decide +kernel
theorem dX6_init_23 : decode cX6_init 23 = .ok (.newarray .int, 2) := by decide +kernel
theorem dX6_init_25 : decode cX6_init 25 = .ok (.putfield 18, 3) := by decide +kernel
theorem dX6_init_28 : decode cX6_init 28 = .ok (.return_, 1) := by decide +kernel
theorem dX6_landedOf_0 : decode cX6_landedOf 0 = .ok (.iconst 0, 1) := by decide +kernel
theorem dX6_landedOf_1 : decode cX6_landedOf 1 = .ok (.iload_n 2, 1) := by decide +kernel
theorem dX6_landedOf_2 : decode cX6_landedOf 2 = .ok (.aload_n 0, 1) := by decide +kernel
theorem dX6_landedOf_3 : decode cX6_landedOf 3 = .ok (.getfield 18, 3) := by decide +kernel
theorem dX6_landedOf_6 : decode cX6_landedOf 6 = .ok (.iload_n 1, 1) := by decide +kernel
theorem dX6_landedOf_7 : decode cX6_landedOf 7 = .ok (.iaload, 1) := by decide +kernel
theorem dX6_landedOf_8 : decode cX6_landedOf 8 = .ok (.isub, 1) := by decide +kernel
theorem dX6_landedOf_9 : decode cX6_landedOf 9 = .ok (.iload_n 3, 1) := by decide +kernel
theorem dX6_landedOf_10 : decode cX6_landedOf 10 = .ok (.isub, 1) := by decide +kernel
theorem dX6_landedOf_11 : decode cX6_landedOf 11 = .ok (.invokestatic 21, 3) := by decide +kernel
theorem dX6_landedOf_14 : decode cX6_landedOf 14 = .ok (.ireturn, 1) := by decide +kernel
theorem dX7_init_0 : decode cX7_init 0 = .ok (.aload_n 0, 1) := by decide +kernel
theorem dX7_init_1 : decode cX7_init 1 = .ok (.invokespecial 3, 3) := by decide +kernel
theorem dX7_init_4 : decode cX7_init 4 = .ok (.aload_n 0, 1) := by decide +kernel
theorem dX7_init_5 : decode cX7_init 5 = .ok (.iconst 4, 1) := by decide +kernel
theorem dX7_init_6 : decode cX7_init 6 = .ok (.bipush 30, 2) := by decide +kernel
theorem dX7_init_8 : decode cX7_init 8 = .ok (.multianewarray 9 2, 4) := by decide +kernel
theorem dX7_init_12 : decode cX7_init 12 = .ok (.putfield 11, 3) := by decide +kernel
theorem dX7_init_15 : decode cX7_init 15 = .ok (.aload_n 0, 1) := by decide +kernel
theorem dX7_init_16 : decode cX7_init 16 = .ok (.iconst 4, 1) := by decide +kernel
theorem dX7_init_17 : decode cX7_init 17 = .ok (.newarray .int, 2) := by decide +kernel
theorem dX7_init_19 : decode cX7_init 19 = .ok (.putfield 16, 3) := by decide +kernel
theorem dX7_init_22 : decode cX7_init 22 = .ok (.iconst 0, 1) := by decide +kernel
theorem dX7_init_23 : decode cX7_init 23 = .ok (.istore_n 1, 1) := by decide +kernel
theorem dX7_init_24 : decode cX7_init 24 = .ok (.iload_n 1, 1) := by decide +kernel
theorem dX7_init_25 : decode cX7_init 25 = .ok (.iconst 4, 1) := by decide +kernel
theorem dX7_init_26 : decode cX7_init 26 = .ok (.if_icmp .ge 16, 3) := by decide +kernel
theorem dX7_init_29 : decode cX7_init 29 = .ok (.aload_n 0, 1) := by decide +kernel
theorem dX7_init_30 : decode cX7_init 30 = .ok (.getfield 16, 3) := by decide +kernel
theorem dX7_init_33 : decode cX7_init 33 = .ok (.iload_n 1, 1) := by decide +kernel
theorem dX7_init_34 : decode cX7_init 34 = .ok (.iconst (-1), 1) := by decide +kernel
theorem dX7_init_35 : decode cX7_init 35 = .ok (.iastore, 1) := by decide +kernel
theorem dX7_init_36 : decode cX7_init 36 = .ok (.iinc 1 1, 3) := by decide +kernel
theorem dX7_init_39 : decode cX7_init 39 = .ok (.goto (-15), 3) := by decide +kernel
theorem dX7_init_42 : decode cX7_init 42 = .ok (.return_, 1) := by decide +kernel
theorem dX7_isMissing_0 : decode cX7_isMissing 0 = .ok (.aload_n 0, 1) := by decide +kernel
theorem dX7_isMissing_1 : decode cX7_isMissing 1 = .ok (.getfield 16, 3) := by decide +kernel
theorem dX7_isMissing_4 : decode cX7_isMissing 4 = .ok (.iload_n 1, 1) := by decide +kernel
theorem dX7_isMissing_5 : decode cX7_isMissing 5 = .ok (.iaload, 1) := by decide +kernel
theorem dX7_isMissing_6 : decode cX7_isMissing 6 = .ok (.ifCond .ge 7, 3) := by decide +kernel
theorem dX7_isMissing_9 : decode cX7_isMissing 9 = .ok (.iconst 1, 1) := by decide +kernel
theorem dX7_isMissing_10 : decode cX7_isMissing 10 = .ok (.goto 4, 3) := by decide +kernel
theorem dX7_isMissing_13 : decode cX7_isMissing 13 = .ok (.iconst 0, 1) := by decide +kernel
theorem dX7_isMissing_14 : decode cX7_isMissing 14 = .ok (.ireturn, 1) := by decide +kernel
theorem dX7_begin_0 : decode cX7_begin 0 = .ok (.aload_n 0, 1) := by decide +kernel
theorem dX7_begin_1 : decode cX7_begin 1 = .ok (.getfield 16, 3) := by decide +kernel
theorem dX7_begin_4 : decode cX7_begin 4 = .ok (.iload_n 1, 1) := by decide +kernel
theorem dX7_begin_5 : decode cX7_begin 5 = .ok (.iload_n 2, 1) := by decide +kernel
theorem dX7_begin_6 : decode cX7_begin 6 = .ok (.iastore, 1) := by decide +kernel
theorem dX7_begin_7 : decode cX7_begin 7 = .ok (.iconst 0, 1) := by decide +kernel
theorem dX7_begin_8 : decode cX7_begin 8 = .ok (.istore_n 3, 1) := by decide +kernel
theorem dX7_begin_9 : decode cX7_begin 9 = .ok (.iload_n 3, 1) := by decide +kernel
theorem dX7_begin_10 : decode cX7_begin 10 = .ok (.bipush 30, 2) := by decide +kernel
theorem dX7_begin_12 : decode cX7_begin 12 = .ok (.if_icmp .ge 18, 3) := by decide +kernel
theorem dX7_begin_15 : decode cX7_begin 15 = .ok (.aload_n 0, 1) := by decide +kernel
theorem dX7_begin_16 : decode cX7_begin 16 = .ok (.getfield 11, 3) := by decide +kernel
theorem dX7_begin_19 : decode cX7_begin 19 = .ok (.iload_n 1, 1) := by decide +kernel
theorem dX7_begin_20 : decode cX7_begin 20 = .ok (.aaload, 1) := by decide +kernel
theorem dX7_begin_21 : decode cX7_begin 21 = .ok (.iload_n 3, 1) := by decide +kernel
theorem dX7_begin_22 : decode cX7_begin 22 = .ok (.iconst 0, 1) := by decide +kernel
theorem dX7_begin_23 : decode cX7_begin 23 = .ok (.iastore, 1) := by decide +kernel
theorem dX7_begin_24 : decode cX7_begin 24 = .ok (.iinc 3 1, 3) := by decide +kernel
theorem dX7_begin_27 : decode cX7_begin 27 = .ok (.goto (-18), 3) := by decide +kernel
theorem dX7_begin_30 : decode cX7_begin 30 = .ok (.return_, 1) := by decide +kernel
theorem dX7_forget_0 : decode cX7_forget 0 = .ok (.aload_n 0, 1) := by decide +kernel
theorem dX7_forget_1 : decode cX7_forget 1 = .ok (.getfield 16, 3) := by decide +kernel
theorem dX7_forget_4 : decode cX7_forget 4 = .ok (.iload_n 1, 1) := by decide +kernel
theorem dX7_forget_5 : decode cX7_forget 5 = .ok (.iconst (-1), 1) := by decide +kernel
theorem dX7_forget_6 : decode cX7_forget 6 = .ok (.iastore, 1) := by decide +kernel
theorem dX7_forget_7 : decode cX7_forget 7 = .ok (.return_, 1) := by decide +kernel
theorem dX7_hasPlaces_0 : decode cX7_hasPlaces 0 = .ok (.iload_n 3, 1) := by decide +kernel
theorem dX7_hasPlaces_1 : decode cX7_hasPlaces 1 = .ok (.ifCond .lt 23, 3) := by decide +kernel
theorem dX7_hasPlaces_4 : decode cX7_hasPlaces 4 = .ok (.iload_n 2, 1) := by decide +kernel
theorem dX7_hasPlaces_5 : decode cX7_hasPlaces 5 = .ok (.ifCond .lt 19, 3) := by decide +kernel
theorem dX7_hasPlaces_8 : decode cX7_hasPlaces 8 = .ok (.iload_n 2, 1) := by decide +kernel
theorem dX7_hasPlaces_9 : decode cX7_hasPlaces 9 = .ok (.aload_n 0, 1) := by decide +kernel
theorem dX7_hasPlaces_10 : decode cX7_hasPlaces 10 = .ok (.getfield 16, 3) := by decide +kernel
theorem dX7_hasPlaces_13 : decode cX7_hasPlaces 13 = .ok (.iload_n 1, 1) := by decide +kernel
theorem dX7_hasPlaces_14 : decode cX7_hasPlaces 14 = .ok (.iaload, 1) := by decide +kernel
theorem dX7_hasPlaces_15 : decode cX7_hasPlaces 15 = .ok (.iload_n 3, 1) := by decide +kernel
theorem dX7_hasPlaces_16 : decode cX7_hasPlaces 16 = .ok (.isub, 1) := by decide +kernel
theorem dX7_hasPlaces_17 : decode cX7_hasPlaces 17 = .ok (.if_icmp .gt 7, 3) := by decide +kernel
theorem dX7_hasPlaces_20 : decode cX7_hasPlaces 20 = .ok (.iconst 1, 1) := by decide +kernel
theorem dX7_hasPlaces_21 : decode cX7_hasPlaces 21 = .ok (.goto 4, 3) := by decide +kernel
theorem dX7_hasPlaces_24 : decode cX7_hasPlaces 24 = .ok (.iconst 0, 1) := by decide +kernel
theorem dX7_hasPlaces_25 : decode cX7_hasPlaces 25 = .ok (.ireturn, 1) := by decide +kernel
theorem dX8_init_0 : decode cX8_init 0 = .ok (.aload_n 0, 1) := by decide +kernel
theorem dX8_init_1 : decode cX8_init 1 = .ok (.invokespecial 3, 3) := by decide +kernel
theorem dX8_init_4 : decode cX8_init 4 = .ok (.aload_n 0, 1) := by decide +kernel
theorem dX8_init_5 : decode cX8_init 5 = .ok (.iconst 0, 1) := by decide +kernel
theorem dX8_init_6 : decode cX8_init 6 = .ok (.putfield 9, 3) := by decide +kernel
theorem dX8_init_9 : decode cX8_init 9 = .ok (.aload_n 0, 1) := by decide +kernel
theorem dX8_init_10 : decode cX8_init 10 = .ok (.bipush 60, 2) := by decide +kernel
theorem dX8_init_12 : decode cX8_init 12 = .ok (.newarray .int, 2) := by decide +kernel
theorem dX8_init_14 : decode cX8_init 14 = .ok (.putfield 15, 3) := by decide +kernel
theorem dX8_init_17 : decode cX8_init 17 = .ok (.aload_n 0, 1) := by decide +kernel
theorem dX8_init_18 : decode cX8_init 18 = .ok (.bipush 60, 2) := by decide +kernel
theorem dX8_init_20 : decode cX8_init 20 = .ok (.newarray .int, 2) := by decide +kernel
theorem dX8_init_22 : decode cX8_init 22 = .ok (.putfield 19, 3) := by decide +kernel
theorem dX8_init_25 : decode cX8_init 25 = .ok (.aload_n 0, 1) := by decide +kernel
theorem dX8_init_26 : decode cX8_init 26 = .ok (.bipush 60, 2) := by decide +kernel
theorem dX8_init_28 : decode cX8_init 28 = .ok (.newarray .int, 2) := by decide +kernel
theorem dX8_init_30 : decode cX8_init 30 = .ok (.putfield 22, 3) := by decide +kernel
theorem dX8_init_33 : decode cX8_init 33 = .ok (.aload_n 0, 1) := by decide +kernel
theorem dX8_init_34 : decode cX8_init 34 = .ok (.bipush 6, 2) := by decide +kernel
theorem dX8_init_36 : decode cX8_init 36 = .ok (.newarray .int, 2) := by decide +kernel
theorem dX8_init_38 : decode cX8_init 38 = .ok (.putfield 25, 3) := by decide +kernel
theorem dX8_init_41 : decode cX8_init 41 = .ok (.aload_n 0, 1) := by decide +kernel
theorem dX8_init_42 : decode cX8_init 42 = .ok (.bipush 6, 2) := by decide +kernel
theorem dX8_init_44 : decode cX8_init 44 = .ok (.newarray .int, 2) := by decide +kernel
theorem dX8_init_46 : decode cX8_init 46 = .ok (.putfield 28, 3) := by decide +kernel
theorem dX8_init_49 : decode cX8_init 49 = .ok (.return_, 1) := by decide +kernel
theorem dX8_add_0 : decode cX8_add 0 = .ok (.aload_n 0, 1) := by decide +kernel
theorem dX8_add_1 : decode cX8_add 1 = .ok (.getfield 9, 3) := by decide +kernel
theorem dX8_add_4 : decode cX8_add 4 = .ok (.istore 4, 2) := by decide +kernel
theorem dX8_add_6 : decode cX8_add 6 = .ok (.iload 4, 2) := by decide +kernel
theorem dX8_add_8 : decode cX8_add 8 = .ok (.bipush 60, 2) := by decide +kernel
theorem dX8_add_10 : decode cX8_add 10 = .ok (.if_icmp .lt 5, 3) := by decide +kernel
theorem dX8_add_13 : decode cX8_add 13 = .ok (.iconst (-1), 1) := by decide +kernel
theorem dX8_add_14 : decode cX8_add 14 = .ok (.ireturn, 1) := by decide +kernel
theorem dX8_add_15 : decode cX8_add 15 = .ok (.aload_n 0, 1) := by decide +kernel
theorem dX8_add_16 : decode cX8_add 16 = .ok (.getfield 15, 3) := by decide +kernel
theorem dX8_add_19 : decode cX8_add 19 = .ok (.iload 4, 2) := by decide +kernel
theorem dX8_add_21 : decode cX8_add 21 = .ok (.iload_n 1, 1) := by decide +kernel
theorem dX8_add_22 : decode cX8_add 22 = .ok (.iastore, 1) := by decide +kernel
theorem dX8_add_23 : decode cX8_add 23 = .ok (.aload_n 0, 1) := by decide +kernel
theorem dX8_add_24 : decode cX8_add 24 = .ok (.getfield 19, 3) := by decide +kernel
theorem dX8_add_27 : decode cX8_add 27 = .ok (.iload 4, 2) := by decide +kernel
theorem dX8_add_29 : decode cX8_add 29 = .ok (.iload_n 2, 1) := by decide +kernel
theorem dX8_add_30 : decode cX8_add 30 = .ok (.iastore, 1) := by decide +kernel
theorem dX8_add_31 : decode cX8_add 31 = .ok (.aload_n 0, 1) := by decide +kernel
theorem dX8_add_32 : decode cX8_add 32 = .ok (.getfield 22, 3) := by decide +kernel
theorem dX8_add_35 : decode cX8_add 35 = .ok (.iload 4, 2) := by decide +kernel
theorem dX8_add_37 : decode cX8_add 37 = .ok (.iload_n 3, 1) := by decide +kernel
theorem dX8_add_38 : decode cX8_add 38 = .ok (.iastore, 1) := by decide +kernel
theorem dX8_add_39 : decode cX8_add 39 = .ok (.aload_n 0, 1) := by decide +kernel
theorem dX8_add_40 : decode cX8_add 40 = .ok (.iload 4, 2) := by decide +kernel
theorem dX8_add_42 : decode cX8_add 42 = .ok (.iconst 1, 1) := by decide +kernel
theorem dX8_add_43 : decode cX8_add 43 = .ok (.iadd, 1) := by decide +kernel
theorem dX8_add_44 : decode cX8_add 44 = .ok (.putfield 9, 3) := by decide +kernel
theorem dX8_add_47 : decode cX8_add 47 = .ok (.iload 4, 2) := by decide +kernel
theorem dX8_add_49 : decode cX8_add 49 = .ok (.ireturn, 1) := by decide +kernel
theorem dX8_names_0 : decode cX8_names 0 = .ok (.aload_n 0, 1) := by decide +kernel
theorem dX8_names_1 : decode cX8_names 1 = .ok (.getfield 19, 3) := by decide +kernel
theorem dX8_names_4 : decode cX8_names 4 = .ok (.iload_n 1, 1) := by decide +kernel
theorem dX8_names_5 : decode cX8_names 5 = .ok (.iaload, 1) := by decide +kernel
theorem dX8_names_6 : decode cX8_names 6 = .ok (.iload_n 2, 1) := by decide +kernel
theorem dX8_names_7 : decode cX8_names 7 = .ok (.if_icmp .ne 17, 3) := by decide +kernel
theorem dX8_names_10 : decode cX8_names 10 = .ok (.aload_n 0, 1) := by decide +kernel
theorem dX8_names_11 : decode cX8_names 11 = .ok (.getfield 22, 3) := by decide +kernel
theorem dX8_names_14 : decode cX8_names 14 = .ok (.iload_n 1, 1) := by decide +kernel
theorem dX8_names_15 : decode cX8_names 15 = .ok (.iaload, 1) := by decide +kernel
theorem dX8_names_16 : decode cX8_names 16 = .ok (.iload_n 3, 1) := by decide +kernel
theorem dX8_names_17 : decode cX8_names 17 = .ok (.if_icmp .ne 7, 3) := by decide +kernel
theorem dX8_names_20 : decode cX8_names 20 = .ok (.iconst 1, 1) := by decide +kernel
theorem dX8_names_21 : decode cX8_names 21 = .ok (.goto 4, 3) := by decide +kernel
theorem dX8_names_24 : decode cX8_names 24 = .ok (.iconst 0, 1) := by decide +kernel
theorem dX8_names_25 : decode cX8_names 25 = .ok (.ireturn, 1) := by decide +kernel
set_option maxRecDepth 20000 in
theorem ggX8_isToldBy_X8_names : GoodIn wsX8_isToldBy wsX8_names := goodIn_r _ [7, 8, 9, 10, 11, 12, 13, 14, 15] (by decide +kernel) (by decide +kernel)
set_option maxRecDepth 20000 in
theorem gX8_isToldBy_X8_names : GoodIn wsX8_isToldBy (wsV RX8 31 RX8 yX8_names wsX8_names) := goodIn_app (goodIn_of _ (by decide +kernel)) ggX8_isToldBy_X8_names
theorem dX8_isToldBy_0 : decode cX8_isToldBy 0 = .ok (.iconst 0, 1) := by decide +kernel
theorem dX8_isToldBy_1 : decode cX8_isToldBy 1 = .ok (.istore 4, 2) := by decide +kernel
theorem dX8_isToldBy_3 : decode cX8_isToldBy 3 = .ok (.iload 4, 2) := by decide +kernel
theorem dX8_isToldBy_5 : decode cX8_isToldBy 5 = .ok (.aload_n 0, 1) := by decide +kernel
theorem dX8_isToldBy_6 : decode cX8_isToldBy 6 = .ok (.getfield 9, 3) := by decide +kernel
theorem dX8_isToldBy_9 : decode cX8_isToldBy 9 = .ok (.if_icmp .ge 33, 3) := by decide +kernel
theorem dX8_isToldBy_12 : decode cX8_isToldBy 12 = .ok (.aload_n 0, 1) := by decide +kernel
theorem dX8_isToldBy_13 : decode cX8_isToldBy 13 = .ok (.getfield 15, 3) := by decide +kernel
theorem dX8_isToldBy_16 : decode cX8_isToldBy 16 = .ok (.iload 4, 2) := by decide +kernel
theorem dX8_isToldBy_18 : decode cX8_isToldBy 18 = .ok (.iaload, 1) := by decide +kernel
theorem dX8_isToldBy_19 : decode cX8_isToldBy 19 = .ok (.iload_n 1, 1) := by decide +kernel
theorem dX8_isToldBy_20 : decode cX8_isToldBy 20 = .ok (.if_icmp .ne 16, 3) := by decide +kernel
theorem dX8_isToldBy_23 : decode cX8_isToldBy 23 = .ok (.aload_n 0, 1) := by decide +kernel
theorem dX8_isToldBy_24 : decode cX8_isToldBy 24 = .ok (.iload 4, 2) := by decide +kernel
theorem dX8_isToldBy_26 : decode cX8_isToldBy 26 = .ok (.iload_n 2, 1) := by decide +kernel
theorem dX8_isToldBy_27 : decode cX8_isToldBy 27 = .ok (.iload_n 3, 1) := by decide +kernel
theorem dX8_isToldBy_28 : decode cX8_isToldBy 28 = .ok (.invokevirtual 31, 3) := by decide +kernel
theorem dX8_isToldBy_31 : decode cX8_isToldBy 31 = .ok (.ifCond .eq 5, 3) := by decide +kernel
theorem dX8_isToldBy_34 : decode cX8_isToldBy 34 = .ok (.iconst 1, 1) := by decide +kernel
theorem dX8_isToldBy_35 : decode cX8_isToldBy 35 = .ok (.ireturn, 1) := by decide +kernel
theorem dX8_isToldBy_36 : decode cX8_isToldBy 36 = .ok (.iinc 4 1, 3) := by decide +kernel
theorem dX8_isToldBy_39 : decode cX8_isToldBy 39 = .ok (.goto (-36), 3) := by decide +kernel
theorem dX8_isToldBy_42 : decode cX8_isToldBy 42 = .ok (.iconst 0, 1) := by decide +kernel
theorem dX8_isToldBy_43 : decode cX8_isToldBy 43 = .ok (.ireturn, 1) := by decide +kernel
set_option maxRecDepth 20000 in
theorem ggX8_firstInformer_X8_names : GoodIn wsX8_firstInformer wsX8_names := goodIn_r _ [7, 8, 9, 10, 11, 12, 13, 14, 15] (by decide +kernel) (by decide +kernel)
set_option maxRecDepth 20000 in
theorem gX8_firstInformer_X8_names : GoodIn wsX8_firstInformer (wsV RX8 31 RX8 yX8_names wsX8_names) := goodIn_app (goodIn_of _ (by decide +kernel)) ggX8_firstInformer_X8_names
theorem dX8_firstInformer_0 : decode cX8_firstInformer 0 = .ok (.iconst 0, 1) := by decide +kernel
theorem dX8_firstInformer_1 : decode cX8_firstInformer 1 = .ok (.istore_n 3, 1) := by decide +kernel
theorem dX8_firstInformer_2 : decode cX8_firstInformer 2 = .ok (.iload_n 3, 1) := by decide +kernel
theorem dX8_firstInformer_3 : decode cX8_firstInformer 3 = .ok (.aload_n 0, 1) := by decide +kernel
theorem dX8_firstInformer_4 : decode cX8_firstInformer 4 = .ok (.getfield 9, 3) := by decide +kernel
theorem dX8_firstInformer_7 : decode cX8_firstInformer 7 = .ok (.if_icmp .ge 26, 3) := by decide +kernel
theorem dX8_firstInformer_10 : decode cX8_firstInformer 10 = .ok (.aload_n 0, 1) := by decide +kernel
theorem dX8_firstInformer_11 : decode cX8_firstInformer 11 = .ok (.iload_n 3, 1) := by decide +kernel
theorem dX8_firstInformer_12 : decode cX8_firstInformer 12 = .ok (.iload_n 1, 1) := by decide +kernel
theorem dX8_firstInformer_13 : decode cX8_firstInformer 13 = .ok (.iload_n 2, 1) := by decide +kernel
theorem dX8_firstInformer_14 : decode cX8_firstInformer 14 = .ok (.invokevirtual 31, 3) := by decide +kernel
theorem dX8_firstInformer_17 : decode cX8_firstInformer 17 = .ok (.ifCond .eq 10, 3) := by decide +kernel
theorem dX8_firstInformer_20 : decode cX8_firstInformer 20 = .ok (.aload_n 0, 1) := by decide +kernel
theorem dX8_firstInformer_21 : decode cX8_firstInformer 21 = .ok (.getfield 15, 3) := by decide +kernel
theorem dX8_firstInformer_24 : decode cX8_firstInformer 24 = .ok (.iload_n 3, 1) := by decide +kernel
theorem dX8_firstInformer_25 : decode cX8_firstInformer 25 = .ok (.iaload, 1) := by decide +kernel
theorem dX8_firstInformer_26 : decode cX8_firstInformer 26 = .ok (.ireturn, 1) := by decide +kernel
theorem dX8_firstInformer_27 : decode cX8_firstInformer 27 = .ok (.iinc 3 1, 3) := by decide +kernel
theorem dX8_firstInformer_30 : decode cX8_firstInformer 30 = .ok (.goto (-28), 3) := by decide +kernel
theorem dX8_firstInformer_33 : decode cX8_firstInformer 33 = .ok (.iconst (-1), 1) := by decide +kernel
theorem dX8_firstInformer_34 : decode cX8_firstInformer 34 = .ok (.ireturn, 1) := by decide +kernel
theorem dX8_prove_0 : decode cX8_prove 0 = .ok (.iload_n 2, 1) := by decide +kernel
theorem dX8_prove_1 : decode cX8_prove 1 = .ok (.ifCond .eq 21, 3) := by decide +kernel
theorem dX8_prove_4 : decode cX8_prove 4 = .ok (.aload_n 0, 1) := by decide +kernel
theorem dX8_prove_5 : decode cX8_prove 5 = .ok (.getfield 25, 3) := by decide +kernel
theorem dX8_prove_8 : decode cX8_prove 8 = .ok (.aload_n 0, 1) := by decide +kernel
theorem dX8_prove_9 : decode cX8_prove 9 = .ok (.getfield 15, 3) := by decide +kernel
theorem dX8_prove_12 : decode cX8_prove 12 = .ok (.iload_n 1, 1) := by decide +kernel
theorem dX8_prove_13 : decode cX8_prove 13 = .ok (.iaload, 1) := by decide +kernel
theorem dX8_prove_14 : decode cX8_prove 14 = .ok (.dup2, 1) := by decide +kernel
theorem dX8_prove_15 : decode cX8_prove 15 = .ok (.iaload, 1) := by decide +kernel
theorem dX8_prove_16 : decode cX8_prove 16 = .ok (.iconst 1, 1) := by decide +kernel
theorem dX8_prove_17 : decode cX8_prove 17 = .ok (.iadd, 1) := by decide +kernel
theorem dX8_prove_18 : decode cX8_prove 18 = .ok (.iastore, 1) := by decide +kernel
theorem dX8_prove_19 : decode cX8_prove 19 = .ok (.goto 18, 3) := by decide +kernel
theorem dX8_prove_22 : decode cX8_prove 22 = .ok (.aload_n 0, 1) := by decide +kernel
theorem dX8_prove_23 : decode cX8_prove 23 = .ok (.getfield 28, 3) := by decide +kernel
theorem dX8_prove_26 : decode cX8_prove 26 = .ok (.aload_n 0, 1) := by decide +kernel
theorem dX8_prove_27 : decode cX8_prove 27 = .ok (.getfield 15, 3) := by decide +kernel
theorem dX8_prove_30 : decode cX8_prove 30 = .ok (.iload_n 1, 1) := by decide +kernel
theorem dX8_prove_31 : decode cX8_prove 31 = .ok (.iaload, 1) := by decide +kernel
theorem dX8_prove_32 : decode cX8_prove 32 = .ok (.dup2, 1) := by decide +kernel
theorem dX8_prove_33 : decode cX8_prove 33 = .ok (.iaload, 1) := by decide +kernel
theorem dX8_prove_34 : decode cX8_prove 34 = .ok (.iconst 1, 1) := by decide +kernel
theorem dX8_prove_35 : decode cX8_prove 35 = .ok (.iadd, 1) := by decide +kernel
theorem dX8_prove_36 : decode cX8_prove 36 = .ok (.iastore, 1) := by decide +kernel
theorem dX8_prove_37 : decode cX8_prove 37 = .ok (.return_, 1) := by decide +kernel
theorem dX8_provedOf_0 : decode cX8_provedOf 0 = .ok (.aload_n 0, 1) := by decide +kernel
theorem dX8_provedOf_1 : decode cX8_provedOf 1 = .ok (.getfield 25, 3) := by decide +kernel
theorem dX8_provedOf_4 : decode cX8_provedOf 4 = .ok (.iload_n 1, 1) := by decide +kernel
theorem dX8_provedOf_5 : decode cX8_provedOf 5 = .ok (.iaload, 1) := by decide +kernel
theorem dX8_provedOf_6 : decode cX8_provedOf 6 = .ok (.aload_n 0, 1) := by decide +kernel
theorem dX8_provedOf_7 : decode cX8_provedOf 7 = .ok (.getfield 28, 3) := by decide +kernel
theorem dX8_provedOf_10 : decode cX8_provedOf 10 = .ok (.iload_n 1, 1) := by decide +kernel
theorem dX8_provedOf_11 : decode cX8_provedOf 11 = .ok (.iaload, 1) := by decide +kernel
theorem dX8_provedOf_12 : decode cX8_provedOf 12 = .ok (.iadd, 1) := by decide +kernel
theorem dX8_provedOf_13 : decode cX8_provedOf 13 = .ok (.ireturn, 1) := by decide +kernel
theorem dX8_rightOnes_0 : decode cX8_rightOnes 0 = .ok (.iconst 0, 1) := by decide +kernel
theorem dX8_rightOnes_1 : decode cX8_rightOnes 1 = .ok (.istore_n 1, 1) := by decide +kernel
theorem dX8_rightOnes_2 : decode cX8_rightOnes 2 = .ok (.iconst 0, 1) := by decide +kernel
theorem dX8_rightOnes_3 : decode cX8_rightOnes 3 = .ok (.istore_n 2, 1) := by decide +kernel
theorem dX8_rightOnes_4 : decode cX8_rightOnes 4 = .ok (.iload_n 2, 1) := by decide +kernel
theorem dX8_rightOnes_5 : decode cX8_rightOnes 5 = .ok (.bipush 6, 2) := by decide +kernel
theorem dX8_rightOnes_7 : decode cX8_rightOnes 7 = .ok (.if_icmp .ge 18, 3) := by decide +kernel
theorem dX8_rightOnes_10 : decode cX8_rightOnes 10 = .ok (.iload_n 1, 1) := by decide +kernel
theorem dX8_rightOnes_11 : decode cX8_rightOnes 11 = .ok (.aload_n 0, 1) := by decide +kernel
theorem dX8_rightOnes_12 : decode cX8_rightOnes 12 = .ok (.getfield 25, 3) := by decide +kernel
theorem dX8_rightOnes_15 : decode cX8_rightOnes 15 = .ok (.iload_n 2, 1) := by decide +kernel
theorem dX8_rightOnes_16 : decode cX8_rightOnes 16 = .ok (.iaload, 1) := by decide +kernel
theorem dX8_rightOnes_17 : decode cX8_rightOnes 17 = .ok (.iadd, 1) := by decide +kernel
theorem dX8_rightOnes_18 : decode cX8_rightOnes 18 = .ok (.istore_n 1, 1) := by decide +kernel
theorem dX8_rightOnes_19 : decode cX8_rightOnes 19 = .ok (.iinc 2 1, 3) := by decide +kernel
theorem dX8_rightOnes_22 : decode cX8_rightOnes 22 = .ok (.goto (-18), 3) := by decide +kernel
theorem dX8_rightOnes_25 : decode cX8_rightOnes 25 = .ok (.iload_n 1, 1) := by decide +kernel
theorem dX8_rightOnes_26 : decode cX8_rightOnes 26 = .ok (.ireturn, 1) := by decide +kernel
theorem dX8_wrongOnes_0 : decode cX8_wrongOnes 0 = .ok (.iconst 0, 1) := by decide +kernel
theorem dX8_wrongOnes_1 : decode cX8_wrongOnes 1 = .ok (.istore_n 1, 1) := by decide +kernel
theorem dX8_wrongOnes_2 : decode cX8_wrongOnes 2 = .ok (.iconst 0, 1) := by decide +kernel
theorem dX8_wrongOnes_3 : decode cX8_wrongOnes 3 = .ok (.istore_n 2, 1) := by decide +kernel
theorem dX8_wrongOnes_4 : decode cX8_wrongOnes 4 = .ok (.iload_n 2, 1) := by decide +kernel
theorem dX8_wrongOnes_5 : decode cX8_wrongOnes 5 = .ok (.bipush 6, 2) := by decide +kernel
theorem dX8_wrongOnes_7 : decode cX8_wrongOnes 7 = .ok (.if_icmp .ge 18, 3) := by decide +kernel
theorem dX8_wrongOnes_10 : decode cX8_wrongOnes 10 = .ok (.iload_n 1, 1) := by decide +kernel
theorem dX8_wrongOnes_11 : decode cX8_wrongOnes 11 = .ok (.aload_n 0, 1) := by decide +kernel
theorem dX8_wrongOnes_12 : decode cX8_wrongOnes 12 = .ok (.getfield 28, 3) := by decide +kernel
theorem dX8_wrongOnes_15 : decode cX8_wrongOnes 15 = .ok (.iload_n 2, 1) := by decide +kernel
theorem dX8_wrongOnes_16 : decode cX8_wrongOnes 16 = .ok (.iaload, 1) := by decide +kernel
theorem dX8_wrongOnes_17 : decode cX8_wrongOnes 17 = .ok (.iadd, 1) := by decide +kernel
theorem dX8_wrongOnes_18 : decode cX8_wrongOnes 18 = .ok (.istore_n 1, 1) := by decide +kernel
theorem dX8_wrongOnes_19 : decode cX8_wrongOnes 19 = .ok (.iinc 2 1, 3) := by decide +kernel
theorem dX8_wrongOnes_22 : decode cX8_wrongOnes 22 = .ok (.goto (-18), 3) := by decide +kernel
theorem dX8_wrongOnes_25 : decode cX8_wrongOnes 25 = .ok (.iload_n 1, 1) := by decide +kernel
theorem dX8_wrongOnes_26 : decode cX8_wrongOnes 26 = .ok (.ireturn, 1) := by decide +kernel
set_option maxRecDepth 20000 in
theorem ggX8_doubtAbove_X8_names : GoodIn wsX8_doubtAbove wsX8_names := goodIn_r _ [8, 9, 10, 11, 12, 13, 14, 15, 16] (by decide +kernel) (by decide +kernel)
set_option maxRecDepth 20000 in
theorem gX8_doubtAbove_X8_names : GoodIn wsX8_doubtAbove (wsV RX8 31 RX8 yX8_names wsX8_names) := goodIn_app (goodIn_of _ (by decide +kernel)) ggX8_doubtAbove_X8_names
theorem dX8_doubtAbove_0 : decode cX8_doubtAbove 0 = .ok (.lconst 1, 1) := by decide +kernel
theorem dX8_doubtAbove_1 : decode cX8_doubtAbove 1 = .ok (.lstore_n 3, 1) := by decide +kernel
theorem dX8_doubtAbove_2 : decode cX8_doubtAbove 2 = .ok (.iconst 0, 1) := by decide +kernel
theorem dX8_doubtAbove_3 : decode cX8_doubtAbove 3 = .ok (.istore 5, 2) := by decide +kernel
theorem dX8_doubtAbove_5 : decode cX8_doubtAbove 5 = .ok (.iload 5, 2) := by decide +kernel
theorem dX8_doubtAbove_7 : decode cX8_doubtAbove 7 = .ok (.aload_n 0, 1) := by decide +kernel
theorem dX8_doubtAbove_8 : decode cX8_doubtAbove 8 = .ok (.getfield 9, 3) := by decide +kernel
theorem dX8_doubtAbove_11 : decode cX8_doubtAbove 11 = .ok (.if_icmp .ge 38, 3) := by decide +kernel
theorem dX8_doubtAbove_14 : decode cX8_doubtAbove 14 = .ok (.aload_n 0, 1) := by decide +kernel
theorem dX8_doubtAbove_15 : decode cX8_doubtAbove 15 = .ok (.iload 5, 2) := by decide +kernel
theorem dX8_doubtAbove_17 : decode cX8_doubtAbove 17 = .ok (.iload_n 1, 1) := by decide +kernel
theorem dX8_doubtAbove_18 : decode cX8_doubtAbove 18 = .ok (.iload_n 2, 1) := by decide +kernel
theorem dX8_doubtAbove_19 : decode cX8_doubtAbove 19 = .ok (.invokevirtual 31, 3) := by decide +kernel
theorem dX8_doubtAbove_22 : decode cX8_doubtAbove 22 = .ok (.ifCond .eq 21, 3) := by decide +kernel
theorem dX8_doubtAbove_25 : decode cX8_doubtAbove 25 = .ok (.lload_n 3, 1) := by decide +kernel
theorem dX8_doubtAbove_26 : decode cX8_doubtAbove 26 = .ok (.aload_n 0, 1) := by decide +kernel
theorem dX8_doubtAbove_27 : decode cX8_doubtAbove 27 = .ok (.getfield 28, 3) := by decide +kernel
theorem dX8_doubtAbove_30 : decode cX8_doubtAbove 30 = .ok (.aload_n 0, 1) := by decide +kernel
theorem dX8_doubtAbove_31 : decode cX8_doubtAbove 31 = .ok (.getfield 15, 3) := by decide +kernel
theorem dX8_doubtAbove_34 : decode cX8_doubtAbove 34 = .ok (.iload 5, 2) := by decide +kernel
theorem dX8_doubtAbove_36 : decode cX8_doubtAbove 36 = .ok (.iaload, 1) := by decide +kernel
theorem dX8_doubtAbove_37 : decode cX8_doubtAbove 37 = .ok (.iaload, 1) := by decide +kernel
theorem dX8_doubtAbove_38 : decode cX8_doubtAbove 38 = .ok (.iconst 1, 1) := by decide +kernel
theorem dX8_doubtAbove_39 : decode cX8_doubtAbove 39 = .ok (.iadd, 1) := by decide +kernel
theorem dX8_doubtAbove_40 : decode cX8_doubtAbove 40 = .ok (.i2l, 1) := by decide +kernel
theorem dX8_doubtAbove_41 : decode cX8_doubtAbove 41 = .ok (.lmul, 1) := by decide +kernel
theorem dX8_doubtAbove_42 : decode cX8_doubtAbove 42 = .ok (.lstore_n 3, 1) := by decide +kernel
theorem dX8_doubtAbove_43 : decode cX8_doubtAbove 43 = .ok (.iinc 5 1, 3) := by decide +kernel
theorem dX8_doubtAbove_46 : decode cX8_doubtAbove 46 = .ok (.goto (-41), 3) := by decide +kernel
theorem dX8_doubtAbove_49 : decode cX8_doubtAbove 49 = .ok (.lload_n 3, 1) := by decide +kernel
theorem dX8_doubtAbove_50 : decode cX8_doubtAbove 50 = .ok (.lreturn, 1) := by decide +kernel
set_option maxRecDepth 20000 in
theorem ggX8_doubtBelow_X8_names : GoodIn wsX8_doubtBelow wsX8_names := goodIn_r _ [7, 8, 9, 16, 17, 18, 19, 20, 21] (by decide +kernel) (by decide +kernel)
set_option maxRecDepth 20000 in
theorem gX8_doubtBelow_X8_names : GoodIn wsX8_doubtBelow (wsV RX8 31 RX8 yX8_names wsX8_names) := goodIn_app (goodIn_of _ (by decide +kernel)) ggX8_doubtBelow_X8_names
set_option maxRecDepth 20000 in
theorem ggX8_doubtBelow_X8_provedOf : GoodIn wsX8_doubtBelow wsX8_provedOf := goodIn_r _ [13, 14, 15, 16, 17, 18, 19, 20, 21] (by decide +kernel) (by decide +kernel)
set_option maxRecDepth 20000 in
theorem gX8_doubtBelow_X8_provedOf : GoodIn wsX8_doubtBelow (wsV RX8 35 RX8 yX8_provedOf wsX8_provedOf) := goodIn_app (goodIn_of _ (by decide +kernel)) ggX8_doubtBelow_X8_provedOf
theorem dX8_doubtBelow_0 : decode cX8_doubtBelow 0 = .ok (.lconst 1, 1) := by decide +kernel
theorem dX8_doubtBelow_1 : decode cX8_doubtBelow 1 = .ok (.lstore_n 3, 1) := by decide +kernel
theorem dX8_doubtBelow_2 : decode cX8_doubtBelow 2 = .ok (.iconst 0, 1) := by decide +kernel
theorem dX8_doubtBelow_3 : decode cX8_doubtBelow 3 = .ok (.istore 5, 2) := by decide +kernel
theorem dX8_doubtBelow_5 : decode cX8_doubtBelow 5 = .ok (.iload 5, 2) := by decide +kernel
theorem dX8_doubtBelow_7 : decode cX8_doubtBelow 7 = .ok (.aload_n 0, 1) := by decide +kernel
theorem dX8_doubtBelow_8 : decode cX8_doubtBelow 8 = .ok (.getfield 9, 3) := by decide +kernel
theorem dX8_doubtBelow_11 : decode cX8_doubtBelow 11 = .ok (.if_icmp .ge 37, 3) := by decide +kernel
theorem dX8_doubtBelow_14 : decode cX8_doubtBelow 14 = .ok (.aload_n 0, 1) := by decide +kernel
theorem dX8_doubtBelow_15 : decode cX8_doubtBelow 15 = .ok (.iload 5, 2) := by decide +kernel
theorem dX8_doubtBelow_17 : decode cX8_doubtBelow 17 = .ok (.iload_n 1, 1) := by decide +kernel
theorem dX8_doubtBelow_18 : decode cX8_doubtBelow 18 = .ok (.iload_n 2, 1) := by decide +kernel
theorem dX8_doubtBelow_19 : decode cX8_doubtBelow 19 = .ok (.invokevirtual 31, 3) := by decide +kernel
theorem dX8_doubtBelow_22 : decode cX8_doubtBelow 22 = .ok (.ifCond .eq 20, 3) := by decide +kernel
theorem dX8_doubtBelow_25 : decode cX8_doubtBelow 25 = .ok (.lload_n 3, 1) := by decide +kernel
theorem dX8_doubtBelow_26 : decode cX8_doubtBelow 26 = .ok (.aload_n 0, 1) := by decide +kernel
theorem dX8_doubtBelow_27 : decode cX8_doubtBelow 27 = .ok (.aload_n 0, 1) := by decide +kernel
theorem dX8_doubtBelow_28 : decode cX8_doubtBelow 28 = .ok (.getfield 15, 3) := by decide +kernel
theorem dX8_doubtBelow_31 : decode cX8_doubtBelow 31 = .ok (.iload 5, 2) := by decide +kernel
theorem dX8_doubtBelow_33 : decode cX8_doubtBelow 33 = .ok (.iaload, 1) := by decide +kernel
theorem dX8_doubtBelow_34 : decode cX8_doubtBelow 34 = .ok (.invokevirtual 35, 3) := by decide +kernel
theorem dX8_doubtBelow_37 : decode cX8_doubtBelow 37 = .ok (.iconst 2, 1) := by decide +kernel
theorem dX8_doubtBelow_38 : decode cX8_doubtBelow 38 = .ok (.iadd, 1) := by decide +kernel
theorem dX8_doubtBelow_39 : decode cX8_doubtBelow 39 = .ok (.i2l, 1) := by decide +kernel
theorem dX8_doubtBelow_40 : decode cX8_doubtBelow 40 = .ok (.lmul, 1) := by decide +kernel
theorem dX8_doubtBelow_41 : decode cX8_doubtBelow 41 = .ok (.lstore_n 3, 1) := by decide +kernel
theorem dX8_doubtBelow_42 : decode cX8_doubtBelow 42 = .ok (.iinc 5 1, 3) := by decide +kernel
theorem dX8_doubtBelow_45 : decode cX8_doubtBelow 45 = .ok (.goto (-40), 3) := by decide +kernel
theorem dX8_doubtBelow_48 : decode cX8_doubtBelow 48 = .ok (.lload_n 3, 1) := by decide +kernel
theorem dX8_doubtBelow_49 : decode cX8_doubtBelow 49 = .ok (.lreturn, 1) := by decide +kernel
set_option maxRecDepth 20000 in
theorem ggX9_init_X7_init : GoodIn wsX9_init wsX7_init := goodIn_r _ [49, 50, 2, 3, 51, 8, 52, 53, 143, 144] (by decide +kernel) (by decide +kernel)
set_option maxRecDepth 20000 in
theorem gX9_init_X7_init : GoodIn wsX9_init (wsX7_init) := ggX9_init_X7_init
set_option maxRecDepth 20000 in
theorem ggX9_init_X1_init : GoodIn wsX9_init wsX1_init := goodIn_r _ [56, 57, 2, 3, 8, 58, 59, 60, 61, 62, 63, 64, 65, 145, 146, 147, 148, 149, 150, 151] (by decide +kernel) (by decide +kernel)
set_option maxRecDepth 20000 in
theorem gX9_init_X1_init : GoodIn wsX9_init (wsX1_init) := ggX9_init_X1_init
set_option maxRecDepth 20000 in
theorem ggX9_init_X0_init : GoodIn wsX9_init wsX0_init := goodIn_r _ [67, 68, 2, 3, 69, 8, 70, 71, 72, 73, 74, 75, 76, 77, 78, 152, 153, 154, 155, 156, 157, 158, 159, 160] (by decide +kernel) (by decide +kernel)
set_option maxRecDepth 20000 in
theorem gX9_init_X0_init_n45 : GoodIn wsX9_init (wsX0_init) := ggX9_init_X0_init
set_option maxRecDepth 20000 in
theorem ggX9_init_X3_init : GoodIn wsX9_init wsX3_init := goodIn_r _ [80, 81, 2, 3, 82, 8, 83, 84, 85, 86, 87, 88, 89, 161, 162, 163, 164, 165, 166, 167] (by decide +kernel) (by decide +kernel)
set_option maxRecDepth 20000 in
theorem gX9_init_X3_init_n52 : GoodIn wsX9_init (wsX3_init) := ggX9_init_X3_init
set_option maxRecDepth 20000 in
theorem ggX9_init_X5_init : GoodIn wsX9_init wsX5_init := goodIn_r _ [91, 92, 2, 3, 93, 8, 94, 95, 96, 97, 98, 99, 168, 169, 170, 171, 172, 173, 174] (by decide +kernel) (by decide +kernel)
set_option maxRecDepth 20000 in
theorem gX9_init_X5_init_n59 : GoodIn wsX9_init (wsX5_init) := ggX9_init_X5_init
set_option maxRecDepth 20000 in
theorem ggX9_init_X4_init : GoodIn wsX9_init wsX4_init := goodIn_r _ [101, 102, 2, 3, 103, 8, 104, 105, 106, 175, 176, 177, 178] (by decide +kernel) (by decide +kernel)
set_option maxRecDepth 20000 in
theorem gX9_init_X4_init_n66 : GoodIn wsX9_init (wsX4_init) := ggX9_init_X4_init
set_option maxRecDepth 20000 in
theorem ggX9_init_X8_init : GoodIn wsX9_init wsX8_init := goodIn_r _ [108, 109, 2, 3, 110, 8, 111, 112, 113, 114, 115, 179, 180, 181, 182, 183, 184] (by decide +kernel) (by decide +kernel)
set_option maxRecDepth 20000 in
theorem gX9_init_X8_init_n73 : GoodIn wsX9_init (wsX8_init) := ggX9_init_X8_init
set_option maxRecDepth 20000 in
theorem ggX9_init_X6_init : GoodIn wsX9_init wsX6_init := goodIn_r _ [117, 118, 2, 3, 8, 119, 120, 121, 185, 186, 187] (by decide +kernel) (by decide +kernel)
set_option maxRecDepth 20000 in
theorem gX9_init_X6_init_n80 : GoodIn wsX9_init (wsX6_init) := ggX9_init_X6_init
set_option maxRecDepth 20000 in
theorem ggX9_init_X2_init : GoodIn wsX9_init wsX2_init := goodIn_r _ [123, 124, 2, 3, 8, 125, 126, 127, 188, 189, 190] (by decide +kernel) (by decide +kernel)
set_option maxRecDepth 20000 in
theorem gX9_init_X2_init_n87 : GoodIn wsX9_init (wsX2_init) := ggX9_init_X2_init
