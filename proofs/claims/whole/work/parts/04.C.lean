theorem dX9_init_0 : decode cX9_init 0 = .ok (.aload_n 0, 1) := by decide +kernel
theorem dX9_init_1 : decode cX9_init 1 = .ok (.invokespecial 1, 3) := by decide +kernel
theorem dX9_init_4 : decode cX9_init 4 = .ok (.aload_n 0, 1) := by decide +kernel
theorem dX9_init_5 : decode cX9_init 5 = .ok (.iconst 0, 1) := by decide +kernel
theorem dX9_init_6 : decode cX9_init 6 = .ok (.putfield 7, 3) := by decide +kernel
theorem dX9_init_9 : decode cX9_init 9 = .ok (.aload_n 0, 1) := by decide +kernel
theorem dX9_init_10 : decode cX9_init 10 = .ok (.iconst 1, 1) := by decide +kernel
theorem dX9_init_11 : decode cX9_init 11 = .ok (.putfield 13, 3) := by decide +kernel
theorem dX9_init_14 : decode cX9_init 14 = .ok (.aload_n 0, 1) := by decide +kernel
theorem dX9_init_15 : decode cX9_init 15 = .ok (.iconst 0, 1) := by decide +kernel
theorem dX9_init_16 : decode cX9_init 16 = .ok (.putfield 16, 3) := by decide +kernel
theorem dX9_init_19 : decode cX9_init 19 = .ok (.aload_n 0, 1) := by decide +kernel
theorem dX9_init_20 : decode cX9_init 20 = .ok (.iconst 0, 1) := by decide +kernel
theorem dX9_init_21 : decode cX9_init 21 = .ok (.putfield 19, 3) := by decide +kernel
theorem dX9_init_24 : decode cX9_init 24 = .ok (.aload_n 0, 1) := by decide +kernel
theorem dX9_init_25 : decode cX9_init 25 = .ok (.bipush 8, 2) := by decide +kernel
theorem dX9_init_27 : decode cX9_init 27 = .ok (.newarray .int, 2) := by decide +kernel
theorem dX9_init_29 : decode cX9_init 29 = .ok (.putfield 22, 3) := by decide +kernel
theorem dX9_init_32 : decode cX9_init 32 = .ok (.aload_n 0, 1) := by decide +kernel
theorem dX9_init_33 : decode cX9_init 33 = .ok (.bipush 8, 2) := by decide +kernel
theorem dX9_init_35 : decode cX9_init 35 = .ok (.newarray .int, 2) := by decide +kernel
theorem dX9_init_37 : decode cX9_init 37 = .ok (.putfield 26, 3) := by decide +kernel
theorem dX9_init_40 : decode cX9_init 40 = .ok (.aload_n 0, 1) := by decide +kernel
theorem dX9_init_41 : decode cX9_init 41 = .ok (.new 29, 3) := by decide +kernel
theorem dX9_init_44 : decode cX9_init 44 = .ok (.dup, 1) := by decide +kernel
theorem dX9_init_45 : decode cX9_init 45 = .ok (.invokespecial 31, 3) := by decide +kernel
theorem dX9_init_48 : decode cX9_init 48 = .ok (.putfield 32, 3) := by decide +kernel
theorem dX9_init_51 : decode cX9_init 51 = .ok (.aload_n 0, 1) := by decide +kernel
theorem dX9_init_52 : decode cX9_init 52 = .ok (.new 36, 3) := by decide +kernel
theorem dX9_init_55 : decode cX9_init 55 = .ok (.dup, 1) := by decide +kernel
theorem dX9_init_56 : decode cX9_init 56 = .ok (.invokespecial 38, 3) := by decide +kernel
theorem dX9_init_59 : decode cX9_init 59 = .ok (.putfield 39, 3) := by decide +kernel
theorem dX9_init_62 : decode cX9_init 62 = .ok (.aload_n 0, 1) := by decide +kernel
theorem dX9_init_63 : decode cX9_init 63 = .ok (.new 43, 3) := by decide +kernel
theorem dX9_init_66 : decode cX9_init 66 = .ok (.dup, 1) := by decide +kernel
theorem dX9_init_67 : decode cX9_init 67 = .ok (.invokespecial 45, 3) := by decide +kernel
theorem dX9_init_70 : decode cX9_init 70 = .ok (.putfield 46, 3) := by decide +kernel
theorem dX9_init_73 : decode cX9_init 73 = .ok (.aload_n 0, 1) := by decide +kernel
theorem dX9_init_74 : decode cX9_init 74 = .ok (.new 50, 3) := by decide +kernel
theorem dX9_init_77 : decode cX9_init 77 = .ok (.dup, 1) := by decide +kernel
theorem dX9_init_78 : decode cX9_init 78 = .ok (.invokespecial 52, 3) := by decide +kernel
theorem dX9_init_81 : decode cX9_init 81 = .ok (.putfield 53, 3) := by decide +kernel
theorem dX9_init_84 : decode cX9_init 84 = .ok (.aload_n 0, 1) := by decide +kernel
theorem dX9_init_85 : decode cX9_init 85 = .ok (.new 57, 3) := by decide +kernel
theorem dX9_init_88 : decode cX9_init 88 = .ok (.dup, 1) := by decide +kernel
theorem dX9_init_89 : decode cX9_init 89 = .ok (.invokespecial 59, 3) := by decide +kernel
theorem dX9_init_92 : decode cX9_init 92 = .ok (.putfield 60, 3) := by decide +kernel
theorem dX9_init_95 : decode cX9_init 95 = .ok (.aload_n 0, 1) := by decide +kernel
theorem dX9_init_96 : decode cX9_init 96 = .ok (.new 64, 3) := by decide +kernel
theorem dX9_init_99 : decode cX9_init 99 = .ok (.dup, 1) := by decide +kernel
theorem dX9_init_100 : decode cX9_init 100 = .ok (.invokespecial 66, 3) := by decide +kernel
theorem dX9_init_103 : decode cX9_init 103 = .ok (.putfield 67, 3) := by decide +kernel
theorem dX9_init_106 : decode cX9_init 106 = .ok (.aload_n 0, 1) := by decide +kernel
theorem dX9_init_107 : decode cX9_init 107 = .ok (.new 71, 3) := by decide +kernel
theorem dX9_init_110 : decode cX9_init 110 = .ok (.dup, 1) := by decide +kernel
theorem dX9_init_111 : decode cX9_init 111 = .ok (.invokespecial 73, 3) := by decide +kernel
theorem dX9_init_114 : decode cX9_init 114 = .ok (.putfield 74, 3) := by decide +kernel
theorem dX9_init_117 : decode cX9_init 117 = .ok (.aload_n 0, 1) := by decide +kernel
theorem dX9_init_118 : decode cX9_init 118 = .ok (.new 78, 3) := by decide +kernel
theorem dX9_init_121 : decode cX9_init 121 = .ok (.dup, 1) := by decide +kernel
theorem dX9_init_122 : decode cX9_init 122 = .ok (.invokespecial 80, 3) := by decide +kernel
theorem dX9_init_125 : decode cX9_init 125 = .ok (.putfield 81, 3) := by decide +kernel
theorem dX9_init_128 : decode cX9_init 128 = .ok (.aload_n 0, 1) := by decide +kernel
theorem dX9_init_129 : decode cX9_init 129 = .ok (.new 85, 3) := by decide +kernel
theorem dX9_init_132 : decode cX9_init 132 = .ok (.dup, 1) := by decide +kernel
theorem dX9_init_133 : decode cX9_init 133 = .ok (.invokespecial 87, 3) := by decide +kernel
theorem dX9_init_136 : decode cX9_init 136 = .ok (.putfield 88, 3) := by decide +kernel
theorem dX9_init_139 : decode cX9_init 139 = .ok (.return_, 1) := by decide +kernel
theorem dX9_seed_0 : decode cX9_seed 0 = .ok (.aload_n 0, 1) := by decide +kernel
theorem dX9_seed_1 : decode cX9_seed 1 = .ok (.getfield 13, 3) := by decide +kernel
theorem dX9_seed_4 : decode cX9_seed 4 = .ok (.istore_n 2, 1) := by decide +kernel
theorem dX9_seed_5 : decode cX9_seed 5 = .ok (.aload_n 0, 1) := by decide +kernel
theorem dX9_seed_6 : decode cX9_seed 6 = .ok (.iload_n 1, 1) := by decide +kernel
theorem dX9_seed_7 : decode cX9_seed 7 = .ok (.putfield 13, 3) := by decide +kernel
theorem dX9_seed_10 : decode cX9_seed 10 = .ok (.iload_n 2, 1) := by decide +kernel
theorem dX9_seed_11 : decode cX9_seed 11 = .ok (.ireturn, 1) := by decide +kernel
set_option maxRecDepth 20000 in
theorem ggX9_cove_X9_isCove : GoodIn wsX9_cove wsX9_isCove := goodIn_r _ [7] (by decide +kernel) (by decide +kernel)
set_option maxRecDepth 20000 in
theorem gX9_cove_X9_isCove : GoodIn wsX9_cove (va_wsS RX9 92 yX9_isCove wsX9_isCove) := goodIn_app (goodIn_of _ (by decide +kernel)) ggX9_cove_X9_isCove
set_option maxRecDepth 20000 in
theorem ggX9_cove_X9_refuse : GoodIn wsX9_cove wsX9_refuse := goodIn_r _ [11, 12, 13, 14, 15, 16, 17, 18, 19, 20, 21, 22, 23, 24, 25, 26, 27] (by decide +kernel) (by decide +kernel)
set_option maxRecDepth 20000 in
theorem gX9_cove_X9_refuse : GoodIn wsX9_cove (wsV RX9 96 RX9 yX9_refuse wsX9_refuse) := goodIn_app (goodIn_of _ (by decide +kernel)) ggX9_cove_X9_refuse
theorem dX9_cove_0 : decode cX9_cove 0 = .ok (.iload_n 1, 1) := by decide +kernel
theorem dX9_cove_1 : decode cX9_cove 1 = .ok (.invokestatic 92, 3) := by decide +kernel
theorem dX9_cove_4 : decode cX9_cove 4 = .ok (.ifCond .ne 9, 3) := by decide +kernel
theorem dX9_cove_7 : decode cX9_cove 7 = .ok (.aload_n 0, 1) := by decide +kernel
theorem dX9_cove_8 : decode cX9_cove 8 = .ok (.iconst (-1), 1) := by decide +kernel
theorem dX9_cove_9 : decode cX9_cove 9 = .ok (.invokevirtual 96, 3) := by decide +kernel
theorem dX9_cove_12 : decode cX9_cove 12 = .ok (.ireturn, 1) := by decide +kernel
theorem dX9_cove_13 : decode cX9_cove 13 = .ok (.iload_n 2, 1) := by decide +kernel
theorem dX9_cove_14 : decode cX9_cove 14 = .ok (.ifCond .lt 8, 3) := by decide +kernel
theorem dX9_cove_17 : decode cX9_cove 17 = .ok (.iload_n 3, 1) := by decide +kernel
theorem dX9_cove_18 : decode cX9_cove 18 = .ok (.iconst 1, 1) := by decide +kernel
theorem dX9_cove_19 : decode cX9_cove 19 = .ok (.if_icmp .ge 10, 3) := by decide +kernel
theorem dX9_cove_22 : decode cX9_cove 22 = .ok (.aload_n 0, 1) := by decide +kernel
theorem dX9_cove_23 : decode cX9_cove 23 = .ok (.bipush (-4), 2) := by decide +kernel
theorem dX9_cove_25 : decode cX9_cove 25 = .ok (.invokevirtual 96, 3) := by decide +kernel
theorem dX9_cove_28 : decode cX9_cove 28 = .ok (.ireturn, 1) := by decide +kernel
theorem dX9_cove_29 : decode cX9_cove 29 = .ok (.iload_n 2, 1) := by decide +kernel
theorem dX9_cove_30 : decode cX9_cove 30 = .ok (.bipush 9, 2) := by decide +kernel
theorem dX9_cove_32 : decode cX9_cove 32 = .ok (.if_icmp .gt 9, 3) := by decide +kernel
theorem dX9_cove_35 : decode cX9_cove 35 = .ok (.iload_n 3, 1) := by decide +kernel
theorem dX9_cove_36 : decode cX9_cove 36 = .ok (.bipush 99, 2) := by decide +kernel
theorem dX9_cove_38 : decode cX9_cove 38 = .ok (.if_icmp .le 10, 3) := by decide +kernel
theorem dX9_cove_41 : decode cX9_cove 41 = .ok (.aload_n 0, 1) := by decide +kernel
theorem dX9_cove_42 : decode cX9_cove 42 = .ok (.bipush (-6), 2) := by decide +kernel
theorem dX9_cove_44 : decode cX9_cove 44 = .ok (.invokevirtual 96, 3) := by decide +kernel
theorem dX9_cove_47 : decode cX9_cove 47 = .ok (.ireturn, 1) := by decide +kernel
theorem dX9_cove_48 : decode cX9_cove 48 = .ok (.aload_n 0, 1) := by decide +kernel
theorem dX9_cove_49 : decode cX9_cove 49 = .ok (.getfield 39, 3) := by decide +kernel
theorem dX9_cove_52 : decode cX9_cove 52 = .ok (.getfield 100, 3) := by decide +kernel
theorem dX9_cove_55 : decode cX9_cove 55 = .ok (.iload_n 1, 1) := by decide +kernel
theorem dX9_cove_56 : decode cX9_cove 56 = .ok (.iload_n 2, 1) := by decide +kernel
theorem dX9_cove_57 : decode cX9_cove 57 = .ok (.iastore, 1) := by decide +kernel
theorem dX9_cove_58 : decode cX9_cove 58 = .ok (.aload_n 0, 1) := by decide +kernel
theorem dX9_cove_59 : decode cX9_cove 59 = .ok (.getfield 39, 3) := by decide +kernel
theorem dX9_cove_62 : decode cX9_cove 62 = .ok (.getfield 103, 3) := by decide +kernel
theorem dX9_cove_65 : decode cX9_cove 65 = .ok (.iload_n 1, 1) := by decide +kernel
theorem dX9_cove_66 : decode cX9_cove 66 = .ok (.iload_n 3, 1) := by decide +kernel
theorem dX9_cove_67 : decode cX9_cove 67 = .ok (.iastore, 1) := by decide +kernel
theorem dX9_cove_68 : decode cX9_cove 68 = .ok (.iconst 1, 1) := by decide +kernel
theorem dX9_cove_69 : decode cX9_cove 69 = .ok (.ireturn, 1) := by decide +kernel
set_option maxRecDepth 20000 in
theorem ggX9_row_X9_isTable : GoodIn wsX9_row wsX9_isTable := goodIn_r _ [5] (by decide +kernel) (by decide +kernel)
set_option maxRecDepth 20000 in
theorem gX9_row_X9_isTable : GoodIn wsX9_row (va_wsS RX9 106 yX9_isTable wsX9_isTable) := goodIn_app (goodIn_of _ (by decide +kernel)) ggX9_row_X9_isTable
set_option maxRecDepth 20000 in
theorem ggX9_row_X9_refuse : GoodIn wsX9_row wsX9_refuse := goodIn_r _ [9, 10, 18, 19, 20, 21, 22, 23, 24, 25, 26, 27, 28, 29, 30, 31, 32] (by decide +kernel) (by decide +kernel)
set_option maxRecDepth 20000 in
theorem gX9_row_X9_refuse : GoodIn wsX9_row (wsV RX9 96 RX9 yX9_refuse wsX9_refuse) := goodIn_app (goodIn_of _ (by decide +kernel)) ggX9_row_X9_refuse
set_option maxRecDepth 20000 in
theorem ggX9_row_X7_begin : GoodIn wsX9_row wsX7_begin := goodIn_r _ [15, 16, 17, 33, 34] (by decide +kernel) (by decide +kernel)
set_option maxRecDepth 20000 in
theorem gX9_row_X7_begin : GoodIn wsX9_row (wsV RX9 109 RX7 yX7_begin wsX7_begin) := goodIn_app (goodIn_of _ (by decide +kernel)) ggX9_row_X7_begin
theorem dX9_row_0 : decode cX9_row 0 = .ok (.iload_n 1, 1) := by decide +kernel
theorem dX9_row_1 : decode cX9_row 1 = .ok (.invokestatic 106, 3) := by decide +kernel
theorem dX9_row_4 : decode cX9_row 4 = .ok (.ifCond .ne 9, 3) := by decide +kernel
theorem dX9_row_7 : decode cX9_row 7 = .ok (.aload_n 0, 1) := by decide +kernel
theorem dX9_row_8 : decode cX9_row 8 = .ok (.iconst (-1), 1) := by decide +kernel
theorem dX9_row_9 : decode cX9_row 9 = .ok (.invokevirtual 96, 3) := by decide +kernel
theorem dX9_row_12 : decode cX9_row 12 = .ok (.ireturn, 1) := by decide +kernel
theorem dX9_row_13 : decode cX9_row 13 = .ok (.iload_n 2, 1) := by decide +kernel
theorem dX9_row_14 : decode cX9_row 14 = .ok (.ifCond .ge 10, 3) := by decide +kernel
theorem dX9_row_17 : decode cX9_row 17 = .ok (.aload_n 0, 1) := by decide +kernel
theorem dX9_row_18 : decode cX9_row 18 = .ok (.bipush (-4), 2) := by decide +kernel
theorem dX9_row_20 : decode cX9_row 20 = .ok (.invokevirtual 96, 3) := by decide +kernel
theorem dX9_row_23 : decode cX9_row 23 = .ok (.ireturn, 1) := by decide +kernel
theorem dX9_row_24 : decode cX9_row 24 = .ok (.iload_n 2, 1) := by decide +kernel
theorem dX9_row_25 : decode cX9_row 25 = .ok (.bipush 30, 2) := by decide +kernel
theorem dX9_row_27 : decode cX9_row 27 = .ok (.if_icmp .le 10, 3) := by decide +kernel
theorem dX9_row_30 : decode cX9_row 30 = .ok (.aload_n 0, 1) := by decide +kernel
theorem dX9_row_31 : decode cX9_row 31 = .ok (.bipush (-6), 2) := by decide +kernel
theorem dX9_row_33 : decode cX9_row 33 = .ok (.invokevirtual 96, 3) := by decide +kernel
theorem dX9_row_36 : decode cX9_row 36 = .ok (.ireturn, 1) := by decide +kernel
theorem dX9_row_37 : decode cX9_row 37 = .ok (.aload_n 0, 1) := by decide +kernel
theorem dX9_row_38 : decode cX9_row 38 = .ok (.getfield 32, 3) := by decide +kernel
theorem dX9_row_41 : decode cX9_row 41 = .ok (.iload_n 1, 1) := by decide +kernel
theorem dX9_row_42 : decode cX9_row 42 = .ok (.iload_n 2, 1) := by decide +kernel
theorem dX9_row_43 : decode cX9_row 43 = .ok (.invokevirtual 109, 3) := by decide +kernel
theorem dX9_row_46 : decode cX9_row 46 = .ok (.iload_n 2, 1) := by decide +kernel
theorem dX9_row_47 : decode cX9_row 47 = .ok (.ireturn, 1) := by decide +kernel
set_option maxRecDepth 20000 in
theorem ggX9_lose_X9_isTable : GoodIn wsX9_lose wsX9_isTable := goodIn_r _ [5] (by decide +kernel) (by decide +kernel)
set_option maxRecDepth 20000 in
theorem gX9_lose_X9_isTable : GoodIn wsX9_lose (va_wsS RX9 106 yX9_isTable wsX9_isTable) := goodIn_app (goodIn_of _ (by decide +kernel)) ggX9_lose_X9_isTable
set_option maxRecDepth 20000 in
theorem ggX9_lose_X9_refuse : GoodIn wsX9_lose wsX9_refuse := goodIn_r _ [9, 10, 21, 22, 23, 24, 25, 26, 27, 28, 29, 30, 31, 32, 33, 34, 35] (by decide +kernel) (by decide +kernel)
set_option maxRecDepth 20000 in
theorem gX9_lose_X9_refuse : GoodIn wsX9_lose (wsV RX9 96 RX9 yX9_refuse wsX9_refuse) := goodIn_app (goodIn_of _ (by decide +kernel)) ggX9_lose_X9_refuse
set_option maxRecDepth 20000 in
theorem ggX9_lose_X7_isMissing : GoodIn wsX9_lose wsX7_isMissing := goodIn_r _ [15, 16, 36, 37] (by decide +kernel) (by decide +kernel)
set_option maxRecDepth 20000 in
theorem gX9_lose_X7_isMissing : GoodIn wsX9_lose (wsV RX9 113 RX7 yX7_isMissing wsX7_isMissing) := goodIn_app (goodIn_of _ (by decide +kernel)) ggX9_lose_X7_isMissing
set_option maxRecDepth 20000 in
theorem ggX9_lose_X7_forget : GoodIn wsX9_lose wsX7_forget := goodIn_r _ [20, 16, 36, 37] (by decide +kernel) (by decide +kernel)
set_option maxRecDepth 20000 in
theorem gX9_lose_X7_forget : GoodIn wsX9_lose (wsV RX9 116 RX7 yX7_forget wsX7_forget) := goodIn_app (goodIn_of _ (by decide +kernel)) ggX9_lose_X7_forget
theorem dX9_lose_0 : decode cX9_lose 0 = .ok (.iload_n 1, 1) := by decide +kernel
theorem dX9_lose_1 : decode cX9_lose 1 = .ok (.invokestatic 106, 3) := by decide +kernel
theorem dX9_lose_4 : decode cX9_lose 4 = .ok (.ifCond .ne 9, 3) := by decide +kernel
theorem dX9_lose_7 : decode cX9_lose 7 = .ok (.aload_n 0, 1) := by decide +kernel
theorem dX9_lose_8 : decode cX9_lose 8 = .ok (.iconst (-1), 1) := by decide +kernel
theorem dX9_lose_9 : decode cX9_lose 9 = .ok (.invokevirtual 96, 3) := by decide +kernel
theorem dX9_lose_12 : decode cX9_lose 12 = .ok (.ireturn, 1) := by decide +kernel
theorem dX9_lose_13 : decode cX9_lose 13 = .ok (.aload_n 0, 1) := by decide +kernel
theorem dX9_lose_14 : decode cX9_lose 14 = .ok (.getfield 32, 3) := by decide +kernel
theorem dX9_lose_17 : decode cX9_lose 17 = .ok (.iload_n 1, 1) := by decide +kernel
theorem dX9_lose_18 : decode cX9_lose 18 = .ok (.invokevirtual 113, 3) := by decide +kernel
theorem dX9_lose_21 : decode cX9_lose 21 = .ok (.ifCond .eq 5, 3) := by decide +kernel
theorem dX9_lose_24 : decode cX9_lose 24 = .ok (.iconst 0, 1) := by decide +kernel
theorem dX9_lose_25 : decode cX9_lose 25 = .ok (.ireturn, 1) := by decide +kernel
theorem dX9_lose_26 : decode cX9_lose 26 = .ok (.aload_n 0, 1) := by decide +kernel
theorem dX9_lose_27 : decode cX9_lose 27 = .ok (.getfield 32, 3) := by decide +kernel
theorem dX9_lose_30 : decode cX9_lose 30 = .ok (.iload_n 1, 1) := by decide +kernel
theorem dX9_lose_31 : decode cX9_lose 31 = .ok (.invokevirtual 116, 3) := by decide +kernel
theorem dX9_lose_34 : decode cX9_lose 34 = .ok (.iconst 1, 1) := by decide +kernel
theorem dX9_lose_35 : decode cX9_lose 35 = .ok (.ireturn, 1) := by decide +kernel
set_option maxRecDepth 20000 in
theorem ggX9_put_X9_isTable : GoodIn wsX9_put wsX9_isTable := goodIn_r _ [7] (by decide +kernel) (by decide +kernel)
set_option maxRecDepth 20000 in
theorem gX9_put_X9_isTable : GoodIn wsX9_put (va_wsS RX9 106 yX9_isTable wsX9_isTable) := goodIn_app (goodIn_of _ (by decide +kernel)) ggX9_put_X9_isTable
set_option maxRecDepth 20000 in
theorem ggX9_put_X9_refuse : GoodIn wsX9_put wsX9_refuse := goodIn_r _ [11, 12, 19, 20, 21, 22, 23, 24, 25, 26, 27, 28, 29, 30, 31, 32, 33] (by decide +kernel) (by decide +kernel)
set_option maxRecDepth 20000 in
theorem gX9_put_X9_refuse : GoodIn wsX9_put (wsV RX9 96 RX9 yX9_refuse wsX9_refuse) := goodIn_app (goodIn_of _ (by decide +kernel)) ggX9_put_X9_refuse
set_option maxRecDepth 20000 in
theorem ggX9_put_X7_isMissing : GoodIn wsX9_put wsX7_isMissing := goodIn_r _ [17, 18, 34, 35] (by decide +kernel) (by decide +kernel)
set_option maxRecDepth 20000 in
theorem gX9_put_X7_isMissing : GoodIn wsX9_put (wsV RX9 113 RX7 yX7_isMissing wsX7_isMissing) := goodIn_app (goodIn_of _ (by decide +kernel)) ggX9_put_X7_isMissing
theorem dX9_put_0 : decode cX9_put 0 = .ok (.iload_n 1, 1) := by decide +kernel
theorem dX9_put_1 : decode cX9_put 1 = .ok (.invokestatic 106, 3) := by decide +kernel
theorem dX9_put_4 : decode cX9_put 4 = .ok (.ifCond .ne 9, 3) := by decide +kernel
theorem dX9_put_7 : decode cX9_put 7 = .ok (.aload_n 0, 1) := by decide +kernel
theorem dX9_put_8 : decode cX9_put 8 = .ok (.iconst (-1), 1) := by decide +kernel
theorem dX9_put_9 : decode cX9_put 9 = .ok (.invokevirtual 96, 3) := by decide +kernel
theorem dX9_put_12 : decode cX9_put 12 = .ok (.ireturn, 1) := by decide +kernel
theorem dX9_put_13 : decode cX9_put 13 = .ok (.aload_n 0, 1) := by decide +kernel
theorem dX9_put_14 : decode cX9_put 14 = .ok (.getfield 32, 3) := by decide +kernel
theorem dX9_put_17 : decode cX9_put 17 = .ok (.iload_n 1, 1) := by decide +kernel
theorem dX9_put_18 : decode cX9_put 18 = .ok (.invokevirtual 113, 3) := by decide +kernel
theorem dX9_put_21 : decode cX9_put 21 = .ok (.ifCond .eq 10, 3) := by decide +kernel
theorem dX9_put_24 : decode cX9_put 24 = .ok (.aload_n 0, 1) := by decide +kernel
theorem dX9_put_25 : decode cX9_put 25 = .ok (.bipush (-5), 2) := by decide +kernel
theorem dX9_put_27 : decode cX9_put 27 = .ok (.invokevirtual 96, 3) := by decide +kernel
theorem dX9_put_30 : decode cX9_put 30 = .ok (.ireturn, 1) := by decide +kernel
theorem dX9_put_31 : decode cX9_put 31 = .ok (.iload_n 2, 1) := by decide +kernel
theorem dX9_put_32 : decode cX9_put 32 = .ok (.ifCond .lt 16, 3) := by decide +kernel
theorem dX9_put_35 : decode cX9_put 35 = .ok (.iload_n 2, 1) := by decide +kernel
theorem dX9_put_36 : decode cX9_put 36 = .ok (.aload_n 0, 1) := by decide +kernel
theorem dX9_put_37 : decode cX9_put 37 = .ok (.getfield 32, 3) := by decide +kernel
theorem dX9_put_40 : decode cX9_put 40 = .ok (.getfield 120, 3) := by decide +kernel
theorem dX9_put_43 : decode cX9_put 43 = .ok (.iload_n 1, 1) := by decide +kernel
theorem dX9_put_44 : decode cX9_put 44 = .ok (.iaload, 1) := by decide +kernel
theorem dX9_put_45 : decode cX9_put 45 = .ok (.if_icmp .lt 10, 3) := by decide +kernel
theorem dX9_put_48 : decode cX9_put 48 = .ok (.aload_n 0, 1) := by decide +kernel
theorem dX9_put_49 : decode cX9_put 49 = .ok (.bipush (-7), 2) := by decide +kernel
theorem dX9_put_51 : decode cX9_put 51 = .ok (.invokevirtual 96, 3) := by decide +kernel
theorem dX9_put_54 : decode cX9_put 54 = .ok (.ireturn, 1) := by decide +kernel
theorem dX9_put_55 : decode cX9_put 55 = .ok (.iload_n 3, 1) := by decide +kernel
theorem dX9_put_56 : decode cX9_put 56 = .ok (.ifCond .ge 10, 3) := by decide +kernel
theorem dX9_put_59 : decode cX9_put 59 = .ok (.aload_n 0, 1) := by decide +kernel
theorem dX9_put_60 : decode cX9_put 60 = .ok (.bipush (-4), 2) := by decide +kernel
theorem dX9_put_62 : decode cX9_put 62 = .ok (.invokevirtual 96, 3) := by decide +kernel
theorem dX9_put_65 : decode cX9_put 65 = .ok (.ireturn, 1) := by decide +kernel
theorem dX9_put_66 : decode cX9_put 66 = .ok (.iload_n 3, 1) := by decide +kernel
theorem dX9_put_67 : decode cX9_put 67 = .ok (.bipush 20, 2) := by decide +kernel
theorem dX9_put_69 : decode cX9_put 69 = .ok (.if_icmp .le 10, 3) := by decide +kernel
theorem dX9_put_72 : decode cX9_put 72 = .ok (.aload_n 0, 1) := by decide +kernel
theorem dX9_put_73 : decode cX9_put 73 = .ok (.bipush (-6), 2) := by decide +kernel
theorem dX9_put_75 : decode cX9_put 75 = .ok (.invokevirtual 96, 3) := by decide +kernel
theorem dX9_put_78 : decode cX9_put 78 = .ok (.ireturn, 1) := by decide +kernel
theorem dX9_put_79 : decode cX9_put 79 = .ok (.aload_n 0, 1) := by decide +kernel
theorem dX9_put_80 : decode cX9_put 80 = .ok (.getfield 32, 3) := by decide +kernel
theorem dX9_put_83 : decode cX9_put 83 = .ok (.getfield 123, 3) := by decide +kernel
theorem dX9_put_86 : decode cX9_put 86 = .ok (.iload_n 1, 1) := by decide +kernel
theorem dX9_put_87 : decode cX9_put 87 = .ok (.aaload, 1) := by decide +kernel
theorem dX9_put_88 : decode cX9_put 88 = .ok (.iload_n 2, 1) := by decide +kernel
theorem dX9_put_89 : decode cX9_put 89 = .ok (.iaload, 1) := by decide +kernel
theorem dX9_put_90 : decode cX9_put 90 = .ok (.istore 4, 2) := by decide +kernel
theorem dX9_put_92 : decode cX9_put 92 = .ok (.aload_n 0, 1) := by decide +kernel
theorem dX9_put_93 : decode cX9_put 93 = .ok (.getfield 32, 3) := by decide +kernel
theorem dX9_put_96 : decode cX9_put 96 = .ok (.getfield 123, 3) := by decide +kernel
theorem dX9_put_99 : decode cX9_put 99 = .ok (.iload_n 1, 1) := by decide +kernel
theorem dX9_put_100 : decode cX9_put 100 = .ok (.aaload, 1) := by decide +kernel
theorem dX9_put_101 : decode cX9_put 101 = .ok (.iload_n 2, 1) := by decide +kernel
theorem dX9_put_102 : decode cX9_put 102 = .ok (.iload_n 3, 1) := by decide +kernel
theorem dX9_put_103 : decode cX9_put 103 = .ok (.iastore, 1) := by decide +kernel
theorem dX9_put_104 : decode cX9_put 104 = .ok (.iload 4, 2) := by decide +kernel
theorem dX9_put_106 : decode cX9_put 106 = .ok (.ireturn, 1) := by decide +kernel
set_option maxRecDepth 20000 in
theorem ggX9_copy_X9_isTable : GoodIn wsX9_copy wsX9_isTable := goodIn_r _ [10] (by decide +kernel) (by decide +kernel)
set_option maxRecDepth 20000 in
theorem gX9_copy_X9_isTable : GoodIn wsX9_copy (va_wsS RX9 106 yX9_isTable wsX9_isTable) := goodIn_app (goodIn_of _ (by decide +kernel)) ggX9_copy_X9_isTable
set_option maxRecDepth 20000 in
theorem ggX9_copy_X9_refuse : GoodIn wsX9_copy wsX9_refuse := goodIn_r _ [14, 15, 26, 27, 28, 29, 30, 31, 32, 33, 34, 35, 36, 37, 38, 39, 40] (by decide +kernel) (by decide +kernel)
set_option maxRecDepth 20000 in
theorem gX9_copy_X9_refuse : GoodIn wsX9_copy (wsV RX9 96 RX9 yX9_refuse wsX9_refuse) := goodIn_app (goodIn_of _ (by decide +kernel)) ggX9_copy_X9_refuse
set_option maxRecDepth 20000 in
theorem ggX9_copy_X7_isMissing : GoodIn wsX9_copy wsX7_isMissing := goodIn_r _ [20, 21, 41, 42] (by decide +kernel) (by decide +kernel)
set_option maxRecDepth 20000 in
theorem gX9_copy_X7_isMissing : GoodIn wsX9_copy (wsV RX9 113 RX7 yX7_isMissing wsX7_isMissing) := goodIn_app (goodIn_of _ (by decide +kernel)) ggX9_copy_X7_isMissing
set_option maxRecDepth 20000 in
theorem ggX9_copy_X7_hasPlaces : GoodIn wsX9_copy wsX7_hasPlaces := goodIn_r _ [25, 21, 41, 42] (by decide +kernel) (by decide +kernel)
set_option maxRecDepth 20000 in
theorem gX9_copy_X7_hasPlaces : GoodIn wsX9_copy (wsV RX9 127 RX7 yX7_hasPlaces wsX7_hasPlaces) := goodIn_app (goodIn_of _ (by decide +kernel)) ggX9_copy_X7_hasPlaces
theorem dX9_copy_0 : decode cX9_copy 0 = .ok (.iload_n 1, 1) := by decide +kernel
theorem dX9_copy_1 : decode cX9_copy 1 = .ok (.invokestatic 106, 3) := by decide +kernel
theorem dX9_copy_4 : decode cX9_copy 4 = .ok (.ifCond .eq 10, 3) := by decide +kernel
theorem dX9_copy_7 : decode cX9_copy 7 = .ok (.iload_n 3, 1) := by decide +kernel
theorem dX9_copy_8 : decode cX9_copy 8 = .ok (.invokestatic 106, 3) := by decide +kernel
theorem dX9_copy_11 : decode cX9_copy 11 = .ok (.ifCond .ne 9, 3) := by decide +kernel
theorem dX9_copy_14 : decode cX9_copy 14 = .ok (.aload_n 0, 1) := by decide +kernel
theorem dX9_copy_15 : decode cX9_copy 15 = .ok (.iconst (-1), 1) := by decide +kernel
theorem dX9_copy_16 : decode cX9_copy 16 = .ok (.invokevirtual 96, 3) := by decide +kernel
theorem dX9_copy_19 : decode cX9_copy 19 = .ok (.ireturn, 1) := by decide +kernel
theorem dX9_copy_20 : decode cX9_copy 20 = .ok (.aload_n 0, 1) := by decide +kernel
theorem dX9_copy_21 : decode cX9_copy 21 = .ok (.getfield 32, 3) := by decide +kernel
theorem dX9_copy_24 : decode cX9_copy 24 = .ok (.iload_n 1, 1) := by decide +kernel
theorem dX9_copy_25 : decode cX9_copy 25 = .ok (.invokevirtual 113, 3) := by decide +kernel
theorem dX9_copy_28 : decode cX9_copy 28 = .ok (.ifCond .ne 14, 3) := by decide +kernel
theorem dX9_copy_31 : decode cX9_copy 31 = .ok (.aload_n 0, 1) := by decide +kernel
theorem dX9_copy_32 : decode cX9_copy 32 = .ok (.getfield 32, 3) := by decide +kernel
theorem dX9_copy_35 : decode cX9_copy 35 = .ok (.iload_n 3, 1) := by decide +kernel
theorem dX9_copy_36 : decode cX9_copy 36 = .ok (.invokevirtual 113, 3) := by decide +kernel
theorem dX9_copy_39 : decode cX9_copy 39 = .ok (.ifCond .eq 10, 3) := by decide +kernel
theorem dX9_copy_42 : decode cX9_copy 42 = .ok (.aload_n 0, 1) := by decide +kernel
theorem dX9_copy_43 : decode cX9_copy 43 = .ok (.bipush (-5), 2) := by decide +kernel
theorem dX9_copy_45 : decode cX9_copy 45 = .ok (.invokevirtual 96, 3) := by decide +kernel
theorem dX9_copy_48 : decode cX9_copy 48 = .ok (.ireturn, 1) := by decide +kernel
theorem dX9_copy_49 : decode cX9_copy 49 = .ok (.aload_n 0, 1) := by decide +kernel
theorem dX9_copy_50 : decode cX9_copy 50 = .ok (.getfield 32, 3) := by decide +kernel
theorem dX9_copy_53 : decode cX9_copy 53 = .ok (.iload_n 1, 1) := by decide +kernel
theorem dX9_copy_54 : decode cX9_copy 54 = .ok (.iload_n 2, 1) := by decide +kernel
theorem dX9_copy_55 : decode cX9_copy 55 = .ok (.iload 5, 2) := by decide +kernel
theorem dX9_copy_57 : decode cX9_copy 57 = .ok (.invokevirtual 127, 3) := by decide +kernel
theorem dX9_copy_60 : decode cX9_copy 60 = .ok (.ifCond .eq 18, 3) := by decide +kernel
theorem dX9_copy_63 : decode cX9_copy 63 = .ok (.aload_n 0, 1) := by decide +kernel
theorem dX9_copy_64 : decode cX9_copy 64 = .ok (.getfield 32, 3) := by decide +kernel
theorem dX9_copy_67 : decode cX9_copy 67 = .ok (.iload_n 3, 1) := by decide +kernel
theorem dX9_copy_68 : decode cX9_copy 68 = .ok (.iload 4, 2) := by decide +kernel
theorem dX9_copy_70 : decode cX9_copy 70 = .ok (.iload 5, 2) := by decide +kernel
theorem dX9_copy_72 : decode cX9_copy 72 = .ok (.invokevirtual 127, 3) := by decide +kernel
theorem dX9_copy_75 : decode cX9_copy 75 = .ok (.ifCond .ne 10, 3) := by decide +kernel
theorem dX9_copy_78 : decode cX9_copy 78 = .ok (.aload_n 0, 1) := by decide +kernel
theorem dX9_copy_79 : decode cX9_copy 79 = .ok (.bipush (-7), 2) := by decide +kernel
theorem dX9_copy_81 : decode cX9_copy 81 = .ok (.invokevirtual 96, 3) := by decide +kernel
theorem dX9_copy_84 : decode cX9_copy 84 = .ok (.ireturn, 1) := by decide +kernel
theorem dX9_copy_85 : decode cX9_copy 85 = .ok (.aload_n 0, 1) := by decide +kernel
theorem dX9_copy_86 : decode cX9_copy 86 = .ok (.getfield 32, 3) := by decide +kernel
theorem dX9_copy_89 : decode cX9_copy 89 = .ok (.getfield 123, 3) := by decide +kernel
theorem dX9_copy_92 : decode cX9_copy 92 = .ok (.iload_n 1, 1) := by decide +kernel
theorem dX9_copy_93 : decode cX9_copy 93 = .ok (.aaload, 1) := by decide +kernel
theorem dX9_copy_94 : decode cX9_copy 94 = .ok (.iload_n 2, 1) := by decide +kernel
theorem dX9_copy_95 : decode cX9_copy 95 = .ok (.aload_n 0, 1) := by decide +kernel
theorem dX9_copy_96 : decode cX9_copy 96 = .ok (.getfield 32, 3) := by decide +kernel
theorem dX9_copy_99 : decode cX9_copy 99 = .ok (.getfield 123, 3) := by decide +kernel
theorem dX9_copy_102 : decode cX9_copy 102 = .ok (.iload_n 3, 1) := by decide +kernel
theorem dX9_copy_103 : decode cX9_copy 103 = .ok (.aaload, 1) := by decide +kernel
theorem dX9_copy_104 : decode cX9_copy 104 = .ok (.iload 4, 2) := by decide +kernel
theorem dX9_copy_106 : decode cX9_copy 106 = .ok (.iload 5, 2) := by decide +kernel
theorem dX9_copy_108 : decode cX9_copy 108 = .ok (.invokestatic 131, 3) := by decide +kernel
theorem dX9_copy_111 : decode cX9_copy 111 = .ok (.iload 5, 2) := by decide +kernel
theorem dX9_copy_113 : decode cX9_copy 113 = .ok (.ireturn, 1) := by decide +kernel
set_option maxRecDepth 20000 in
theorem ggX9_lead_X9_isCove : GoodIn wsX9_lead wsX9_isCove := goodIn_r _ [7] (by decide +kernel) (by decide +kernel)
set_option maxRecDepth 20000 in
theorem gX9_lead_X9_isCove : GoodIn wsX9_lead (va_wsS RX9 92 yX9_isCove wsX9_isCove) := goodIn_app (goodIn_of _ (by decide +kernel)) ggX9_lead_X9_isCove
set_option maxRecDepth 20000 in
theorem ggX9_lead_X9_isTable : GoodIn wsX9_lead wsX9_isTable := goodIn_r _ [10] (by decide +kernel) (by decide +kernel)
set_option maxRecDepth 20000 in
theorem gX9_lead_X9_isTable : GoodIn wsX9_lead (va_wsS RX9 106 yX9_isTable wsX9_isTable) := goodIn_app (goodIn_of _ (by decide +kernel)) ggX9_lead_X9_isTable
set_option maxRecDepth 20000 in
theorem ggX9_lead_X9_refuse : GoodIn wsX9_lead wsX9_refuse := goodIn_r _ [14, 15, 16, 17, 18, 19, 20, 21, 22, 23, 24, 25, 26, 27, 28, 29, 30] (by decide +kernel) (by decide +kernel)
set_option maxRecDepth 20000 in
theorem gX9_lead_X9_refuse : GoodIn wsX9_lead (wsV RX9 96 RX9 yX9_refuse wsX9_refuse) := goodIn_app (goodIn_of _ (by decide +kernel)) ggX9_lead_X9_refuse
theorem dX9_lead_0 : decode cX9_lead 0 = .ok (.iload_n 1, 1) := by decide +kernel
theorem dX9_lead_1 : decode cX9_lead 1 = .ok (.invokestatic 92, 3) := by decide +kernel
theorem dX9_lead_4 : decode cX9_lead 4 = .ok (.ifCond .eq 15, 3) := by decide +kernel
theorem dX9_lead_7 : decode cX9_lead 7 = .ok (.iload_n 2, 1) := by decide +kernel
theorem dX9_lead_8 : decode cX9_lead 8 = .ok (.iconst (-1), 1) := by decide +kernel
theorem dX9_lead_9 : decode cX9_lead 9 = .ok (.if_icmp .eq 19, 3) := by decide +kernel
theorem dX9_lead_12 : decode cX9_lead 12 = .ok (.iload_n 2, 1) := by decide +kernel
theorem dX9_lead_13 : decode cX9_lead 13 = .ok (.invokestatic 106, 3) := by decide +kernel
theorem dX9_lead_16 : decode cX9_lead 16 = .ok (.ifCond .ne 12, 3) := by decide +kernel
theorem dX9_lead_19 : decode cX9_lead 19 = .ok (.ldc 137, 2) := by decide +kernel
theorem dX9_lead_21 : decode cX9_lead 21 = .ok (.aload_n 0, 1) := by decide +kernel
theorem dX9_lead_22 : decode cX9_lead 22 = .ok (.iconst (-1), 1) := by decide +kernel
theorem dX9_lead_23 : decode cX9_lead 23 = .ok (.invokevirtual 96, 3) := by decide +kernel
theorem dX9_lead_26 : decode cX9_lead 26 = .ok (.isub, 1) := by decide +kernel
theorem dX9_lead_27 : decode cX9_lead 27 = .ok (.ireturn, 1) := by decide +kernel
theorem dX9_lead_28 : decode cX9_lead 28 = .ok (.aload_n 0, 1) := by decide +kernel
theorem dX9_lead_29 : decode cX9_lead 29 = .ok (.getfield 39, 3) := by decide +kernel
theorem dX9_lead_32 : decode cX9_lead 32 = .ok (.getfield 138, 3) := by decide +kernel
theorem dX9_lead_35 : decode cX9_lead 35 = .ok (.iload_n 1, 1) := by decide +kernel
theorem dX9_lead_36 : decode cX9_lead 36 = .ok (.iaload, 1) := by decide +kernel
theorem dX9_lead_37 : decode cX9_lead 37 = .ok (.istore_n 3, 1) := by decide +kernel
theorem dX9_lead_38 : decode cX9_lead 38 = .ok (.aload_n 0, 1) := by decide +kernel
theorem dX9_lead_39 : decode cX9_lead 39 = .ok (.getfield 39, 3) := by decide +kernel
theorem dX9_lead_42 : decode cX9_lead 42 = .ok (.getfield 138, 3) := by decide +kernel
theorem dX9_lead_45 : decode cX9_lead 45 = .ok (.iload_n 1, 1) := by decide +kernel
theorem dX9_lead_46 : decode cX9_lead 46 = .ok (.iload_n 2, 1) := by decide +kernel
theorem dX9_lead_47 : decode cX9_lead 47 = .ok (.iastore, 1) := by decide +kernel
theorem dX9_lead_48 : decode cX9_lead 48 = .ok (.iload_n 3, 1) := by decide +kernel
theorem dX9_lead_49 : decode cX9_lead 49 = .ok (.ireturn, 1) := by decide +kernel
set_option maxRecDepth 20000 in
theorem ggX9_tide_X9_isCove : GoodIn wsX9_tide wsX9_isCove := goodIn_r _ [4] (by decide +kernel) (by decide +kernel)
set_option maxRecDepth 20000 in
theorem gX9_tide_X9_isCove : GoodIn wsX9_tide (va_wsS RX9 92 yX9_isCove wsX9_isCove) := goodIn_app (goodIn_of _ (by decide +kernel)) ggX9_tide_X9_isCove
set_option maxRecDepth 20000 in
theorem ggX9_tide_X9_refuse : GoodIn wsX9_tide wsX9_refuse := goodIn_r _ [8, 9, 22, 23, 24, 25, 26, 27, 28, 29, 30, 31, 32, 33, 34, 35, 36] (by decide +kernel) (by decide +kernel)
set_option maxRecDepth 20000 in
theorem gX9_tide_X9_refuse : GoodIn wsX9_tide (wsV RX9 96 RX9 yX9_refuse wsX9_refuse) := goodIn_app (goodIn_of _ (by decide +kernel)) ggX9_tide_X9_refuse
set_option maxRecDepth 20000 in
theorem ggX9_tide_X9_tideAt : GoodIn wsX9_tide wsX9_tideAt := goodIn_r _ [13, 14, 15, 16, 17, 18, 19, 20, 3, 21, 22, 23, 24, 25, 26, 27, 28, 29, 30, 31, 32, 33, 34, 35, 36, 37, 38, 39, 40, 41, 42, 43, 44, 45] (by decide +kernel) (by decide +kernel)
set_option maxRecDepth 20000 in
theorem gX9_tide_X9_tideAt : GoodIn wsX9_tide (wsV RX9 141 RX9 yX9_tideAt wsX9_tideAt) := goodIn_app (goodIn_of _ (by decide +kernel)) ggX9_tide_X9_tideAt
theorem dX9_tide_0 : decode cX9_tide 0 = .ok (.iload_n 1, 1) := by decide +kernel
theorem dX9_tide_1 : decode cX9_tide 1 = .ok (.invokestatic 92, 3) := by decide +kernel
theorem dX9_tide_4 : decode cX9_tide 4 = .ok (.ifCond .ne 9, 3) := by decide +kernel
theorem dX9_tide_7 : decode cX9_tide 7 = .ok (.aload_n 0, 1) := by decide +kernel
theorem dX9_tide_8 : decode cX9_tide 8 = .ok (.iconst (-1), 1) := by decide +kernel
theorem dX9_tide_9 : decode cX9_tide 9 = .ok (.invokevirtual 96, 3) := by decide +kernel
theorem dX9_tide_12 : decode cX9_tide 12 = .ok (.ireturn, 1) := by decide +kernel
theorem dX9_tide_13 : decode cX9_tide 13 = .ok (.iload_n 2, 1) := by decide +kernel
theorem dX9_tide_14 : decode cX9_tide 14 = .ok (.ifCond .ge 10, 3) := by decide +kernel
theorem dX9_tide_17 : decode cX9_tide 17 = .ok (.aload_n 0, 1) := by decide +kernel
theorem dX9_tide_18 : decode cX9_tide 18 = .ok (.bipush (-4), 2) := by decide +kernel
theorem dX9_tide_20 : decode cX9_tide 20 = .ok (.invokevirtual 96, 3) := by decide +kernel
theorem dX9_tide_23 : decode cX9_tide 23 = .ok (.ireturn, 1) := by decide +kernel
theorem dX9_tide_24 : decode cX9_tide 24 = .ok (.iload_n 2, 1) := by decide +kernel
theorem dX9_tide_25 : decode cX9_tide 25 = .ok (.sipush 1000, 3) := by decide +kernel
theorem dX9_tide_28 : decode cX9_tide 28 = .ok (.if_icmp .le 10, 3) := by decide +kernel
theorem dX9_tide_31 : decode cX9_tide 31 = .ok (.aload_n 0, 1) := by decide +kernel
theorem dX9_tide_32 : decode cX9_tide 32 = .ok (.bipush (-6), 2) := by decide +kernel
theorem dX9_tide_34 : decode cX9_tide 34 = .ok (.invokevirtual 96, 3) := by decide +kernel
theorem dX9_tide_37 : decode cX9_tide 37 = .ok (.ireturn, 1) := by decide +kernel
theorem dX9_tide_38 : decode cX9_tide 38 = .ok (.aload_n 0, 1) := by decide +kernel
theorem dX9_tide_39 : decode cX9_tide 39 = .ok (.iload_n 1, 1) := by decide +kernel
theorem dX9_tide_40 : decode cX9_tide 40 = .ok (.iload_n 2, 1) := by decide +kernel
theorem dX9_tide_41 : decode cX9_tide 41 = .ok (.invokevirtual 141, 3) := by decide +kernel
theorem dX9_tide_44 : decode cX9_tide 44 = .ok (.ireturn, 1) := by decide +kernel
set_option maxRecDepth 20000 in
theorem ggX9_boat_X9_refuse : GoodIn wsX9_boat wsX9_refuse := goodIn_r _ [7, 8, 19, 20, 21, 22, 23, 24, 25, 26, 27, 28, 29, 30, 31, 32, 33] (by decide +kernel) (by decide +kernel)
set_option maxRecDepth 20000 in
theorem gX9_boat_X9_refuse : GoodIn wsX9_boat (wsV RX9 96 RX9 yX9_refuse wsX9_refuse) := goodIn_app (goodIn_of _ (by decide +kernel)) ggX9_boat_X9_refuse
set_option maxRecDepth 20000 in
theorem ggX9_boat_X0_add : GoodIn wsX9_boat wsX0_add := goodIn_r _ [13, 14, 15, 16, 17, 18, 34, 35, 36, 37, 38, 39, 40, 41, 42] (by decide +kernel) (by decide +kernel)
set_option maxRecDepth 20000 in
theorem gX9_boat_X0_add : GoodIn wsX9_boat (wsV RX9 148 RX0 yX0_add wsX0_add) := goodIn_app (goodIn_of _ (by decide +kernel)) ggX9_boat_X0_add
theorem dX9_boat_0 : decode cX9_boat 0 = .ok (.iload_n 1, 1) := by decide +kernel
theorem dX9_boat_1 : decode cX9_boat 1 = .ok (.ifCond .lt 17, 3) := by decide +kernel
theorem dX9_boat_4 : decode cX9_boat 4 = .ok (.iload_n 2, 1) := by decide +kernel
theorem dX9_boat_5 : decode cX9_boat 5 = .ok (.iconst 1, 1) := by decide +kernel
theorem dX9_boat_6 : decode cX9_boat 6 = .ok (.if_icmp .lt 12, 3) := by decide +kernel
theorem dX9_boat_9 : decode cX9_boat 9 = .ok (.iload_n 3, 1) := by decide +kernel
theorem dX9_boat_10 : decode cX9_boat 10 = .ok (.ifCond .lt 8, 3) := by decide +kernel
theorem dX9_boat_13 : decode cX9_boat 13 = .ok (.iload 4, 2) := by decide +kernel
theorem dX9_boat_15 : decode cX9_boat 15 = .ok (.ifCond .ge 10, 3) := by decide +kernel
theorem dX9_boat_18 : decode cX9_boat 18 = .ok (.aload_n 0, 1) := by decide +kernel
theorem dX9_boat_19 : decode cX9_boat 19 = .ok (.bipush (-4), 2) := by decide +kernel
theorem dX9_boat_21 : decode cX9_boat 21 = .ok (.invokevirtual 96, 3) := by decide +kernel
theorem dX9_boat_24 : decode cX9_boat 24 = .ok (.ireturn, 1) := by decide +kernel
theorem dX9_boat_25 : decode cX9_boat 25 = .ok (.iload_n 1, 1) := by decide +kernel
theorem dX9_boat_26 : decode cX9_boat 26 = .ok (.bipush 20, 2) := by decide +kernel
theorem dX9_boat_28 : decode cX9_boat 28 = .ok (.if_icmp .gt 34, 3) := by decide +kernel
theorem dX9_boat_31 : decode cX9_boat 31 = .ok (.iload_n 2, 1) := by decide +kernel
theorem dX9_boat_32 : decode cX9_boat 32 = .ok (.bipush 60, 2) := by decide +kernel
theorem dX9_boat_34 : decode cX9_boat 34 = .ok (.if_icmp .gt 28, 3) := by decide +kernel
theorem dX9_boat_37 : decode cX9_boat 37 = .ok (.iload_n 3, 1) := by decide +kernel
theorem dX9_boat_38 : decode cX9_boat 38 = .ok (.bipush 99, 2) := by decide +kernel
theorem dX9_boat_40 : decode cX9_boat 40 = .ok (.if_icmp .gt 22, 3) := by decide +kernel
theorem dX9_boat_43 : decode cX9_boat 43 = .ok (.iload 4, 2) := by decide +kernel
theorem dX9_boat_45 : decode cX9_boat 45 = .ok (.bipush 15, 2) := by decide +kernel
theorem dX9_boat_47 : decode cX9_boat 47 = .ok (.if_icmp .gt 15, 3) := by decide +kernel
theorem dX9_boat_50 : decode cX9_boat 50 = .ok (.aload_n 0, 1) := by decide +kernel
theorem dX9_boat_51 : decode cX9_boat 51 = .ok (.getfield 46, 3) := by decide +kernel
theorem dX9_boat_54 : decode cX9_boat 54 = .ok (.getfield 145, 3) := by decide +kernel
theorem dX9_boat_57 : decode cX9_boat 57 = .ok (.bipush 8, 2) := by decide +kernel
theorem dX9_boat_59 : decode cX9_boat 59 = .ok (.if_icmp .lt 10, 3) := by decide +kernel
theorem dX9_boat_62 : decode cX9_boat 62 = .ok (.aload_n 0, 1) := by decide +kernel
theorem dX9_boat_63 : decode cX9_boat 63 = .ok (.bipush (-6), 2) := by decide +kernel
theorem dX9_boat_65 : decode cX9_boat 65 = .ok (.invokevirtual 96, 3) := by decide +kernel
theorem dX9_boat_68 : decode cX9_boat 68 = .ok (.ireturn, 1) := by decide +kernel
theorem dX9_boat_69 : decode cX9_boat 69 = .ok (.aload_n 0, 1) := by decide +kernel
theorem dX9_boat_70 : decode cX9_boat 70 = .ok (.getfield 46, 3) := by decide +kernel
theorem dX9_boat_73 : decode cX9_boat 73 = .ok (.iload_n 1, 1) := by decide +kernel
theorem dX9_boat_74 : decode cX9_boat 74 = .ok (.iload_n 2, 1) := by decide +kernel
theorem dX9_boat_75 : decode cX9_boat 75 = .ok (.iload_n 3, 1) := by decide +kernel
theorem dX9_boat_76 : decode cX9_boat 76 = .ok (.iload 4, 2) := by decide +kernel
theorem dX9_boat_78 : decode cX9_boat 78 = .ok (.invokevirtual 148, 3) := by decide +kernel
theorem dX9_boat_81 : decode cX9_boat 81 = .ok (.ireturn, 1) := by decide +kernel
set_option maxRecDepth 20000 in
theorem ggX9_load_X9_isBoat : GoodIn wsX9_load wsX9_isBoat := goodIn_r _ [8, 1, 9, 15, 16, 17, 18, 19, 20, 21, 22, 23, 24, 25, 26, 27, 28, 29, 30, 31, 32, 33, 34, 35, 36, 37, 38] (by decide +kernel) (by decide +kernel)
set_option maxRecDepth 20000 in
theorem gX9_load_X9_isBoat : GoodIn wsX9_load (wsV RX9 152 RX9 yX9_isBoat wsX9_isBoat) := goodIn_app (goodIn_of _ (by decide +kernel)) ggX9_load_X9_isBoat
set_option maxRecDepth 20000 in
theorem ggX9_load_X9_refuse : GoodIn wsX9_load wsX9_refuse := goodIn_r _ [13, 14, 15, 16, 17, 18, 19, 20, 21, 22, 23, 24, 25, 26, 27, 28, 29] (by decide +kernel) (by decide +kernel)
set_option maxRecDepth 20000 in
theorem gX9_load_X9_refuse : GoodIn wsX9_load (wsV RX9 96 RX9 yX9_refuse wsX9_refuse) := goodIn_app (goodIn_of _ (by decide +kernel)) ggX9_load_X9_refuse
theorem dX9_load_0 : decode cX9_load 0 = .ok (.aload_n 0, 1) := by decide +kernel
theorem dX9_load_1 : decode cX9_load 1 = .ok (.iload_n 1, 1) := by decide +kernel
theorem dX9_load_2 : decode cX9_load 2 = .ok (.invokevirtual 152, 3) := by decide +kernel
theorem dX9_load_5 : decode cX9_load 5 = .ok (.ifCond .ne 9, 3) := by decide +kernel
theorem dX9_load_8 : decode cX9_load 8 = .ok (.aload_n 0, 1) := by decide +kernel
theorem dX9_load_9 : decode cX9_load 9 = .ok (.iconst (-1), 1) := by decide +kernel
theorem dX9_load_10 : decode cX9_load 10 = .ok (.invokevirtual 96, 3) := by decide +kernel
theorem dX9_load_13 : decode cX9_load 13 = .ok (.ireturn, 1) := by decide +kernel
theorem dX9_load_14 : decode cX9_load 14 = .ok (.iload_n 2, 1) := by decide +kernel
theorem dX9_load_15 : decode cX9_load 15 = .ok (.ifCond .ge 10, 3) := by decide +kernel
theorem dX9_load_18 : decode cX9_load 18 = .ok (.aload_n 0, 1) := by decide +kernel
theorem dX9_load_19 : decode cX9_load 19 = .ok (.bipush (-4), 2) := by decide +kernel
theorem dX9_load_21 : decode cX9_load 21 = .ok (.invokevirtual 96, 3) := by decide +kernel
theorem dX9_load_24 : decode cX9_load 24 = .ok (.ireturn, 1) := by decide +kernel
theorem dX9_load_25 : decode cX9_load 25 = .ok (.iload_n 2, 1) := by decide +kernel
theorem dX9_load_26 : decode cX9_load 26 = .ok (.aload_n 0, 1) := by decide +kernel
theorem dX9_load_27 : decode cX9_load 27 = .ok (.getfield 46, 3) := by decide +kernel
theorem dX9_load_30 : decode cX9_load 30 = .ok (.getfield 155, 3) := by decide +kernel
theorem dX9_load_33 : decode cX9_load 33 = .ok (.iload_n 1, 1) := by decide +kernel
theorem dX9_load_34 : decode cX9_load 34 = .ok (.iaload, 1) := by decide +kernel
theorem dX9_load_35 : decode cX9_load 35 = .ok (.aload_n 0, 1) := by decide +kernel
theorem dX9_load_36 : decode cX9_load 36 = .ok (.getfield 46, 3) := by decide +kernel
theorem dX9_load_39 : decode cX9_load 39 = .ok (.getfield 158, 3) := by decide +kernel
theorem dX9_load_42 : decode cX9_load 42 = .ok (.iload_n 1, 1) := by decide +kernel
theorem dX9_load_43 : decode cX9_load 43 = .ok (.iaload, 1) := by decide +kernel
theorem dX9_load_44 : decode cX9_load 44 = .ok (.isub, 1) := by decide +kernel
theorem dX9_load_45 : decode cX9_load 45 = .ok (.if_icmp .le 10, 3) := by decide +kernel
theorem dX9_load_48 : decode cX9_load 48 = .ok (.aload_n 0, 1) := by decide +kernel
theorem dX9_load_49 : decode cX9_load 49 = .ok (.bipush (-6), 2) := by decide +kernel
theorem dX9_load_51 : decode cX9_load 51 = .ok (.invokevirtual 96, 3) := by decide +kernel
theorem dX9_load_54 : decode cX9_load 54 = .ok (.ireturn, 1) := by decide +kernel
theorem dX9_load_55 : decode cX9_load 55 = .ok (.aload_n 0, 1) := by decide +kernel
theorem dX9_load_56 : decode cX9_load 56 = .ok (.getfield 46, 3) := by decide +kernel
theorem dX9_load_59 : decode cX9_load 59 = .ok (.getfield 158, 3) := by decide +kernel
theorem dX9_load_62 : decode cX9_load 62 = .ok (.iload_n 1, 1) := by decide +kernel
theorem dX9_load_63 : decode cX9_load 63 = .ok (.dup2, 1) := by decide +kernel
theorem dX9_load_64 : decode cX9_load 64 = .ok (.iaload, 1) := by decide +kernel
theorem dX9_load_65 : decode cX9_load 65 = .ok (.iload_n 2, 1) := by decide +kernel
theorem dX9_load_66 : decode cX9_load 66 = .ok (.iadd, 1) := by decide +kernel
theorem dX9_load_67 : decode cX9_load 67 = .ok (.iastore, 1) := by decide +kernel
theorem dX9_load_68 : decode cX9_load 68 = .ok (.aload_n 0, 1) := by decide +kernel
theorem dX9_load_69 : decode cX9_load 69 = .ok (.getfield 46, 3) := by decide +kernel
theorem dX9_load_72 : decode cX9_load 72 = .ok (.getfield 158, 3) := by decide +kernel
theorem dX9_load_75 : decode cX9_load 75 = .ok (.iload_n 1, 1) := by decide +kernel
theorem dX9_load_76 : decode cX9_load 76 = .ok (.iaload, 1) := by decide +kernel
theorem dX9_load_77 : decode cX9_load 77 = .ok (.ireturn, 1) := by decide +kernel
set_option maxRecDepth 20000 in
theorem ggX9_hide_X9_isCove : GoodIn wsX9_hide wsX9_isCove := goodIn_r _ [6] (by decide +kernel) (by decide +kernel)
set_option maxRecDepth 20000 in
theorem gX9_hide_X9_isCove : GoodIn wsX9_hide (va_wsS RX9 92 yX9_isCove wsX9_isCove) := goodIn_app (goodIn_of _ (by decide +kernel)) ggX9_hide_X9_isCove
set_option maxRecDepth 20000 in
theorem ggX9_hide_X9_refuse : GoodIn wsX9_hide wsX9_refuse := goodIn_r _ [10, 11, 21, 22, 23, 24, 25, 26, 27, 28, 29, 30, 31, 32, 33, 34, 35] (by decide +kernel) (by decide +kernel)
set_option maxRecDepth 20000 in
theorem gX9_hide_X9_refuse : GoodIn wsX9_hide (wsV RX9 96 RX9 yX9_refuse wsX9_refuse) := goodIn_app (goodIn_of _ (by decide +kernel)) ggX9_hide_X9_refuse
set_option maxRecDepth 20000 in
theorem ggX9_hide_X3_add : GoodIn wsX9_hide wsX3_add := goodIn_r _ [16, 17, 18, 19, 20, 36, 37, 38, 39, 40, 41, 42] (by decide +kernel) (by decide +kernel)
set_option maxRecDepth 20000 in
theorem gX9_hide_X3_add : GoodIn wsX9_hide (wsV RX9 162 RX3 yX3_add wsX3_add) := goodIn_app (goodIn_of _ (by decide +kernel)) ggX9_hide_X3_add
theorem dX9_hide_0 : decode cX9_hide 0 = .ok (.iload_n 1, 1) := by decide +kernel
theorem dX9_hide_1 : decode cX9_hide 1 = .ok (.invokestatic 92, 3) := by decide +kernel
theorem dX9_hide_4 : decode cX9_hide 4 = .ok (.ifCond .ne 9, 3) := by decide +kernel
theorem dX9_hide_7 : decode cX9_hide 7 = .ok (.aload_n 0, 1) := by decide +kernel
theorem dX9_hide_8 : decode cX9_hide 8 = .ok (.iconst (-1), 1) := by decide +kernel
theorem dX9_hide_9 : decode cX9_hide 9 = .ok (.invokevirtual 96, 3) := by decide +kernel
theorem dX9_hide_12 : decode cX9_hide 12 = .ok (.ireturn, 1) := by decide +kernel
theorem dX9_hide_13 : decode cX9_hide 13 = .ok (.iload_n 2, 1) := by decide +kernel
theorem dX9_hide_14 : decode cX9_hide 14 = .ok (.iconst 1, 1) := by decide +kernel
theorem dX9_hide_15 : decode cX9_hide 15 = .ok (.if_icmp .lt 8, 3) := by decide +kernel
theorem dX9_hide_18 : decode cX9_hide 18 = .ok (.iload_n 3, 1) := by decide +kernel
theorem dX9_hide_19 : decode cX9_hide 19 = .ok (.iconst 1, 1) := by decide +kernel
theorem dX9_hide_20 : decode cX9_hide 20 = .ok (.if_icmp .ge 10, 3) := by decide +kernel
theorem dX9_hide_23 : decode cX9_hide 23 = .ok (.aload_n 0, 1) := by decide +kernel
theorem dX9_hide_24 : decode cX9_hide 24 = .ok (.bipush (-4), 2) := by decide +kernel
theorem dX9_hide_26 : decode cX9_hide 26 = .ok (.invokevirtual 96, 3) := by decide +kernel
theorem dX9_hide_29 : decode cX9_hide 29 = .ok (.ireturn, 1) := by decide +kernel
theorem dX9_hide_30 : decode cX9_hide 30 = .ok (.iload_n 2, 1) := by decide +kernel
theorem dX9_hide_31 : decode cX9_hide 31 = .ok (.sipush 200, 3) := by decide +kernel
theorem dX9_hide_34 : decode cX9_hide 34 = .ok (.if_icmp .gt 21, 3) := by decide +kernel
theorem dX9_hide_37 : decode cX9_hide 37 = .ok (.iload_n 3, 1) := by decide +kernel
theorem dX9_hide_38 : decode cX9_hide 38 = .ok (.bipush 20, 2) := by decide +kernel
theorem dX9_hide_40 : decode cX9_hide 40 = .ok (.if_icmp .gt 15, 3) := by decide +kernel
theorem dX9_hide_43 : decode cX9_hide 43 = .ok (.aload_n 0, 1) := by decide +kernel
theorem dX9_hide_44 : decode cX9_hide 44 = .ok (.getfield 53, 3) := by decide +kernel
theorem dX9_hide_47 : decode cX9_hide 47 = .ok (.getfield 161, 3) := by decide +kernel
theorem dX9_hide_50 : decode cX9_hide 50 = .ok (.bipush 12, 2) := by decide +kernel
theorem dX9_hide_52 : decode cX9_hide 52 = .ok (.if_icmp .lt 10, 3) := by decide +kernel
theorem dX9_hide_55 : decode cX9_hide 55 = .ok (.aload_n 0, 1) := by decide +kernel
theorem dX9_hide_56 : decode cX9_hide 56 = .ok (.bipush (-6), 2) := by decide +kernel
theorem dX9_hide_58 : decode cX9_hide 58 = .ok (.invokevirtual 96, 3) := by decide +kernel
theorem dX9_hide_61 : decode cX9_hide 61 = .ok (.ireturn, 1) := by decide +kernel
theorem dX9_hide_62 : decode cX9_hide 62 = .ok (.aload_n 0, 1) := by decide +kernel
theorem dX9_hide_63 : decode cX9_hide 63 = .ok (.getfield 53, 3) := by decide +kernel
theorem dX9_hide_66 : decode cX9_hide 66 = .ok (.iload_n 1, 1) := by decide +kernel
theorem dX9_hide_67 : decode cX9_hide 67 = .ok (.iload_n 2, 1) := by decide +kernel
theorem dX9_hide_68 : decode cX9_hide 68 = .ok (.iload_n 3, 1) := by decide +kernel
theorem dX9_hide_69 : decode cX9_hide 69 = .ok (.invokevirtual 162, 3) := by decide +kernel
theorem dX9_hide_72 : decode cX9_hide 72 = .ok (.ireturn, 1) := by decide +kernel
set_option maxRecDepth 20000 in
theorem ggX9_stand_X9_isCove : GoodIn wsX9_stand wsX9_isCove := goodIn_r _ [6] (by decide +kernel) (by decide +kernel)
set_option maxRecDepth 20000 in
theorem gX9_stand_X9_isCove : GoodIn wsX9_stand (va_wsS RX9 92 yX9_isCove wsX9_isCove) := goodIn_app (goodIn_of _ (by decide +kernel)) ggX9_stand_X9_isCove
set_option maxRecDepth 20000 in
theorem ggX9_stand_X9_refuse : GoodIn wsX9_stand wsX9_refuse := goodIn_r _ [10, 11, 12, 13, 14, 15, 16, 17, 18, 19, 20, 21, 22, 23, 24, 25, 26] (by decide +kernel) (by decide +kernel)
set_option maxRecDepth 20000 in
theorem gX9_stand_X9_refuse : GoodIn wsX9_stand (wsV RX9 96 RX9 yX9_refuse wsX9_refuse) := goodIn_app (goodIn_of _ (by decide +kernel)) ggX9_stand_X9_refuse
theorem dX9_stand_0 : decode cX9_stand 0 = .ok (.iload_n 1, 1) := by decide +kernel
theorem dX9_stand_1 : decode cX9_stand 1 = .ok (.invokestatic 92, 3) := by decide +kernel
theorem dX9_stand_4 : decode cX9_stand 4 = .ok (.ifCond .ne 9, 3) := by decide +kernel
theorem dX9_stand_7 : decode cX9_stand 7 = .ok (.aload_n 0, 1) := by decide +kernel
theorem dX9_stand_8 : decode cX9_stand 8 = .ok (.iconst (-1), 1) := by decide +kernel
theorem dX9_stand_9 : decode cX9_stand 9 = .ok (.invokevirtual 96, 3) := by decide +kernel
theorem dX9_stand_12 : decode cX9_stand 12 = .ok (.ireturn, 1) := by decide +kernel
theorem dX9_stand_13 : decode cX9_stand 13 = .ok (.iload_n 2, 1) := by decide +kernel
theorem dX9_stand_14 : decode cX9_stand 14 = .ok (.ifCond .ge 10, 3) := by decide +kernel
theorem dX9_stand_17 : decode cX9_stand 17 = .ok (.aload_n 0, 1) := by decide +kernel
theorem dX9_stand_18 : decode cX9_stand 18 = .ok (.bipush (-4), 2) := by decide +kernel
theorem dX9_stand_20 : decode cX9_stand 20 = .ok (.invokevirtual 96, 3) := by decide +kernel
theorem dX9_stand_23 : decode cX9_stand 23 = .ok (.ireturn, 1) := by decide +kernel
theorem dX9_stand_24 : decode cX9_stand 24 = .ok (.iload_n 2, 1) := by decide +kernel
theorem dX9_stand_25 : decode cX9_stand 25 = .ok (.bipush 9, 2) := by decide +kernel
theorem dX9_stand_27 : decode cX9_stand 27 = .ok (.if_icmp .le 10, 3) := by decide +kernel
theorem dX9_stand_30 : decode cX9_stand 30 = .ok (.aload_n 0, 1) := by decide +kernel
theorem dX9_stand_31 : decode cX9_stand 31 = .ok (.bipush (-6), 2) := by decide +kernel
theorem dX9_stand_33 : decode cX9_stand 33 = .ok (.invokevirtual 96, 3) := by decide +kernel
theorem dX9_stand_36 : decode cX9_stand 36 = .ok (.ireturn, 1) := by decide +kernel
theorem dX9_stand_37 : decode cX9_stand 37 = .ok (.aload_n 0, 1) := by decide +kernel
theorem dX9_stand_38 : decode cX9_stand 38 = .ok (.getfield 39, 3) := by decide +kernel
theorem dX9_stand_41 : decode cX9_stand 41 = .ok (.getfield 165, 3) := by decide +kernel
theorem dX9_stand_44 : decode cX9_stand 44 = .ok (.iload_n 1, 1) := by decide +kernel
theorem dX9_stand_45 : decode cX9_stand 45 = .ok (.iaload, 1) := by decide +kernel
theorem dX9_stand_46 : decode cX9_stand 46 = .ok (.istore_n 3, 1) := by decide +kernel
theorem dX9_stand_47 : decode cX9_stand 47 = .ok (.aload_n 0, 1) := by decide +kernel
theorem dX9_stand_48 : decode cX9_stand 48 = .ok (.getfield 39, 3) := by decide +kernel
theorem dX9_stand_51 : decode cX9_stand 51 = .ok (.getfield 165, 3) := by decide +kernel
theorem dX9_stand_54 : decode cX9_stand 54 = .ok (.iload_n 1, 1) := by decide +kernel
theorem dX9_stand_55 : decode cX9_stand 55 = .ok (.iload_n 2, 1) := by decide +kernel
theorem dX9_stand_56 : decode cX9_stand 56 = .ok (.iastore, 1) := by decide +kernel
theorem dX9_stand_57 : decode cX9_stand 57 = .ok (.iload_n 3, 1) := by decide +kernel
theorem dX9_stand_58 : decode cX9_stand 58 = .ok (.ireturn, 1) := by decide +kernel
set_option maxRecDepth 20000 in
theorem ggX9_bribe_X9_isCove : GoodIn wsX9_bribe wsX9_isCove := goodIn_r _ [6] (by decide +kernel) (by decide +kernel)
set_option maxRecDepth 20000 in
theorem gX9_bribe_X9_isCove : GoodIn wsX9_bribe (va_wsS RX9 92 yX9_isCove wsX9_isCove) := goodIn_app (goodIn_of _ (by decide +kernel)) ggX9_bribe_X9_isCove
set_option maxRecDepth 20000 in
theorem ggX9_bribe_X9_refuse : GoodIn wsX9_bribe wsX9_refuse := goodIn_r _ [10, 11, 12, 13, 14, 15, 16, 17, 18, 19, 20, 21, 22, 23, 24, 25, 26] (by decide +kernel) (by decide +kernel)
set_option maxRecDepth 20000 in
theorem gX9_bribe_X9_refuse : GoodIn wsX9_bribe (wsV RX9 96 RX9 yX9_refuse wsX9_refuse) := goodIn_app (goodIn_of _ (by decide +kernel)) ggX9_bribe_X9_refuse
theorem dX9_bribe_0 : decode cX9_bribe 0 = .ok (.iload_n 1, 1) := by decide +kernel
theorem dX9_bribe_1 : decode cX9_bribe 1 = .ok (.invokestatic 92, 3) := by decide +kernel
theorem dX9_bribe_4 : decode cX9_bribe 4 = .ok (.ifCond .ne 9, 3) := by decide +kernel
theorem dX9_bribe_7 : decode cX9_bribe 7 = .ok (.aload_n 0, 1) := by decide +kernel
theorem dX9_bribe_8 : decode cX9_bribe 8 = .ok (.iconst (-1), 1) := by decide +kernel
theorem dX9_bribe_9 : decode cX9_bribe 9 = .ok (.invokevirtual 96, 3) := by decide +kernel
theorem dX9_bribe_12 : decode cX9_bribe 12 = .ok (.ireturn, 1) := by decide +kernel
theorem dX9_bribe_13 : decode cX9_bribe 13 = .ok (.aload_n 0, 1) := by decide +kernel
theorem dX9_bribe_14 : decode cX9_bribe 14 = .ok (.getfield 39, 3) := by decide +kernel
theorem dX9_bribe_17 : decode cX9_bribe 17 = .ok (.getfield 168, 3) := by decide +kernel
theorem dX9_bribe_20 : decode cX9_bribe 20 = .ok (.iload_n 1, 1) := by decide +kernel
theorem dX9_bribe_21 : decode cX9_bribe 21 = .ok (.baload, 1) := by decide +kernel
theorem dX9_bribe_22 : decode cX9_bribe 22 = .ok (.iload_n 2, 1) := by decide +kernel
theorem dX9_bribe_23 : decode cX9_bribe 23 = .ok (.if_icmp .ne 5, 3) := by decide +kernel
theorem dX9_bribe_26 : decode cX9_bribe 26 = .ok (.iconst 0, 1) := by decide +kernel
theorem dX9_bribe_27 : decode cX9_bribe 27 = .ok (.ireturn, 1) := by decide +kernel
theorem dX9_bribe_28 : decode cX9_bribe 28 = .ok (.aload_n 0, 1) := by decide +kernel
theorem dX9_bribe_29 : decode cX9_bribe 29 = .ok (.getfield 39, 3) := by decide +kernel
theorem dX9_bribe_32 : decode cX9_bribe 32 = .ok (.getfield 168, 3) := by decide +kernel
theorem dX9_bribe_35 : decode cX9_bribe 35 = .ok (.iload_n 1, 1) := by decide +kernel
theorem dX9_bribe_36 : decode cX9_bribe 36 = .ok (.iload_n 2, 1) := by decide +kernel
theorem dX9_bribe_37 : decode cX9_bribe 37 = .ok (.bastore, 1) := by decide +kernel
theorem dX9_bribe_38 : decode cX9_bribe 38 = .ok (.iconst 1, 1) := by decide +kernel
theorem dX9_bribe_39 : decode cX9_bribe 39 = .ok (.ireturn, 1) := by decide +kernel
set_option maxRecDepth 20000 in
theorem ggX9_share_X9_isCove : GoodIn wsX9_share wsX9_isCove := goodIn_r _ [6] (by decide +kernel) (by decide +kernel)
set_option maxRecDepth 20000 in
theorem gX9_share_X9_isCove : GoodIn wsX9_share (va_wsS RX9 92 yX9_isCove wsX9_isCove) := goodIn_app (goodIn_of _ (by decide +kernel)) ggX9_share_X9_isCove
set_option maxRecDepth 20000 in
theorem ggX9_share_X9_refuse : GoodIn wsX9_share wsX9_refuse := goodIn_r _ [10, 11, 12, 13, 14, 15, 16, 17, 18, 19, 20, 21, 22, 23, 24, 25, 26] (by decide +kernel) (by decide +kernel)
set_option maxRecDepth 20000 in
theorem gX9_share_X9_refuse : GoodIn wsX9_share (wsV RX9 96 RX9 yX9_refuse wsX9_refuse) := goodIn_app (goodIn_of _ (by decide +kernel)) ggX9_share_X9_refuse
theorem dX9_share_0 : decode cX9_share 0 = .ok (.iload_n 1, 1) := by decide +kernel
theorem dX9_share_1 : decode cX9_share 1 = .ok (.invokestatic 92, 3) := by decide +kernel
theorem dX9_share_4 : decode cX9_share 4 = .ok (.ifCond .ne 9, 3) := by decide +kernel
theorem dX9_share_7 : decode cX9_share 7 = .ok (.aload_n 0, 1) := by decide +kernel
theorem dX9_share_8 : decode cX9_share 8 = .ok (.iconst (-1), 1) := by decide +kernel
theorem dX9_share_9 : decode cX9_share 9 = .ok (.invokevirtual 96, 3) := by decide +kernel
theorem dX9_share_12 : decode cX9_share 12 = .ok (.ireturn, 1) := by decide +kernel
theorem dX9_share_13 : decode cX9_share 13 = .ok (.iload_n 2, 1) := by decide +kernel
theorem dX9_share_14 : decode cX9_share 14 = .ok (.ifCond .ge 10, 3) := by decide +kernel
theorem dX9_share_17 : decode cX9_share 17 = .ok (.aload_n 0, 1) := by decide +kernel
theorem dX9_share_18 : decode cX9_share 18 = .ok (.bipush (-4), 2) := by decide +kernel
theorem dX9_share_20 : decode cX9_share 20 = .ok (.invokevirtual 96, 3) := by decide +kernel
theorem dX9_share_23 : decode cX9_share 23 = .ok (.ireturn, 1) := by decide +kernel
theorem dX9_share_24 : decode cX9_share 24 = .ok (.iload_n 2, 1) := by decide +kernel
theorem dX9_share_25 : decode cX9_share 25 = .ok (.bipush 99, 2) := by decide +kernel
theorem dX9_share_27 : decode cX9_share 27 = .ok (.if_icmp .le 10, 3) := by decide +kernel
theorem dX9_share_30 : decode cX9_share 30 = .ok (.aload_n 0, 1) := by decide +kernel
theorem dX9_share_31 : decode cX9_share 31 = .ok (.bipush (-6), 2) := by decide +kernel
theorem dX9_share_33 : decode cX9_share 33 = .ok (.invokevirtual 96, 3) := by decide +kernel
theorem dX9_share_36 : decode cX9_share 36 = .ok (.ireturn, 1) := by decide +kernel
theorem dX9_share_37 : decode cX9_share 37 = .ok (.aload_n 0, 1) := by decide +kernel
theorem dX9_share_38 : decode cX9_share 38 = .ok (.getfield 39, 3) := by decide +kernel
theorem dX9_share_41 : decode cX9_share 41 = .ok (.getfield 172, 3) := by decide +kernel
theorem dX9_share_44 : decode cX9_share 44 = .ok (.iload_n 1, 1) := by decide +kernel
theorem dX9_share_45 : decode cX9_share 45 = .ok (.iaload, 1) := by decide +kernel
theorem dX9_share_46 : decode cX9_share 46 = .ok (.istore_n 3, 1) := by decide +kernel
theorem dX9_share_47 : decode cX9_share 47 = .ok (.aload_n 0, 1) := by decide +kernel
theorem dX9_share_48 : decode cX9_share 48 = .ok (.getfield 39, 3) := by decide +kernel
theorem dX9_share_51 : decode cX9_share 51 = .ok (.getfield 172, 3) := by decide +kernel
theorem dX9_share_54 : decode cX9_share 54 = .ok (.iload_n 1, 1) := by decide +kernel
theorem dX9_share_55 : decode cX9_share 55 = .ok (.iload_n 2, 1) := by decide +kernel
theorem dX9_share_56 : decode cX9_share 56 = .ok (.iastore, 1) := by decide +kernel
theorem dX9_share_57 : decode cX9_share 57 = .ok (.iload_n 3, 1) := by decide +kernel
theorem dX9_share_58 : decode cX9_share 58 = .ok (.ireturn, 1) := by decide +kernel
set_option maxRecDepth 20000 in
theorem ggX9_draws_X9_refuse : GoodIn wsX9_draws wsX9_refuse := goodIn_r _ [6, 7, 8, 9, 10, 11, 12, 13, 14, 15, 16, 17, 18, 19, 20, 21, 22] (by decide +kernel) (by decide +kernel)
set_option maxRecDepth 20000 in
theorem gX9_draws_X9_refuse : GoodIn wsX9_draws (wsV RX9 96 RX9 yX9_refuse wsX9_refuse) := goodIn_app (goodIn_of _ (by decide +kernel)) ggX9_draws_X9_refuse
theorem dX9_draws_0 : decode cX9_draws 0 = .ok (.iload_n 1, 1) := by decide +kernel
theorem dX9_draws_1 : decode cX9_draws 1 = .ok (.ifCond .ge 10, 3) := by decide +kernel
theorem dX9_draws_4 : decode cX9_draws 4 = .ok (.aload_n 0, 1) := by decide +kernel
theorem dX9_draws_5 : decode cX9_draws 5 = .ok (.bipush (-4), 2) := by decide +kernel
theorem dX9_draws_7 : decode cX9_draws 7 = .ok (.invokevirtual 96, 3) := by decide +kernel
theorem dX9_draws_10 : decode cX9_draws 10 = .ok (.ireturn, 1) := by decide +kernel
theorem dX9_draws_11 : decode cX9_draws 11 = .ok (.iload_n 1, 1) := by decide +kernel
theorem dX9_draws_12 : decode cX9_draws 12 = .ok (.bipush 9, 2) := by decide +kernel
theorem dX9_draws_14 : decode cX9_draws 14 = .ok (.if_icmp .le 10, 3) := by decide +kernel
theorem dX9_draws_17 : decode cX9_draws 17 = .ok (.aload_n 0, 1) := by decide +kernel
theorem dX9_draws_18 : decode cX9_draws 18 = .ok (.bipush (-6), 2) := by decide +kernel
theorem dX9_draws_20 : decode cX9_draws 20 = .ok (.invokevirtual 96, 3) := by decide +kernel
theorem dX9_draws_23 : decode cX9_draws 23 = .ok (.ireturn, 1) := by decide +kernel
theorem dX9_draws_24 : decode cX9_draws 24 = .ok (.aload_n 0, 1) := by decide +kernel
theorem dX9_draws_25 : decode cX9_draws 25 = .ok (.getfield 16, 3) := by decide +kernel
theorem dX9_draws_28 : decode cX9_draws 28 = .ok (.istore_n 2, 1) := by decide +kernel
theorem dX9_draws_29 : decode cX9_draws 29 = .ok (.aload_n 0, 1) := by decide +kernel
theorem dX9_draws_30 : decode cX9_draws 30 = .ok (.iload_n 1, 1) := by decide +kernel
theorem dX9_draws_31 : decode cX9_draws 31 = .ok (.putfield 16, 3) := by decide +kernel
theorem dX9_draws_34 : decode cX9_draws 34 = .ok (.iload_n 2, 1) := by decide +kernel
theorem dX9_draws_35 : decode cX9_draws 35 = .ok (.ireturn, 1) := by decide +kernel
set_option maxRecDepth 20000 in
theorem ggX9_price_X9_refuse : GoodIn wsX9_price wsX9_refuse := goodIn_r _ [6, 7, 8, 9, 10, 11, 12, 13, 14, 15, 16, 17, 18, 19, 20, 21, 22] (by decide +kernel) (by decide +kernel)
set_option maxRecDepth 20000 in
theorem gX9_price_X9_refuse : GoodIn wsX9_price (wsV RX9 96 RX9 yX9_refuse wsX9_refuse) := goodIn_app (goodIn_of _ (by decide +kernel)) ggX9_price_X9_refuse
theorem dX9_price_0 : decode cX9_price 0 = .ok (.iload_n 1, 1) := by decide +kernel
theorem dX9_price_1 : decode cX9_price 1 = .ok (.ifCond .ge 10, 3) := by decide +kernel
theorem dX9_price_4 : decode cX9_price 4 = .ok (.aload_n 0, 1) := by decide +kernel
theorem dX9_price_5 : decode cX9_price 5 = .ok (.bipush (-4), 2) := by decide +kernel
theorem dX9_price_7 : decode cX9_price 7 = .ok (.invokevirtual 96, 3) := by decide +kernel
theorem dX9_price_10 : decode cX9_price 10 = .ok (.ireturn, 1) := by decide +kernel
theorem dX9_price_11 : decode cX9_price 11 = .ok (.iload_n 1, 1) := by decide +kernel
theorem dX9_price_12 : decode cX9_price 12 = .ok (.sipush 999, 3) := by decide +kernel
theorem dX9_price_15 : decode cX9_price 15 = .ok (.if_icmp .le 10, 3) := by decide +kernel
theorem dX9_price_18 : decode cX9_price 18 = .ok (.aload_n 0, 1) := by decide +kernel
theorem dX9_price_19 : decode cX9_price 19 = .ok (.bipush (-6), 2) := by decide +kernel
theorem dX9_price_21 : decode cX9_price 21 = .ok (.invokevirtual 96, 3) := by decide +kernel
theorem dX9_price_24 : decode cX9_price 24 = .ok (.ireturn, 1) := by decide +kernel
theorem dX9_price_25 : decode cX9_price 25 = .ok (.aload_n 0, 1) := by decide +kernel
theorem dX9_price_26 : decode cX9_price 26 = .ok (.getfield 19, 3) := by decide +kernel
theorem dX9_price_29 : decode cX9_price 29 = .ok (.istore_n 2, 1) := by decide +kernel
theorem dX9_price_30 : decode cX9_price 30 = .ok (.aload_n 0, 1) := by decide +kernel
theorem dX9_price_31 : decode cX9_price 31 = .ok (.iload_n 1, 1) := by decide +kernel
theorem dX9_price_32 : decode cX9_price 32 = .ok (.putfield 19, 3) := by decide +kernel
theorem dX9_price_35 : decode cX9_price 35 = .ok (.iload_n 2, 1) := by decide +kernel
theorem dX9_price_36 : decode cX9_price 36 = .ok (.ireturn, 1) := by decide +kernel
set_option maxRecDepth 20000 in
theorem ggX9_law_X9_refuse : GoodIn wsX9_law wsX9_refuse := goodIn_r _ [8, 9, 19, 20, 21, 22, 23, 24, 25, 26, 27, 28, 29, 30, 31, 32, 33] (by decide +kernel) (by decide +kernel)
set_option maxRecDepth 20000 in
theorem gX9_law_X9_refuse : GoodIn wsX9_law (wsV RX9 96 RX9 yX9_refuse wsX9_refuse) := goodIn_app (goodIn_of _ (by decide +kernel)) ggX9_law_X9_refuse
set_option maxRecDepth 20000 in
theorem ggX9_law_X4_add : GoodIn wsX9_law wsX4_add := goodIn_r _ [14, 15, 16, 17, 18, 34, 35, 36, 37] (by decide +kernel) (by decide +kernel)
set_option maxRecDepth 20000 in
theorem gX9_law_X4_add : GoodIn wsX9_law (wsV RX9 176 RX4 yX4_add wsX4_add) := goodIn_app (goodIn_of _ (by decide +kernel)) ggX9_law_X4_add
theorem dX9_law_0 : decode cX9_law 0 = .ok (.iload_n 1, 1) := by decide +kernel
theorem dX9_law_1 : decode cX9_law 1 = .ok (.ifCond .lt 15, 3) := by decide +kernel
theorem dX9_law_4 : decode cX9_law 4 = .ok (.iload_n 2, 1) := by decide +kernel
theorem dX9_law_5 : decode cX9_law 5 = .ok (.ifCond .lt 11, 3) := by decide +kernel
theorem dX9_law_8 : decode cX9_law 8 = .ok (.iload_n 3, 1) := by decide +kernel
theorem dX9_law_9 : decode cX9_law 9 = .ok (.aload_n 0, 1) := by decide +kernel
theorem dX9_law_10 : decode cX9_law 10 = .ok (.getfield 7, 3) := by decide +kernel
theorem dX9_law_13 : decode cX9_law 13 = .ok (.if_icmp .ge 10, 3) := by decide +kernel
theorem dX9_law_16 : decode cX9_law 16 = .ok (.aload_n 0, 1) := by decide +kernel
theorem dX9_law_17 : decode cX9_law 17 = .ok (.bipush (-4), 2) := by decide +kernel
theorem dX9_law_19 : decode cX9_law 19 = .ok (.invokevirtual 96, 3) := by decide +kernel
theorem dX9_law_22 : decode cX9_law 22 = .ok (.ireturn, 1) := by decide +kernel
theorem dX9_law_23 : decode cX9_law 23 = .ok (.iload_n 1, 1) := by decide +kernel
theorem dX9_law_24 : decode cX9_law 24 = .ok (.bipush 100, 2) := by decide +kernel
theorem dX9_law_26 : decode cX9_law 26 = .ok (.if_icmp .gt 30, 3) := by decide +kernel
theorem dX9_law_29 : decode cX9_law 29 = .ok (.iload_n 2, 1) := by decide +kernel
theorem dX9_law_30 : decode cX9_law 30 = .ok (.bipush 100, 2) := by decide +kernel
theorem dX9_law_32 : decode cX9_law 32 = .ok (.iload_n 1, 1) := by decide +kernel
theorem dX9_law_33 : decode cX9_law 33 = .ok (.isub, 1) := by decide +kernel
theorem dX9_law_34 : decode cX9_law 34 = .ok (.if_icmp .gt 22, 3) := by decide +kernel
theorem dX9_law_37 : decode cX9_law 37 = .ok (.iload_n 3, 1) := by decide +kernel
theorem dX9_law_38 : decode cX9_law 38 = .ok (.sipush 1000, 3) := by decide +kernel
theorem dX9_law_41 : decode cX9_law 41 = .ok (.if_icmp .gt 15, 3) := by decide +kernel
theorem dX9_law_44 : decode cX9_law 44 = .ok (.aload_n 0, 1) := by decide +kernel
theorem dX9_law_45 : decode cX9_law 45 = .ok (.getfield 67, 3) := by decide +kernel
theorem dX9_law_48 : decode cX9_law 48 = .ok (.getfield 175, 3) := by decide +kernel
theorem dX9_law_51 : decode cX9_law 51 = .ok (.bipush 20, 2) := by decide +kernel
theorem dX9_law_53 : decode cX9_law 53 = .ok (.if_icmp .lt 10, 3) := by decide +kernel
theorem dX9_law_56 : decode cX9_law 56 = .ok (.aload_n 0, 1) := by decide +kernel
theorem dX9_law_57 : decode cX9_law 57 = .ok (.bipush (-6), 2) := by decide +kernel
theorem dX9_law_59 : decode cX9_law 59 = .ok (.invokevirtual 96, 3) := by decide +kernel
theorem dX9_law_62 : decode cX9_law 62 = .ok (.ireturn, 1) := by decide +kernel
theorem dX9_law_63 : decode cX9_law 63 = .ok (.aload_n 0, 1) := by decide +kernel
theorem dX9_law_64 : decode cX9_law 64 = .ok (.getfield 67, 3) := by decide +kernel
theorem dX9_law_67 : decode cX9_law 67 = .ok (.iload_n 1, 1) := by decide +kernel
theorem dX9_law_68 : decode cX9_law 68 = .ok (.iload_n 2, 1) := by decide +kernel
theorem dX9_law_69 : decode cX9_law 69 = .ok (.iload_n 3, 1) := by decide +kernel
theorem dX9_law_70 : decode cX9_law 70 = .ok (.invokevirtual 176, 3) := by decide +kernel
theorem dX9_law_73 : decode cX9_law 73 = .ok (.ireturn, 1) := by decide +kernel
set_option maxRecDepth 20000 in
theorem ggX9_word_X9_isInformer : GoodIn wsX9_word wsX9_isInformer := goodIn_r _ [7] (by decide +kernel) (by decide +kernel)
set_option maxRecDepth 20000 in
theorem gX9_word_X9_isInformer : GoodIn wsX9_word (va_wsS RX9 177 yX9_isInformer wsX9_isInformer) := goodIn_app (goodIn_of _ (by decide +kernel)) ggX9_word_X9_isInformer
set_option maxRecDepth 20000 in
theorem ggX9_word_X9_isCove : GoodIn wsX9_word wsX9_isCove := goodIn_r _ [10] (by decide +kernel) (by decide +kernel)
set_option maxRecDepth 20000 in
theorem gX9_word_X9_isCove : GoodIn wsX9_word (va_wsS RX9 92 yX9_isCove wsX9_isCove) := goodIn_app (goodIn_of _ (by decide +kernel)) ggX9_word_X9_isCove
set_option maxRecDepth 20000 in
theorem ggX9_word_X9_refuse : GoodIn wsX9_word wsX9_refuse := goodIn_r _ [14, 15, 33, 34, 35, 36, 37, 38, 39, 40, 41, 42, 43, 44, 45, 46, 47] (by decide +kernel) (by decide +kernel)
set_option maxRecDepth 20000 in
theorem gX9_word_X9_refuse : GoodIn wsX9_word (wsV RX9 96 RX9 yX9_refuse wsX9_refuse) := goodIn_app (goodIn_of _ (by decide +kernel)) ggX9_word_X9_refuse
set_option maxRecDepth 20000 in
theorem ggX9_word_X8_isToldBy : GoodIn wsX9_word wsX8_isToldBy := goodIn_r _ [20, 21, 22, 23, 24, 25, 19, 26, 27, 28, 48, 49, 50, 51, 52, 53] (by decide +kernel) (by decide +kernel)
set_option maxRecDepth 20000 in
theorem gX9_word_X8_isToldBy : GoodIn wsX9_word (wsV RX9 181 RX8 yX8_isToldBy wsX8_isToldBy) := goodIn_app (goodIn_of _ (by decide +kernel)) ggX9_word_X8_isToldBy
set_option maxRecDepth 20000 in
theorem ggX9_word_X8_add : GoodIn wsX9_word wsX8_add := goodIn_r _ [32, 21, 22, 27, 28, 48, 49, 50, 51, 52, 53] (by decide +kernel) (by decide +kernel)
set_option maxRecDepth 20000 in
theorem gX9_word_X8_add : GoodIn wsX9_word (wsV RX9 184 RX8 yX8_add wsX8_add) := goodIn_app (goodIn_of _ (by decide +kernel)) ggX9_word_X8_add
theorem dX9_word_0 : decode cX9_word 0 = .ok (.iload_n 1, 1) := by decide +kernel
theorem dX9_word_1 : decode cX9_word 1 = .ok (.invokestatic 177, 3) := by decide +kernel
theorem dX9_word_4 : decode cX9_word 4 = .ok (.ifCond .eq 10, 3) := by decide +kernel
theorem dX9_word_7 : decode cX9_word 7 = .ok (.iload_n 3, 1) := by decide +kernel
theorem dX9_word_8 : decode cX9_word 8 = .ok (.invokestatic 92, 3) := by decide +kernel
theorem dX9_word_11 : decode cX9_word 11 = .ok (.ifCond .ne 9, 3) := by decide +kernel
theorem dX9_word_14 : decode cX9_word 14 = .ok (.aload_n 0, 1) := by decide +kernel
theorem dX9_word_15 : decode cX9_word 15 = .ok (.iconst (-1), 1) := by decide +kernel
theorem dX9_word_16 : decode cX9_word 16 = .ok (.invokevirtual 96, 3) := by decide +kernel
theorem dX9_word_19 : decode cX9_word 19 = .ok (.ireturn, 1) := by decide +kernel
theorem dX9_word_20 : decode cX9_word 20 = .ok (.iload_n 2, 1) := by decide +kernel
theorem dX9_word_21 : decode cX9_word 21 = .ok (.aload_n 0, 1) := by decide +kernel
theorem dX9_word_22 : decode cX9_word 22 = .ok (.getfield 7, 3) := by decide +kernel
theorem dX9_word_25 : decode cX9_word 25 = .ok (.if_icmp .gt 10, 3) := by decide +kernel
theorem dX9_word_28 : decode cX9_word 28 = .ok (.aload_n 0, 1) := by decide +kernel
theorem dX9_word_29 : decode cX9_word 29 = .ok (.bipush (-4), 2) := by decide +kernel
theorem dX9_word_31 : decode cX9_word 31 = .ok (.invokevirtual 96, 3) := by decide +kernel
theorem dX9_word_34 : decode cX9_word 34 = .ok (.ireturn, 1) := by decide +kernel
theorem dX9_word_35 : decode cX9_word 35 = .ok (.iload_n 2, 1) := by decide +kernel
theorem dX9_word_36 : decode cX9_word 36 = .ok (.sipush 1000, 3) := by decide +kernel
theorem dX9_word_39 : decode cX9_word 39 = .ok (.if_icmp .gt 15, 3) := by decide +kernel
theorem dX9_word_42 : decode cX9_word 42 = .ok (.aload_n 0, 1) := by decide +kernel
theorem dX9_word_43 : decode cX9_word 43 = .ok (.getfield 74, 3) := by decide +kernel
theorem dX9_word_46 : decode cX9_word 46 = .ok (.getfield 180, 3) := by decide +kernel
theorem dX9_word_49 : decode cX9_word 49 = .ok (.bipush 60, 2) := by decide +kernel
theorem dX9_word_51 : decode cX9_word 51 = .ok (.if_icmp .lt 10, 3) := by decide +kernel
theorem dX9_word_54 : decode cX9_word 54 = .ok (.aload_n 0, 1) := by decide +kernel
theorem dX9_word_55 : decode cX9_word 55 = .ok (.bipush (-6), 2) := by decide +kernel
theorem dX9_word_57 : decode cX9_word 57 = .ok (.invokevirtual 96, 3) := by decide +kernel
theorem dX9_word_60 : decode cX9_word 60 = .ok (.ireturn, 1) := by decide +kernel
theorem dX9_word_61 : decode cX9_word 61 = .ok (.aload_n 0, 1) := by decide +kernel
theorem dX9_word_62 : decode cX9_word 62 = .ok (.getfield 74, 3) := by decide +kernel
theorem dX9_word_65 : decode cX9_word 65 = .ok (.iload_n 1, 1) := by decide +kernel
theorem dX9_word_66 : decode cX9_word 66 = .ok (.iload_n 2, 1) := by decide +kernel
theorem dX9_word_67 : decode cX9_word 67 = .ok (.iload_n 3, 1) := by decide +kernel
theorem dX9_word_68 : decode cX9_word 68 = .ok (.invokevirtual 181, 3) := by decide +kernel
theorem dX9_word_71 : decode cX9_word 71 = .ok (.ifCond .eq 10, 3) := by decide +kernel
theorem dX9_word_74 : decode cX9_word 74 = .ok (.aload_n 0, 1) := by decide +kernel
theorem dX9_word_75 : decode cX9_word 75 = .ok (.bipush (-3), 2) := by decide +kernel
theorem dX9_word_77 : decode cX9_word 77 = .ok (.invokevirtual 96, 3) := by decide +kernel
theorem dX9_word_80 : decode cX9_word 80 = .ok (.ireturn, 1) := by decide +kernel
theorem dX9_word_81 : decode cX9_word 81 = .ok (.aload_n 0, 1) := by decide +kernel
theorem dX9_word_82 : decode cX9_word 82 = .ok (.getfield 74, 3) := by decide +kernel
theorem dX9_word_85 : decode cX9_word 85 = .ok (.iload_n 1, 1) := by decide +kernel
theorem dX9_word_86 : decode cX9_word 86 = .ok (.iload_n 2, 1) := by decide +kernel
theorem dX9_word_87 : decode cX9_word 87 = .ok (.iload_n 3, 1) := by decide +kernel
theorem dX9_word_88 : decode cX9_word 88 = .ok (.invokevirtual 184, 3) := by decide +kernel
theorem dX9_word_91 : decode cX9_word 91 = .ok (.ireturn, 1) := by decide +kernel
set_option maxRecDepth 20000 in
theorem ggX9_nights_X9_refuse : GoodIn wsX9_nights wsX9_refuse := goodIn_r _ [8, 9, 195, 196, 197, 198, 199, 200, 201, 202, 203, 204, 205, 206, 207, 208, 209] (by decide +kernel) (by decide +kernel)
set_option maxRecDepth 20000 in
theorem gX9_nights_X9_refuse : GoodIn wsX9_nights (wsV RX9 96 RX9 yX9_refuse wsX9_refuse) := goodIn_app (goodIn_of _ (by decide +kernel)) ggX9_nights_X9_refuse
set_option maxRecDepth 20000 in
theorem ggX9_nights_X9_passNight : GoodIn wsX9_nights wsX9_passNight := goodIn_r _ [13, 1, 14, 15, 16, 17, 18, 7, 19, 20, 21, 22, 23, 24, 25, 26, 27, 28, 29, 30, 31, 32, 33, 34, 35, 36, 37, 38, 39, 40, 41, 42, 43, 44, 2, 3, 45, 46, 47, 48, 49, 50, 51, 52, 53, 54, 55, 56, 57, 58, 59, 60, 61, 62, 63, 64, 65, 66, 67, 68, 69, 70, 71, 72, 73, 74, 75, 76, 77, 78, 79, 80, 81, 82, 83, 84, 85, 86, 87, 88, 89, 90, 91, 92, 93, 94, 95, 96, 97, 98, 99, 100, 101, 102, 103, 104, 105, 106, 107, 108, 109, 110, 111, 112, 113, 114, 115, 116, 117, 118, 119, 120, 121, 122, 123, 124, 125, 126, 127, 128, 129, 130, 131, 132, 133, 134, 135, 136, 137, 138, 139, 140, 141, 142, 143, 144, 145, 146, 147, 148, 149, 150, 151, 152, 153, 154, 155, 156, 157, 158, 159, 160, 161, 162, 163, 164, 165, 166, 167, 168, 169, 170, 171, 172, 173, 174, 175, 176, 177, 178, 179, 180, 181, 182, 183, 184, 185, 186, 187, 188, 189, 190, 191, 192, 193, 194, 195, 196, 197, 198, 199, 200, 201, 202, 203, 204, 205, 206, 207, 208, 209, 217, 218, 219, 220, 221, 222, 223, 224, 225, 226, 227, 228, 229, 230, 231, 232, 210, 211, 212, 213, 214, 215, 216, 233, 234, 235, 236, 237, 238, 239, 240, 241, 242, 243, 244, 245, 246, 247, 248, 249, 250, 251] (by decide +kernel) (by decide +kernel)
set_option maxRecDepth 20000 in
theorem gX9_nights_X9_passNight : GoodIn wsX9_nights (wsV RX9 186 RX9 yX9_passNight wsX9_passNight) := goodIn_app (goodIn_of _ (by decide +kernel)) ggX9_nights_X9_passNight
theorem dX9_nights_0 : decode cX9_nights 0 = .ok (.iload_n 1, 1) := by decide +kernel
theorem dX9_nights_1 : decode cX9_nights 1 = .ok (.iconst 1, 1) := by decide +kernel
theorem dX9_nights_2 : decode cX9_nights 2 = .ok (.if_icmp .ge 10, 3) := by decide +kernel
theorem dX9_nights_5 : decode cX9_nights 5 = .ok (.aload_n 0, 1) := by decide +kernel
theorem dX9_nights_6 : decode cX9_nights 6 = .ok (.bipush (-4), 2) := by decide +kernel
theorem dX9_nights_8 : decode cX9_nights 8 = .ok (.invokevirtual 96, 3) := by decide +kernel
theorem dX9_nights_11 : decode cX9_nights 11 = .ok (.ireturn, 1) := by decide +kernel
theorem dX9_nights_12 : decode cX9_nights 12 = .ok (.iload_n 1, 1) := by decide +kernel
theorem dX9_nights_13 : decode cX9_nights 13 = .ok (.sipush 1000, 3) := by decide +kernel
theorem dX9_nights_16 : decode cX9_nights 16 = .ok (.aload_n 0, 1) := by decide +kernel
theorem dX9_nights_17 : decode cX9_nights 17 = .ok (.getfield 7, 3) := by decide +kernel
theorem dX9_nights_20 : decode cX9_nights 20 = .ok (.isub, 1) := by decide +kernel
theorem dX9_nights_21 : decode cX9_nights 21 = .ok (.if_icmp .le 10, 3) := by decide +kernel
theorem dX9_nights_24 : decode cX9_nights 24 = .ok (.aload_n 0, 1) := by decide +kernel
theorem dX9_nights_25 : decode cX9_nights 25 = .ok (.bipush (-6), 2) := by decide +kernel
theorem dX9_nights_27 : decode cX9_nights 27 = .ok (.invokevirtual 96, 3) := by decide +kernel
theorem dX9_nights_30 : decode cX9_nights 30 = .ok (.ireturn, 1) := by decide +kernel
theorem dX9_nights_31 : decode cX9_nights 31 = .ok (.aload_n 0, 1) := by decide +kernel
theorem dX9_nights_32 : decode cX9_nights 32 = .ok (.getfield 60, 3) := by decide +kernel
theorem dX9_nights_35 : decode cX9_nights 35 = .ok (.getfield 185, 3) := by decide +kernel
theorem dX9_nights_38 : decode cX9_nights 38 = .ok (.istore_n 2, 1) := by decide +kernel
theorem dX9_nights_39 : decode cX9_nights 39 = .ok (.iconst 0, 1) := by decide +kernel
theorem dX9_nights_40 : decode cX9_nights 40 = .ok (.istore_n 3, 1) := by decide +kernel
theorem dX9_nights_41 : decode cX9_nights 41 = .ok (.iload_n 3, 1) := by decide +kernel
theorem dX9_nights_42 : decode cX9_nights 42 = .ok (.iload_n 1, 1) := by decide +kernel
theorem dX9_nights_43 : decode cX9_nights 43 = .ok (.if_icmp .ge 13, 3) := by decide +kernel
theorem dX9_nights_46 : decode cX9_nights 46 = .ok (.aload_n 0, 1) := by decide +kernel
theorem dX9_nights_47 : decode cX9_nights 47 = .ok (.invokevirtual 186, 3) := by decide +kernel
theorem dX9_nights_50 : decode cX9_nights 50 = .ok (.iinc 3 1, 3) := by decide +kernel
theorem dX9_nights_53 : decode cX9_nights 53 = .ok (.goto (-12), 3) := by decide +kernel
theorem dX9_nights_56 : decode cX9_nights 56 = .ok (.aload_n 0, 1) := by decide +kernel
theorem dX9_nights_57 : decode cX9_nights 57 = .ok (.getfield 60, 3) := by decide +kernel
theorem dX9_nights_60 : decode cX9_nights 60 = .ok (.getfield 185, 3) := by decide +kernel
theorem dX9_nights_63 : decode cX9_nights 63 = .ok (.iload_n 2, 1) := by decide +kernel
theorem dX9_nights_64 : decode cX9_nights 64 = .ok (.isub, 1) := by decide +kernel
theorem dX9_nights_65 : decode cX9_nights 65 = .ok (.ireturn, 1) := by decide +kernel
set_option maxRecDepth 20000 in
theorem ggX9_search_X9_isHide : GoodIn wsX9_search wsX9_isHide := goodIn_r _ [12, 5, 13, 46, 47, 48, 49, 50, 51, 52, 53, 54, 55, 56, 57, 58, 59, 60, 68, 69, 70, 71, 72, 73, 74] (by decide +kernel) (by decide +kernel)
set_option maxRecDepth 20000 in
theorem gX9_search_X9_isHide : GoodIn wsX9_search (wsV RX9 189 RX9 yX9_isHide wsX9_isHide) := goodIn_app (goodIn_of _ (by decide +kernel)) ggX9_search_X9_isHide
set_option maxRecDepth 20000 in
theorem ggX9_search_X9_refuse : GoodIn wsX9_search wsX9_refuse := goodIn_r _ [17, 18, 46, 47, 48, 49, 50, 51, 52, 53, 54, 55, 56, 57, 58, 59, 60] (by decide +kernel) (by decide +kernel)
set_option maxRecDepth 20000 in
theorem gX9_search_X9_refuse : GoodIn wsX9_search (wsV RX9 96 RX9 yX9_refuse wsX9_refuse) := goodIn_app (goodIn_of _ (by decide +kernel)) ggX9_search_X9_refuse
set_option maxRecDepth 20000 in
theorem ggX9_search_X5_liesIn : GoodIn wsX9_search wsX5_liesIn := goodIn_r _ [23, 24, 25, 61, 62, 63, 64, 65, 66, 67] (by decide +kernel) (by decide +kernel)
set_option maxRecDepth 20000 in
theorem gX9_search_X5_liesIn : GoodIn wsX9_search (wsV RX9 192 RX5 yX5_liesIn wsX5_liesIn) := goodIn_app (goodIn_of _ (by decide +kernel)) ggX9_search_X5_liesIn
set_option maxRecDepth 20000 in
theorem ggX9_search_X9_partSeized : GoodIn wsX9_search wsX9_partSeized := goodIn_r _ [29, 30, 31, 32, 33, 34, 35, 36, 37, 38, 39, 40, 41, 42, 43, 44, 11, 45, 46, 47, 48, 49, 50, 51, 52, 53, 54, 55, 56, 57, 58, 59, 60, 75, 76, 77, 78] (by decide +kernel) (by decide +kernel)
set_option maxRecDepth 20000 in
theorem gX9_search_X9_partSeized : GoodIn wsX9_search (wsV RX9 200 RX9 yX9_partSeized wsX9_partSeized) := goodIn_app (goodIn_of _ (by decide +kernel)) ggX9_search_X9_partSeized
theorem dX9_search_0 : decode cX9_search 0 = .ok (.aload_n 0, 1) := by decide +kernel
theorem dX9_search_1 : decode cX9_search 1 = .ok (.iload_n 1, 1) := by decide +kernel
theorem dX9_search_2 : decode cX9_search 2 = .ok (.invokevirtual 189, 3) := by decide +kernel
theorem dX9_search_5 : decode cX9_search 5 = .ok (.ifCond .ne 9, 3) := by decide +kernel
theorem dX9_search_8 : decode cX9_search 8 = .ok (.aload_n 0, 1) := by decide +kernel
theorem dX9_search_9 : decode cX9_search 9 = .ok (.iconst (-1), 1) := by decide +kernel
theorem dX9_search_10 : decode cX9_search 10 = .ok (.invokevirtual 96, 3) := by decide +kernel
theorem dX9_search_13 : decode cX9_search 13 = .ok (.ireturn, 1) := by decide +kernel
theorem dX9_search_14 : decode cX9_search 14 = .ok (.iconst 0, 1) := by decide +kernel
theorem dX9_search_15 : decode cX9_search 15 = .ok (.istore_n 2, 1) := by decide +kernel
theorem dX9_search_16 : decode cX9_search 16 = .ok (.iconst 0, 1) := by decide +kernel
theorem dX9_search_17 : decode cX9_search 17 = .ok (.istore_n 3, 1) := by decide +kernel
theorem dX9_search_18 : decode cX9_search 18 = .ok (.iload_n 3, 1) := by decide +kernel
theorem dX9_search_19 : decode cX9_search 19 = .ok (.aload_n 0, 1) := by decide +kernel
theorem dX9_search_20 : decode cX9_search 20 = .ok (.getfield 60, 3) := by decide +kernel
theorem dX9_search_23 : decode cX9_search 23 = .ok (.getfield 185, 3) := by decide +kernel
theorem dX9_search_26 : decode cX9_search 26 = .ok (.if_icmp .ge 57, 3) := by decide +kernel
theorem dX9_search_29 : decode cX9_search 29 = .ok (.aload_n 0, 1) := by decide +kernel
theorem dX9_search_30 : decode cX9_search 30 = .ok (.getfield 60, 3) := by decide +kernel
theorem dX9_search_33 : decode cX9_search 33 = .ok (.iload_n 3, 1) := by decide +kernel
theorem dX9_search_34 : decode cX9_search 34 = .ok (.iload_n 1, 1) := by decide +kernel
theorem dX9_search_35 : decode cX9_search 35 = .ok (.invokevirtual 192, 3) := by decide +kernel
theorem dX9_search_38 : decode cX9_search 38 = .ok (.ifCond .eq 39, 3) := by decide +kernel
theorem dX9_search_41 : decode cX9_search 41 = .ok (.aload_n 0, 1) := by decide +kernel
theorem dX9_search_42 : decode cX9_search 42 = .ok (.getfield 60, 3) := by decide +kernel
theorem dX9_search_45 : decode cX9_search 45 = .ok (.getfield 196, 3) := by decide +kernel
theorem dX9_search_48 : decode cX9_search 48 = .ok (.iload_n 3, 1) := by decide +kernel
theorem dX9_search_49 : decode cX9_search 49 = .ok (.iconst 2, 1) := by decide +kernel
theorem dX9_search_50 : decode cX9_search 50 = .ok (.iastore, 1) := by decide +kernel
theorem dX9_search_51 : decode cX9_search 51 = .ok (.iload_n 2, 1) := by decide +kernel
theorem dX9_search_52 : decode cX9_search 52 = .ok (.aload_n 0, 1) := by decide +kernel
theorem dX9_search_53 : decode cX9_search 53 = .ok (.getfield 60, 3) := by decide +kernel
theorem dX9_search_56 : decode cX9_search 56 = .ok (.getfield 199, 3) := by decide +kernel
theorem dX9_search_59 : decode cX9_search 59 = .ok (.iload_n 3, 1) := by decide +kernel
theorem dX9_search_60 : decode cX9_search 60 = .ok (.iaload, 1) := by decide +kernel
theorem dX9_search_61 : decode cX9_search 61 = .ok (.iadd, 1) := by decide +kernel
theorem dX9_search_62 : decode cX9_search 62 = .ok (.istore_n 2, 1) := by decide +kernel
theorem dX9_search_63 : decode cX9_search 63 = .ok (.aload_n 0, 1) := by decide +kernel
theorem dX9_search_64 : decode cX9_search 64 = .ok (.aload_n 0, 1) := by decide +kernel
theorem dX9_search_65 : decode cX9_search 65 = .ok (.getfield 60, 3) := by decide +kernel
theorem dX9_search_68 : decode cX9_search 68 = .ok (.getfield 199, 3) := by decide +kernel
theorem dX9_search_71 : decode cX9_search 71 = .ok (.iload_n 3, 1) := by decide +kernel
theorem dX9_search_72 : decode cX9_search 72 = .ok (.iaload, 1) := by decide +kernel
theorem dX9_search_73 : decode cX9_search 73 = .ok (.iconst (-1), 1) := by decide +kernel
theorem dX9_search_74 : decode cX9_search 74 = .ok (.invokevirtual 200, 3) := by decide +kernel
theorem dX9_search_77 : decode cX9_search 77 = .ok (.iinc 3 1, 3) := by decide +kernel
theorem dX9_search_80 : decode cX9_search 80 = .ok (.goto (-62), 3) := by decide +kernel
theorem dX9_search_83 : decode cX9_search 83 = .ok (.aload_n 0, 1) := by decide +kernel
theorem dX9_search_84 : decode cX9_search 84 = .ok (.getfield 53, 3) := by decide +kernel
theorem dX9_search_87 : decode cX9_search 87 = .ok (.getfield 203, 3) := by decide +kernel
theorem dX9_search_90 : decode cX9_search 90 = .ok (.iload_n 1, 1) := by decide +kernel
theorem dX9_search_91 : decode cX9_search 91 = .ok (.iconst 0, 1) := by decide +kernel
theorem dX9_search_92 : decode cX9_search 92 = .ok (.iastore, 1) := by decide +kernel
theorem dX9_search_93 : decode cX9_search 93 = .ok (.aload_n 0, 1) := by decide +kernel
theorem dX9_search_94 : decode cX9_search 94 = .ok (.getfield 53, 3) := by decide +kernel
theorem dX9_search_97 : decode cX9_search 97 = .ok (.getfield 206, 3) := by decide +kernel
theorem dX9_search_100 : decode cX9_search 100 = .ok (.iload_n 1, 1) := by decide +kernel
theorem dX9_search_101 : decode cX9_search 101 = .ok (.dup2, 1) := by decide +kernel
theorem dX9_search_102 : decode cX9_search 102 = .ok (.iaload, 1) := by decide +kernel
theorem dX9_search_103 : decode cX9_search 103 = .ok (.iconst 2, 1) := by decide +kernel
theorem dX9_search_104 : decode cX9_search 104 = .ok (.idiv, 1) := by decide +kernel
theorem dX9_search_105 : decode cX9_search 105 = .ok (.iastore, 1) := by decide +kernel
theorem dX9_search_106 : decode cX9_search 106 = .ok (.iload_n 2, 1) := by decide +kernel
theorem dX9_search_107 : decode cX9_search 107 = .ok (.ireturn, 1) := by decide +kernel
set_option maxRecDepth 20000 in
theorem ggX9_best_X9_refuse : GoodIn wsX9_best wsX9_refuse := goodIn_r _ [6, 7, 26, 27, 28, 29, 30, 31, 32, 33, 34, 35, 36, 37, 38, 39, 40] (by decide +kernel) (by decide +kernel)
set_option maxRecDepth 20000 in
theorem gX9_best_X9_refuse : GoodIn wsX9_best (wsV RX9 96 RX9 yX9_refuse wsX9_refuse) := goodIn_app (goodIn_of _ (by decide +kernel)) ggX9_best_X9_refuse
set_option maxRecDepth 20000 in
theorem ggX9_best_X3_bestSet : GoodIn wsX9_best wsX3_bestSet := goodIn_r _ [12, 13, 14, 15, 16, 17, 18, 19, 20, 21, 22, 23, 24, 25, 41, 42, 43, 44, 45, 46, 47] (by decide +kernel) (by decide +kernel)
set_option maxRecDepth 20000 in
theorem gX9_best_X3_bestSet : GoodIn wsX9_best (wsV RX9 209 RX3 yX3_bestSet wsX3_bestSet) := goodIn_app (goodIn_of _ (by decide +kernel)) ggX9_best_X3_bestSet
theorem dX9_best_0 : decode cX9_best 0 = .ok (.iload_n 1, 1) := by decide +kernel
theorem dX9_best_1 : decode cX9_best 1 = .ok (.ifCond .ge 10, 3) := by decide +kernel
theorem dX9_best_4 : decode cX9_best 4 = .ok (.aload_n 0, 1) := by decide +kernel
theorem dX9_best_5 : decode cX9_best 5 = .ok (.bipush (-4), 2) := by decide +kernel
theorem dX9_best_7 : decode cX9_best 7 = .ok (.invokevirtual 96, 3) := by decide +kernel
theorem dX9_best_10 : decode cX9_best 10 = .ok (.ireturn, 1) := by decide +kernel
theorem dX9_best_11 : decode cX9_best 11 = .ok (.iload_n 1, 1) := by decide +kernel
theorem dX9_best_12 : decode cX9_best 12 = .ok (.bipush 100, 2) := by decide +kernel
theorem dX9_best_14 : decode cX9_best 14 = .ok (.if_icmp .le 10, 3) := by decide +kernel
theorem dX9_best_17 : decode cX9_best 17 = .ok (.aload_n 0, 1) := by decide +kernel
theorem dX9_best_18 : decode cX9_best 18 = .ok (.bipush (-6), 2) := by decide +kernel
theorem dX9_best_20 : decode cX9_best 20 = .ok (.invokevirtual 96, 3) := by decide +kernel
theorem dX9_best_23 : decode cX9_best 23 = .ok (.ireturn, 1) := by decide +kernel
theorem dX9_best_24 : decode cX9_best 24 = .ok (.aload_n 0, 1) := by decide +kernel
theorem dX9_best_25 : decode cX9_best 25 = .ok (.getfield 53, 3) := by decide +kernel
theorem dX9_best_28 : decode cX9_best 28 = .ok (.iload_n 1, 1) := by decide +kernel
theorem dX9_best_29 : decode cX9_best 29 = .ok (.invokevirtual 209, 3) := by decide +kernel
theorem dX9_best_32 : decode cX9_best 32 = .ok (.ireturn, 1) := by decide +kernel
set_option maxRecDepth 20000 in
theorem ggX9_belief_X9_isCove : GoodIn wsX9_belief wsX9_isCove := goodIn_r _ [5] (by decide +kernel) (by decide +kernel)
set_option maxRecDepth 20000 in
theorem gX9_belief_X9_isCove : GoodIn wsX9_belief (va_wsS RX9 92 yX9_isCove wsX9_isCove) := goodIn_app (goodIn_of _ (by decide +kernel)) ggX9_belief_X9_isCove
set_option maxRecDepth 20000 in
theorem ggX9_belief_X9_refuse : GoodIn wsX9_belief wsX9_refuse := goodIn_r _ [9, 10, 43, 44, 45, 46, 47, 48, 49, 50, 51, 52, 53, 54, 55, 56, 57] (by decide +kernel) (by decide +kernel)
set_option maxRecDepth 20000 in
theorem gX9_belief_X9_refuse : GoodIn wsX9_belief (wsV RX9 96 RX9 yX9_refuse wsX9_refuse) := goodIn_app (goodIn_of _ (by decide +kernel)) ggX9_belief_X9_refuse
set_option maxRecDepth 20000 in
theorem ggX9_belief_X9_isPart : GoodIn wsX9_belief wsX9_isPart := goodIn_r _ [13] (by decide +kernel) (by decide +kernel)
set_option maxRecDepth 20000 in
theorem gX9_belief_X9_isPart : GoodIn wsX9_belief (va_wsS RX9 212 yX9_isPart wsX9_isPart) := goodIn_app (goodIn_of _ (by decide +kernel)) ggX9_belief_X9_isPart
set_option maxRecDepth 20000 in
theorem ggX9_belief_X8_doubtAbove : GoodIn wsX9_belief wsX8_doubtAbove := goodIn_r _ [18, 19, 20, 21, 22, 23, 24, 17, 25, 26, 27, 58, 59, 60, 61, 62, 63] (by decide +kernel) (by decide +kernel)
set_option maxRecDepth 20000 in
theorem gX9_belief_X8_doubtAbove : GoodIn wsX9_belief (wsV RX9 215 RX8 yX8_doubtAbove wsX8_doubtAbove) := goodIn_app (goodIn_of _ (by decide +kernel)) ggX9_belief_X8_doubtAbove
set_option maxRecDepth 20000 in
theorem ggX9_belief_X8_doubtBelow : GoodIn wsX9_belief wsX8_doubtBelow := goodIn_r _ [31, 19, 21, 22, 23, 24, 17, 25, 26, 27, 32, 33, 34, 35, 36, 20, 58, 59, 60, 61, 62, 63] (by decide +kernel) (by decide +kernel)
set_option maxRecDepth 20000 in
theorem gX9_belief_X8_doubtBelow : GoodIn wsX9_belief (wsV RX9 219 RX8 yX8_doubtBelow wsX8_doubtBelow) := goodIn_app (goodIn_of _ (by decide +kernel)) ggX9_belief_X8_doubtBelow
set_option maxRecDepth 20000 in
theorem ggX9_belief_X9_lowest : GoodIn wsX9_belief wsX9_lowest := goodIn_r _ [39, 40, 41, 4, 42] (by decide +kernel) (by decide +kernel)
set_option maxRecDepth 20000 in
theorem gX9_belief_X9_lowest : GoodIn wsX9_belief (va_wsS RX9 222 yX9_lowest wsX9_lowest) := goodIn_app (goodIn_of _ (by decide +kernel)) ggX9_belief_X9_lowest
theorem dX9_belief_0 : decode cX9_belief 0 = .ok (.iload_n 1, 1) := by decide +kernel
theorem dX9_belief_1 : decode cX9_belief 1 = .ok (.invokestatic 92, 3) := by decide +kernel
theorem dX9_belief_4 : decode cX9_belief 4 = .ok (.ifCond .ne 10, 3) := by decide +kernel
theorem dX9_belief_7 : decode cX9_belief 7 = .ok (.aload_n 0, 1) := by decide +kernel
theorem dX9_belief_8 : decode cX9_belief 8 = .ok (.iconst (-1), 1) := by decide +kernel
theorem dX9_belief_9 : decode cX9_belief 9 = .ok (.invokevirtual 96, 3) := by decide +kernel
theorem dX9_belief_12 : decode cX9_belief 12 = .ok (.i2l, 1) := by decide +kernel
theorem dX9_belief_13 : decode cX9_belief 13 = .ok (.lreturn, 1) := by decide +kernel
theorem dX9_belief_14 : decode cX9_belief 14 = .ok (.iload_n 2, 1) := by decide +kernel
theorem dX9_belief_15 : decode cX9_belief 15 = .ok (.ifCond .ge 11, 3) := by decide +kernel
theorem dX9_belief_18 : decode cX9_belief 18 = .ok (.aload_n 0, 1) := by decide +kernel
theorem dX9_belief_19 : decode cX9_belief 19 = .ok (.bipush (-4), 2) := by decide +kernel
theorem dX9_belief_21 : decode cX9_belief 21 = .ok (.invokevirtual 96, 3) := by decide +kernel
theorem dX9_belief_24 : decode cX9_belief 24 = .ok (.i2l, 1) := by decide +kernel
theorem dX9_belief_25 : decode cX9_belief 25 = .ok (.lreturn, 1) := by decide +kernel
theorem dX9_belief_26 : decode cX9_belief 26 = .ok (.iload_n 2, 1) := by decide +kernel
theorem dX9_belief_27 : decode cX9_belief 27 = .ok (.sipush 1000, 3) := by decide +kernel
theorem dX9_belief_30 : decode cX9_belief 30 = .ok (.if_icmp .le 11, 3) := by decide +kernel
theorem dX9_belief_33 : decode cX9_belief 33 = .ok (.aload_n 0, 1) := by decide +kernel
theorem dX9_belief_34 : decode cX9_belief 34 = .ok (.bipush (-6), 2) := by decide +kernel
theorem dX9_belief_36 : decode cX9_belief 36 = .ok (.invokevirtual 96, 3) := by decide +kernel
theorem dX9_belief_39 : decode cX9_belief 39 = .ok (.i2l, 1) := by decide +kernel
theorem dX9_belief_40 : decode cX9_belief 40 = .ok (.lreturn, 1) := by decide +kernel
theorem dX9_belief_41 : decode cX9_belief 41 = .ok (.iload_n 3, 1) := by decide +kernel
theorem dX9_belief_42 : decode cX9_belief 42 = .ok (.invokestatic 212, 3) := by decide +kernel
theorem dX9_belief_45 : decode cX9_belief 45 = .ok (.ifCond .ne 11, 3) := by decide +kernel
theorem dX9_belief_48 : decode cX9_belief 48 = .ok (.aload_n 0, 1) := by decide +kernel
theorem dX9_belief_49 : decode cX9_belief 49 = .ok (.bipush (-2), 2) := by decide +kernel
theorem dX9_belief_51 : decode cX9_belief 51 = .ok (.invokevirtual 96, 3) := by decide +kernel
theorem dX9_belief_54 : decode cX9_belief 54 = .ok (.i2l, 1) := by decide +kernel
theorem dX9_belief_55 : decode cX9_belief 55 = .ok (.lreturn, 1) := by decide +kernel
theorem dX9_belief_56 : decode cX9_belief 56 = .ok (.aload_n 0, 1) := by decide +kernel
theorem dX9_belief_57 : decode cX9_belief 57 = .ok (.getfield 74, 3) := by decide +kernel
theorem dX9_belief_60 : decode cX9_belief 60 = .ok (.iload_n 2, 1) := by decide +kernel
theorem dX9_belief_61 : decode cX9_belief 61 = .ok (.iload_n 1, 1) := by decide +kernel
theorem dX9_belief_62 : decode cX9_belief 62 = .ok (.invokevirtual 215, 3) := by decide +kernel
theorem dX9_belief_65 : decode cX9_belief 65 = .ok (.lstore 4, 2) := by decide +kernel
theorem dX9_belief_67 : decode cX9_belief 67 = .ok (.aload_n 0, 1) := by decide +kernel
theorem dX9_belief_68 : decode cX9_belief 68 = .ok (.getfield 74, 3) := by decide +kernel
theorem dX9_belief_71 : decode cX9_belief 71 = .ok (.iload_n 2, 1) := by decide +kernel
theorem dX9_belief_72 : decode cX9_belief 72 = .ok (.iload_n 1, 1) := by decide +kernel
theorem dX9_belief_73 : decode cX9_belief 73 = .ok (.invokevirtual 219, 3) := by decide +kernel
theorem dX9_belief_76 : decode cX9_belief 76 = .ok (.lstore 6, 2) := by decide +kernel
theorem dX9_belief_78 : decode cX9_belief 78 = .ok (.lload 6, 2) := by decide +kernel
theorem dX9_belief_80 : decode cX9_belief 80 = .ok (.lload 4, 2) := by decide +kernel
theorem dX9_belief_82 : decode cX9_belief 82 = .ok (.lsub, 1) := by decide +kernel
theorem dX9_belief_83 : decode cX9_belief 83 = .ok (.lload 6, 2) := by decide +kernel
theorem dX9_belief_85 : decode cX9_belief 85 = .ok (.iload_n 3, 1) := by decide +kernel
theorem dX9_belief_86 : decode cX9_belief 86 = .ok (.invokestatic 222, 3) := by decide +kernel
theorem dX9_belief_89 : decode cX9_belief 89 = .ok (.lreturn, 1) := by decide +kernel
set_option maxRecDepth 20000 in
theorem ggX9_weight_X9_isInformer : GoodIn wsX9_weight wsX9_isInformer := goodIn_r _ [6] (by decide +kernel) (by decide +kernel)
set_option maxRecDepth 20000 in
theorem gX9_weight_X9_isInformer : GoodIn wsX9_weight (va_wsS RX9 177 yX9_isInformer wsX9_isInformer) := goodIn_app (goodIn_of _ (by decide +kernel)) ggX9_weight_X9_isInformer
set_option maxRecDepth 20000 in
theorem ggX9_weight_X9_refuse : GoodIn wsX9_weight wsX9_refuse := goodIn_r _ [10, 11, 28, 29, 30, 31, 32, 33, 34, 35, 36, 37, 38, 39, 40, 41, 42] (by decide +kernel) (by decide +kernel)
set_option maxRecDepth 20000 in
theorem gX9_weight_X9_refuse : GoodIn wsX9_weight (wsV RX9 96 RX9 yX9_refuse wsX9_refuse) := goodIn_app (goodIn_of _ (by decide +kernel)) ggX9_weight_X9_refuse
set_option maxRecDepth 20000 in
theorem ggX9_weight_X9_isPart : GoodIn wsX9_weight wsX9_isPart := goodIn_r _ [14] (by decide +kernel) (by decide +kernel)
set_option maxRecDepth 20000 in
theorem gX9_weight_X9_isPart : GoodIn wsX9_weight (va_wsS RX9 212 yX9_isPart wsX9_isPart) := goodIn_app (goodIn_of _ (by decide +kernel)) ggX9_weight_X9_isPart
set_option maxRecDepth 20000 in
theorem ggX9_weight_X8_provedOf : GoodIn wsX9_weight wsX8_provedOf := goodIn_r _ [19, 20, 21, 43, 44, 45, 46, 47, 48] (by decide +kernel) (by decide +kernel)
set_option maxRecDepth 20000 in
theorem gX9_weight_X8_provedOf : GoodIn wsX9_weight (wsV RX9 229 RX8 yX8_provedOf wsX8_provedOf) := goodIn_app (goodIn_of _ (by decide +kernel)) ggX9_weight_X8_provedOf
set_option maxRecDepth 20000 in
theorem ggX9_weight_X9_lowest : GoodIn wsX9_weight wsX9_lowest := goodIn_r _ [24, 25, 26, 5, 27] (by decide +kernel) (by decide +kernel)
set_option maxRecDepth 20000 in
theorem gX9_weight_X9_lowest : GoodIn wsX9_weight (va_wsS RX9 222 yX9_lowest wsX9_lowest) := goodIn_app (goodIn_of _ (by decide +kernel)) ggX9_weight_X9_lowest
theorem dX9_weight_0 : decode cX9_weight 0 = .ok (.iload_n 1, 1) := by decide +kernel
theorem dX9_weight_1 : decode cX9_weight 1 = .ok (.invokestatic 177, 3) := by decide +kernel
theorem dX9_weight_4 : decode cX9_weight 4 = .ok (.ifCond .ne 9, 3) := by decide +kernel
theorem dX9_weight_7 : decode cX9_weight 7 = .ok (.aload_n 0, 1) := by decide +kernel
theorem dX9_weight_8 : decode cX9_weight 8 = .ok (.iconst (-1), 1) := by decide +kernel
theorem dX9_weight_9 : decode cX9_weight 9 = .ok (.invokevirtual 96, 3) := by decide +kernel
theorem dX9_weight_12 : decode cX9_weight 12 = .ok (.ireturn, 1) := by decide +kernel
theorem dX9_weight_13 : decode cX9_weight 13 = .ok (.iload_n 2, 1) := by decide +kernel
theorem dX9_weight_14 : decode cX9_weight 14 = .ok (.invokestatic 212, 3) := by decide +kernel
theorem dX9_weight_17 : decode cX9_weight 17 = .ok (.ifCond .ne 10, 3) := by decide +kernel
theorem dX9_weight_20 : decode cX9_weight 20 = .ok (.aload_n 0, 1) := by decide +kernel
theorem dX9_weight_21 : decode cX9_weight 21 = .ok (.bipush (-2), 2) := by decide +kernel
theorem dX9_weight_23 : decode cX9_weight 23 = .ok (.invokevirtual 96, 3) := by decide +kernel
theorem dX9_weight_26 : decode cX9_weight 26 = .ok (.ireturn, 1) := by decide +kernel
theorem dX9_weight_27 : decode cX9_weight 27 = .ok (.aload_n 0, 1) := by decide +kernel
theorem dX9_weight_28 : decode cX9_weight 28 = .ok (.getfield 74, 3) := by decide +kernel
theorem dX9_weight_31 : decode cX9_weight 31 = .ok (.getfield 226, 3) := by decide +kernel
theorem dX9_weight_34 : decode cX9_weight 34 = .ok (.iload_n 1, 1) := by decide +kernel
theorem dX9_weight_35 : decode cX9_weight 35 = .ok (.iaload, 1) := by decide +kernel
theorem dX9_weight_36 : decode cX9_weight 36 = .ok (.iconst 1, 1) := by decide +kernel
theorem dX9_weight_37 : decode cX9_weight 37 = .ok (.iadd, 1) := by decide +kernel
theorem dX9_weight_38 : decode cX9_weight 38 = .ok (.i2l, 1) := by decide +kernel
theorem dX9_weight_39 : decode cX9_weight 39 = .ok (.aload_n 0, 1) := by decide +kernel
theorem dX9_weight_40 : decode cX9_weight 40 = .ok (.getfield 74, 3) := by decide +kernel
theorem dX9_weight_43 : decode cX9_weight 43 = .ok (.iload_n 1, 1) := by decide +kernel
theorem dX9_weight_44 : decode cX9_weight 44 = .ok (.invokevirtual 229, 3) := by decide +kernel
theorem dX9_weight_47 : decode cX9_weight 47 = .ok (.iconst 2, 1) := by decide +kernel
theorem dX9_weight_48 : decode cX9_weight 48 = .ok (.iadd, 1) := by decide +kernel
theorem dX9_weight_49 : decode cX9_weight 49 = .ok (.i2l, 1) := by decide +kernel
theorem dX9_weight_50 : decode cX9_weight 50 = .ok (.iload_n 2, 1) := by decide +kernel
theorem dX9_weight_51 : decode cX9_weight 51 = .ok (.invokestatic 222, 3) := by decide +kernel
theorem dX9_weight_54 : decode cX9_weight 54 = .ok (.l2i, 1) := by decide +kernel
theorem dX9_weight_55 : decode cX9_weight 55 = .ok (.ireturn, 1) := by decide +kernel
set_option maxRecDepth 20000 in
theorem ggX9_value_X9_gameRefusal : GoodIn wsX9_value wsX9_gameRefusal := goodIn_r _ [10, 11, 12, 9, 13] (by decide +kernel) (by decide +kernel)
set_option maxRecDepth 20000 in
theorem gX9_value_X9_gameRefusal : GoodIn wsX9_value (va_wsS RX9 232 yX9_gameRefusal wsX9_gameRefusal) := goodIn_app (goodIn_of _ (by decide +kernel)) ggX9_value_X9_gameRefusal
set_option maxRecDepth 20000 in
theorem ggX9_value_X9_refuse : GoodIn wsX9_value wsX9_refuse := goodIn_r _ [17, 18, 37, 38, 39, 40, 41, 42, 43, 44, 45, 46, 47, 48, 49, 50, 51] (by decide +kernel) (by decide +kernel)
set_option maxRecDepth 20000 in
theorem gX9_value_X9_refuse : GoodIn wsX9_value (wsV RX9 96 RX9 yX9_refuse wsX9_refuse) := goodIn_app (goodIn_of _ (by decide +kernel)) ggX9_value_X9_refuse
set_option maxRecDepth 20000 in
theorem ggX9_value_X2_solve : GoodIn wsX9_value wsX2_solve := goodIn_r _ [23, 24, 25, 26, 27, 28, 29, 22, 30, 59, 60, 61] (by decide +kernel) (by decide +kernel)
set_option maxRecDepth 20000 in
theorem gX9_value_X2_solve : GoodIn wsX9_value (wsV RX9 237 RX2 yX2_solve wsX2_solve) := goodIn_app (goodIn_of _ (by decide +kernel)) ggX9_value_X2_solve
set_option maxRecDepth 20000 in
theorem ggX9_value_X9_lowest : GoodIn wsX9_value wsX9_lowest := goodIn_r _ [33, 34, 35, 9, 36] (by decide +kernel) (by decide +kernel)
set_option maxRecDepth 20000 in
theorem gX9_value_X9_lowest : GoodIn wsX9_value (va_wsS RX9 222 yX9_lowest wsX9_lowest) := goodIn_app (goodIn_of _ (by decide +kernel)) ggX9_value_X9_lowest
theorem dX9_value_0 : decode cX9_value 0 = .ok (.iload_n 1, 1) := by decide +kernel
theorem dX9_value_1 : decode cX9_value 1 = .ok (.iload_n 2, 1) := by decide +kernel
theorem dX9_value_2 : decode cX9_value 2 = .ok (.iload_n 3, 1) := by decide +kernel
theorem dX9_value_3 : decode cX9_value 3 = .ok (.invokestatic 232, 3) := by decide +kernel
theorem dX9_value_6 : decode cX9_value 6 = .ok (.istore 4, 2) := by decide +kernel
theorem dX9_value_8 : decode cX9_value 8 = .ok (.iload 4, 2) := by decide +kernel
theorem dX9_value_10 : decode cX9_value 10 = .ok (.ifCond .eq 15, 3) := by decide +kernel
theorem dX9_value_13 : decode cX9_value 13 = .ok (.ldc2_w 235, 3) := by decide +kernel
theorem dX9_value_16 : decode cX9_value 16 = .ok (.aload_n 0, 1) := by decide +kernel
theorem dX9_value_17 : decode cX9_value 17 = .ok (.iload 4, 2) := by decide +kernel
theorem dX9_value_19 : decode cX9_value 19 = .ok (.invokevirtual 96, 3) := by decide +kernel
theorem dX9_value_22 : decode cX9_value 22 = .ok (.i2l, 1) := by decide +kernel
theorem dX9_value_23 : decode cX9_value 23 = .ok (.lsub, 1) := by decide +kernel
theorem dX9_value_24 : decode cX9_value 24 = .ok (.lreturn, 1) := by decide +kernel
theorem dX9_value_25 : decode cX9_value 25 = .ok (.aload_n 0, 1) := by decide +kernel
theorem dX9_value_26 : decode cX9_value 26 = .ok (.getfield 88, 3) := by decide +kernel
theorem dX9_value_29 : decode cX9_value 29 = .ok (.aload_n 0, 1) := by decide +kernel
theorem dX9_value_30 : decode cX9_value 30 = .ok (.getfield 39, 3) := by decide +kernel
theorem dX9_value_33 : decode cX9_value 33 = .ok (.getfield 103, 3) := by decide +kernel
theorem dX9_value_36 : decode cX9_value 36 = .ok (.iload_n 1, 1) := by decide +kernel
theorem dX9_value_37 : decode cX9_value 37 = .ok (.iload_n 2, 1) := by decide +kernel
theorem dX9_value_38 : decode cX9_value 38 = .ok (.invokevirtual 237, 3) := by decide +kernel
theorem dX9_value_41 : decode cX9_value 41 = .ok (.aload_n 0, 1) := by decide +kernel
theorem dX9_value_42 : decode cX9_value 42 = .ok (.getfield 88, 3) := by decide +kernel
theorem dX9_value_45 : decode cX9_value 45 = .ok (.getfield 241, 3) := by decide +kernel
theorem dX9_value_48 : decode cX9_value 48 = .ok (.aload_n 0, 1) := by decide +kernel
theorem dX9_value_49 : decode cX9_value 49 = .ok (.getfield 88, 3) := by decide +kernel
theorem dX9_value_52 : decode cX9_value 52 = .ok (.getfield 245, 3) := by decide +kernel
theorem dX9_value_55 : decode cX9_value 55 = .ok (.iload_n 3, 1) := by decide +kernel
theorem dX9_value_56 : decode cX9_value 56 = .ok (.invokestatic 222, 3) := by decide +kernel
theorem dX9_value_59 : decode cX9_value 59 = .ok (.lreturn, 1) := by decide +kernel
set_option maxRecDepth 20000 in
theorem ggX9_chance_X9_isCove : GoodIn wsX9_chance wsX9_isCove := goodIn_r _ [10] (by decide +kernel) (by decide +kernel)
set_option maxRecDepth 20000 in
theorem gX9_chance_X9_isCove : GoodIn wsX9_chance (va_wsS RX9 92 yX9_isCove wsX9_isCove) := goodIn_app (goodIn_of _ (by decide +kernel)) ggX9_chance_X9_isCove
set_option maxRecDepth 20000 in
theorem ggX9_chance_X9_gameRefusal : GoodIn wsX9_chance wsX9_gameRefusal := goodIn_r _ [13, 14, 15, 9, 16] (by decide +kernel) (by decide +kernel)
set_option maxRecDepth 20000 in
theorem gX9_chance_X9_gameRefusal : GoodIn wsX9_chance (va_wsS RX9 232 yX9_gameRefusal wsX9_gameRefusal) := goodIn_app (goodIn_of _ (by decide +kernel)) ggX9_chance_X9_gameRefusal
set_option maxRecDepth 20000 in
theorem ggX9_chance_X9_refuse : GoodIn wsX9_chance wsX9_refuse := goodIn_r _ [20, 21, 40, 41, 42, 43, 44, 45, 46, 47, 48, 49, 50, 51, 52, 53, 54] (by decide +kernel) (by decide +kernel)
set_option maxRecDepth 20000 in
theorem gX9_chance_X9_refuse : GoodIn wsX9_chance (wsV RX9 96 RX9 yX9_refuse wsX9_refuse) := goodIn_app (goodIn_of _ (by decide +kernel)) ggX9_chance_X9_refuse
set_option maxRecDepth 20000 in
theorem ggX9_chance_X2_solve : GoodIn wsX9_chance wsX2_solve := goodIn_r _ [26, 27, 28, 29, 30, 31, 32, 25, 33, 62, 63, 64] (by decide +kernel) (by decide +kernel)
set_option maxRecDepth 20000 in
theorem gX9_chance_X2_solve : GoodIn wsX9_chance (wsV RX9 237 RX2 yX2_solve wsX2_solve) := goodIn_app (goodIn_of _ (by decide +kernel)) ggX9_chance_X2_solve
set_option maxRecDepth 20000 in
theorem ggX9_chance_X9_lowest : GoodIn wsX9_chance wsX9_lowest := goodIn_r _ [36, 37, 38, 9, 39] (by decide +kernel) (by decide +kernel)
set_option maxRecDepth 20000 in
theorem gX9_chance_X9_lowest : GoodIn wsX9_chance (va_wsS RX9 222 yX9_lowest wsX9_lowest) := goodIn_app (goodIn_of _ (by decide +kernel)) ggX9_chance_X9_lowest
theorem dX9_chance_0 : decode cX9_chance 0 = .ok (.iload_n 1, 1) := by decide +kernel
theorem dX9_chance_1 : decode cX9_chance 1 = .ok (.invokestatic 92, 3) := by decide +kernel
theorem dX9_chance_4 : decode cX9_chance 4 = .ok (.ifCond .eq 13, 3) := by decide +kernel
theorem dX9_chance_7 : decode cX9_chance 7 = .ok (.iload_n 2, 1) := by decide +kernel
theorem dX9_chance_8 : decode cX9_chance 8 = .ok (.iload_n 3, 1) := by decide +kernel
theorem dX9_chance_9 : decode cX9_chance 9 = .ok (.iload 4, 2) := by decide +kernel
theorem dX9_chance_11 : decode cX9_chance 11 = .ok (.invokestatic 232, 3) := by decide +kernel
theorem dX9_chance_14 : decode cX9_chance 14 = .ok (.goto 4, 3) := by decide +kernel
theorem dX9_chance_17 : decode cX9_chance 17 = .ok (.iconst (-1), 1) := by decide +kernel
theorem dX9_chance_18 : decode cX9_chance 18 = .ok (.istore 5, 2) := by decide +kernel
theorem dX9_chance_20 : decode cX9_chance 20 = .ok (.iload 5, 2) := by decide +kernel
theorem dX9_chance_22 : decode cX9_chance 22 = .ok (.ifCond .eq 15, 3) := by decide +kernel
theorem dX9_chance_25 : decode cX9_chance 25 = .ok (.ldc2_w 235, 3) := by decide +kernel
theorem dX9_chance_28 : decode cX9_chance 28 = .ok (.aload_n 0, 1) := by decide +kernel
theorem dX9_chance_29 : decode cX9_chance 29 = .ok (.iload 5, 2) := by decide +kernel
theorem dX9_chance_31 : decode cX9_chance 31 = .ok (.invokevirtual 96, 3) := by decide +kernel
theorem dX9_chance_34 : decode cX9_chance 34 = .ok (.i2l, 1) := by decide +kernel
theorem dX9_chance_35 : decode cX9_chance 35 = .ok (.lsub, 1) := by decide +kernel
theorem dX9_chance_36 : decode cX9_chance 36 = .ok (.lreturn, 1) := by decide +kernel
theorem dX9_chance_37 : decode cX9_chance 37 = .ok (.aload_n 0, 1) := by decide +kernel
theorem dX9_chance_38 : decode cX9_chance 38 = .ok (.getfield 88, 3) := by decide +kernel
theorem dX9_chance_41 : decode cX9_chance 41 = .ok (.aload_n 0, 1) := by decide +kernel
theorem dX9_chance_42 : decode cX9_chance 42 = .ok (.getfield 39, 3) := by decide +kernel
theorem dX9_chance_45 : decode cX9_chance 45 = .ok (.getfield 103, 3) := by decide +kernel
theorem dX9_chance_48 : decode cX9_chance 48 = .ok (.iload_n 2, 1) := by decide +kernel
theorem dX9_chance_49 : decode cX9_chance 49 = .ok (.iload_n 3, 1) := by decide +kernel
theorem dX9_chance_50 : decode cX9_chance 50 = .ok (.invokevirtual 237, 3) := by decide +kernel
theorem dX9_chance_53 : decode cX9_chance 53 = .ok (.aload_n 0, 1) := by decide +kernel
theorem dX9_chance_54 : decode cX9_chance 54 = .ok (.getfield 39, 3) := by decide +kernel
theorem dX9_chance_57 : decode cX9_chance 57 = .ok (.getfield 103, 3) := by decide +kernel
theorem dX9_chance_60 : decode cX9_chance 60 = .ok (.iload_n 1, 1) := by decide +kernel
theorem dX9_chance_61 : decode cX9_chance 61 = .ok (.iaload, 1) := by decide +kernel
theorem dX9_chance_62 : decode cX9_chance 62 = .ok (.i2l, 1) := by decide +kernel
theorem dX9_chance_63 : decode cX9_chance 63 = .ok (.aload_n 0, 1) := by decide +kernel
theorem dX9_chance_64 : decode cX9_chance 64 = .ok (.getfield 88, 3) := by decide +kernel
theorem dX9_chance_67 : decode cX9_chance 67 = .ok (.getfield 245, 3) := by decide +kernel
theorem dX9_chance_70 : decode cX9_chance 70 = .ok (.lmul, 1) := by decide +kernel
theorem dX9_chance_71 : decode cX9_chance 71 = .ok (.aload_n 0, 1) := by decide +kernel
theorem dX9_chance_72 : decode cX9_chance 72 = .ok (.getfield 88, 3) := by decide +kernel
theorem dX9_chance_75 : decode cX9_chance 75 = .ok (.getfield 241, 3) := by decide +kernel
theorem dX9_chance_78 : decode cX9_chance 78 = .ok (.lsub, 1) := by decide +kernel
theorem dX9_chance_79 : decode cX9_chance 79 = .ok (.lstore 6, 2) := by decide +kernel
theorem dX9_chance_81 : decode cX9_chance 81 = .ok (.aload_n 0, 1) := by decide +kernel
theorem dX9_chance_82 : decode cX9_chance 82 = .ok (.getfield 39, 3) := by decide +kernel
theorem dX9_chance_85 : decode cX9_chance 85 = .ok (.getfield 103, 3) := by decide +kernel
theorem dX9_chance_88 : decode cX9_chance 88 = .ok (.iload_n 1, 1) := by decide +kernel
theorem dX9_chance_89 : decode cX9_chance 89 = .ok (.iaload, 1) := by decide +kernel
theorem dX9_chance_90 : decode cX9_chance 90 = .ok (.iload_n 3, 1) := by decide +kernel
theorem dX9_chance_91 : decode cX9_chance 91 = .ok (.iadd, 1) := by decide +kernel
theorem dX9_chance_92 : decode cX9_chance 92 = .ok (.i2l, 1) := by decide +kernel
theorem dX9_chance_93 : decode cX9_chance 93 = .ok (.aload_n 0, 1) := by decide +kernel
theorem dX9_chance_94 : decode cX9_chance 94 = .ok (.getfield 88, 3) := by decide +kernel
theorem dX9_chance_97 : decode cX9_chance 97 = .ok (.getfield 245, 3) := by decide +kernel
theorem dX9_chance_100 : decode cX9_chance 100 = .ok (.lmul, 1) := by decide +kernel
theorem dX9_chance_101 : decode cX9_chance 101 = .ok (.lstore 8, 2) := by decide +kernel
theorem dX9_chance_103 : decode cX9_chance 103 = .ok (.lload 6, 2) := by decide +kernel
theorem dX9_chance_105 : decode cX9_chance 105 = .ok (.lconst 0, 1) := by decide +kernel
theorem dX9_chance_106 : decode cX9_chance 106 = .ok (.lcmp, 1) := by decide +kernel
theorem dX9_chance_107 : decode cX9_chance 107 = .ok (.ifCond .ge 7, 3) := by decide +kernel
theorem dX9_chance_110 : decode cX9_chance 110 = .ok (.lconst 0, 1) := by decide +kernel
theorem dX9_chance_111 : decode cX9_chance 111 = .ok (.goto 5, 3) := by decide +kernel
theorem dX9_chance_114 : decode cX9_chance 114 = .ok (.lload 6, 2) := by decide +kernel
theorem dX9_chance_116 : decode cX9_chance 116 = .ok (.lload 8, 2) := by decide +kernel
theorem dX9_chance_118 : decode cX9_chance 118 = .ok (.iload 4, 2) := by decide +kernel
theorem dX9_chance_120 : decode cX9_chance 120 = .ok (.invokestatic 222, 3) := by decide +kernel
theorem dX9_chance_123 : decode cX9_chance 123 = .ok (.lreturn, 1) := by decide +kernel
set_option maxRecDepth 20000 in
theorem ggX9_used_X9_isSeason : GoodIn wsX9_used wsX9_isSeason := goodIn_r _ [9] (by decide +kernel) (by decide +kernel)
set_option maxRecDepth 20000 in
theorem gX9_used_X9_isSeason : GoodIn wsX9_used (va_wsS RX9 248 yX9_isSeason wsX9_isSeason) := goodIn_app (goodIn_of _ (by decide +kernel)) ggX9_used_X9_isSeason
set_option maxRecDepth 20000 in
theorem ggX9_used_X9_refuse : GoodIn wsX9_used wsX9_refuse := goodIn_r _ [13, 14, 15, 16, 17, 18, 19, 20, 21, 22, 23, 24, 25, 26, 27, 28, 29] (by decide +kernel) (by decide +kernel)
set_option maxRecDepth 20000 in
theorem gX9_used_X9_refuse : GoodIn wsX9_used (wsV RX9 96 RX9 yX9_refuse wsX9_refuse) := goodIn_app (goodIn_of _ (by decide +kernel)) ggX9_used_X9_refuse
theorem dX9_used_0 : decode cX9_used 0 = .ok (.iload_n 1, 1) := by decide +kernel
theorem dX9_used_1 : decode cX9_used 1 = .ok (.invokestatic 248, 3) := by decide +kernel
theorem dX9_used_4 : decode cX9_used 4 = .ok (.ifCond .ne 9, 3) := by decide +kernel
theorem dX9_used_7 : decode cX9_used 7 = .ok (.aload_n 0, 1) := by decide +kernel
theorem dX9_used_8 : decode cX9_used 8 = .ok (.iconst (-1), 1) := by decide +kernel
theorem dX9_used_9 : decode cX9_used 9 = .ok (.invokevirtual 96, 3) := by decide +kernel
theorem dX9_used_12 : decode cX9_used 12 = .ok (.ireturn, 1) := by decide +kernel
theorem dX9_used_13 : decode cX9_used 13 = .ok (.iload_n 2, 1) := by decide +kernel
theorem dX9_used_14 : decode cX9_used 14 = .ok (.ifCond .lt 12, 3) := by decide +kernel
theorem dX9_used_17 : decode cX9_used 17 = .ok (.iload_n 3, 1) := by decide +kernel
theorem dX9_used_18 : decode cX9_used 18 = .ok (.ifCond .lt 8, 3) := by decide +kernel
theorem dX9_used_21 : decode cX9_used 21 = .ok (.iload 4, 2) := by decide +kernel
theorem dX9_used_23 : decode cX9_used 23 = .ok (.ifCond .ge 10, 3) := by decide +kernel
theorem dX9_used_26 : decode cX9_used 26 = .ok (.aload_n 0, 1) := by decide +kernel
theorem dX9_used_27 : decode cX9_used 27 = .ok (.bipush (-4), 2) := by decide +kernel
theorem dX9_used_29 : decode cX9_used 29 = .ok (.invokevirtual 96, 3) := by decide +kernel
theorem dX9_used_32 : decode cX9_used 32 = .ok (.ireturn, 1) := by decide +kernel
theorem dX9_used_33 : decode cX9_used 33 = .ok (.iload_n 2, 1) := by decide +kernel
theorem dX9_used_34 : decode cX9_used 34 = .ok (.ldc 251, 2) := by decide +kernel
theorem dX9_used_36 : decode cX9_used 36 = .ok (.if_icmp .gt 16, 3) := by decide +kernel
theorem dX9_used_39 : decode cX9_used 39 = .ok (.iload_n 3, 1) := by decide +kernel
theorem dX9_used_40 : decode cX9_used 40 = .ok (.ldc 251, 2) := by decide +kernel
theorem dX9_used_42 : decode cX9_used 42 = .ok (.if_icmp .gt 10, 3) := by decide +kernel
theorem dX9_used_45 : decode cX9_used 45 = .ok (.iload 4, 2) := by decide +kernel
theorem dX9_used_47 : decode cX9_used 47 = .ok (.ldc 251, 2) := by decide +kernel
theorem dX9_used_49 : decode cX9_used 49 = .ok (.if_icmp .le 10, 3) := by decide +kernel
theorem dX9_used_52 : decode cX9_used 52 = .ok (.aload_n 0, 1) := by decide +kernel
theorem dX9_used_53 : decode cX9_used 53 = .ok (.bipush (-6), 2) := by decide +kernel
theorem dX9_used_55 : decode cX9_used 55 = .ok (.invokevirtual 96, 3) := by decide +kernel
theorem dX9_used_58 : decode cX9_used 58 = .ok (.ireturn, 1) := by decide +kernel
theorem dX9_used_59 : decode cX9_used 59 = .ok (.iload_n 2, 1) := by decide +kernel
theorem dX9_used_60 : decode cX9_used 60 = .ok (.iload_n 3, 1) := by decide +kernel
theorem dX9_used_61 : decode cX9_used 61 = .ok (.if_icmp .le 10, 3) := by decide +kernel
theorem dX9_used_64 : decode cX9_used 64 = .ok (.aload_n 0, 1) := by decide +kernel
theorem dX9_used_65 : decode cX9_used 65 = .ok (.bipush (-3), 2) := by decide +kernel
theorem dX9_used_67 : decode cX9_used 67 = .ok (.invokevirtual 96, 3) := by decide +kernel
theorem dX9_used_70 : decode cX9_used 70 = .ok (.ireturn, 1) := by decide +kernel
theorem dX9_used_71 : decode cX9_used 71 = .ok (.aload_n 0, 1) := by decide +kernel
theorem dX9_used_72 : decode cX9_used 72 = .ok (.getfield 81, 3) := by decide +kernel
theorem dX9_used_75 : decode cX9_used 75 = .ok (.getfield 252, 3) := by decide +kernel
theorem dX9_used_78 : decode cX9_used 78 = .ok (.iload_n 1, 1) := by decide +kernel
theorem dX9_used_79 : decode cX9_used 79 = .ok (.iload_n 2, 1) := by decide +kernel
theorem dX9_used_80 : decode cX9_used 80 = .ok (.iastore, 1) := by decide +kernel
theorem dX9_used_81 : decode cX9_used 81 = .ok (.aload_n 0, 1) := by decide +kernel
theorem dX9_used_82 : decode cX9_used 82 = .ok (.getfield 81, 3) := by decide +kernel
theorem dX9_used_85 : decode cX9_used 85 = .ok (.getfield 255, 3) := by decide +kernel
theorem dX9_used_88 : decode cX9_used 88 = .ok (.iload_n 1, 1) := by decide +kernel
theorem dX9_used_89 : decode cX9_used 89 = .ok (.iload_n 3, 1) := by decide +kernel
theorem dX9_used_90 : decode cX9_used 90 = .ok (.iastore, 1) := by decide +kernel
theorem dX9_used_91 : decode cX9_used 91 = .ok (.aload_n 0, 1) := by decide +kernel
theorem dX9_used_92 : decode cX9_used 92 = .ok (.getfield 81, 3) := by decide +kernel
theorem dX9_used_95 : decode cX9_used 95 = .ok (.getfield 258, 3) := by decide +kernel
theorem dX9_used_98 : decode cX9_used 98 = .ok (.iload_n 1, 1) := by decide +kernel
theorem dX9_used_99 : decode cX9_used 99 = .ok (.iload 4, 2) := by decide +kernel
theorem dX9_used_101 : decode cX9_used 101 = .ok (.iastore, 1) := by decide +kernel
theorem dX9_used_102 : decode cX9_used 102 = .ok (.iconst 1, 1) := by decide +kernel
theorem dX9_used_103 : decode cX9_used 103 = .ok (.ireturn, 1) := by decide +kernel
set_option maxRecDepth 20000 in
theorem ggX9_landed_X9_isSeason : GoodIn wsX9_landed wsX9_isSeason := goodIn_r _ [8] (by decide +kernel) (by decide +kernel)
set_option maxRecDepth 20000 in
theorem gX9_landed_X9_isSeason : GoodIn wsX9_landed (va_wsS RX9 248 yX9_isSeason wsX9_isSeason) := goodIn_app (goodIn_of _ (by decide +kernel)) ggX9_landed_X9_isSeason
set_option maxRecDepth 20000 in
theorem ggX9_landed_X9_refuse : GoodIn wsX9_landed wsX9_refuse := goodIn_r _ [12, 13, 37, 38, 39, 40, 41, 42, 43, 44, 45, 46, 47, 48, 49, 50, 51] (by decide +kernel) (by decide +kernel)
set_option maxRecDepth 20000 in
theorem gX9_landed_X9_refuse : GoodIn wsX9_landed (wsV RX9 96 RX9 yX9_refuse wsX9_refuse) := goodIn_app (goodIn_of _ (by decide +kernel)) ggX9_landed_X9_refuse
set_option maxRecDepth 20000 in
theorem ggX9_landed_X5_seizedIn : GoodIn wsX9_landed wsX5_seizedIn := goodIn_r _ [18, 19, 20, 21, 22, 55, 56, 57, 58, 59, 60, 61] (by decide +kernel) (by decide +kernel)
set_option maxRecDepth 20000 in
theorem gX9_landed_X5_seizedIn : GoodIn wsX9_landed (wsV RX9 261 RX5 yX5_seizedIn wsX5_seizedIn) := goodIn_app (goodIn_of _ (by decide +kernel)) ggX9_landed_X5_seizedIn
set_option maxRecDepth 20000 in
theorem ggX9_landed_X6_landedOf : GoodIn wsX9_landed wsX6_landedOf := goodIn_r _ [27, 28, 29, 30, 31, 32, 52, 53, 54] (by decide +kernel) (by decide +kernel)
set_option maxRecDepth 20000 in
theorem gX9_landed_X6_landedOf : GoodIn wsX9_landed (wsV RX9 264 RX6 yX6_landedOf wsX6_landedOf) := goodIn_app (goodIn_of _ (by decide +kernel)) ggX9_landed_X6_landedOf
set_option maxRecDepth 20000 in
theorem ggX9_landed_X5_heldIn : GoodIn wsX9_landed wsX5_heldIn := goodIn_r _ [36, 19, 20, 21, 22, 55, 56, 57, 58, 59, 60, 61] (by decide +kernel) (by decide +kernel)
set_option maxRecDepth 20000 in
theorem gX9_landed_X5_heldIn : GoodIn wsX9_landed (wsV RX9 267 RX5 yX5_heldIn wsX5_heldIn) := goodIn_app (goodIn_of _ (by decide +kernel)) ggX9_landed_X5_heldIn
theorem dX9_landed_0 : decode cX9_landed 0 = .ok (.iload_n 1, 1) := by decide +kernel
theorem dX9_landed_1 : decode cX9_landed 1 = .ok (.invokestatic 248, 3) := by decide +kernel
theorem dX9_landed_4 : decode cX9_landed 4 = .ok (.ifCond .ne 9, 3) := by decide +kernel
theorem dX9_landed_7 : decode cX9_landed 7 = .ok (.aload_n 0, 1) := by decide +kernel
theorem dX9_landed_8 : decode cX9_landed 8 = .ok (.iconst (-1), 1) := by decide +kernel
theorem dX9_landed_9 : decode cX9_landed 9 = .ok (.invokevirtual 96, 3) := by decide +kernel
theorem dX9_landed_12 : decode cX9_landed 12 = .ok (.ireturn, 1) := by decide +kernel
theorem dX9_landed_13 : decode cX9_landed 13 = .ok (.iload_n 2, 1) := by decide +kernel
theorem dX9_landed_14 : decode cX9_landed 14 = .ok (.tableswitch 100 0 3 #[30, 56, 82, 91], 30) := by decide +kernel
theorem dX9_landed_44 : decode cX9_landed 44 = .ok (.aload_n 0, 1) := by decide +kernel
theorem dX9_landed_45 : decode cX9_landed 45 = .ok (.getfield 81, 3) := by decide +kernel
theorem dX9_landed_48 : decode cX9_landed 48 = .ok (.iload_n 1, 1) := by decide +kernel
theorem dX9_landed_49 : decode cX9_landed 49 = .ok (.aload_n 0, 1) := by decide +kernel
theorem dX9_landed_50 : decode cX9_landed 50 = .ok (.getfield 81, 3) := by decide +kernel
theorem dX9_landed_53 : decode cX9_landed 53 = .ok (.getfield 252, 3) := by decide +kernel
theorem dX9_landed_56 : decode cX9_landed 56 = .ok (.iload_n 1, 1) := by decide +kernel
theorem dX9_landed_57 : decode cX9_landed 57 = .ok (.iaload, 1) := by decide +kernel
theorem dX9_landed_58 : decode cX9_landed 58 = .ok (.aload_n 0, 1) := by decide +kernel
theorem dX9_landed_59 : decode cX9_landed 59 = .ok (.getfield 60, 3) := by decide +kernel
theorem dX9_landed_62 : decode cX9_landed 62 = .ok (.iload_n 1, 1) := by decide +kernel
theorem dX9_landed_63 : decode cX9_landed 63 = .ok (.invokevirtual 261, 3) := by decide +kernel
theorem dX9_landed_66 : decode cX9_landed 66 = .ok (.invokevirtual 264, 3) := by decide +kernel
theorem dX9_landed_69 : decode cX9_landed 69 = .ok (.ireturn, 1) := by decide +kernel
theorem dX9_landed_70 : decode cX9_landed 70 = .ok (.aload_n 0, 1) := by decide +kernel
theorem dX9_landed_71 : decode cX9_landed 71 = .ok (.getfield 81, 3) := by decide +kernel
theorem dX9_landed_74 : decode cX9_landed 74 = .ok (.iload_n 1, 1) := by decide +kernel
theorem dX9_landed_75 : decode cX9_landed 75 = .ok (.aload_n 0, 1) := by decide +kernel
theorem dX9_landed_76 : decode cX9_landed 76 = .ok (.getfield 81, 3) := by decide +kernel
theorem dX9_landed_79 : decode cX9_landed 79 = .ok (.getfield 255, 3) := by decide +kernel
theorem dX9_landed_82 : decode cX9_landed 82 = .ok (.iload_n 1, 1) := by decide +kernel
theorem dX9_landed_83 : decode cX9_landed 83 = .ok (.iaload, 1) := by decide +kernel
theorem dX9_landed_84 : decode cX9_landed 84 = .ok (.aload_n 0, 1) := by decide +kernel
theorem dX9_landed_85 : decode cX9_landed 85 = .ok (.getfield 60, 3) := by decide +kernel
theorem dX9_landed_88 : decode cX9_landed 88 = .ok (.iload_n 1, 1) := by decide +kernel
theorem dX9_landed_89 : decode cX9_landed 89 = .ok (.invokevirtual 261, 3) := by decide +kernel
theorem dX9_landed_92 : decode cX9_landed 92 = .ok (.invokevirtual 264, 3) := by decide +kernel
theorem dX9_landed_95 : decode cX9_landed 95 = .ok (.ireturn, 1) := by decide +kernel
theorem dX9_landed_96 : decode cX9_landed 96 = .ok (.aload_n 0, 1) := by decide +kernel
theorem dX9_landed_97 : decode cX9_landed 97 = .ok (.getfield 60, 3) := by decide +kernel
theorem dX9_landed_100 : decode cX9_landed 100 = .ok (.iload_n 1, 1) := by decide +kernel
theorem dX9_landed_101 : decode cX9_landed 101 = .ok (.invokevirtual 267, 3) := by decide +kernel
theorem dX9_landed_104 : decode cX9_landed 104 = .ok (.ireturn, 1) := by decide +kernel
theorem dX9_landed_105 : decode cX9_landed 105 = .ok (.aload_n 0, 1) := by decide +kernel
theorem dX9_landed_106 : decode cX9_landed 106 = .ok (.getfield 60, 3) := by decide +kernel
theorem dX9_landed_109 : decode cX9_landed 109 = .ok (.iload_n 1, 1) := by decide +kernel
theorem dX9_landed_110 : decode cX9_landed 110 = .ok (.invokevirtual 261, 3) := by decide +kernel
theorem dX9_landed_113 : decode cX9_landed 113 = .ok (.ireturn, 1) := by decide +kernel
theorem dX9_landed_114 : decode cX9_landed 114 = .ok (.aload_n 0, 1) := by decide +kernel
theorem dX9_landed_115 : decode cX9_landed 115 = .ok (.bipush (-2), 2) := by decide +kernel
theorem dX9_landed_117 : decode cX9_landed 117 = .ok (.invokevirtual 96, 3) := by decide +kernel
theorem dX9_landed_120 : decode cX9_landed 120 = .ok (.ireturn, 1) := by decide +kernel
set_option maxRecDepth 20000 in
theorem ggX9_lotOf_X9_refuse : GoodIn wsX9_lotOf wsX9_refuse := goodIn_r _ [13, 14, 15, 16, 17, 18, 19, 20, 21, 22, 23, 24, 25, 26, 27, 28, 29] (by decide +kernel) (by decide +kernel)
set_option maxRecDepth 20000 in
theorem gX9_lotOf_X9_refuse : GoodIn wsX9_lotOf (wsV RX9 96 RX9 yX9_refuse wsX9_refuse) := goodIn_app (goodIn_of _ (by decide +kernel)) ggX9_lotOf_X9_refuse
theorem dX9_lotOf_0 : decode cX9_lotOf 0 = .ok (.iload_n 1, 1) := by decide +kernel
theorem dX9_lotOf_1 : decode cX9_lotOf 1 = .ok (.ifCond .lt 14, 3) := by decide +kernel
theorem dX9_lotOf_4 : decode cX9_lotOf 4 = .ok (.iload_n 1, 1) := by decide +kernel
theorem dX9_lotOf_5 : decode cX9_lotOf 5 = .ok (.aload_n 0, 1) := by decide +kernel
theorem dX9_lotOf_6 : decode cX9_lotOf 6 = .ok (.getfield 60, 3) := by decide +kernel
theorem dX9_lotOf_9 : decode cX9_lotOf 9 = .ok (.getfield 185, 3) := by decide +kernel
theorem dX9_lotOf_12 : decode cX9_lotOf 12 = .ok (.if_icmp .lt 9, 3) := by decide +kernel
theorem dX9_lotOf_15 : decode cX9_lotOf 15 = .ok (.aload_n 0, 1) := by decide +kernel
theorem dX9_lotOf_16 : decode cX9_lotOf 16 = .ok (.iconst (-1), 1) := by decide +kernel
theorem dX9_lotOf_17 : decode cX9_lotOf 17 = .ok (.invokevirtual 96, 3) := by decide +kernel
theorem dX9_lotOf_20 : decode cX9_lotOf 20 = .ok (.ireturn, 1) := by decide +kernel
theorem dX9_lotOf_21 : decode cX9_lotOf 21 = .ok (.iload_n 2, 1) := by decide +kernel
theorem dX9_lotOf_22 : decode cX9_lotOf 22 = .ok (.tableswitch 116 0 5 #[38, 48, 58, 68, 78, 88], 38) := by decide +kernel
theorem dX9_lotOf_60 : decode cX9_lotOf 60 = .ok (.aload_n 0, 1) := by decide +kernel
theorem dX9_lotOf_61 : decode cX9_lotOf 61 = .ok (.getfield 60, 3) := by decide +kernel
theorem dX9_lotOf_64 : decode cX9_lotOf 64 = .ok (.getfield 270, 3) := by decide +kernel
theorem dX9_lotOf_67 : decode cX9_lotOf 67 = .ok (.iload_n 1, 1) := by decide +kernel
theorem dX9_lotOf_68 : decode cX9_lotOf 68 = .ok (.iaload, 1) := by decide +kernel
theorem dX9_lotOf_69 : decode cX9_lotOf 69 = .ok (.ireturn, 1) := by decide +kernel
theorem dX9_lotOf_70 : decode cX9_lotOf 70 = .ok (.aload_n 0, 1) := by decide +kernel
theorem dX9_lotOf_71 : decode cX9_lotOf 71 = .ok (.getfield 60, 3) := by decide +kernel
theorem dX9_lotOf_74 : decode cX9_lotOf 74 = .ok (.getfield 199, 3) := by decide +kernel
theorem dX9_lotOf_77 : decode cX9_lotOf 77 = .ok (.iload_n 1, 1) := by decide +kernel
theorem dX9_lotOf_78 : decode cX9_lotOf 78 = .ok (.iaload, 1) := by decide +kernel
theorem dX9_lotOf_79 : decode cX9_lotOf 79 = .ok (.ireturn, 1) := by decide +kernel
theorem dX9_lotOf_80 : decode cX9_lotOf 80 = .ok (.aload_n 0, 1) := by decide +kernel
theorem dX9_lotOf_81 : decode cX9_lotOf 81 = .ok (.getfield 60, 3) := by decide +kernel
theorem dX9_lotOf_84 : decode cX9_lotOf 84 = .ok (.getfield 273, 3) := by decide +kernel
theorem dX9_lotOf_87 : decode cX9_lotOf 87 = .ok (.iload_n 1, 1) := by decide +kernel
theorem dX9_lotOf_88 : decode cX9_lotOf 88 = .ok (.iaload, 1) := by decide +kernel
theorem dX9_lotOf_89 : decode cX9_lotOf 89 = .ok (.ireturn, 1) := by decide +kernel
theorem dX9_lotOf_90 : decode cX9_lotOf 90 = .ok (.aload_n 0, 1) := by decide +kernel
theorem dX9_lotOf_91 : decode cX9_lotOf 91 = .ok (.getfield 60, 3) := by decide +kernel
theorem dX9_lotOf_94 : decode cX9_lotOf 94 = .ok (.getfield 275, 3) := by decide +kernel
theorem dX9_lotOf_97 : decode cX9_lotOf 97 = .ok (.iload_n 1, 1) := by decide +kernel
theorem dX9_lotOf_98 : decode cX9_lotOf 98 = .ok (.iaload, 1) := by decide +kernel
theorem dX9_lotOf_99 : decode cX9_lotOf 99 = .ok (.ireturn, 1) := by decide +kernel
theorem dX9_lotOf_100 : decode cX9_lotOf 100 = .ok (.aload_n 0, 1) := by decide +kernel
theorem dX9_lotOf_101 : decode cX9_lotOf 101 = .ok (.getfield 60, 3) := by decide +kernel
theorem dX9_lotOf_104 : decode cX9_lotOf 104 = .ok (.getfield 196, 3) := by decide +kernel
theorem dX9_lotOf_107 : decode cX9_lotOf 107 = .ok (.iload_n 1, 1) := by decide +kernel
theorem dX9_lotOf_108 : decode cX9_lotOf 108 = .ok (.iaload, 1) := by decide +kernel
theorem dX9_lotOf_109 : decode cX9_lotOf 109 = .ok (.ireturn, 1) := by decide +kernel
theorem dX9_lotOf_110 : decode cX9_lotOf 110 = .ok (.aload_n 0, 1) := by decide +kernel
theorem dX9_lotOf_111 : decode cX9_lotOf 111 = .ok (.getfield 60, 3) := by decide +kernel
theorem dX9_lotOf_114 : decode cX9_lotOf 114 = .ok (.getfield 196, 3) := by decide +kernel
theorem dX9_lotOf_117 : decode cX9_lotOf 117 = .ok (.iload_n 1, 1) := by decide +kernel
theorem dX9_lotOf_118 : decode cX9_lotOf 118 = .ok (.iaload, 1) := by decide +kernel
theorem dX9_lotOf_119 : decode cX9_lotOf 119 = .ok (.iconst 1, 1) := by decide +kernel
theorem dX9_lotOf_120 : decode cX9_lotOf 120 = .ok (.if_icmp .ne 8, 3) := by decide +kernel
theorem dX9_lotOf_123 : decode cX9_lotOf 123 = .ok (.bipush (-9), 2) := by decide +kernel
theorem dX9_lotOf_125 : decode cX9_lotOf 125 = .ok (.goto 12, 3) := by decide +kernel
theorem dX9_lotOf_128 : decode cX9_lotOf 128 = .ok (.aload_n 0, 1) := by decide +kernel
theorem dX9_lotOf_129 : decode cX9_lotOf 129 = .ok (.getfield 60, 3) := by decide +kernel
theorem dX9_lotOf_132 : decode cX9_lotOf 132 = .ok (.getfield 278, 3) := by decide +kernel
theorem dX9_lotOf_135 : decode cX9_lotOf 135 = .ok (.iload_n 1, 1) := by decide +kernel
theorem dX9_lotOf_136 : decode cX9_lotOf 136 = .ok (.iaload, 1) := by decide +kernel
theorem dX9_lotOf_137 : decode cX9_lotOf 137 = .ok (.ireturn, 1) := by decide +kernel
theorem dX9_lotOf_138 : decode cX9_lotOf 138 = .ok (.aload_n 0, 1) := by decide +kernel
theorem dX9_lotOf_139 : decode cX9_lotOf 139 = .ok (.bipush (-2), 2) := by decide +kernel
theorem dX9_lotOf_141 : decode cX9_lotOf 141 = .ok (.invokevirtual 96, 3) := by decide +kernel
theorem dX9_lotOf_144 : decode cX9_lotOf 144 = .ok (.ireturn, 1) := by decide +kernel
set_option maxRecDepth 20000 in
theorem ggX9_boatOf_X9_isBoat : GoodIn wsX9_boatOf wsX9_isBoat := goodIn_r _ [10, 1, 11, 17, 18, 19, 20, 21, 22, 23, 24, 25, 26, 27, 28, 29, 30, 31, 32, 33, 34, 35, 36, 37, 38, 39, 40] (by decide +kernel) (by decide +kernel)
set_option maxRecDepth 20000 in
theorem gX9_boatOf_X9_isBoat : GoodIn wsX9_boatOf (wsV RX9 152 RX9 yX9_isBoat wsX9_isBoat) := goodIn_app (goodIn_of _ (by decide +kernel)) ggX9_boatOf_X9_isBoat
set_option maxRecDepth 20000 in
theorem ggX9_boatOf_X9_refuse : GoodIn wsX9_boatOf wsX9_refuse := goodIn_r _ [15, 16, 17, 18, 19, 20, 21, 22, 23, 24, 25, 26, 27, 28, 29, 30, 31] (by decide +kernel) (by decide +kernel)
set_option maxRecDepth 20000 in
theorem gX9_boatOf_X9_refuse : GoodIn wsX9_boatOf (wsV RX9 96 RX9 yX9_refuse wsX9_refuse) := goodIn_app (goodIn_of _ (by decide +kernel)) ggX9_boatOf_X9_refuse
theorem dX9_boatOf_0 : decode cX9_boatOf 0 = .ok (.aload_n 0, 1) := by decide +kernel
theorem dX9_boatOf_1 : decode cX9_boatOf 1 = .ok (.iload_n 1, 1) := by decide +kernel
theorem dX9_boatOf_2 : decode cX9_boatOf 2 = .ok (.invokevirtual 152, 3) := by decide +kernel
theorem dX9_boatOf_5 : decode cX9_boatOf 5 = .ok (.ifCond .ne 9, 3) := by decide +kernel
theorem dX9_boatOf_8 : decode cX9_boatOf 8 = .ok (.aload_n 0, 1) := by decide +kernel
theorem dX9_boatOf_9 : decode cX9_boatOf 9 = .ok (.iconst (-1), 1) := by decide +kernel
theorem dX9_boatOf_10 : decode cX9_boatOf 10 = .ok (.invokevirtual 96, 3) := by decide +kernel
theorem dX9_boatOf_13 : decode cX9_boatOf 13 = .ok (.ireturn, 1) := by decide +kernel
theorem dX9_boatOf_14 : decode cX9_boatOf 14 = .ok (.iload_n 2, 1) := by decide +kernel
theorem dX9_boatOf_15 : decode cX9_boatOf 15 = .ok (.iconst 3, 1) := by decide +kernel
theorem dX9_boatOf_16 : decode cX9_boatOf 16 = .ok (.if_icmp .lt 23, 3) := by decide +kernel
theorem dX9_boatOf_19 : decode cX9_boatOf 19 = .ok (.iload_n 2, 1) := by decide +kernel
theorem dX9_boatOf_20 : decode cX9_boatOf 20 = .ok (.bipush 9, 2) := by decide +kernel
theorem dX9_boatOf_22 : decode cX9_boatOf 22 = .ok (.if_icmp .ge 17, 3) := by decide +kernel
theorem dX9_boatOf_25 : decode cX9_boatOf 25 = .ok (.aload_n 0, 1) := by decide +kernel
theorem dX9_boatOf_26 : decode cX9_boatOf 26 = .ok (.getfield 46, 3) := by decide +kernel
theorem dX9_boatOf_29 : decode cX9_boatOf 29 = .ok (.getfield 281, 3) := by decide +kernel
theorem dX9_boatOf_32 : decode cX9_boatOf 32 = .ok (.iload_n 1, 1) := by decide +kernel
theorem dX9_boatOf_33 : decode cX9_boatOf 33 = .ok (.aaload, 1) := by decide +kernel
theorem dX9_boatOf_34 : decode cX9_boatOf 34 = .ok (.iload_n 2, 1) := by decide +kernel
theorem dX9_boatOf_35 : decode cX9_boatOf 35 = .ok (.iconst 3, 1) := by decide +kernel
theorem dX9_boatOf_36 : decode cX9_boatOf 36 = .ok (.isub, 1) := by decide +kernel
theorem dX9_boatOf_37 : decode cX9_boatOf 37 = .ok (.iaload, 1) := by decide +kernel
theorem dX9_boatOf_38 : decode cX9_boatOf 38 = .ok (.ireturn, 1) := by decide +kernel
theorem dX9_boatOf_39 : decode cX9_boatOf 39 = .ok (.iload_n 2, 1) := by decide +kernel
theorem dX9_boatOf_40 : decode cX9_boatOf 40 = .ok (.tableswitch 58 0 2 #[28, 38, 48], 28) := by decide +kernel
theorem dX9_boatOf_68 : decode cX9_boatOf 68 = .ok (.aload_n 0, 1) := by decide +kernel
theorem dX9_boatOf_69 : decode cX9_boatOf 69 = .ok (.getfield 46, 3) := by decide +kernel
theorem dX9_boatOf_72 : decode cX9_boatOf 72 = .ok (.getfield 158, 3) := by decide +kernel
theorem dX9_boatOf_75 : decode cX9_boatOf 75 = .ok (.iload_n 1, 1) := by decide +kernel
theorem dX9_boatOf_76 : decode cX9_boatOf 76 = .ok (.iaload, 1) := by decide +kernel
theorem dX9_boatOf_77 : decode cX9_boatOf 77 = .ok (.ireturn, 1) := by decide +kernel
theorem dX9_boatOf_78 : decode cX9_boatOf 78 = .ok (.aload_n 0, 1) := by decide +kernel
theorem dX9_boatOf_79 : decode cX9_boatOf 79 = .ok (.getfield 46, 3) := by decide +kernel
theorem dX9_boatOf_82 : decode cX9_boatOf 82 = .ok (.getfield 284, 3) := by decide +kernel
theorem dX9_boatOf_85 : decode cX9_boatOf 85 = .ok (.iload_n 1, 1) := by decide +kernel
theorem dX9_boatOf_86 : decode cX9_boatOf 86 = .ok (.iaload, 1) := by decide +kernel
theorem dX9_boatOf_87 : decode cX9_boatOf 87 = .ok (.ireturn, 1) := by decide +kernel
theorem dX9_boatOf_88 : decode cX9_boatOf 88 = .ok (.aload_n 0, 1) := by decide +kernel
theorem dX9_boatOf_89 : decode cX9_boatOf 89 = .ok (.getfield 46, 3) := by decide +kernel
theorem dX9_boatOf_92 : decode cX9_boatOf 92 = .ok (.getfield 287, 3) := by decide +kernel
theorem dX9_boatOf_95 : decode cX9_boatOf 95 = .ok (.iload_n 1, 1) := by decide +kernel
theorem dX9_boatOf_96 : decode cX9_boatOf 96 = .ok (.iaload, 1) := by decide +kernel
theorem dX9_boatOf_97 : decode cX9_boatOf 97 = .ok (.ireturn, 1) := by decide +kernel
theorem dX9_boatOf_98 : decode cX9_boatOf 98 = .ok (.aload_n 0, 1) := by decide +kernel
theorem dX9_boatOf_99 : decode cX9_boatOf 99 = .ok (.bipush (-2), 2) := by decide +kernel
theorem dX9_boatOf_101 : decode cX9_boatOf 101 = .ok (.invokevirtual 96, 3) := by decide +kernel
theorem dX9_boatOf_104 : decode cX9_boatOf 104 = .ok (.ireturn, 1) := by decide +kernel
set_option maxRecDepth 20000 in
theorem ggX9_hideOf_X9_isHide : GoodIn wsX9_hideOf wsX9_isHide := goodIn_r _ [9, 1, 10, 16, 17, 18, 19, 20, 21, 22, 23, 24, 25, 26, 27, 28, 29, 30, 31, 32, 33, 34, 35, 36, 37] (by decide +kernel) (by decide +kernel)
set_option maxRecDepth 20000 in
theorem gX9_hideOf_X9_isHide : GoodIn wsX9_hideOf (wsV RX9 189 RX9 yX9_isHide wsX9_isHide) := goodIn_app (goodIn_of _ (by decide +kernel)) ggX9_hideOf_X9_isHide
set_option maxRecDepth 20000 in
theorem ggX9_hideOf_X9_refuse : GoodIn wsX9_hideOf wsX9_refuse := goodIn_r _ [14, 15, 16, 17, 18, 19, 20, 21, 22, 23, 24, 25, 26, 27, 28, 29, 30] (by decide +kernel) (by decide +kernel)
set_option maxRecDepth 20000 in
theorem gX9_hideOf_X9_refuse : GoodIn wsX9_hideOf (wsV RX9 96 RX9 yX9_refuse wsX9_refuse) := goodIn_app (goodIn_of _ (by decide +kernel)) ggX9_hideOf_X9_refuse
theorem dX9_hideOf_0 : decode cX9_hideOf 0 = .ok (.aload_n 0, 1) := by decide +kernel
theorem dX9_hideOf_1 : decode cX9_hideOf 1 = .ok (.iload_n 1, 1) := by decide +kernel
theorem dX9_hideOf_2 : decode cX9_hideOf 2 = .ok (.invokevirtual 189, 3) := by decide +kernel
theorem dX9_hideOf_5 : decode cX9_hideOf 5 = .ok (.ifCond .ne 9, 3) := by decide +kernel
theorem dX9_hideOf_8 : decode cX9_hideOf 8 = .ok (.aload_n 0, 1) := by decide +kernel
theorem dX9_hideOf_9 : decode cX9_hideOf 9 = .ok (.iconst (-1), 1) := by decide +kernel
theorem dX9_hideOf_10 : decode cX9_hideOf 10 = .ok (.invokevirtual 96, 3) := by decide +kernel
theorem dX9_hideOf_13 : decode cX9_hideOf 13 = .ok (.ireturn, 1) := by decide +kernel
theorem dX9_hideOf_14 : decode cX9_hideOf 14 = .ok (.iload_n 2, 1) := by decide +kernel
theorem dX9_hideOf_15 : decode cX9_hideOf 15 = .ok (.tableswitch 55 0 2 #[25, 35, 45], 25) := by decide +kernel
theorem dX9_hideOf_40 : decode cX9_hideOf 40 = .ok (.aload_n 0, 1) := by decide +kernel
theorem dX9_hideOf_41 : decode cX9_hideOf 41 = .ok (.getfield 53, 3) := by decide +kernel
theorem dX9_hideOf_44 : decode cX9_hideOf 44 = .ok (.getfield 203, 3) := by decide +kernel
theorem dX9_hideOf_47 : decode cX9_hideOf 47 = .ok (.iload_n 1, 1) := by decide +kernel
theorem dX9_hideOf_48 : decode cX9_hideOf 48 = .ok (.iaload, 1) := by decide +kernel
theorem dX9_hideOf_49 : decode cX9_hideOf 49 = .ok (.ireturn, 1) := by decide +kernel
theorem dX9_hideOf_50 : decode cX9_hideOf 50 = .ok (.aload_n 0, 1) := by decide +kernel
theorem dX9_hideOf_51 : decode cX9_hideOf 51 = .ok (.getfield 53, 3) := by decide +kernel
theorem dX9_hideOf_54 : decode cX9_hideOf 54 = .ok (.getfield 206, 3) := by decide +kernel
theorem dX9_hideOf_57 : decode cX9_hideOf 57 = .ok (.iload_n 1, 1) := by decide +kernel
theorem dX9_hideOf_58 : decode cX9_hideOf 58 = .ok (.iaload, 1) := by decide +kernel
theorem dX9_hideOf_59 : decode cX9_hideOf 59 = .ok (.ireturn, 1) := by decide +kernel
theorem dX9_hideOf_60 : decode cX9_hideOf 60 = .ok (.aload_n 0, 1) := by decide +kernel
theorem dX9_hideOf_61 : decode cX9_hideOf 61 = .ok (.getfield 53, 3) := by decide +kernel
theorem dX9_hideOf_64 : decode cX9_hideOf 64 = .ok (.getfield 290, 3) := by decide +kernel
theorem dX9_hideOf_67 : decode cX9_hideOf 67 = .ok (.iload_n 1, 1) := by decide +kernel
theorem dX9_hideOf_68 : decode cX9_hideOf 68 = .ok (.iaload, 1) := by decide +kernel
theorem dX9_hideOf_69 : decode cX9_hideOf 69 = .ok (.ireturn, 1) := by decide +kernel
theorem dX9_hideOf_70 : decode cX9_hideOf 70 = .ok (.aload_n 0, 1) := by decide +kernel
theorem dX9_hideOf_71 : decode cX9_hideOf 71 = .ok (.bipush (-2), 2) := by decide +kernel
theorem dX9_hideOf_73 : decode cX9_hideOf 73 = .ok (.invokevirtual 96, 3) := by decide +kernel
theorem dX9_hideOf_76 : decode cX9_hideOf 76 = .ok (.ireturn, 1) := by decide +kernel
set_option maxRecDepth 20000 in
theorem ggX9_watched_X9_isCove : GoodIn wsX9_watched wsX9_isCove := goodIn_r _ [6] (by decide +kernel) (by decide +kernel)
set_option maxRecDepth 20000 in
theorem gX9_watched_X9_isCove : GoodIn wsX9_watched (va_wsS RX9 92 yX9_isCove wsX9_isCove) := goodIn_app (goodIn_of _ (by decide +kernel)) ggX9_watched_X9_isCove
set_option maxRecDepth 20000 in
theorem ggX9_watched_X9_refuse : GoodIn wsX9_watched wsX9_refuse := goodIn_r _ [10, 11, 12, 13, 14, 15, 16, 17, 18, 19, 20, 21, 22, 23, 24, 25, 26] (by decide +kernel) (by decide +kernel)
set_option maxRecDepth 20000 in
theorem gX9_watched_X9_refuse : GoodIn wsX9_watched (wsV RX9 96 RX9 yX9_refuse wsX9_refuse) := goodIn_app (goodIn_of _ (by decide +kernel)) ggX9_watched_X9_refuse
theorem dX9_watched_0 : decode cX9_watched 0 = .ok (.iload_n 1, 1) := by decide +kernel
theorem dX9_watched_1 : decode cX9_watched 1 = .ok (.invokestatic 92, 3) := by decide +kernel
theorem dX9_watched_4 : decode cX9_watched 4 = .ok (.ifCond .eq 15, 3) := by decide +kernel
theorem dX9_watched_7 : decode cX9_watched 7 = .ok (.aload_n 0, 1) := by decide +kernel
theorem dX9_watched_8 : decode cX9_watched 8 = .ok (.getfield 39, 3) := by decide +kernel
theorem dX9_watched_11 : decode cX9_watched 11 = .ok (.getfield 291, 3) := by decide +kernel
theorem dX9_watched_14 : decode cX9_watched 14 = .ok (.iload_n 1, 1) := by decide +kernel
theorem dX9_watched_15 : decode cX9_watched 15 = .ok (.iaload, 1) := by decide +kernel
theorem dX9_watched_16 : decode cX9_watched 16 = .ok (.goto 8, 3) := by decide +kernel
theorem dX9_watched_19 : decode cX9_watched 19 = .ok (.aload_n 0, 1) := by decide +kernel
theorem dX9_watched_20 : decode cX9_watched 20 = .ok (.iconst (-1), 1) := by decide +kernel
theorem dX9_watched_21 : decode cX9_watched 21 = .ok (.invokevirtual 96, 3) := by decide +kernel
theorem dX9_watched_24 : decode cX9_watched 24 = .ok (.ireturn, 1) := by decide +kernel
set_option maxRecDepth 20000 in
theorem ggX9_coins_X9_refuse : GoodIn wsX9_coins wsX9_refuse := goodIn_r _ [6, 7, 8, 9, 10, 11, 12, 13, 14, 15, 16, 17, 18, 19, 20, 21, 22] (by decide +kernel) (by decide +kernel)
set_option maxRecDepth 20000 in
theorem gX9_coins_X9_refuse : GoodIn wsX9_coins (wsV RX9 96 RX9 yX9_refuse wsX9_refuse) := goodIn_app (goodIn_of _ (by decide +kernel)) ggX9_coins_X9_refuse
theorem dX9_coins_0 : decode cX9_coins 0 = .ok (.iload_n 1, 1) := by decide +kernel
theorem dX9_coins_1 : decode cX9_coins 1 = .ok (.ifCond .lt 21, 3) := by decide +kernel
theorem dX9_coins_4 : decode cX9_coins 4 = .ok (.iload_n 1, 1) := by decide +kernel
theorem dX9_coins_5 : decode cX9_coins 5 = .ok (.aload_n 0, 1) := by decide +kernel
theorem dX9_coins_6 : decode cX9_coins 6 = .ok (.getfield 26, 3) := by decide +kernel
theorem dX9_coins_9 : decode cX9_coins 9 = .ok (.arraylength, 1) := by decide +kernel
theorem dX9_coins_10 : decode cX9_coins 10 = .ok (.if_icmp .ge 12, 3) := by decide +kernel
theorem dX9_coins_13 : decode cX9_coins 13 = .ok (.aload_n 0, 1) := by decide +kernel
theorem dX9_coins_14 : decode cX9_coins 14 = .ok (.getfield 26, 3) := by decide +kernel
theorem dX9_coins_17 : decode cX9_coins 17 = .ok (.iload_n 1, 1) := by decide +kernel
theorem dX9_coins_18 : decode cX9_coins 18 = .ok (.iaload, 1) := by decide +kernel
theorem dX9_coins_19 : decode cX9_coins 19 = .ok (.goto 9, 3) := by decide +kernel
theorem dX9_coins_22 : decode cX9_coins 22 = .ok (.aload_n 0, 1) := by decide +kernel
theorem dX9_coins_23 : decode cX9_coins 23 = .ok (.bipush (-2), 2) := by decide +kernel
theorem dX9_coins_25 : decode cX9_coins 25 = .ok (.invokevirtual 96, 3) := by decide +kernel
theorem dX9_coins_28 : decode cX9_coins 28 = .ok (.ireturn, 1) := by decide +kernel
set_option maxRecDepth 20000 in
theorem ggX9_count_X8_rightOnes : GoodIn wsX9_count wsX8_rightOnes := goodIn_r _ [19, 20, 69, 70, 71, 72, 73, 74] (by decide +kernel) (by decide +kernel)
set_option maxRecDepth 20000 in
theorem gX9_count_X8_rightOnes : GoodIn wsX9_count (wsV RX9 294 RX8 yX8_rightOnes wsX8_rightOnes) := goodIn_app (goodIn_of _ (by decide +kernel)) ggX9_count_X8_rightOnes
set_option maxRecDepth 20000 in
theorem ggX9_count_X8_wrongOnes : GoodIn wsX9_count wsX8_wrongOnes := goodIn_r _ [24, 25, 69, 70, 71, 72, 73, 74] (by decide +kernel) (by decide +kernel)
set_option maxRecDepth 20000 in
theorem gX9_count_X8_wrongOnes : GoodIn wsX9_count (wsV RX9 298 RX8 yX8_wrongOnes wsX8_wrongOnes) := goodIn_app (goodIn_of _ (by decide +kernel)) ggX9_count_X8_wrongOnes
set_option maxRecDepth 20000 in
theorem ggX9_count_X9_light : GoodIn wsX9_count wsX9_light := goodIn_r _ [30, 1, 31, 32, 33, 34, 35, 36, 37, 38, 39, 40, 41, 42, 43, 44, 45] (by decide +kernel) (by decide +kernel)
set_option maxRecDepth 20000 in
theorem gX9_count_X9_light : GoodIn wsX9_count (wsV RX9 301 RX9 yX9_light wsX9_light) := goodIn_app (goodIn_of _ (by decide +kernel)) ggX9_count_X9_light
theorem dX9_count_0 : decode cX9_count 0 = .ok (.iload_n 1, 1) := by decide +kernel
theorem dX9_count_1 : decode cX9_count 1 = .ok (.tableswitch 130 0 9 #[55, 60, 68, 76, 84, 92, 100, 108, 116, 121], 55) := by decide +kernel
theorem dX9_count_56 : decode cX9_count 56 = .ok (.aload_n 0, 1) := by decide +kernel
theorem dX9_count_57 : decode cX9_count 57 = .ok (.getfield 7, 3) := by decide +kernel
theorem dX9_count_60 : decode cX9_count 60 = .ok (.ireturn, 1) := by decide +kernel
theorem dX9_count_61 : decode cX9_count 61 = .ok (.aload_n 0, 1) := by decide +kernel
theorem dX9_count_62 : decode cX9_count 62 = .ok (.getfield 46, 3) := by decide +kernel
theorem dX9_count_65 : decode cX9_count 65 = .ok (.getfield 145, 3) := by decide +kernel
theorem dX9_count_68 : decode cX9_count 68 = .ok (.ireturn, 1) := by decide +kernel
theorem dX9_count_69 : decode cX9_count 69 = .ok (.aload_n 0, 1) := by decide +kernel
theorem dX9_count_70 : decode cX9_count 70 = .ok (.getfield 53, 3) := by decide +kernel
theorem dX9_count_73 : decode cX9_count 73 = .ok (.getfield 161, 3) := by decide +kernel
theorem dX9_count_76 : decode cX9_count 76 = .ok (.ireturn, 1) := by decide +kernel
theorem dX9_count_77 : decode cX9_count 77 = .ok (.aload_n 0, 1) := by decide +kernel
theorem dX9_count_78 : decode cX9_count 78 = .ok (.getfield 60, 3) := by decide +kernel
theorem dX9_count_81 : decode cX9_count 81 = .ok (.getfield 185, 3) := by decide +kernel
theorem dX9_count_84 : decode cX9_count 84 = .ok (.ireturn, 1) := by decide +kernel
theorem dX9_count_85 : decode cX9_count 85 = .ok (.aload_n 0, 1) := by decide +kernel
theorem dX9_count_86 : decode cX9_count 86 = .ok (.getfield 74, 3) := by decide +kernel
theorem dX9_count_89 : decode cX9_count 89 = .ok (.getfield 180, 3) := by decide +kernel
theorem dX9_count_92 : decode cX9_count 92 = .ok (.ireturn, 1) := by decide +kernel
theorem dX9_count_93 : decode cX9_count 93 = .ok (.aload_n 0, 1) := by decide +kernel
theorem dX9_count_94 : decode cX9_count 94 = .ok (.getfield 74, 3) := by decide +kernel
theorem dX9_count_97 : decode cX9_count 97 = .ok (.invokevirtual 294, 3) := by decide +kernel
theorem dX9_count_100 : decode cX9_count 100 = .ok (.ireturn, 1) := by decide +kernel
theorem dX9_count_101 : decode cX9_count 101 = .ok (.aload_n 0, 1) := by decide +kernel
theorem dX9_count_102 : decode cX9_count 102 = .ok (.getfield 74, 3) := by decide +kernel
theorem dX9_count_105 : decode cX9_count 105 = .ok (.invokevirtual 298, 3) := by decide +kernel
theorem dX9_count_108 : decode cX9_count 108 = .ok (.ireturn, 1) := by decide +kernel
theorem dX9_count_109 : decode cX9_count 109 = .ok (.aload_n 0, 1) := by decide +kernel
theorem dX9_count_110 : decode cX9_count 110 = .ok (.getfield 67, 3) := by decide +kernel
theorem dX9_count_113 : decode cX9_count 113 = .ok (.getfield 175, 3) := by decide +kernel
theorem dX9_count_116 : decode cX9_count 116 = .ok (.ireturn, 1) := by decide +kernel
theorem dX9_count_117 : decode cX9_count 117 = .ok (.aload_n 0, 1) := by decide +kernel
theorem dX9_count_118 : decode cX9_count 118 = .ok (.invokevirtual 301, 3) := by decide +kernel
theorem dX9_count_121 : decode cX9_count 121 = .ok (.ireturn, 1) := by decide +kernel
theorem dX9_count_122 : decode cX9_count 122 = .ok (.aload_n 0, 1) := by decide +kernel
theorem dX9_count_123 : decode cX9_count 123 = .ok (.getfield 13, 3) := by decide +kernel
theorem dX9_count_126 : decode cX9_count 126 = .ok (.ldc_w 304, 3) := by decide +kernel
theorem dX9_count_129 : decode cX9_count 129 = .ok (.iand, 1) := by decide +kernel
theorem dX9_count_130 : decode cX9_count 130 = .ok (.ireturn, 1) := by decide +kernel
theorem dX9_count_131 : decode cX9_count 131 = .ok (.iload_n 1, 1) := by decide +kernel
theorem dX9_count_132 : decode cX9_count 132 = .ok (.bipush 11, 2) := by decide +kernel
theorem dX9_count_134 : decode cX9_count 134 = .ok (.if_icmp .lt 21, 3) := by decide +kernel
theorem dX9_count_137 : decode cX9_count 137 = .ok (.iload_n 1, 1) := by decide +kernel
theorem dX9_count_138 : decode cX9_count 138 = .ok (.bipush 17, 2) := by decide +kernel
theorem dX9_count_140 : decode cX9_count 140 = .ok (.if_icmp .gt 15, 3) := by decide +kernel
theorem dX9_count_143 : decode cX9_count 143 = .ok (.aload_n 0, 1) := by decide +kernel
theorem dX9_count_144 : decode cX9_count 144 = .ok (.getfield 22, 3) := by decide +kernel
theorem dX9_count_147 : decode cX9_count 147 = .ok (.iload_n 1, 1) := by decide +kernel
theorem dX9_count_148 : decode cX9_count 148 = .ok (.bipush 10, 2) := by decide +kernel
theorem dX9_count_150 : decode cX9_count 150 = .ok (.isub, 1) := by decide +kernel
theorem dX9_count_151 : decode cX9_count 151 = .ok (.iaload, 1) := by decide +kernel
theorem dX9_count_152 : decode cX9_count 152 = .ok (.goto 5, 3) := by decide +kernel
theorem dX9_count_155 : decode cX9_count 155 = .ok (.bipush (-9), 2) := by decide +kernel
theorem dX9_count_157 : decode cX9_count 157 = .ok (.ireturn, 1) := by decide +kernel
theorem dX9_refuse_0 : decode cX9_refuse 0 = .ok (.iload_n 1, 1) := by decide +kernel
theorem dX9_refuse_1 : decode cX9_refuse 1 = .ok (.ineg, 1) := by decide +kernel
theorem dX9_refuse_2 : decode cX9_refuse 2 = .ok (.istore_n 2, 1) := by decide +kernel
theorem dX9_refuse_3 : decode cX9_refuse 3 = .ok (.iload_n 2, 1) := by decide +kernel
theorem dX9_refuse_4 : decode cX9_refuse 4 = .ok (.ifCond .lt 22, 3) := by decide +kernel
theorem dX9_refuse_7 : decode cX9_refuse 7 = .ok (.iload_n 2, 1) := by decide +kernel
theorem dX9_refuse_8 : decode cX9_refuse 8 = .ok (.aload_n 0, 1) := by decide +kernel
theorem dX9_refuse_9 : decode cX9_refuse 9 = .ok (.getfield 22, 3) := by decide +kernel
theorem dX9_refuse_12 : decode cX9_refuse 12 = .ok (.arraylength, 1) := by decide +kernel
theorem dX9_refuse_13 : decode cX9_refuse 13 = .ok (.if_icmp .ge 13, 3) := by decide +kernel
theorem dX9_refuse_16 : decode cX9_refuse 16 = .ok (.aload_n 0, 1) := by decide +kernel
theorem dX9_refuse_17 : decode cX9_refuse 17 = .ok (.getfield 22, 3) := by decide +kernel
theorem dX9_refuse_20 : decode cX9_refuse 20 = .ok (.iload_n 2, 1) := by decide +kernel
theorem dX9_refuse_21 : decode cX9_refuse 21 = .ok (.dup2, 1) := by decide +kernel
theorem dX9_refuse_22 : decode cX9_refuse 22 = .ok (.iaload, 1) := by decide +kernel
theorem dX9_refuse_23 : decode cX9_refuse 23 = .ok (.iconst 1, 1) := by decide +kernel
theorem dX9_refuse_24 : decode cX9_refuse 24 = .ok (.iadd, 1) := by decide +kernel
theorem dX9_refuse_25 : decode cX9_refuse 25 = .ok (.iastore, 1) := by decide +kernel
theorem dX9_refuse_26 : decode cX9_refuse 26 = .ok (.iload_n 1, 1) := by decide +kernel
theorem dX9_refuse_27 : decode cX9_refuse 27 = .ok (.ireturn, 1) := by decide +kernel
theorem dX9_isCove_0 : decode cX9_isCove 0 = .ok (.iload_n 0, 1) := by decide +kernel
theorem dX9_isCove_1 : decode cX9_isCove 1 = .ok (.ifCond .lt 13, 3) := by decide +kernel
theorem dX9_isCove_4 : decode cX9_isCove 4 = .ok (.iload_n 0, 1) := by decide +kernel
theorem dX9_isCove_5 : decode cX9_isCove 5 = .ok (.bipush 6, 2) := by decide +kernel
theorem dX9_isCove_7 : decode cX9_isCove 7 = .ok (.if_icmp .ge 7, 3) := by decide +kernel
theorem dX9_isCove_10 : decode cX9_isCove 10 = .ok (.iconst 1, 1) := by decide +kernel
theorem dX9_isCove_11 : decode cX9_isCove 11 = .ok (.goto 4, 3) := by decide +kernel
theorem dX9_isCove_14 : decode cX9_isCove 14 = .ok (.iconst 0, 1) := by decide +kernel
theorem dX9_isCove_15 : decode cX9_isCove 15 = .ok (.ireturn, 1) := by decide +kernel
theorem dX9_isTable_0 : decode cX9_isTable 0 = .ok (.iload_n 0, 1) := by decide +kernel
theorem dX9_isTable_1 : decode cX9_isTable 1 = .ok (.ifCond .lt 12, 3) := by decide +kernel
theorem dX9_isTable_4 : decode cX9_isTable 4 = .ok (.iload_n 0, 1) := by decide +kernel
theorem dX9_isTable_5 : decode cX9_isTable 5 = .ok (.iconst 4, 1) := by decide +kernel
theorem dX9_isTable_6 : decode cX9_isTable 6 = .ok (.if_icmp .ge 7, 3) := by decide +kernel
theorem dX9_isTable_9 : decode cX9_isTable 9 = .ok (.iconst 1, 1) := by decide +kernel
theorem dX9_isTable_10 : decode cX9_isTable 10 = .ok (.goto 4, 3) := by decide +kernel
theorem dX9_isTable_13 : decode cX9_isTable 13 = .ok (.iconst 0, 1) := by decide +kernel
theorem dX9_isTable_14 : decode cX9_isTable 14 = .ok (.ireturn, 1) := by decide +kernel
theorem dX9_isInformer_0 : decode cX9_isInformer 0 = .ok (.iload_n 0, 1) := by decide +kernel
theorem dX9_isInformer_1 : decode cX9_isInformer 1 = .ok (.ifCond .lt 13, 3) := by decide +kernel
theorem dX9_isInformer_4 : decode cX9_isInformer 4 = .ok (.iload_n 0, 1) := by decide +kernel
theorem dX9_isInformer_5 : decode cX9_isInformer 5 = .ok (.bipush 6, 2) := by decide +kernel
theorem dX9_isInformer_7 : decode cX9_isInformer 7 = .ok (.if_icmp .ge 7, 3) := by decide +kernel
theorem dX9_isInformer_10 : decode cX9_isInformer 10 = .ok (.iconst 1, 1) := by decide +kernel
theorem dX9_isInformer_11 : decode cX9_isInformer 11 = .ok (.goto 4, 3) := by decide +kernel
theorem dX9_isInformer_14 : decode cX9_isInformer 14 = .ok (.iconst 0, 1) := by decide +kernel
theorem dX9_isInformer_15 : decode cX9_isInformer 15 = .ok (.ireturn, 1) := by decide +kernel
theorem dX9_isSeason_0 : decode cX9_isSeason 0 = .ok (.iload_n 0, 1) := by decide +kernel
theorem dX9_isSeason_1 : decode cX9_isSeason 1 = .ok (.ifCond .lt 13, 3) := by decide +kernel
theorem dX9_isSeason_4 : decode cX9_isSeason 4 = .ok (.iload_n 0, 1) := by decide +kernel
theorem dX9_isSeason_5 : decode cX9_isSeason 5 = .ok (.bipush 34, 2) := by decide +kernel
theorem dX9_isSeason_7 : decode cX9_isSeason 7 = .ok (.if_icmp .ge 7, 3) := by decide +kernel
theorem dX9_isSeason_10 : decode cX9_isSeason 10 = .ok (.iconst 1, 1) := by decide +kernel
theorem dX9_isSeason_11 : decode cX9_isSeason 11 = .ok (.goto 4, 3) := by decide +kernel
theorem dX9_isSeason_14 : decode cX9_isSeason 14 = .ok (.iconst 0, 1) := by decide +kernel
theorem dX9_isSeason_15 : decode cX9_isSeason 15 = .ok (.ireturn, 1) := by decide +kernel
theorem dX9_isPart_0 : decode cX9_isPart 0 = .ok (.iload_n 0, 1) := by decide +kernel
theorem dX9_isPart_1 : decode cX9_isPart 1 = .ok (.ifCond .eq 8, 3) := by decide +kernel
theorem dX9_isPart_4 : decode cX9_isPart 4 = .ok (.iload_n 0, 1) := by decide +kernel
theorem dX9_isPart_5 : decode cX9_isPart 5 = .ok (.iconst 1, 1) := by decide +kernel
theorem dX9_isPart_6 : decode cX9_isPart 6 = .ok (.if_icmp .ne 7, 3) := by decide +kernel
theorem dX9_isPart_9 : decode cX9_isPart 9 = .ok (.iconst 1, 1) := by decide +kernel
theorem dX9_isPart_10 : decode cX9_isPart 10 = .ok (.goto 4, 3) := by decide +kernel
theorem dX9_isPart_13 : decode cX9_isPart 13 = .ok (.iconst 0, 1) := by decide +kernel
theorem dX9_isPart_14 : decode cX9_isPart 14 = .ok (.ireturn, 1) := by decide +kernel
theorem dX9_isBoat_0 : decode cX9_isBoat 0 = .ok (.iload_n 1, 1) := by decide +kernel
theorem dX9_isBoat_1 : decode cX9_isBoat 1 = .ok (.ifCond .lt 18, 3) := by decide +kernel
theorem dX9_isBoat_4 : decode cX9_isBoat 4 = .ok (.iload_n 1, 1) := by decide +kernel
theorem dX9_isBoat_5 : decode cX9_isBoat 5 = .ok (.aload_n 0, 1) := by decide +kernel
theorem dX9_isBoat_6 : decode cX9_isBoat 6 = .ok (.getfield 46, 3) := by decide +kernel
theorem dX9_isBoat_9 : decode cX9_isBoat 9 = .ok (.getfield 145, 3) := by decide +kernel
theorem dX9_isBoat_12 : decode cX9_isBoat 12 = .ok (.if_icmp .ge 7, 3) := by decide +kernel
theorem dX9_isBoat_15 : decode cX9_isBoat 15 = .ok (.iconst 1, 1) := by decide +kernel
theorem dX9_isBoat_16 : decode cX9_isBoat 16 = .ok (.goto 4, 3) := by decide +kernel
theorem dX9_isBoat_19 : decode cX9_isBoat 19 = .ok (.iconst 0, 1) := by decide +kernel
theorem dX9_isBoat_20 : decode cX9_isBoat 20 = .ok (.ireturn, 1) := by decide +kernel
theorem dX9_isHide_0 : decode cX9_isHide 0 = .ok (.iload_n 1, 1) := by decide +kernel
theorem dX9_isHide_1 : decode cX9_isHide 1 = .ok (.ifCond .lt 18, 3) := by decide +kernel
theorem dX9_isHide_4 : decode cX9_isHide 4 = .ok (.iload_n 1, 1) := by decide +kernel
theorem dX9_isHide_5 : decode cX9_isHide 5 = .ok (.aload_n 0, 1) := by decide +kernel
theorem dX9_isHide_6 : decode cX9_isHide 6 = .ok (.getfield 53, 3) := by decide +kernel
theorem dX9_isHide_9 : decode cX9_isHide 9 = .ok (.getfield 161, 3) := by decide +kernel
theorem dX9_isHide_12 : decode cX9_isHide 12 = .ok (.if_icmp .ge 7, 3) := by decide +kernel
theorem dX9_isHide_15 : decode cX9_isHide 15 = .ok (.iconst 1, 1) := by decide +kernel
theorem dX9_isHide_16 : decode cX9_isHide 16 = .ok (.goto 4, 3) := by decide +kernel
theorem dX9_isHide_19 : decode cX9_isHide 19 = .ok (.iconst 0, 1) := by decide +kernel
theorem dX9_isHide_20 : decode cX9_isHide 20 = .ok (.ireturn, 1) := by decide +kernel
set_option maxRecDepth 20000 in
theorem ggX9_gameRefusal_X9_isPart : GoodIn wsX9_gameRefusal wsX9_isPart := goodIn_r _ [4] (by decide +kernel) (by decide +kernel)
set_option maxRecDepth 20000 in
theorem gX9_gameRefusal_X9_isPart : GoodIn wsX9_gameRefusal (va_wsS RX9 212 yX9_isPart wsX9_isPart) := goodIn_app (goodIn_of _ (by decide +kernel)) ggX9_gameRefusal_X9_isPart
theorem dX9_gameRefusal_0 : decode cX9_gameRefusal 0 = .ok (.iload_n 0, 1) := by decide +kernel
theorem dX9_gameRefusal_1 : decode cX9_gameRefusal 1 = .ok (.ifCond .lt 8, 3) := by decide +kernel
theorem dX9_gameRefusal_4 : decode cX9_gameRefusal 4 = .ok (.iload_n 1, 1) := by decide +kernel
theorem dX9_gameRefusal_5 : decode cX9_gameRefusal 5 = .ok (.iconst 1, 1) := by decide +kernel
theorem dX9_gameRefusal_6 : decode cX9_gameRefusal 6 = .ok (.if_icmp .ge 6, 3) := by decide +kernel
theorem dX9_gameRefusal_9 : decode cX9_gameRefusal 9 = .ok (.bipush (-4), 2) := by decide +kernel
theorem dX9_gameRefusal_11 : decode cX9_gameRefusal 11 = .ok (.ireturn, 1) := by decide +kernel
theorem dX9_gameRefusal_12 : decode cX9_gameRefusal 12 = .ok (.iload_n 0, 1) := by decide +kernel
theorem dX9_gameRefusal_13 : decode cX9_gameRefusal 13 = .ok (.bipush 6, 2) := by decide +kernel
theorem dX9_gameRefusal_15 : decode cX9_gameRefusal 15 = .ok (.if_icmp .gt 9, 3) := by decide +kernel
theorem dX9_gameRefusal_18 : decode cX9_gameRefusal 18 = .ok (.iload_n 1, 1) := by decide +kernel
theorem dX9_gameRefusal_19 : decode cX9_gameRefusal 19 = .ok (.bipush 99, 2) := by decide +kernel
theorem dX9_gameRefusal_21 : decode cX9_gameRefusal 21 = .ok (.if_icmp .le 6, 3) := by decide +kernel
theorem dX9_gameRefusal_24 : decode cX9_gameRefusal 24 = .ok (.bipush (-6), 2) := by decide +kernel
theorem dX9_gameRefusal_26 : decode cX9_gameRefusal 26 = .ok (.ireturn, 1) := by decide +kernel
theorem dX9_gameRefusal_27 : decode cX9_gameRefusal 27 = .ok (.iload_n 2, 1) := by decide +kernel
theorem dX9_gameRefusal_28 : decode cX9_gameRefusal 28 = .ok (.invokestatic 212, 3) := by decide +kernel
theorem dX9_gameRefusal_31 : decode cX9_gameRefusal 31 = .ok (.ifCond .eq 7, 3) := by decide +kernel
theorem dX9_gameRefusal_34 : decode cX9_gameRefusal 34 = .ok (.iconst 0, 1) := by decide +kernel
theorem dX9_gameRefusal_35 : decode cX9_gameRefusal 35 = .ok (.goto 5, 3) := by decide +kernel
theorem dX9_gameRefusal_38 : decode cX9_gameRefusal 38 = .ok (.bipush (-2), 2) := by decide +kernel
theorem dX9_gameRefusal_40 : decode cX9_gameRefusal 40 = .ok (.ireturn, 1) := by decide +kernel
set_option maxRecDepth 20000 in
theorem ggX9_lowest_X9_commonDivisor : GoodIn wsX9_lowest wsX9_commonDivisor := goodIn_r _ [4] (by decide +kernel) (by decide +kernel)
set_option maxRecDepth 20000 in
theorem gX9_lowest_X9_commonDivisor : GoodIn wsX9_lowest (va_wsS RX9 305 yX9_commonDivisor wsX9_commonDivisor) := goodIn_app (goodIn_of _ (by decide +kernel)) ggX9_lowest_X9_commonDivisor
theorem dX9_lowest_0 : decode cX9_lowest 0 = .ok (.lload_n 0, 1) := by decide +kernel
theorem dX9_lowest_1 : decode cX9_lowest 1 = .ok (.lconst 0, 1) := by decide +kernel
theorem dX9_lowest_2 : decode cX9_lowest 2 = .ok (.lcmp, 1) := by decide +kernel
theorem dX9_lowest_3 : decode cX9_lowest 3 = .ok (.ifCond .ge 8, 3) := by decide +kernel
theorem dX9_lowest_6 : decode cX9_lowest 6 = .ok (.lload_n 0, 1) := by decide +kernel
theorem dX9_lowest_7 : decode cX9_lowest 7 = .ok (.lneg, 1) := by decide +kernel
theorem dX9_lowest_8 : decode cX9_lowest 8 = .ok (.goto 4, 3) := by decide +kernel
theorem dX9_lowest_11 : decode cX9_lowest 11 = .ok (.lload_n 0, 1) := by decide +kernel
theorem dX9_lowest_12 : decode cX9_lowest 12 = .ok (.lload_n 2, 1) := by decide +kernel
theorem dX9_lowest_13 : decode cX9_lowest 13 = .ok (.invokestatic 305, 3) := by decide +kernel
theorem dX9_lowest_16 : decode cX9_lowest 16 = .ok (.lstore 5, 2) := by decide +kernel
theorem dX9_lowest_18 : decode cX9_lowest 18 = .ok (.lload 5, 2) := by decide +kernel
theorem dX9_lowest_20 : decode cX9_lowest 20 = .ok (.lconst 0, 1) := by decide +kernel
theorem dX9_lowest_21 : decode cX9_lowest 21 = .ok (.lcmp, 1) := by decide +kernel
theorem dX9_lowest_22 : decode cX9_lowest 22 = .ok (.ifCond .gt 5, 3) := by decide +kernel
theorem dX9_lowest_25 : decode cX9_lowest 25 = .ok (.lconst 0, 1) := by decide +kernel
theorem dX9_lowest_26 : decode cX9_lowest 26 = .ok (.lreturn, 1) := by decide +kernel
theorem dX9_lowest_27 : decode cX9_lowest 27 = .ok (.iload 4, 2) := by decide +kernel
theorem dX9_lowest_29 : decode cX9_lowest 29 = .ok (.ifCond .ne 7, 3) := by decide +kernel
theorem dX9_lowest_32 : decode cX9_lowest 32 = .ok (.lload_n 0, 1) := by decide +kernel
theorem dX9_lowest_33 : decode cX9_lowest 33 = .ok (.goto 4, 3) := by decide +kernel
theorem dX9_lowest_36 : decode cX9_lowest 36 = .ok (.lload_n 2, 1) := by decide +kernel
theorem dX9_lowest_37 : decode cX9_lowest 37 = .ok (.lload 5, 2) := by decide +kernel
theorem dX9_lowest_39 : decode cX9_lowest 39 = .ok (.ldiv, 1) := by decide +kernel
theorem dX9_lowest_40 : decode cX9_lowest 40 = .ok (.lreturn, 1) := by decide +kernel
theorem dX9_commonDivisor_0 : decode cX9_commonDivisor 0 = .ok (.iconst 0, 1) := by decide +kernel
theorem dX9_commonDivisor_1 : decode cX9_commonDivisor 1 = .ok (.istore 4, 2) := by decide +kernel
theorem dX9_commonDivisor_3 : decode cX9_commonDivisor 3 = .ok (.iload 4, 2) := by decide +kernel
theorem dX9_commonDivisor_5 : decode cX9_commonDivisor 5 = .ok (.bipush 100, 2) := by decide +kernel
theorem dX9_commonDivisor_7 : decode cX9_commonDivisor 7 = .ok (.if_icmp .ge 25, 3) := by decide +kernel
theorem dX9_commonDivisor_10 : decode cX9_commonDivisor 10 = .ok (.lload_n 2, 1) := by decide +kernel
theorem dX9_commonDivisor_11 : decode cX9_commonDivisor 11 = .ok (.lconst 0, 1) := by decide +kernel
theorem dX9_commonDivisor_12 : decode cX9_commonDivisor 12 = .ok (.lcmp, 1) := by decide +kernel
theorem dX9_commonDivisor_13 : decode cX9_commonDivisor 13 = .ok (.ifCond .eq 19, 3) := by decide +kernel
theorem dX9_commonDivisor_16 : decode cX9_commonDivisor 16 = .ok (.lload_n 0, 1) := by decide +kernel
theorem dX9_commonDivisor_17 : decode cX9_commonDivisor 17 = .ok (.lload_n 2, 1) := by decide +kernel
theorem dX9_commonDivisor_18 : decode cX9_commonDivisor 18 = .ok (.lrem, 1) := by decide +kernel
theorem dX9_commonDivisor_19 : decode cX9_commonDivisor 19 = .ok (.lstore 5, 2) := by decide +kernel
theorem dX9_commonDivisor_21 : decode cX9_commonDivisor 21 = .ok (.lload_n 2, 1) := by decide +kernel
theorem dX9_commonDivisor_22 : decode cX9_commonDivisor 22 = .ok (.lstore_n 0, 1) := by decide +kernel
theorem dX9_commonDivisor_23 : decode cX9_commonDivisor 23 = .ok (.lload 5, 2) := by decide +kernel
theorem dX9_commonDivisor_25 : decode cX9_commonDivisor 25 = .ok (.lstore_n 2, 1) := by decide +kernel
theorem dX9_commonDivisor_26 : decode cX9_commonDivisor 26 = .ok (.iinc 4 1, 3) := by decide +kernel
theorem dX9_commonDivisor_29 : decode cX9_commonDivisor 29 = .ok (.goto (-26), 3) := by decide +kernel
theorem dX9_commonDivisor_32 : decode cX9_commonDivisor 32 = .ok (.lload_n 0, 1) := by decide +kernel
theorem dX9_commonDivisor_33 : decode cX9_commonDivisor 33 = .ok (.lreturn, 1) := by decide +kernel
set_option maxRecDepth 20000 in
theorem ggX9_passNight_X9_placeWatchers : GoodIn wsX9_passNight wsX9_placeWatchers := goodIn_r _ [8, 9, 10, 11, 12, 13, 14, 15, 16, 17, 18, 19, 20, 21, 7, 22, 23, 24, 25, 26, 27, 28, 186, 187, 188, 189, 190, 191, 192, 193, 194, 195, 196, 197, 198, 199, 200, 210, 211, 212, 213, 214, 215, 216] (by decide +kernel) (by decide +kernel)
set_option maxRecDepth 20000 in
theorem gX9_passNight_X9_placeWatchers : GoodIn wsX9_passNight (wsV RX9 309 RX9 yX9_placeWatchers wsX9_placeWatchers) := goodIn_app (goodIn_of _ (by decide +kernel)) ggX9_passNight_X9_placeWatchers
set_option maxRecDepth 20000 in
theorem ggX9_passNight_X9_sendOut : GoodIn wsX9_passNight wsX9_sendOut := goodIn_r _ [32, 2, 33, 34, 35, 36, 9, 37, 38, 39, 7, 40, 1, 41, 42, 43, 44, 45, 46, 47, 48, 49, 50, 51, 52, 53, 54, 55, 56, 57, 58, 59, 60, 61, 62, 63, 64, 65, 66, 67, 68, 69, 70, 16, 71, 72, 73, 74, 75, 76, 77, 78, 79, 80, 81, 82, 83, 84, 85, 86, 87, 88, 89, 90, 91, 92, 93, 94, 95, 96, 97, 98, 99, 100, 101, 102, 103, 104, 105, 106, 107, 108, 109, 110, 111, 112, 113, 114, 115, 116, 117, 118, 119, 120, 121, 122, 123, 124, 125, 126, 127, 128, 129, 130, 131, 132, 133, 134, 135, 136, 137, 138, 139, 140, 141, 142, 143, 144, 145, 146, 147, 148, 149, 150, 151, 152, 153, 154, 10, 155, 156, 157, 186, 187, 188, 189, 190, 191, 192, 193, 194, 195, 196, 197, 198, 199, 200, 201, 202, 203, 204, 205, 206, 207, 208, 209, 217, 218, 219, 220, 221, 222, 223, 210, 211, 212, 213, 214, 215, 216, 224, 225, 226, 227, 228, 229, 230, 231, 232, 233, 234, 235, 236, 237, 238, 239, 240, 241, 242] (by decide +kernel) (by decide +kernel)
set_option maxRecDepth 20000 in
theorem gX9_passNight_X9_sendOut : GoodIn wsX9_passNight (wsV RX9 312 RX9 yX9_sendOut wsX9_sendOut) := goodIn_app (goodIn_of _ (by decide +kernel)) ggX9_passNight_X9_sendOut
set_option maxRecDepth 20000 in
theorem ggX9_passNight_X0_calm : GoodIn wsX9_passNight wsX0_calm := goodIn_r _ [161, 162, 130, 201, 202, 203, 204, 205, 206, 207, 208, 209] (by decide +kernel) (by decide +kernel)
set_option maxRecDepth 20000 in
theorem gX9_passNight_X0_calm : GoodIn wsX9_passNight (wsV RX9 315 RX0 yX0_calm wsX0_calm) := goodIn_app (goodIn_of _ (by decide +kernel)) ggX9_passNight_X0_calm
set_option maxRecDepth 20000 in
theorem ggX9_passNight_X9_proveWords : GoodIn wsX9_passNight wsX9_proveWords := goodIn_r _ [166, 79, 167, 168, 1, 169, 34, 139, 170, 171, 172, 84, 173, 86, 90, 89, 174, 175, 176, 96, 177, 178, 99, 179, 180, 181, 182, 145, 183, 147, 148, 184, 185, 132, 133, 134, 186, 187, 188, 189, 190, 191, 192, 193, 194, 195, 196, 197, 198, 199, 200, 226, 227, 228, 229, 230, 231, 217, 218, 219, 220, 221, 222, 223, 236, 237, 238, 239, 240, 241, 242] (by decide +kernel) (by decide +kernel)
set_option maxRecDepth 20000 in
theorem gX9_passNight_X9_proveWords : GoodIn wsX9_passNight (wsV RX9 318 RX9 yX9_proveWords wsX9_proveWords) := goodIn_app (goodIn_of _ (by decide +kernel)) ggX9_passNight_X9_proveWords
theorem dX9_passNight_0 : decode cX9_passNight 0 = .ok (.aload_n 0, 1) := by decide +kernel
theorem dX9_passNight_1 : decode cX9_passNight 1 = .ok (.dup, 1) := by decide +kernel
theorem dX9_passNight_2 : decode cX9_passNight 2 = .ok (.getfield 7, 3) := by decide +kernel
theorem dX9_passNight_5 : decode cX9_passNight 5 = .ok (.iconst 1, 1) := by decide +kernel
theorem dX9_passNight_6 : decode cX9_passNight 6 = .ok (.iadd, 1) := by decide +kernel
theorem dX9_passNight_7 : decode cX9_passNight 7 = .ok (.putfield 7, 3) := by decide +kernel
theorem dX9_passNight_10 : decode cX9_passNight 10 = .ok (.aload_n 0, 1) := by decide +kernel
theorem dX9_passNight_11 : decode cX9_passNight 11 = .ok (.invokevirtual 309, 3) := by decide +kernel
theorem dX9_passNight_14 : decode cX9_passNight 14 = .ok (.iconst 0, 1) := by decide +kernel
theorem dX9_passNight_15 : decode cX9_passNight 15 = .ok (.istore_n 1, 1) := by decide +kernel
theorem dX9_passNight_16 : decode cX9_passNight 16 = .ok (.iload_n 1, 1) := by decide +kernel
theorem dX9_passNight_17 : decode cX9_passNight 17 = .ok (.aload_n 0, 1) := by decide +kernel
theorem dX9_passNight_18 : decode cX9_passNight 18 = .ok (.getfield 46, 3) := by decide +kernel
theorem dX9_passNight_21 : decode cX9_passNight 21 = .ok (.getfield 145, 3) := by decide +kernel
theorem dX9_passNight_24 : decode cX9_passNight 24 = .ok (.if_icmp .ge 14, 3) := by decide +kernel
theorem dX9_passNight_27 : decode cX9_passNight 27 = .ok (.aload_n 0, 1) := by decide +kernel
theorem dX9_passNight_28 : decode cX9_passNight 28 = .ok (.iload_n 1, 1) := by decide +kernel
theorem dX9_passNight_29 : decode cX9_passNight 29 = .ok (.invokevirtual 312, 3) := by decide +kernel
theorem dX9_passNight_32 : decode cX9_passNight 32 = .ok (.iinc 1 1, 3) := by decide +kernel
theorem dX9_passNight_35 : decode cX9_passNight 35 = .ok (.goto (-19), 3) := by decide +kernel
theorem dX9_passNight_38 : decode cX9_passNight 38 = .ok (.aload_n 0, 1) := by decide +kernel
theorem dX9_passNight_39 : decode cX9_passNight 39 = .ok (.getfield 46, 3) := by decide +kernel
theorem dX9_passNight_42 : decode cX9_passNight 42 = .ok (.invokevirtual 315, 3) := by decide +kernel
theorem dX9_passNight_45 : decode cX9_passNight 45 = .ok (.aload_n 0, 1) := by decide +kernel
theorem dX9_passNight_46 : decode cX9_passNight 46 = .ok (.invokevirtual 318, 3) := by decide +kernel
theorem dX9_passNight_49 : decode cX9_passNight 49 = .ok (.return_, 1) := by decide +kernel
set_option maxRecDepth 20000 in
theorem ggX9_placeWatchers_X1_sumOfShares : GoodIn wsX9_placeWatchers wsX1_sumOfShares := goodIn_r _ [9, 10, 37, 38, 39, 40, 41, 42, 43] (by decide +kernel) (by decide +kernel)
set_option maxRecDepth 20000 in
theorem gX9_placeWatchers_X1_sumOfShares : GoodIn wsX9_placeWatchers (wsV RX9 321 RX1 yX1_sumOfShares wsX1_sumOfShares) := goodIn_app (goodIn_of _ (by decide +kernel)) ggX9_placeWatchers_X1_sumOfShares
set_option maxRecDepth 20000 in
theorem ggX9_placeWatchers_X9_drawBelow : GoodIn wsX9_placeWatchers wsX9_drawBelow := goodIn_r _ [15, 16, 17, 22, 23, 24, 25, 26, 27, 28, 29, 30, 31, 32, 33, 34, 35, 36] (by decide +kernel) (by decide +kernel)
set_option maxRecDepth 20000 in
theorem gX9_placeWatchers_X9_drawBelow : GoodIn wsX9_placeWatchers (wsV RX9 324 RX9 yX9_drawBelow wsX9_drawBelow) := goodIn_app (goodIn_of _ (by decide +kernel)) ggX9_placeWatchers_X9_drawBelow
set_option maxRecDepth 20000 in
theorem ggX9_placeWatchers_X1_coveOfShare : GoodIn wsX9_placeWatchers wsX1_coveOfShare := goodIn_r _ [21, 10, 37, 38, 39, 40, 41, 42, 43] (by decide +kernel) (by decide +kernel)
set_option maxRecDepth 20000 in
theorem gX9_placeWatchers_X1_coveOfShare : GoodIn wsX9_placeWatchers (wsV RX9 327 RX1 yX1_coveOfShare wsX1_coveOfShare) := goodIn_app (goodIn_of _ (by decide +kernel)) ggX9_placeWatchers_X1_coveOfShare
theorem dX9_placeWatchers_0 : decode cX9_placeWatchers 0 = .ok (.iconst 0, 1) := by decide +kernel
theorem dX9_placeWatchers_1 : decode cX9_placeWatchers 1 = .ok (.istore_n 1, 1) := by decide +kernel
theorem dX9_placeWatchers_2 : decode cX9_placeWatchers 2 = .ok (.iload_n 1, 1) := by decide +kernel
theorem dX9_placeWatchers_3 : decode cX9_placeWatchers 3 = .ok (.bipush 6, 2) := by decide +kernel
theorem dX9_placeWatchers_5 : decode cX9_placeWatchers 5 = .ok (.if_icmp .ge 27, 3) := by decide +kernel
theorem dX9_placeWatchers_8 : decode cX9_placeWatchers 8 = .ok (.aload_n 0, 1) := by decide +kernel
theorem dX9_placeWatchers_9 : decode cX9_placeWatchers 9 = .ok (.getfield 39, 3) := by decide +kernel
theorem dX9_placeWatchers_12 : decode cX9_placeWatchers 12 = .ok (.getfield 291, 3) := by decide +kernel
theorem dX9_placeWatchers_15 : decode cX9_placeWatchers 15 = .ok (.iload_n 1, 1) := by decide +kernel
theorem dX9_placeWatchers_16 : decode cX9_placeWatchers 16 = .ok (.aload_n 0, 1) := by decide +kernel
theorem dX9_placeWatchers_17 : decode cX9_placeWatchers 17 = .ok (.getfield 39, 3) := by decide +kernel
theorem dX9_placeWatchers_20 : decode cX9_placeWatchers 20 = .ok (.getfield 165, 3) := by decide +kernel
theorem dX9_placeWatchers_23 : decode cX9_placeWatchers 23 = .ok (.iload_n 1, 1) := by decide +kernel
theorem dX9_placeWatchers_24 : decode cX9_placeWatchers 24 = .ok (.iaload, 1) := by decide +kernel
theorem dX9_placeWatchers_25 : decode cX9_placeWatchers 25 = .ok (.iastore, 1) := by decide +kernel
theorem dX9_placeWatchers_26 : decode cX9_placeWatchers 26 = .ok (.iinc 1 1, 3) := by decide +kernel
theorem dX9_placeWatchers_29 : decode cX9_placeWatchers 29 = .ok (.goto (-27), 3) := by decide +kernel
theorem dX9_placeWatchers_32 : decode cX9_placeWatchers 32 = .ok (.aload_n 0, 1) := by decide +kernel
theorem dX9_placeWatchers_33 : decode cX9_placeWatchers 33 = .ok (.getfield 39, 3) := by decide +kernel
theorem dX9_placeWatchers_36 : decode cX9_placeWatchers 36 = .ok (.invokevirtual 321, 3) := by decide +kernel
theorem dX9_placeWatchers_39 : decode cX9_placeWatchers 39 = .ok (.istore_n 1, 1) := by decide +kernel
theorem dX9_placeWatchers_40 : decode cX9_placeWatchers 40 = .ok (.iload_n 1, 1) := by decide +kernel
theorem dX9_placeWatchers_41 : decode cX9_placeWatchers 41 = .ok (.ifCond .ne 4, 3) := by decide +kernel
theorem dX9_placeWatchers_44 : decode cX9_placeWatchers 44 = .ok (.return_, 1) := by decide +kernel
theorem dX9_placeWatchers_45 : decode cX9_placeWatchers 45 = .ok (.iconst 0, 1) := by decide +kernel
theorem dX9_placeWatchers_46 : decode cX9_placeWatchers 46 = .ok (.istore_n 2, 1) := by decide +kernel
theorem dX9_placeWatchers_47 : decode cX9_placeWatchers 47 = .ok (.iload_n 2, 1) := by decide +kernel
theorem dX9_placeWatchers_48 : decode cX9_placeWatchers 48 = .ok (.aload_n 0, 1) := by decide +kernel
theorem dX9_placeWatchers_49 : decode cX9_placeWatchers 49 = .ok (.getfield 16, 3) := by decide +kernel
theorem dX9_placeWatchers_52 : decode cX9_placeWatchers 52 = .ok (.if_icmp .ge 33, 3) := by decide +kernel
theorem dX9_placeWatchers_55 : decode cX9_placeWatchers 55 = .ok (.aload_n 0, 1) := by decide +kernel
theorem dX9_placeWatchers_56 : decode cX9_placeWatchers 56 = .ok (.getfield 39, 3) := by decide +kernel
theorem dX9_placeWatchers_59 : decode cX9_placeWatchers 59 = .ok (.getfield 291, 3) := by decide +kernel
theorem dX9_placeWatchers_62 : decode cX9_placeWatchers 62 = .ok (.aload_n 0, 1) := by decide +kernel
theorem dX9_placeWatchers_63 : decode cX9_placeWatchers 63 = .ok (.getfield 39, 3) := by decide +kernel
theorem dX9_placeWatchers_66 : decode cX9_placeWatchers 66 = .ok (.aload_n 0, 1) := by decide +kernel
theorem dX9_placeWatchers_67 : decode cX9_placeWatchers 67 = .ok (.iload_n 1, 1) := by decide +kernel
theorem dX9_placeWatchers_68 : decode cX9_placeWatchers 68 = .ok (.invokevirtual 324, 3) := by decide +kernel
theorem dX9_placeWatchers_71 : decode cX9_placeWatchers 71 = .ok (.invokevirtual 327, 3) := by decide +kernel
theorem dX9_placeWatchers_74 : decode cX9_placeWatchers 74 = .ok (.dup2, 1) := by decide +kernel
theorem dX9_placeWatchers_75 : decode cX9_placeWatchers 75 = .ok (.iaload, 1) := by decide +kernel
theorem dX9_placeWatchers_76 : decode cX9_placeWatchers 76 = .ok (.iconst 1, 1) := by decide +kernel
theorem dX9_placeWatchers_77 : decode cX9_placeWatchers 77 = .ok (.iadd, 1) := by decide +kernel
theorem dX9_placeWatchers_78 : decode cX9_placeWatchers 78 = .ok (.iastore, 1) := by decide +kernel
theorem dX9_placeWatchers_79 : decode cX9_placeWatchers 79 = .ok (.iinc 2 1, 3) := by decide +kernel
theorem dX9_placeWatchers_82 : decode cX9_placeWatchers 82 = .ok (.goto (-35), 3) := by decide +kernel
theorem dX9_placeWatchers_85 : decode cX9_placeWatchers 85 = .ok (.return_, 1) := by decide +kernel
theorem dX9_drawBelow_0 : decode cX9_drawBelow 0 = .ok (.aload_n 0, 1) := by decide +kernel
theorem dX9_drawBelow_1 : decode cX9_drawBelow 1 = .ok (.aload_n 0, 1) := by decide +kernel
theorem dX9_drawBelow_2 : decode cX9_drawBelow 2 = .ok (.getfield 13, 3) := by decide +kernel
theorem dX9_drawBelow_5 : decode cX9_drawBelow 5 = .ok (.ldc_w 330, 3) := by decide +kernel
theorem dX9_drawBelow_8 : decode cX9_drawBelow 8 = .ok (.imul, 1) := by decide +kernel
theorem dX9_drawBelow_9 : decode cX9_drawBelow 9 = .ok (.sipush 12345, 3) := by decide +kernel
theorem dX9_drawBelow_12 : decode cX9_drawBelow 12 = .ok (.iadd, 1) := by decide +kernel
theorem dX9_drawBelow_13 : decode cX9_drawBelow 13 = .ok (.putfield 13, 3) := by decide +kernel
theorem dX9_drawBelow_16 : decode cX9_drawBelow 16 = .ok (.iload_n 1, 1) := by decide +kernel
theorem dX9_drawBelow_17 : decode cX9_drawBelow 17 = .ok (.ifCond .le 15, 3) := by decide +kernel
theorem dX9_drawBelow_20 : decode cX9_drawBelow 20 = .ok (.aload_n 0, 1) := by decide +kernel
theorem dX9_drawBelow_21 : decode cX9_drawBelow 21 = .ok (.getfield 13, 3) := by decide +kernel
theorem dX9_drawBelow_24 : decode cX9_drawBelow 24 = .ok (.bipush 16, 2) := by decide +kernel
theorem dX9_drawBelow_26 : decode cX9_drawBelow 26 = .ok (.iushr, 1) := by decide +kernel
theorem dX9_drawBelow_27 : decode cX9_drawBelow 27 = .ok (.iload_n 1, 1) := by decide +kernel
theorem dX9_drawBelow_28 : decode cX9_drawBelow 28 = .ok (.irem, 1) := by decide +kernel
theorem dX9_drawBelow_29 : decode cX9_drawBelow 29 = .ok (.goto 4, 3) := by decide +kernel
theorem dX9_drawBelow_32 : decode cX9_drawBelow 32 = .ok (.iconst 0, 1) := by decide +kernel
theorem dX9_drawBelow_33 : decode cX9_drawBelow 33 = .ok (.ireturn, 1) := by decide +kernel
theorem dX9_light_0 : decode cX9_light 0 = .ok (.bipush 15, 2) := by decide +kernel
theorem dX9_light_2 : decode cX9_light 2 = .ok (.aload_n 0, 1) := by decide +kernel
theorem dX9_light_3 : decode cX9_light 3 = .ok (.getfield 7, 3) := by decide +kernel
theorem dX9_light_6 : decode cX9_light 6 = .ok (.bipush 30, 2) := by decide +kernel
theorem dX9_light_8 : decode cX9_light 8 = .ok (.irem, 1) := by decide +kernel
theorem dX9_light_9 : decode cX9_light 9 = .ok (.isub, 1) := by decide +kernel
theorem dX9_light_10 : decode cX9_light 10 = .ok (.istore_n 1, 1) := by decide +kernel
theorem dX9_light_11 : decode cX9_light 11 = .ok (.iload_n 1, 1) := by decide +kernel
theorem dX9_light_12 : decode cX9_light 12 = .ok (.ifCond .ge 8, 3) := by decide +kernel
theorem dX9_light_15 : decode cX9_light 15 = .ok (.iload_n 1, 1) := by decide +kernel
theorem dX9_light_16 : decode cX9_light 16 = .ok (.ineg, 1) := by decide +kernel
theorem dX9_light_17 : decode cX9_light 17 = .ok (.goto 4, 3) := by decide +kernel
theorem dX9_light_20 : decode cX9_light 20 = .ok (.iload_n 1, 1) := by decide +kernel
theorem dX9_light_21 : decode cX9_light 21 = .ok (.ireturn, 1) := by decide +kernel
set_option maxRecDepth 20000 in
theorem ggX9_tideAt_X9_isTable : GoodIn wsX9_tideAt wsX9_isTable := goodIn_r _ [9] (by decide +kernel) (by decide +kernel)
set_option maxRecDepth 20000 in
theorem gX9_tideAt_X9_isTable : GoodIn wsX9_tideAt (va_wsS RX9 106 yX9_isTable wsX9_isTable) := goodIn_app (goodIn_of _ (by decide +kernel)) ggX9_tideAt_X9_isTable
theorem dX9_tideAt_0 : decode cX9_tideAt 0 = .ok (.aload_n 0, 1) := by decide +kernel
theorem dX9_tideAt_1 : decode cX9_tideAt 1 = .ok (.getfield 39, 3) := by decide +kernel
theorem dX9_tideAt_4 : decode cX9_tideAt 4 = .ok (.getfield 138, 3) := by decide +kernel
theorem dX9_tideAt_7 : decode cX9_tideAt 7 = .ok (.iload_n 1, 1) := by decide +kernel
theorem dX9_tideAt_8 : decode cX9_tideAt 8 = .ok (.iaload, 1) := by decide +kernel
theorem dX9_tideAt_9 : decode cX9_tideAt 9 = .ok (.istore_n 3, 1) := by decide +kernel
theorem dX9_tideAt_10 : decode cX9_tideAt 10 = .ok (.iload_n 3, 1) := by decide +kernel
theorem dX9_tideAt_11 : decode cX9_tideAt 11 = .ok (.invokestatic 106, 3) := by decide +kernel
theorem dX9_tideAt_14 : decode cX9_tideAt 14 = .ok (.ifCond .eq 37, 3) := by decide +kernel
theorem dX9_tideAt_17 : decode cX9_tideAt 17 = .ok (.aload_n 0, 1) := by decide +kernel
theorem dX9_tideAt_18 : decode cX9_tideAt 18 = .ok (.getfield 32, 3) := by decide +kernel
theorem dX9_tideAt_21 : decode cX9_tideAt 21 = .ok (.getfield 120, 3) := by decide +kernel
theorem dX9_tideAt_24 : decode cX9_tideAt 24 = .ok (.iload_n 3, 1) := by decide +kernel
theorem dX9_tideAt_25 : decode cX9_tideAt 25 = .ok (.iaload, 1) := by decide +kernel
theorem dX9_tideAt_26 : decode cX9_tideAt 26 = .ok (.ifCond .le 25, 3) := by decide +kernel
theorem dX9_tideAt_29 : decode cX9_tideAt 29 = .ok (.aload_n 0, 1) := by decide +kernel
theorem dX9_tideAt_30 : decode cX9_tideAt 30 = .ok (.getfield 32, 3) := by decide +kernel
theorem dX9_tideAt_33 : decode cX9_tideAt 33 = .ok (.getfield 123, 3) := by decide +kernel
theorem dX9_tideAt_36 : decode cX9_tideAt 36 = .ok (.iload_n 3, 1) := by decide +kernel
theorem dX9_tideAt_37 : decode cX9_tideAt 37 = .ok (.aaload, 1) := by decide +kernel
theorem dX9_tideAt_38 : decode cX9_tideAt 38 = .ok (.iload_n 2, 1) := by decide +kernel
theorem dX9_tideAt_39 : decode cX9_tideAt 39 = .ok (.aload_n 0, 1) := by decide +kernel
theorem dX9_tideAt_40 : decode cX9_tideAt 40 = .ok (.getfield 32, 3) := by decide +kernel
theorem dX9_tideAt_43 : decode cX9_tideAt 43 = .ok (.getfield 120, 3) := by decide +kernel
theorem dX9_tideAt_46 : decode cX9_tideAt 46 = .ok (.iload_n 3, 1) := by decide +kernel
theorem dX9_tideAt_47 : decode cX9_tideAt 47 = .ok (.iaload, 1) := by decide +kernel
theorem dX9_tideAt_48 : decode cX9_tideAt 48 = .ok (.irem, 1) := by decide +kernel
theorem dX9_tideAt_49 : decode cX9_tideAt 49 = .ok (.iaload, 1) := by decide +kernel
theorem dX9_tideAt_50 : decode cX9_tideAt 50 = .ok (.ireturn, 1) := by decide +kernel
theorem dX9_tideAt_51 : decode cX9_tideAt 51 = .ok (.bipush 7, 2) := by decide +kernel
theorem dX9_tideAt_53 : decode cX9_tideAt 53 = .ok (.iload_n 2, 1) := by decide +kernel
theorem dX9_tideAt_54 : decode cX9_tideAt 54 = .ok (.imul, 1) := by decide +kernel
theorem dX9_tideAt_55 : decode cX9_tideAt 55 = .ok (.iconst 5, 1) := by decide +kernel
theorem dX9_tideAt_56 : decode cX9_tideAt 56 = .ok (.iload_n 1, 1) := by decide +kernel
theorem dX9_tideAt_57 : decode cX9_tideAt 57 = .ok (.imul, 1) := by decide +kernel
theorem dX9_tideAt_58 : decode cX9_tideAt 58 = .ok (.iadd, 1) := by decide +kernel
theorem dX9_tideAt_59 : decode cX9_tideAt 59 = .ok (.bipush 24, 2) := by decide +kernel
theorem dX9_tideAt_61 : decode cX9_tideAt 61 = .ok (.irem, 1) := by decide +kernel
theorem dX9_tideAt_62 : decode cX9_tideAt 62 = .ok (.istore 4, 2) := by decide +kernel
theorem dX9_tideAt_64 : decode cX9_tideAt 64 = .ok (.iload 4, 2) := by decide +kernel
theorem dX9_tideAt_66 : decode cX9_tideAt 66 = .ok (.bipush 12, 2) := by decide +kernel
theorem dX9_tideAt_68 : decode cX9_tideAt 68 = .ok (.if_icmp .gt 8, 3) := by decide +kernel
theorem dX9_tideAt_71 : decode cX9_tideAt 71 = .ok (.iload 4, 2) := by decide +kernel
theorem dX9_tideAt_73 : decode cX9_tideAt 73 = .ok (.goto 8, 3) := by decide +kernel
theorem dX9_tideAt_76 : decode cX9_tideAt 76 = .ok (.bipush 24, 2) := by decide +kernel
theorem dX9_tideAt_78 : decode cX9_tideAt 78 = .ok (.iload 4, 2) := by decide +kernel
theorem dX9_tideAt_80 : decode cX9_tideAt 80 = .ok (.isub, 1) := by decide +kernel
theorem dX9_tideAt_81 : decode cX9_tideAt 81 = .ok (.ireturn, 1) := by decide +kernel
set_option maxRecDepth 20000 in
theorem ggX9_sendOut_X9_light : GoodIn wsX9_sendOut wsX9_light := goodIn_r _ [11, 12, 132, 133, 134, 135, 136, 137, 138, 139, 140, 141, 142, 143, 144, 145, 146] (by decide +kernel) (by decide +kernel)
set_option maxRecDepth 20000 in
theorem gX9_sendOut_X9_light : GoodIn wsX9_sendOut (wsV RX9 301 RX9 yX9_light wsX9_light) := goodIn_app (goodIn_of _ (by decide +kernel)) ggX9_sendOut_X9_light
set_option maxRecDepth 20000 in
theorem ggX9_sendOut_X9_chosenCove : GoodIn wsX9_sendOut wsX9_chosenCove := goodIn_r _ [16, 17, 18, 19, 10, 20, 12, 6, 21, 1, 22, 23, 24, 25, 26, 27, 28, 29, 30, 31, 32, 33, 34, 35, 36, 37, 38, 39, 132, 133, 134, 135, 136, 137, 138, 139, 140, 141, 142, 143, 144, 145, 146, 163, 164, 165, 166, 167, 168, 169, 147, 148, 149, 150, 151, 152, 153, 154, 155, 170, 171] (by decide +kernel) (by decide +kernel)
set_option maxRecDepth 20000 in
theorem gX9_sendOut_X9_chosenCove : GoodIn wsX9_sendOut (wsV RX9 334 RX9 yX9_chosenCove wsX9_chosenCove) := goodIn_app (goodIn_of _ (by decide +kernel)) ggX9_sendOut_X9_chosenCove
set_option maxRecDepth 20000 in
theorem ggX9_sendOut_X1_countingAt : GoodIn wsX9_sendOut wsX1_countingAt := goodIn_r _ [44, 45, 46, 163, 164, 165, 166, 167, 168, 169] (by decide +kernel) (by decide +kernel)
set_option maxRecDepth 20000 in
theorem gX9_sendOut_X1_countingAt : GoodIn wsX9_sendOut (wsV RX9 337 RX1 yX1_countingAt wsX1_countingAt) := goodIn_app (goodIn_of _ (by decide +kernel)) ggX9_sendOut_X1_countingAt
set_option maxRecDepth 20000 in
theorem ggX9_sendOut_X9_meetWatchers : GoodIn wsX9_sendOut wsX9_meetWatchers := goodIn_r _ [50, 1, 51, 2, 3, 12, 52, 53, 54, 55, 56, 57, 58, 59, 60, 61, 62, 63, 64, 65, 66, 67, 68, 69, 70, 71, 72, 73, 74, 75, 76, 77, 78, 79, 80, 81, 10, 82, 83, 84, 85, 86, 87, 88, 89, 90, 91, 92, 93, 94, 95, 96, 97, 98, 99, 100, 101, 102, 103, 104, 105, 106, 107, 132, 133, 134, 135, 136, 137, 138, 139, 140, 141, 142, 143, 144, 145, 146, 147, 148, 149, 150, 151, 152, 153, 154, 155, 156, 157, 158, 159, 160, 161, 162, 172, 173, 174, 175, 176, 177, 178, 179, 180, 181] (by decide +kernel) (by decide +kernel)
set_option maxRecDepth 20000 in
theorem gX9_sendOut_X9_meetWatchers : GoodIn wsX9_sendOut (wsV RX9 340 RX9 yX9_meetWatchers wsX9_meetWatchers) := goodIn_app (goodIn_of _ (by decide +kernel)) ggX9_sendOut_X9_meetWatchers
set_option maxRecDepth 20000 in
theorem ggX9_sendOut_X9_bringAshore : GoodIn wsX9_sendOut wsX9_bringAshore := goodIn_r _ [111, 1, 2, 112, 113, 3, 12, 114, 115, 116, 117, 118, 119, 120, 121, 122, 123, 54, 55, 56, 57, 58, 59, 60, 61, 62, 63, 64, 65, 132, 133, 134, 135, 136, 137, 138, 139, 140, 141, 142, 143, 144, 145, 146, 147, 148, 149, 150, 151, 152, 153, 154, 155, 182, 183, 184, 185, 186, 187, 188, 156, 157, 158, 159, 160, 161, 162] (by decide +kernel) (by decide +kernel)
set_option maxRecDepth 20000 in
theorem gX9_sendOut_X9_bringAshore : GoodIn wsX9_sendOut (wsV RX9 344 RX9 yX9_bringAshore wsX9_bringAshore) := goodIn_app (goodIn_of _ (by decide +kernel)) ggX9_sendOut_X9_bringAshore
set_option maxRecDepth 20000 in
theorem ggX9_sendOut_X9_lookAt : GoodIn wsX9_sendOut wsX9_lookAt := goodIn_r _ [127, 6, 128, 1, 129, 130, 10, 131, 98, 99, 100, 101, 102, 103, 104, 105, 106, 107, 132, 133, 134, 135, 136, 137, 138, 139, 140, 141, 142, 143, 144, 145, 146, 163, 164, 165, 166, 167, 168, 169, 147, 148, 149, 150, 151, 152, 153, 154, 155] (by decide +kernel) (by decide +kernel)
set_option maxRecDepth 20000 in
theorem gX9_sendOut_X9_lookAt : GoodIn wsX9_sendOut (wsV RX9 347 RX9 yX9_lookAt wsX9_lookAt) := goodIn_app (goodIn_of _ (by decide +kernel)) ggX9_sendOut_X9_lookAt
theorem dX9_sendOut_0 : decode cX9_sendOut 0 = .ok (.aload_n 0, 1) := by decide +kernel
theorem dX9_sendOut_1 : decode cX9_sendOut 1 = .ok (.getfield 46, 3) := by decide +kernel
theorem dX9_sendOut_4 : decode cX9_sendOut 4 = .ok (.getfield 158, 3) := by decide +kernel
theorem dX9_sendOut_7 : decode cX9_sendOut 7 = .ok (.iload_n 1, 1) := by decide +kernel
theorem dX9_sendOut_8 : decode cX9_sendOut 8 = .ok (.iaload, 1) := by decide +kernel
theorem dX9_sendOut_9 : decode cX9_sendOut 9 = .ok (.ifCond .eq 31, 3) := by decide +kernel
theorem dX9_sendOut_12 : decode cX9_sendOut 12 = .ok (.aload_n 0, 1) := by decide +kernel
theorem dX9_sendOut_13 : decode cX9_sendOut 13 = .ok (.getfield 60, 3) := by decide +kernel
theorem dX9_sendOut_16 : decode cX9_sendOut 16 = .ok (.getfield 185, 3) := by decide +kernel
theorem dX9_sendOut_19 : decode cX9_sendOut 19 = .ok (.bipush 100, 2) := by decide +kernel
theorem dX9_sendOut_21 : decode cX9_sendOut 21 = .ok (.if_icmp .ge 19, 3) := by decide +kernel
theorem dX9_sendOut_24 : decode cX9_sendOut 24 = .ok (.aload_n 0, 1) := by decide +kernel
theorem dX9_sendOut_25 : decode cX9_sendOut 25 = .ok (.invokevirtual 301, 3) := by decide +kernel
theorem dX9_sendOut_28 : decode cX9_sendOut 28 = .ok (.aload_n 0, 1) := by decide +kernel
theorem dX9_sendOut_29 : decode cX9_sendOut 29 = .ok (.getfield 46, 3) := by decide +kernel
theorem dX9_sendOut_32 : decode cX9_sendOut 32 = .ok (.getfield 331, 3) := by decide +kernel
theorem dX9_sendOut_35 : decode cX9_sendOut 35 = .ok (.iload_n 1, 1) := by decide +kernel
theorem dX9_sendOut_36 : decode cX9_sendOut 36 = .ok (.iaload, 1) := by decide +kernel
theorem dX9_sendOut_37 : decode cX9_sendOut 37 = .ok (.if_icmp .le 4, 3) := by decide +kernel
theorem dX9_sendOut_40 : decode cX9_sendOut 40 = .ok (.return_, 1) := by decide +kernel
theorem dX9_sendOut_41 : decode cX9_sendOut 41 = .ok (.aload_n 0, 1) := by decide +kernel
theorem dX9_sendOut_42 : decode cX9_sendOut 42 = .ok (.iload_n 1, 1) := by decide +kernel
theorem dX9_sendOut_43 : decode cX9_sendOut 43 = .ok (.invokevirtual 334, 3) := by decide +kernel
theorem dX9_sendOut_46 : decode cX9_sendOut 46 = .ok (.istore_n 2, 1) := by decide +kernel
theorem dX9_sendOut_47 : decode cX9_sendOut 47 = .ok (.iload_n 2, 1) := by decide +kernel
theorem dX9_sendOut_48 : decode cX9_sendOut 48 = .ok (.iconst (-1), 1) := by decide +kernel
theorem dX9_sendOut_49 : decode cX9_sendOut 49 = .ok (.if_icmp .ne 4, 3) := by decide +kernel
theorem dX9_sendOut_52 : decode cX9_sendOut 52 = .ok (.return_, 1) := by decide +kernel
theorem dX9_sendOut_53 : decode cX9_sendOut 53 = .ok (.aload_n 0, 1) := by decide +kernel
theorem dX9_sendOut_54 : decode cX9_sendOut 54 = .ok (.getfield 39, 3) := by decide +kernel
theorem dX9_sendOut_57 : decode cX9_sendOut 57 = .ok (.iload_n 2, 1) := by decide +kernel
theorem dX9_sendOut_58 : decode cX9_sendOut 58 = .ok (.invokevirtual 337, 3) := by decide +kernel
theorem dX9_sendOut_61 : decode cX9_sendOut 61 = .ok (.istore_n 3, 1) := by decide +kernel
theorem dX9_sendOut_62 : decode cX9_sendOut 62 = .ok (.iload_n 3, 1) := by decide +kernel
theorem dX9_sendOut_63 : decode cX9_sendOut 63 = .ok (.ifCond .le 13, 3) := by decide +kernel
theorem dX9_sendOut_66 : decode cX9_sendOut 66 = .ok (.aload_n 0, 1) := by decide +kernel
theorem dX9_sendOut_67 : decode cX9_sendOut 67 = .ok (.iload_n 1, 1) := by decide +kernel
theorem dX9_sendOut_68 : decode cX9_sendOut 68 = .ok (.iload_n 2, 1) := by decide +kernel
theorem dX9_sendOut_69 : decode cX9_sendOut 69 = .ok (.iload_n 3, 1) := by decide +kernel
theorem dX9_sendOut_70 : decode cX9_sendOut 70 = .ok (.invokevirtual 340, 3) := by decide +kernel
theorem dX9_sendOut_73 : decode cX9_sendOut 73 = .ok (.goto 9, 3) := by decide +kernel
theorem dX9_sendOut_76 : decode cX9_sendOut 76 = .ok (.aload_n 0, 1) := by decide +kernel
theorem dX9_sendOut_77 : decode cX9_sendOut 77 = .ok (.iload_n 1, 1) := by decide +kernel
theorem dX9_sendOut_78 : decode cX9_sendOut 78 = .ok (.iload_n 2, 1) := by decide +kernel
theorem dX9_sendOut_79 : decode cX9_sendOut 79 = .ok (.invokevirtual 344, 3) := by decide +kernel
theorem dX9_sendOut_82 : decode cX9_sendOut 82 = .ok (.aload_n 0, 1) := by decide +kernel
theorem dX9_sendOut_83 : decode cX9_sendOut 83 = .ok (.iload_n 1, 1) := by decide +kernel
theorem dX9_sendOut_84 : decode cX9_sendOut 84 = .ok (.iload_n 2, 1) := by decide +kernel
theorem dX9_sendOut_85 : decode cX9_sendOut 85 = .ok (.iconst 1, 1) := by decide +kernel
theorem dX9_sendOut_86 : decode cX9_sendOut 86 = .ok (.isub, 1) := by decide +kernel
theorem dX9_sendOut_87 : decode cX9_sendOut 87 = .ok (.invokevirtual 347, 3) := by decide +kernel
theorem dX9_sendOut_90 : decode cX9_sendOut 90 = .ok (.aload_n 0, 1) := by decide +kernel
theorem dX9_sendOut_91 : decode cX9_sendOut 91 = .ok (.iload_n 1, 1) := by decide +kernel
theorem dX9_sendOut_92 : decode cX9_sendOut 92 = .ok (.iload_n 2, 1) := by decide +kernel
theorem dX9_sendOut_93 : decode cX9_sendOut 93 = .ok (.iconst 1, 1) := by decide +kernel
theorem dX9_sendOut_94 : decode cX9_sendOut 94 = .ok (.iadd, 1) := by decide +kernel
theorem dX9_sendOut_95 : decode cX9_sendOut 95 = .ok (.invokevirtual 347, 3) := by decide +kernel
theorem dX9_sendOut_98 : decode cX9_sendOut 98 = .ok (.return_, 1) := by decide +kernel
set_option maxRecDepth 20000 in
theorem ggX9_chosenCove_X9_isOpen : GoodIn wsX9_chosenCove wsX9_isOpen := goodIn_r _ [5, 6, 7, 8, 9, 10, 11, 12, 13, 4, 14, 15, 16, 17, 18, 19, 20, 21, 28, 29, 30, 31, 32, 33, 34, 35, 36, 37, 38, 39, 40, 41, 42, 43, 44, 45, 46, 47, 48, 49, 50, 51, 52, 53, 54, 55, 56, 57, 58, 59, 60] (by decide +kernel) (by decide +kernel)
set_option maxRecDepth 20000 in
theorem gX9_chosenCove_X9_isOpen : GoodIn wsX9_chosenCove (wsV RX9 350 RX9 yX9_isOpen wsX9_isOpen) := goodIn_app (goodIn_of _ (by decide +kernel)) ggX9_chosenCove_X9_isOpen
set_option maxRecDepth 20000 in
theorem ggX9_chosenCove_X9_isDearer : GoodIn wsX9_chosenCove wsX9_isDearer := goodIn_r _ [25, 9, 26, 7, 27, 28, 29, 30, 31, 32, 33, 34, 35, 36, 37, 38, 39, 40, 41, 42, 50, 51, 52, 53, 54, 55, 56, 57, 58, 43, 44, 45, 46, 47, 48, 49] (by decide +kernel) (by decide +kernel)
set_option maxRecDepth 20000 in
theorem gX9_chosenCove_X9_isDearer : GoodIn wsX9_chosenCove (wsV RX9 353 RX9 yX9_isDearer wsX9_isDearer) := goodIn_app (goodIn_of _ (by decide +kernel)) ggX9_chosenCove_X9_isDearer
theorem dX9_chosenCove_0 : decode cX9_chosenCove 0 = .ok (.iconst (-1), 1) := by decide +kernel
theorem dX9_chosenCove_1 : decode cX9_chosenCove 1 = .ok (.istore_n 2, 1) := by decide +kernel
theorem dX9_chosenCove_2 : decode cX9_chosenCove 2 = .ok (.iconst 0, 1) := by decide +kernel
theorem dX9_chosenCove_3 : decode cX9_chosenCove 3 = .ok (.istore_n 3, 1) := by decide +kernel
theorem dX9_chosenCove_4 : decode cX9_chosenCove 4 = .ok (.iload_n 3, 1) := by decide +kernel
theorem dX9_chosenCove_5 : decode cX9_chosenCove 5 = .ok (.bipush 6, 2) := by decide +kernel
theorem dX9_chosenCove_7 : decode cX9_chosenCove 7 = .ok (.if_icmp .ge 35, 3) := by decide +kernel
theorem dX9_chosenCove_10 : decode cX9_chosenCove 10 = .ok (.aload_n 0, 1) := by decide +kernel
theorem dX9_chosenCove_11 : decode cX9_chosenCove 11 = .ok (.iload_n 1, 1) := by decide +kernel
theorem dX9_chosenCove_12 : decode cX9_chosenCove 12 = .ok (.iload_n 3, 1) := by decide +kernel
theorem dX9_chosenCove_13 : decode cX9_chosenCove 13 = .ok (.invokevirtual 350, 3) := by decide +kernel
theorem dX9_chosenCove_16 : decode cX9_chosenCove 16 = .ok (.ifCond .eq 20, 3) := by decide +kernel
theorem dX9_chosenCove_19 : decode cX9_chosenCove 19 = .ok (.iload_n 2, 1) := by decide +kernel
theorem dX9_chosenCove_20 : decode cX9_chosenCove 20 = .ok (.iconst (-1), 1) := by decide +kernel
theorem dX9_chosenCove_21 : decode cX9_chosenCove 21 = .ok (.if_icmp .eq 13, 3) := by decide +kernel
theorem dX9_chosenCove_24 : decode cX9_chosenCove 24 = .ok (.aload_n 0, 1) := by decide +kernel
theorem dX9_chosenCove_25 : decode cX9_chosenCove 25 = .ok (.iload_n 1, 1) := by decide +kernel
theorem dX9_chosenCove_26 : decode cX9_chosenCove 26 = .ok (.iload_n 3, 1) := by decide +kernel
theorem dX9_chosenCove_27 : decode cX9_chosenCove 27 = .ok (.iload_n 2, 1) := by decide +kernel
theorem dX9_chosenCove_28 : decode cX9_chosenCove 28 = .ok (.invokevirtual 353, 3) := by decide +kernel
theorem dX9_chosenCove_31 : decode cX9_chosenCove 31 = .ok (.ifCond .eq 5, 3) := by decide +kernel
theorem dX9_chosenCove_34 : decode cX9_chosenCove 34 = .ok (.iload_n 3, 1) := by decide +kernel
theorem dX9_chosenCove_35 : decode cX9_chosenCove 35 = .ok (.istore_n 2, 1) := by decide +kernel
theorem dX9_chosenCove_36 : decode cX9_chosenCove 36 = .ok (.iinc 3 1, 3) := by decide +kernel
theorem dX9_chosenCove_39 : decode cX9_chosenCove 39 = .ok (.goto (-35), 3) := by decide +kernel
theorem dX9_chosenCove_42 : decode cX9_chosenCove 42 = .ok (.iload_n 2, 1) := by decide +kernel
theorem dX9_chosenCove_43 : decode cX9_chosenCove 43 = .ok (.ireturn, 1) := by decide +kernel
set_option maxRecDepth 20000 in
theorem ggX9_isOpen_X9_tideAt : GoodIn wsX9_isOpen wsX9_tideAt := goodIn_r _ [10, 2, 11, 12, 13, 14, 15, 16, 9, 17, 18, 19, 20, 21, 22, 23, 24, 25, 26, 27, 28, 29, 30, 31, 32, 33, 34, 35, 36, 37, 38, 39, 49, 50] (by decide +kernel) (by decide +kernel)
set_option maxRecDepth 20000 in
theorem gX9_isOpen_X9_tideAt : GoodIn wsX9_isOpen (wsV RX9 141 RX9 yX9_tideAt wsX9_tideAt) := goodIn_app (goodIn_of _ (by decide +kernel)) ggX9_isOpen_X9_tideAt
theorem dX9_isOpen_0 : decode cX9_isOpen 0 = .ok (.aload_n 0, 1) := by decide +kernel
theorem dX9_isOpen_1 : decode cX9_isOpen 1 = .ok (.iload_n 2, 1) := by decide +kernel
theorem dX9_isOpen_2 : decode cX9_isOpen 2 = .ok (.aload_n 0, 1) := by decide +kernel
theorem dX9_isOpen_3 : decode cX9_isOpen 3 = .ok (.getfield 7, 3) := by decide +kernel
theorem dX9_isOpen_6 : decode cX9_isOpen 6 = .ok (.invokevirtual 141, 3) := by decide +kernel
theorem dX9_isOpen_9 : decode cX9_isOpen 9 = .ok (.aload_n 0, 1) := by decide +kernel
theorem dX9_isOpen_10 : decode cX9_isOpen 10 = .ok (.getfield 39, 3) := by decide +kernel
theorem dX9_isOpen_13 : decode cX9_isOpen 13 = .ok (.getfield 100, 3) := by decide +kernel
theorem dX9_isOpen_16 : decode cX9_isOpen 16 = .ok (.iload_n 2, 1) := by decide +kernel
theorem dX9_isOpen_17 : decode cX9_isOpen 17 = .ok (.iaload, 1) := by decide +kernel
theorem dX9_isOpen_18 : decode cX9_isOpen 18 = .ok (.iadd, 1) := by decide +kernel
theorem dX9_isOpen_19 : decode cX9_isOpen 19 = .ok (.aload_n 0, 1) := by decide +kernel
theorem dX9_isOpen_20 : decode cX9_isOpen 20 = .ok (.getfield 46, 3) := by decide +kernel
theorem dX9_isOpen_23 : decode cX9_isOpen 23 = .ok (.getfield 356, 3) := by decide +kernel
theorem dX9_isOpen_26 : decode cX9_isOpen 26 = .ok (.iload_n 1, 1) := by decide +kernel
theorem dX9_isOpen_27 : decode cX9_isOpen 27 = .ok (.iaload, 1) := by decide +kernel
theorem dX9_isOpen_28 : decode cX9_isOpen 28 = .ok (.if_icmp .lt 7, 3) := by decide +kernel
theorem dX9_isOpen_31 : decode cX9_isOpen 31 = .ok (.iconst 1, 1) := by decide +kernel
theorem dX9_isOpen_32 : decode cX9_isOpen 32 = .ok (.goto 4, 3) := by decide +kernel
theorem dX9_isOpen_35 : decode cX9_isOpen 35 = .ok (.iconst 0, 1) := by decide +kernel
theorem dX9_isOpen_36 : decode cX9_isOpen 36 = .ok (.ireturn, 1) := by decide +kernel
theorem dX9_isDearer_0 : decode cX9_isDearer 0 = .ok (.aload_n 0, 1) := by decide +kernel
theorem dX9_isDearer_1 : decode cX9_isDearer 1 = .ok (.getfield 46, 3) := by decide +kernel
theorem dX9_isDearer_4 : decode cX9_isDearer 4 = .ok (.getfield 281, 3) := by decide +kernel
theorem dX9_isDearer_7 : decode cX9_isDearer 7 = .ok (.iload_n 1, 1) := by decide +kernel
theorem dX9_isDearer_8 : decode cX9_isDearer 8 = .ok (.aaload, 1) := by decide +kernel
theorem dX9_isDearer_9 : decode cX9_isDearer 9 = .ok (.iload_n 2, 1) := by decide +kernel
theorem dX9_isDearer_10 : decode cX9_isDearer 10 = .ok (.iaload, 1) := by decide +kernel
theorem dX9_isDearer_11 : decode cX9_isDearer 11 = .ok (.istore 4, 2) := by decide +kernel
theorem dX9_isDearer_13 : decode cX9_isDearer 13 = .ok (.aload_n 0, 1) := by decide +kernel
theorem dX9_isDearer_14 : decode cX9_isDearer 14 = .ok (.getfield 46, 3) := by decide +kernel
theorem dX9_isDearer_17 : decode cX9_isDearer 17 = .ok (.getfield 281, 3) := by decide +kernel
theorem dX9_isDearer_20 : decode cX9_isDearer 20 = .ok (.iload_n 1, 1) := by decide +kernel
theorem dX9_isDearer_21 : decode cX9_isDearer 21 = .ok (.aaload, 1) := by decide +kernel
theorem dX9_isDearer_22 : decode cX9_isDearer 22 = .ok (.iload_n 3, 1) := by decide +kernel
theorem dX9_isDearer_23 : decode cX9_isDearer 23 = .ok (.iaload, 1) := by decide +kernel
theorem dX9_isDearer_24 : decode cX9_isDearer 24 = .ok (.istore 5, 2) := by decide +kernel
theorem dX9_isDearer_26 : decode cX9_isDearer 26 = .ok (.iload 4, 2) := by decide +kernel
theorem dX9_isDearer_28 : decode cX9_isDearer 28 = .ok (.iload 5, 2) := by decide +kernel
theorem dX9_isDearer_30 : decode cX9_isDearer 30 = .ok (.if_icmp .lt 31, 3) := by decide +kernel
theorem dX9_isDearer_33 : decode cX9_isDearer 33 = .ok (.iload 4, 2) := by decide +kernel
theorem dX9_isDearer_35 : decode cX9_isDearer 35 = .ok (.iload 5, 2) := by decide +kernel
theorem dX9_isDearer_37 : decode cX9_isDearer 37 = .ok (.if_icmp .ne 28, 3) := by decide +kernel
theorem dX9_isDearer_40 : decode cX9_isDearer 40 = .ok (.aload_n 0, 1) := by decide +kernel
theorem dX9_isDearer_41 : decode cX9_isDearer 41 = .ok (.getfield 39, 3) := by decide +kernel
theorem dX9_isDearer_44 : decode cX9_isDearer 44 = .ok (.getfield 103, 3) := by decide +kernel
theorem dX9_isDearer_47 : decode cX9_isDearer 47 = .ok (.iload_n 2, 1) := by decide +kernel
theorem dX9_isDearer_48 : decode cX9_isDearer 48 = .ok (.iaload, 1) := by decide +kernel
theorem dX9_isDearer_49 : decode cX9_isDearer 49 = .ok (.aload_n 0, 1) := by decide +kernel
theorem dX9_isDearer_50 : decode cX9_isDearer 50 = .ok (.getfield 39, 3) := by decide +kernel
theorem dX9_isDearer_53 : decode cX9_isDearer 53 = .ok (.getfield 103, 3) := by decide +kernel
theorem dX9_isDearer_56 : decode cX9_isDearer 56 = .ok (.iload_n 3, 1) := by decide +kernel
theorem dX9_isDearer_57 : decode cX9_isDearer 57 = .ok (.iaload, 1) := by decide +kernel
theorem dX9_isDearer_58 : decode cX9_isDearer 58 = .ok (.if_icmp .le 7, 3) := by decide +kernel
theorem dX9_isDearer_61 : decode cX9_isDearer 61 = .ok (.iconst 1, 1) := by decide +kernel
theorem dX9_isDearer_62 : decode cX9_isDearer 62 = .ok (.goto 4, 3) := by decide +kernel
theorem dX9_isDearer_65 : decode cX9_isDearer 65 = .ok (.iconst 0, 1) := by decide +kernel
theorem dX9_isDearer_66 : decode cX9_isDearer 66 = .ok (.ireturn, 1) := by decide +kernel
set_option maxRecDepth 20000 in
theorem ggX9_meetWatchers_X5_add : GoodIn wsX9_meetWatchers wsX5_add := goodIn_r _ [12, 13, 14, 15, 16, 17, 18, 19, 87, 88, 89, 90, 91, 92, 93] (by decide +kernel) (by decide +kernel)
set_option maxRecDepth 20000 in
theorem gX9_meetWatchers_X5_add : GoodIn wsX9_meetWatchers (wsV RX9 362 RX5 yX5_add wsX5_add) := goodIn_app (goodIn_of _ (by decide +kernel)) ggX9_meetWatchers_X5_add
set_option maxRecDepth 20000 in
theorem ggX9_meetWatchers_X8_firstInformer : GoodIn wsX9_meetWatchers wsX8_firstInformer := goodIn_r _ [24, 25, 26, 27, 28, 29, 23, 30, 31, 32, 94, 95, 96, 97, 98, 99] (by decide +kernel) (by decide +kernel)
set_option maxRecDepth 20000 in
theorem gX9_meetWatchers_X8_firstInformer : GoodIn wsX9_meetWatchers (wsV RX9 365 RX8 yX8_firstInformer wsX8_firstInformer) := goodIn_app (goodIn_of _ (by decide +kernel)) ggX9_meetWatchers_X8_firstInformer
set_option maxRecDepth 20000 in
theorem ggX9_meetWatchers_X9_partSeized : GoodIn wsX9_meetWatchers wsX9_partSeized := goodIn_r _ [37, 38, 39, 5, 40, 41, 42, 43, 44, 45, 46, 47, 48, 49, 50, 51, 36, 52, 63, 64, 65, 66, 67, 68, 69, 70, 71, 72, 73, 74, 75, 76, 77, 100, 101, 102, 103] (by decide +kernel) (by decide +kernel)
set_option maxRecDepth 20000 in
theorem gX9_meetWatchers_X9_partSeized : GoodIn wsX9_meetWatchers (wsV RX9 200 RX9 yX9_partSeized wsX9_partSeized) := goodIn_app (goodIn_of _ (by decide +kernel)) ggX9_meetWatchers_X9_partSeized
set_option maxRecDepth 20000 in
theorem ggX9_meetWatchers_X0_frighten : GoodIn wsX9_meetWatchers wsX0_frighten := goodIn_r _ [57, 58, 59, 60, 61, 62, 78, 79, 80, 81, 82, 83, 84, 85, 86] (by decide +kernel) (by decide +kernel)
set_option maxRecDepth 20000 in
theorem gX9_meetWatchers_X0_frighten : GoodIn wsX9_meetWatchers (wsV RX9 368 RX0 yX0_frighten wsX0_frighten) := goodIn_app (goodIn_of _ (by decide +kernel)) ggX9_meetWatchers_X0_frighten
theorem dX9_meetWatchers_0 : decode cX9_meetWatchers 0 = .ok (.aload_n 0, 1) := by decide +kernel
theorem dX9_meetWatchers_1 : decode cX9_meetWatchers 1 = .ok (.getfield 46, 3) := by decide +kernel
theorem dX9_meetWatchers_4 : decode cX9_meetWatchers 4 = .ok (.getfield 359, 3) := by decide +kernel
theorem dX9_meetWatchers_7 : decode cX9_meetWatchers 7 = .ok (.iload_n 1, 1) := by decide +kernel
theorem dX9_meetWatchers_8 : decode cX9_meetWatchers 8 = .ok (.iaload, 1) := by decide +kernel
theorem dX9_meetWatchers_9 : decode cX9_meetWatchers 9 = .ok (.bipush 10, 2) := by decide +kernel
theorem dX9_meetWatchers_11 : decode cX9_meetWatchers 11 = .ok (.iload_n 3, 1) := by decide +kernel
theorem dX9_meetWatchers_12 : decode cX9_meetWatchers 12 = .ok (.imul, 1) := by decide +kernel
theorem dX9_meetWatchers_13 : decode cX9_meetWatchers 13 = .ok (.if_icmp .ge 62, 3) := by decide +kernel
theorem dX9_meetWatchers_16 : decode cX9_meetWatchers 16 = .ok (.aload_n 0, 1) := by decide +kernel
theorem dX9_meetWatchers_17 : decode cX9_meetWatchers 17 = .ok (.getfield 46, 3) := by decide +kernel
theorem dX9_meetWatchers_20 : decode cX9_meetWatchers 20 = .ok (.getfield 158, 3) := by decide +kernel
theorem dX9_meetWatchers_23 : decode cX9_meetWatchers 23 = .ok (.iload_n 1, 1) := by decide +kernel
theorem dX9_meetWatchers_24 : decode cX9_meetWatchers 24 = .ok (.iaload, 1) := by decide +kernel
theorem dX9_meetWatchers_25 : decode cX9_meetWatchers 25 = .ok (.istore 4, 2) := by decide +kernel
theorem dX9_meetWatchers_27 : decode cX9_meetWatchers 27 = .ok (.aload_n 0, 1) := by decide +kernel
theorem dX9_meetWatchers_28 : decode cX9_meetWatchers 28 = .ok (.getfield 60, 3) := by decide +kernel
theorem dX9_meetWatchers_31 : decode cX9_meetWatchers 31 = .ok (.iload_n 1, 1) := by decide +kernel
theorem dX9_meetWatchers_32 : decode cX9_meetWatchers 32 = .ok (.iload 4, 2) := by decide +kernel
theorem dX9_meetWatchers_34 : decode cX9_meetWatchers 34 = .ok (.aload_n 0, 1) := by decide +kernel
theorem dX9_meetWatchers_35 : decode cX9_meetWatchers 35 = .ok (.getfield 7, 3) := by decide +kernel
theorem dX9_meetWatchers_38 : decode cX9_meetWatchers 38 = .ok (.iload_n 2, 1) := by decide +kernel
theorem dX9_meetWatchers_39 : decode cX9_meetWatchers 39 = .ok (.iconst 1, 1) := by decide +kernel
theorem dX9_meetWatchers_40 : decode cX9_meetWatchers 40 = .ok (.iconst (-1), 1) := by decide +kernel
theorem dX9_meetWatchers_41 : decode cX9_meetWatchers 41 = .ok (.invokevirtual 362, 3) := by decide +kernel
theorem dX9_meetWatchers_44 : decode cX9_meetWatchers 44 = .ok (.aload_n 0, 1) := by decide +kernel
theorem dX9_meetWatchers_45 : decode cX9_meetWatchers 45 = .ok (.iload 4, 2) := by decide +kernel
theorem dX9_meetWatchers_47 : decode cX9_meetWatchers 47 = .ok (.aload_n 0, 1) := by decide +kernel
theorem dX9_meetWatchers_48 : decode cX9_meetWatchers 48 = .ok (.getfield 74, 3) := by decide +kernel
theorem dX9_meetWatchers_51 : decode cX9_meetWatchers 51 = .ok (.aload_n 0, 1) := by decide +kernel
theorem dX9_meetWatchers_52 : decode cX9_meetWatchers 52 = .ok (.getfield 7, 3) := by decide +kernel
theorem dX9_meetWatchers_55 : decode cX9_meetWatchers 55 = .ok (.iload_n 2, 1) := by decide +kernel
theorem dX9_meetWatchers_56 : decode cX9_meetWatchers 56 = .ok (.invokevirtual 365, 3) := by decide +kernel
theorem dX9_meetWatchers_59 : decode cX9_meetWatchers 59 = .ok (.invokevirtual 200, 3) := by decide +kernel
theorem dX9_meetWatchers_62 : decode cX9_meetWatchers 62 = .ok (.aload_n 0, 1) := by decide +kernel
theorem dX9_meetWatchers_63 : decode cX9_meetWatchers 63 = .ok (.getfield 46, 3) := by decide +kernel
theorem dX9_meetWatchers_66 : decode cX9_meetWatchers 66 = .ok (.getfield 158, 3) := by decide +kernel
theorem dX9_meetWatchers_69 : decode cX9_meetWatchers 69 = .ok (.iload_n 1, 1) := by decide +kernel
theorem dX9_meetWatchers_70 : decode cX9_meetWatchers 70 = .ok (.iconst 0, 1) := by decide +kernel
theorem dX9_meetWatchers_71 : decode cX9_meetWatchers 71 = .ok (.iastore, 1) := by decide +kernel
theorem dX9_meetWatchers_72 : decode cX9_meetWatchers 72 = .ok (.goto 16, 3) := by decide +kernel
theorem dX9_meetWatchers_75 : decode cX9_meetWatchers 75 = .ok (.aload_n 0, 1) := by decide +kernel
theorem dX9_meetWatchers_76 : decode cX9_meetWatchers 76 = .ok (.getfield 46, 3) := by decide +kernel
theorem dX9_meetWatchers_79 : decode cX9_meetWatchers 79 = .ok (.getfield 284, 3) := by decide +kernel
theorem dX9_meetWatchers_82 : decode cX9_meetWatchers 82 = .ok (.iload_n 1, 1) := by decide +kernel
theorem dX9_meetWatchers_83 : decode cX9_meetWatchers 83 = .ok (.dup2, 1) := by decide +kernel
theorem dX9_meetWatchers_84 : decode cX9_meetWatchers 84 = .ok (.iaload, 1) := by decide +kernel
theorem dX9_meetWatchers_85 : decode cX9_meetWatchers 85 = .ok (.iconst 1, 1) := by decide +kernel
theorem dX9_meetWatchers_86 : decode cX9_meetWatchers 86 = .ok (.iadd, 1) := by decide +kernel
theorem dX9_meetWatchers_87 : decode cX9_meetWatchers 87 = .ok (.iastore, 1) := by decide +kernel
theorem dX9_meetWatchers_88 : decode cX9_meetWatchers 88 = .ok (.aload_n 0, 1) := by decide +kernel
theorem dX9_meetWatchers_89 : decode cX9_meetWatchers 89 = .ok (.getfield 46, 3) := by decide +kernel
theorem dX9_meetWatchers_92 : decode cX9_meetWatchers 92 = .ok (.iload_n 1, 1) := by decide +kernel
theorem dX9_meetWatchers_93 : decode cX9_meetWatchers 93 = .ok (.iload_n 2, 1) := by decide +kernel
theorem dX9_meetWatchers_94 : decode cX9_meetWatchers 94 = .ok (.bipush 25, 2) := by decide +kernel
theorem dX9_meetWatchers_96 : decode cX9_meetWatchers 96 = .ok (.invokevirtual 368, 3) := by decide +kernel
theorem dX9_meetWatchers_99 : decode cX9_meetWatchers 99 = .ok (.return_, 1) := by decide +kernel
set_option maxRecDepth 20000 in
theorem ggX9_bringAshore_X3_firstWithRoom : GoodIn wsX9_bringAshore wsX3_firstWithRoom := goodIn_r _ [12, 13, 14, 15, 16, 53, 54, 55, 56, 57, 58, 59] (by decide +kernel) (by decide +kernel)
set_option maxRecDepth 20000 in
theorem gX9_bringAshore_X3_firstWithRoom : GoodIn wsX9_bringAshore (wsV RX9 371 RX3 yX3_firstWithRoom wsX3_firstWithRoom) := goodIn_app (goodIn_of _ (by decide +kernel)) ggX9_bringAshore_X3_firstWithRoom
set_option maxRecDepth 20000 in
theorem ggX9_bringAshore_X5_add : GoodIn wsX9_bringAshore wsX5_add := goodIn_r _ [21, 22, 23, 24, 25, 26, 27, 28, 60, 61, 62, 63, 64, 65, 66] (by decide +kernel) (by decide +kernel)
set_option maxRecDepth 20000 in
theorem gX9_bringAshore_X5_add : GoodIn wsX9_bringAshore (wsV RX9 362 RX5 yX5_add wsX5_add) := goodIn_app (goodIn_of _ (by decide +kernel)) ggX9_bringAshore_X5_add
theorem dX9_bringAshore_0 : decode cX9_bringAshore 0 = .ok (.aload_n 0, 1) := by decide +kernel
theorem dX9_bringAshore_1 : decode cX9_bringAshore 1 = .ok (.getfield 46, 3) := by decide +kernel
theorem dX9_bringAshore_4 : decode cX9_bringAshore 4 = .ok (.getfield 158, 3) := by decide +kernel
theorem dX9_bringAshore_7 : decode cX9_bringAshore 7 = .ok (.iload_n 1, 1) := by decide +kernel
theorem dX9_bringAshore_8 : decode cX9_bringAshore 8 = .ok (.iaload, 1) := by decide +kernel
theorem dX9_bringAshore_9 : decode cX9_bringAshore 9 = .ok (.istore_n 3, 1) := by decide +kernel
theorem dX9_bringAshore_10 : decode cX9_bringAshore 10 = .ok (.aload_n 0, 1) := by decide +kernel
theorem dX9_bringAshore_11 : decode cX9_bringAshore 11 = .ok (.getfield 53, 3) := by decide +kernel
theorem dX9_bringAshore_14 : decode cX9_bringAshore 14 = .ok (.iload_n 2, 1) := by decide +kernel
theorem dX9_bringAshore_15 : decode cX9_bringAshore 15 = .ok (.iload_n 3, 1) := by decide +kernel
theorem dX9_bringAshore_16 : decode cX9_bringAshore 16 = .ok (.invokevirtual 371, 3) := by decide +kernel
theorem dX9_bringAshore_19 : decode cX9_bringAshore 19 = .ok (.istore 4, 2) := by decide +kernel
theorem dX9_bringAshore_21 : decode cX9_bringAshore 21 = .ok (.iload 4, 2) := by decide +kernel
theorem dX9_bringAshore_23 : decode cX9_bringAshore 23 = .ok (.iconst (-1), 1) := by decide +kernel
theorem dX9_bringAshore_24 : decode cX9_bringAshore 24 = .ok (.if_icmp .ne 17, 3) := by decide +kernel
theorem dX9_bringAshore_27 : decode cX9_bringAshore 27 = .ok (.aload_n 0, 1) := by decide +kernel
theorem dX9_bringAshore_28 : decode cX9_bringAshore 28 = .ok (.getfield 46, 3) := by decide +kernel
theorem dX9_bringAshore_31 : decode cX9_bringAshore 31 = .ok (.getfield 287, 3) := by decide +kernel
theorem dX9_bringAshore_34 : decode cX9_bringAshore 34 = .ok (.iload_n 1, 1) := by decide +kernel
theorem dX9_bringAshore_35 : decode cX9_bringAshore 35 = .ok (.dup2, 1) := by decide +kernel
theorem dX9_bringAshore_36 : decode cX9_bringAshore 36 = .ok (.iaload, 1) := by decide +kernel
theorem dX9_bringAshore_37 : decode cX9_bringAshore 37 = .ok (.iconst 1, 1) := by decide +kernel
theorem dX9_bringAshore_38 : decode cX9_bringAshore 38 = .ok (.iadd, 1) := by decide +kernel
theorem dX9_bringAshore_39 : decode cX9_bringAshore 39 = .ok (.iastore, 1) := by decide +kernel
theorem dX9_bringAshore_40 : decode cX9_bringAshore 40 = .ok (.return_, 1) := by decide +kernel
theorem dX9_bringAshore_41 : decode cX9_bringAshore 41 = .ok (.aload_n 0, 1) := by decide +kernel
theorem dX9_bringAshore_42 : decode cX9_bringAshore 42 = .ok (.getfield 60, 3) := by decide +kernel
theorem dX9_bringAshore_45 : decode cX9_bringAshore 45 = .ok (.iload_n 1, 1) := by decide +kernel
theorem dX9_bringAshore_46 : decode cX9_bringAshore 46 = .ok (.iload_n 3, 1) := by decide +kernel
theorem dX9_bringAshore_47 : decode cX9_bringAshore 47 = .ok (.aload_n 0, 1) := by decide +kernel
theorem dX9_bringAshore_48 : decode cX9_bringAshore 48 = .ok (.getfield 7, 3) := by decide +kernel
theorem dX9_bringAshore_51 : decode cX9_bringAshore 51 = .ok (.iload_n 2, 1) := by decide +kernel
theorem dX9_bringAshore_52 : decode cX9_bringAshore 52 = .ok (.iconst 0, 1) := by decide +kernel
theorem dX9_bringAshore_53 : decode cX9_bringAshore 53 = .ok (.iload 4, 2) := by decide +kernel
theorem dX9_bringAshore_55 : decode cX9_bringAshore 55 = .ok (.invokevirtual 362, 3) := by decide +kernel
theorem dX9_bringAshore_58 : decode cX9_bringAshore 58 = .ok (.aload_n 0, 1) := by decide +kernel
theorem dX9_bringAshore_59 : decode cX9_bringAshore 59 = .ok (.getfield 53, 3) := by decide +kernel
theorem dX9_bringAshore_62 : decode cX9_bringAshore 62 = .ok (.getfield 203, 3) := by decide +kernel
theorem dX9_bringAshore_65 : decode cX9_bringAshore 65 = .ok (.iload 4, 2) := by decide +kernel
theorem dX9_bringAshore_67 : decode cX9_bringAshore 67 = .ok (.dup2, 1) := by decide +kernel
theorem dX9_bringAshore_68 : decode cX9_bringAshore 68 = .ok (.iaload, 1) := by decide +kernel
theorem dX9_bringAshore_69 : decode cX9_bringAshore 69 = .ok (.iload_n 3, 1) := by decide +kernel
theorem dX9_bringAshore_70 : decode cX9_bringAshore 70 = .ok (.iadd, 1) := by decide +kernel
theorem dX9_bringAshore_71 : decode cX9_bringAshore 71 = .ok (.iastore, 1) := by decide +kernel
theorem dX9_bringAshore_72 : decode cX9_bringAshore 72 = .ok (.aload_n 0, 1) := by decide +kernel
theorem dX9_bringAshore_73 : decode cX9_bringAshore 73 = .ok (.getfield 46, 3) := by decide +kernel
theorem dX9_bringAshore_76 : decode cX9_bringAshore 76 = .ok (.getfield 158, 3) := by decide +kernel
theorem dX9_bringAshore_79 : decode cX9_bringAshore 79 = .ok (.iload_n 1, 1) := by decide +kernel
theorem dX9_bringAshore_80 : decode cX9_bringAshore 80 = .ok (.iconst 0, 1) := by decide +kernel
theorem dX9_bringAshore_81 : decode cX9_bringAshore 81 = .ok (.iastore, 1) := by decide +kernel
theorem dX9_bringAshore_82 : decode cX9_bringAshore 82 = .ok (.return_, 1) := by decide +kernel
set_option maxRecDepth 20000 in
theorem ggX9_lookAt_X9_isCove : GoodIn wsX9_lookAt wsX9_isCove := goodIn_r _ [7] (by decide +kernel) (by decide +kernel)
set_option maxRecDepth 20000 in
theorem gX9_lookAt_X9_isCove : GoodIn wsX9_lookAt (va_wsS RX9 92 yX9_isCove wsX9_isCove) := goodIn_app (goodIn_of _ (by decide +kernel)) ggX9_lookAt_X9_isCove
set_option maxRecDepth 20000 in
theorem ggX9_lookAt_X0_frighten : GoodIn wsX9_lookAt wsX0_frighten := goodIn_r _ [12, 13, 14, 15, 16, 17, 40, 41, 42, 43, 44, 45, 46, 47, 48] (by decide +kernel) (by decide +kernel)
set_option maxRecDepth 20000 in
theorem gX9_lookAt_X0_frighten : GoodIn wsX9_lookAt (wsV RX9 368 RX0 yX0_frighten wsX0_frighten) := goodIn_app (goodIn_of _ (by decide +kernel)) ggX9_lookAt_X0_frighten
theorem dX9_lookAt_0 : decode cX9_lookAt 0 = .ok (.iload_n 2, 1) := by decide +kernel
theorem dX9_lookAt_1 : decode cX9_lookAt 1 = .ok (.invokestatic 92, 3) := by decide +kernel
theorem dX9_lookAt_4 : decode cX9_lookAt 4 = .ok (.ifCond .eq 25, 3) := by decide +kernel
theorem dX9_lookAt_7 : decode cX9_lookAt 7 = .ok (.aload_n 0, 1) := by decide +kernel
theorem dX9_lookAt_8 : decode cX9_lookAt 8 = .ok (.getfield 39, 3) := by decide +kernel
theorem dX9_lookAt_11 : decode cX9_lookAt 11 = .ok (.getfield 291, 3) := by decide +kernel
theorem dX9_lookAt_14 : decode cX9_lookAt 14 = .ok (.iload_n 2, 1) := by decide +kernel
theorem dX9_lookAt_15 : decode cX9_lookAt 15 = .ok (.iaload, 1) := by decide +kernel
theorem dX9_lookAt_16 : decode cX9_lookAt 16 = .ok (.ifCond .le 13, 3) := by decide +kernel
theorem dX9_lookAt_19 : decode cX9_lookAt 19 = .ok (.aload_n 0, 1) := by decide +kernel
theorem dX9_lookAt_20 : decode cX9_lookAt 20 = .ok (.getfield 46, 3) := by decide +kernel
theorem dX9_lookAt_23 : decode cX9_lookAt 23 = .ok (.iload_n 1, 1) := by decide +kernel
theorem dX9_lookAt_24 : decode cX9_lookAt 24 = .ok (.iload_n 2, 1) := by decide +kernel
theorem dX9_lookAt_25 : decode cX9_lookAt 25 = .ok (.iconst 5, 1) := by decide +kernel
theorem dX9_lookAt_26 : decode cX9_lookAt 26 = .ok (.invokevirtual 368, 3) := by decide +kernel
theorem dX9_lookAt_29 : decode cX9_lookAt 29 = .ok (.return_, 1) := by decide +kernel
set_option maxRecDepth 20000 in
theorem ggX9_partSeized_X4_inForceOn : GoodIn wsX9_partSeized wsX4_inForceOn := goodIn_r _ [11, 12, 13, 33, 34, 35, 36] (by decide +kernel) (by decide +kernel)
set_option maxRecDepth 20000 in
theorem gX9_partSeized_X4_inForceOn : GoodIn wsX9_partSeized (wsV RX9 374 RX4 yX4_inForceOn wsX4_inForceOn) := goodIn_app (goodIn_of _ (by decide +kernel)) ggX9_partSeized_X4_inForceOn
set_option maxRecDepth 20000 in
theorem ggX9_partSeized_X9_isInformer : GoodIn wsX9_partSeized wsX9_isInformer := goodIn_r _ [17] (by decide +kernel) (by decide +kernel)
set_option maxRecDepth 20000 in
theorem gX9_partSeized_X9_isInformer : GoodIn wsX9_partSeized (va_wsS RX9 177 yX9_isInformer wsX9_isInformer) := goodIn_app (goodIn_of _ (by decide +kernel)) ggX9_partSeized_X9_isInformer
theorem dX9_partSeized_0 : decode cX9_partSeized 0 = .ok (.iload_n 1, 1) := by decide +kernel
theorem dX9_partSeized_1 : decode cX9_partSeized 1 = .ok (.aload_n 0, 1) := by decide +kernel
theorem dX9_partSeized_2 : decode cX9_partSeized 2 = .ok (.getfield 19, 3) := by decide +kernel
theorem dX9_partSeized_5 : decode cX9_partSeized 5 = .ok (.imul, 1) := by decide +kernel
theorem dX9_partSeized_6 : decode cX9_partSeized 6 = .ok (.istore_n 3, 1) := by decide +kernel
theorem dX9_partSeized_7 : decode cX9_partSeized 7 = .ok (.aload_n 0, 1) := by decide +kernel
theorem dX9_partSeized_8 : decode cX9_partSeized 8 = .ok (.getfield 67, 3) := by decide +kernel
theorem dX9_partSeized_11 : decode cX9_partSeized 11 = .ok (.aload_n 0, 1) := by decide +kernel
theorem dX9_partSeized_12 : decode cX9_partSeized 12 = .ok (.getfield 7, 3) := by decide +kernel
theorem dX9_partSeized_15 : decode cX9_partSeized 15 = .ok (.invokevirtual 374, 3) := by decide +kernel
theorem dX9_partSeized_18 : decode cX9_partSeized 18 = .ok (.istore 4, 2) := by decide +kernel
theorem dX9_partSeized_20 : decode cX9_partSeized 20 = .ok (.iconst 0, 1) := by decide +kernel
theorem dX9_partSeized_21 : decode cX9_partSeized 21 = .ok (.istore 5, 2) := by decide +kernel
theorem dX9_partSeized_23 : decode cX9_partSeized 23 = .ok (.iconst 0, 1) := by decide +kernel
theorem dX9_partSeized_24 : decode cX9_partSeized 24 = .ok (.istore 6, 2) := by decide +kernel
theorem dX9_partSeized_26 : decode cX9_partSeized 26 = .ok (.iload 4, 2) := by decide +kernel
theorem dX9_partSeized_28 : decode cX9_partSeized 28 = .ok (.iconst (-1), 1) := by decide +kernel
theorem dX9_partSeized_29 : decode cX9_partSeized 29 = .ok (.if_icmp .eq 57, 3) := by decide +kernel
theorem dX9_partSeized_32 : decode cX9_partSeized 32 = .ok (.iload_n 3, 1) := by decide +kernel
theorem dX9_partSeized_33 : decode cX9_partSeized 33 = .ok (.aload_n 0, 1) := by decide +kernel
theorem dX9_partSeized_34 : decode cX9_partSeized 34 = .ok (.getfield 67, 3) := by decide +kernel
theorem dX9_partSeized_37 : decode cX9_partSeized 37 = .ok (.getfield 377, 3) := by decide +kernel
theorem dX9_partSeized_40 : decode cX9_partSeized 40 = .ok (.iload 4, 2) := by decide +kernel
theorem dX9_partSeized_42 : decode cX9_partSeized 42 = .ok (.iaload, 1) := by decide +kernel
theorem dX9_partSeized_43 : decode cX9_partSeized 43 = .ok (.imul, 1) := by decide +kernel
theorem dX9_partSeized_44 : decode cX9_partSeized 44 = .ok (.bipush 100, 2) := by decide +kernel
theorem dX9_partSeized_46 : decode cX9_partSeized 46 = .ok (.idiv, 1) := by decide +kernel
theorem dX9_partSeized_47 : decode cX9_partSeized 47 = .ok (.istore 5, 2) := by decide +kernel
theorem dX9_partSeized_49 : decode cX9_partSeized 49 = .ok (.iload_n 2, 1) := by decide +kernel
theorem dX9_partSeized_50 : decode cX9_partSeized 50 = .ok (.invokestatic 177, 3) := by decide +kernel
theorem dX9_partSeized_53 : decode cX9_partSeized 53 = .ok (.ifCond .eq 33, 3) := by decide +kernel
theorem dX9_partSeized_56 : decode cX9_partSeized 56 = .ok (.iload_n 3, 1) := by decide +kernel
theorem dX9_partSeized_57 : decode cX9_partSeized 57 = .ok (.aload_n 0, 1) := by decide +kernel
theorem dX9_partSeized_58 : decode cX9_partSeized 58 = .ok (.getfield 67, 3) := by decide +kernel
theorem dX9_partSeized_61 : decode cX9_partSeized 61 = .ok (.getfield 380, 3) := by decide +kernel
theorem dX9_partSeized_64 : decode cX9_partSeized 64 = .ok (.iload 4, 2) := by decide +kernel
theorem dX9_partSeized_66 : decode cX9_partSeized 66 = .ok (.iaload, 1) := by decide +kernel
theorem dX9_partSeized_67 : decode cX9_partSeized 67 = .ok (.imul, 1) := by decide +kernel
theorem dX9_partSeized_68 : decode cX9_partSeized 68 = .ok (.bipush 100, 2) := by decide +kernel
theorem dX9_partSeized_70 : decode cX9_partSeized 70 = .ok (.idiv, 1) := by decide +kernel
theorem dX9_partSeized_71 : decode cX9_partSeized 71 = .ok (.istore 6, 2) := by decide +kernel
theorem dX9_partSeized_73 : decode cX9_partSeized 73 = .ok (.aload_n 0, 1) := by decide +kernel
theorem dX9_partSeized_74 : decode cX9_partSeized 74 = .ok (.getfield 26, 3) := by decide +kernel
theorem dX9_partSeized_77 : decode cX9_partSeized 77 = .ok (.iconst 2, 1) := by decide +kernel
theorem dX9_partSeized_78 : decode cX9_partSeized 78 = .ok (.iload_n 2, 1) := by decide +kernel
theorem dX9_partSeized_79 : decode cX9_partSeized 79 = .ok (.iadd, 1) := by decide +kernel
theorem dX9_partSeized_80 : decode cX9_partSeized 80 = .ok (.dup2, 1) := by decide +kernel
theorem dX9_partSeized_81 : decode cX9_partSeized 81 = .ok (.iaload, 1) := by decide +kernel
theorem dX9_partSeized_82 : decode cX9_partSeized 82 = .ok (.iload 6, 2) := by decide +kernel
theorem dX9_partSeized_84 : decode cX9_partSeized 84 = .ok (.iadd, 1) := by decide +kernel
theorem dX9_partSeized_85 : decode cX9_partSeized 85 = .ok (.iastore, 1) := by decide +kernel
theorem dX9_partSeized_86 : decode cX9_partSeized 86 = .ok (.aload_n 0, 1) := by decide +kernel
theorem dX9_partSeized_87 : decode cX9_partSeized 87 = .ok (.getfield 26, 3) := by decide +kernel
theorem dX9_partSeized_90 : decode cX9_partSeized 90 = .ok (.iconst 0, 1) := by decide +kernel
theorem dX9_partSeized_91 : decode cX9_partSeized 91 = .ok (.dup2, 1) := by decide +kernel
theorem dX9_partSeized_92 : decode cX9_partSeized 92 = .ok (.iaload, 1) := by decide +kernel
theorem dX9_partSeized_93 : decode cX9_partSeized 93 = .ok (.iload 5, 2) := by decide +kernel
theorem dX9_partSeized_95 : decode cX9_partSeized 95 = .ok (.iadd, 1) := by decide +kernel
theorem dX9_partSeized_96 : decode cX9_partSeized 96 = .ok (.iastore, 1) := by decide +kernel
theorem dX9_partSeized_97 : decode cX9_partSeized 97 = .ok (.aload_n 0, 1) := by decide +kernel
theorem dX9_partSeized_98 : decode cX9_partSeized 98 = .ok (.getfield 26, 3) := by decide +kernel
theorem dX9_partSeized_101 : decode cX9_partSeized 101 = .ok (.iconst 1, 1) := by decide +kernel
theorem dX9_partSeized_102 : decode cX9_partSeized 102 = .ok (.dup2, 1) := by decide +kernel
theorem dX9_partSeized_103 : decode cX9_partSeized 103 = .ok (.iaload, 1) := by decide +kernel
theorem dX9_partSeized_104 : decode cX9_partSeized 104 = .ok (.iload_n 3, 1) := by decide +kernel
theorem dX9_partSeized_105 : decode cX9_partSeized 105 = .ok (.iload 5, 2) := by decide +kernel
theorem dX9_partSeized_107 : decode cX9_partSeized 107 = .ok (.isub, 1) := by decide +kernel
theorem dX9_partSeized_108 : decode cX9_partSeized 108 = .ok (.iload 6, 2) := by decide +kernel
theorem dX9_partSeized_110 : decode cX9_partSeized 110 = .ok (.isub, 1) := by decide +kernel
theorem dX9_partSeized_111 : decode cX9_partSeized 111 = .ok (.iadd, 1) := by decide +kernel
theorem dX9_partSeized_112 : decode cX9_partSeized 112 = .ok (.iastore, 1) := by decide +kernel
theorem dX9_partSeized_113 : decode cX9_partSeized 113 = .ok (.return_, 1) := by decide +kernel
set_option maxRecDepth 20000 in
theorem ggX9_proveWords_X5_cameTo : GoodIn wsX9_proveWords wsX5_cameTo := goodIn_r _ [12, 13, 14, 15, 57, 58, 59, 60, 61, 62, 63] (by decide +kernel) (by decide +kernel)
set_option maxRecDepth 20000 in
theorem gX9_proveWords_X5_cameTo : GoodIn wsX9_proveWords (wsV RX9 385 RX5 yX5_cameTo wsX5_cameTo) := goodIn_app (goodIn_of _ (by decide +kernel)) ggX9_proveWords_X5_cameTo
set_option maxRecDepth 20000 in
theorem ggX9_proveWords_X8_prove : GoodIn wsX9_proveWords wsX8_prove := goodIn_r _ [20, 21, 22, 23, 51, 52, 53, 54, 55, 56] (by decide +kernel) (by decide +kernel)
set_option maxRecDepth 20000 in
theorem gX9_proveWords_X8_prove : GoodIn wsX9_proveWords (wsV RX9 388 RX8 yX8_prove wsX8_prove) := goodIn_app (goodIn_of _ (by decide +kernel)) ggX9_proveWords_X8_prove
set_option maxRecDepth 20000 in
theorem ggX9_proveWords_X3_suspect : GoodIn wsX9_proveWords wsX3_suspect := goodIn_r _ [28, 29, 30, 31, 32, 33, 34, 35, 64, 65, 66, 67, 68, 69, 70] (by decide +kernel) (by decide +kernel)
set_option maxRecDepth 20000 in
theorem gX9_proveWords_X3_suspect : GoodIn wsX9_proveWords (wsV RX9 392 RX3 yX3_suspect wsX3_suspect) := goodIn_app (goodIn_of _ (by decide +kernel)) ggX9_proveWords_X3_suspect
theorem dX9_proveWords_0 : decode cX9_proveWords 0 = .ok (.iconst 0, 1) := by decide +kernel
theorem dX9_proveWords_1 : decode cX9_proveWords 1 = .ok (.istore_n 1, 1) := by decide +kernel
theorem dX9_proveWords_2 : decode cX9_proveWords 2 = .ok (.iload_n 1, 1) := by decide +kernel
theorem dX9_proveWords_3 : decode cX9_proveWords 3 = .ok (.aload_n 0, 1) := by decide +kernel
theorem dX9_proveWords_4 : decode cX9_proveWords 4 = .ok (.getfield 74, 3) := by decide +kernel
theorem dX9_proveWords_7 : decode cX9_proveWords 7 = .ok (.getfield 180, 3) := by decide +kernel
theorem dX9_proveWords_10 : decode cX9_proveWords 10 = .ok (.if_icmp .ge 69, 3) := by decide +kernel
theorem dX9_proveWords_13 : decode cX9_proveWords 13 = .ok (.aload_n 0, 1) := by decide +kernel
theorem dX9_proveWords_14 : decode cX9_proveWords 14 = .ok (.getfield 74, 3) := by decide +kernel
theorem dX9_proveWords_17 : decode cX9_proveWords 17 = .ok (.getfield 383, 3) := by decide +kernel
theorem dX9_proveWords_20 : decode cX9_proveWords 20 = .ok (.iload_n 1, 1) := by decide +kernel
theorem dX9_proveWords_21 : decode cX9_proveWords 21 = .ok (.iaload, 1) := by decide +kernel
theorem dX9_proveWords_22 : decode cX9_proveWords 22 = .ok (.aload_n 0, 1) := by decide +kernel
theorem dX9_proveWords_23 : decode cX9_proveWords 23 = .ok (.getfield 7, 3) := by decide +kernel
theorem dX9_proveWords_26 : decode cX9_proveWords 26 = .ok (.if_icmp .ne 47, 3) := by decide +kernel
theorem dX9_proveWords_29 : decode cX9_proveWords 29 = .ok (.aload_n 0, 1) := by decide +kernel
theorem dX9_proveWords_30 : decode cX9_proveWords 30 = .ok (.getfield 74, 3) := by decide +kernel
theorem dX9_proveWords_33 : decode cX9_proveWords 33 = .ok (.getfield 384, 3) := by decide +kernel
theorem dX9_proveWords_36 : decode cX9_proveWords 36 = .ok (.iload_n 1, 1) := by decide +kernel
theorem dX9_proveWords_37 : decode cX9_proveWords 37 = .ok (.iaload, 1) := by decide +kernel
theorem dX9_proveWords_38 : decode cX9_proveWords 38 = .ok (.istore_n 2, 1) := by decide +kernel
theorem dX9_proveWords_39 : decode cX9_proveWords 39 = .ok (.aload_n 0, 1) := by decide +kernel
theorem dX9_proveWords_40 : decode cX9_proveWords 40 = .ok (.getfield 60, 3) := by decide +kernel
theorem dX9_proveWords_43 : decode cX9_proveWords 43 = .ok (.iload_n 2, 1) := by decide +kernel
theorem dX9_proveWords_44 : decode cX9_proveWords 44 = .ok (.aload_n 0, 1) := by decide +kernel
theorem dX9_proveWords_45 : decode cX9_proveWords 45 = .ok (.getfield 7, 3) := by decide +kernel
theorem dX9_proveWords_48 : decode cX9_proveWords 48 = .ok (.invokevirtual 385, 3) := by decide +kernel
theorem dX9_proveWords_51 : decode cX9_proveWords 51 = .ok (.istore_n 3, 1) := by decide +kernel
theorem dX9_proveWords_52 : decode cX9_proveWords 52 = .ok (.aload_n 0, 1) := by decide +kernel
theorem dX9_proveWords_53 : decode cX9_proveWords 53 = .ok (.getfield 74, 3) := by decide +kernel
theorem dX9_proveWords_56 : decode cX9_proveWords 56 = .ok (.iload_n 1, 1) := by decide +kernel
theorem dX9_proveWords_57 : decode cX9_proveWords 57 = .ok (.iload_n 3, 1) := by decide +kernel
theorem dX9_proveWords_58 : decode cX9_proveWords 58 = .ok (.invokevirtual 388, 3) := by decide +kernel
theorem dX9_proveWords_61 : decode cX9_proveWords 61 = .ok (.iload_n 3, 1) := by decide +kernel
theorem dX9_proveWords_62 : decode cX9_proveWords 62 = .ok (.ifCond .eq 11, 3) := by decide +kernel
theorem dX9_proveWords_65 : decode cX9_proveWords 65 = .ok (.aload_n 0, 1) := by decide +kernel
theorem dX9_proveWords_66 : decode cX9_proveWords 66 = .ok (.getfield 53, 3) := by decide +kernel
theorem dX9_proveWords_69 : decode cX9_proveWords 69 = .ok (.iload_n 2, 1) := by decide +kernel
theorem dX9_proveWords_70 : decode cX9_proveWords 70 = .ok (.invokevirtual 392, 3) := by decide +kernel
theorem dX9_proveWords_73 : decode cX9_proveWords 73 = .ok (.iinc 1 1, 3) := by decide +kernel
theorem dX9_proveWords_76 : decode cX9_proveWords 76 = .ok (.goto (-74), 3) := by decide +kernel
theorem dX9_proveWords_79 : decode cX9_proveWords 79 = .ok (.return_, 1) := by decide +kernel
