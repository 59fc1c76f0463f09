theorem dX8_next_118 : decode cX8_next 118 = .ok (.istore_n 2, 1) := by decide +kernel
theorem dX8_next_119 : decode cX8_next 119 = .ok (.goto 32, 3) := by decide +kernel
theorem dX8_next_122 : decode cX8_next 122 = .ok (.iinc 3 1, 3) := by decide +kernel
theorem dX8_next_125 : decode cX8_next 125 = .ok (.iload_n 2, 1) := by decide +kernel
theorem dX8_next_126 : decode cX8_next 126 = .ok (.iconst 1, 1) := by decide +kernel
theorem dX8_next_127 : decode cX8_next 127 = .ok (.ishl, 1) := by decide +kernel
theorem dX8_next_128 : decode cX8_next 128 = .ok (.bipush 7, 2) := by decide +kernel
theorem dX8_next_130 : decode cX8_next 130 = .ok (.iand, 1) := by decide +kernel
theorem dX8_next_131 : decode cX8_next 131 = .ok (.istore_n 2, 1) := by decide +kernel
theorem dX8_next_132 : decode cX8_next 132 = .ok (.goto 19, 3) := by decide +kernel
theorem dX8_next_135 : decode cX8_next 135 = .ok (.iload_n 2, 1) := by decide +kernel
theorem dX8_next_136 : decode cX8_next 136 = .ok (.iconst 4, 1) := by decide +kernel
theorem dX8_next_137 : decode cX8_next 137 = .ok (.iand, 1) := by decide +kernel
theorem dX8_next_138 : decode cX8_next 138 = .ok (.iconst 2, 1) := by decide +kernel
theorem dX8_next_139 : decode cX8_next 139 = .ok (.ior, 1) := by decide +kernel
theorem dX8_next_140 : decode cX8_next 140 = .ok (.istore_n 2, 1) := by decide +kernel
theorem dX8_next_141 : decode cX8_next 141 = .ok (.goto 10, 3) := by decide +kernel
theorem dX8_next_144 : decode cX8_next 144 = .ok (.iinc 3 1, 3) := by decide +kernel
theorem dX8_next_147 : decode cX8_next 147 = .ok (.iload_n 2, 1) := by decide +kernel
theorem dX8_next_148 : decode cX8_next 148 = .ok (.iconst 4, 1) := by decide +kernel
theorem dX8_next_149 : decode cX8_next 149 = .ok (.iand, 1) := by decide +kernel
theorem dX8_next_150 : decode cX8_next 150 = .ok (.istore_n 2, 1) := by decide +kernel
theorem dX8_next_151 : decode cX8_next 151 = .ok (.iload_n 3, 1) := by decide +kernel
theorem dX8_next_152 : decode cX8_next 152 = .ok (.iconst 3, 1) := by decide +kernel
theorem dX8_next_153 : decode cX8_next 153 = .ok (.if_icmp .ne 8, 3) := by decide +kernel
theorem dX8_next_156 : decode cX8_next 156 = .ok (.bipush 24, 2) := by decide +kernel
theorem dX8_next_158 : decode cX8_next 158 = .ok (.goto 9, 3) := by decide +kernel
theorem dX8_next_161 : decode cX8_next 161 = .ok (.bipush 8, 2) := by decide +kernel
theorem dX8_next_163 : decode cX8_next 163 = .ok (.iload_n 3, 1) := by decide +kernel
theorem dX8_next_164 : decode cX8_next 164 = .ok (.imul, 1) := by decide +kernel
theorem dX8_next_165 : decode cX8_next 165 = .ok (.iload_n 2, 1) := by decide +kernel
theorem dX8_next_166 : decode cX8_next 166 = .ok (.iadd, 1) := by decide +kernel
theorem dX8_next_167 : decode cX8_next 167 = .ok (.ireturn, 1) := by decide +kernel
set_option maxRecDepth 20000 in
theorem ggX8_runs_X8_men : GoodIn wsX8_runs wsX8_men := goodIn_r _ [4] (by decide +kernel) (by decide +kernel)
set_option maxRecDepth 20000 in
theorem gX8_runs_X8_men : GoodIn wsX8_runs (va_wsS RX8 77 yX8_men wsX8_men) := goodIn_app (goodIn_of _ (by decide +kernel)) ggX8_runs_X8_men
theorem dX8_runs_0 : decode cX8_runs 0 = .ok (.iload_n 0, 1) := by decide +kernel
theorem dX8_runs_1 : decode cX8_runs 1 = .ok (.bipush 7, 2) := by decide +kernel
theorem dX8_runs_3 : decode cX8_runs 3 = .ok (.iand, 1) := by decide +kernel
theorem dX8_runs_4 : decode cX8_runs 4 = .ok (.istore_n 2, 1) := by decide +kernel
theorem dX8_runs_5 : decode cX8_runs 5 = .ok (.iload_n 1, 1) := by decide +kernel
theorem dX8_runs_6 : decode cX8_runs 6 = .ok (.tableswitch 89 1 6 #[38, 50, 54, 61, 66, 73], 38) := by decide +kernel
theorem dX8_runs_44 : decode cX8_runs 44 = .ok (.iload_n 2, 1) := by decide +kernel
theorem dX8_runs_45 : decode cX8_runs 45 = .ok (.bipush 7, 2) := by decide +kernel
theorem dX8_runs_47 : decode cX8_runs 47 = .ok (.if_icmp .ne 7, 3) := by decide +kernel
theorem dX8_runs_50 : decode cX8_runs 50 = .ok (.iconst 1, 1) := by decide +kernel
theorem dX8_runs_51 : decode cX8_runs 51 = .ok (.goto 4, 3) := by decide +kernel
theorem dX8_runs_54 : decode cX8_runs 54 = .ok (.iconst 0, 1) := by decide +kernel
theorem dX8_runs_55 : decode cX8_runs 55 = .ok (.ireturn, 1) := by decide +kernel
theorem dX8_runs_56 : decode cX8_runs 56 = .ok (.iload_n 2, 1) := by decide +kernel
theorem dX8_runs_57 : decode cX8_runs 57 = .ok (.iconst 2, 1) := by decide +kernel
theorem dX8_runs_58 : decode cX8_runs 58 = .ok (.ishr, 1) := by decide +kernel
theorem dX8_runs_59 : decode cX8_runs 59 = .ok (.ireturn, 1) := by decide +kernel
theorem dX8_runs_60 : decode cX8_runs 60 = .ok (.iload_n 2, 1) := by decide +kernel
theorem dX8_runs_61 : decode cX8_runs 61 = .ok (.iconst 1, 1) := by decide +kernel
theorem dX8_runs_62 : decode cX8_runs 62 = .ok (.ishr, 1) := by decide +kernel
theorem dX8_runs_63 : decode cX8_runs 63 = .ok (.invokestatic 77, 3) := by decide +kernel
theorem dX8_runs_66 : decode cX8_runs 66 = .ok (.ireturn, 1) := by decide +kernel
theorem dX8_runs_67 : decode cX8_runs 67 = .ok (.iload_n 2, 1) := by decide +kernel
theorem dX8_runs_68 : decode cX8_runs 68 = .ok (.invokestatic 77, 3) := by decide +kernel
theorem dX8_runs_71 : decode cX8_runs 71 = .ok (.ireturn, 1) := by decide +kernel
theorem dX8_runs_72 : decode cX8_runs 72 = .ok (.iload_n 2, 1) := by decide +kernel
theorem dX8_runs_73 : decode cX8_runs 73 = .ok (.invokestatic 77, 3) := by decide +kernel
theorem dX8_runs_76 : decode cX8_runs 76 = .ok (.iconst 1, 1) := by decide +kernel
theorem dX8_runs_77 : decode cX8_runs 77 = .ok (.iadd, 1) := by decide +kernel
theorem dX8_runs_78 : decode cX8_runs 78 = .ok (.ireturn, 1) := by decide +kernel
theorem dX8_runs_79 : decode cX8_runs 79 = .ok (.iload_n 0, 1) := by decide +kernel
theorem dX8_runs_80 : decode cX8_runs 80 = .ok (.bipush 8, 2) := by decide +kernel
theorem dX8_runs_82 : decode cX8_runs 82 = .ok (.idiv, 1) := by decide +kernel
theorem dX8_runs_83 : decode cX8_runs 83 = .ok (.iconst 2, 1) := by decide +kernel
theorem dX8_runs_84 : decode cX8_runs 84 = .ok (.if_icmp .ne 7, 3) := by decide +kernel
theorem dX8_runs_87 : decode cX8_runs 87 = .ok (.iconst 0, 1) := by decide +kernel
theorem dX8_runs_88 : decode cX8_runs 88 = .ok (.goto 6, 3) := by decide +kernel
theorem dX8_runs_91 : decode cX8_runs 91 = .ok (.iload_n 2, 1) := by decide +kernel
theorem dX8_runs_92 : decode cX8_runs 92 = .ok (.iconst 2, 1) := by decide +kernel
theorem dX8_runs_93 : decode cX8_runs 93 = .ok (.ishr, 1) := by decide +kernel
theorem dX8_runs_94 : decode cX8_runs 94 = .ok (.ireturn, 1) := by decide +kernel
theorem dX8_runs_95 : decode cX8_runs 95 = .ok (.iconst 0, 1) := by decide +kernel
theorem dX8_runs_96 : decode cX8_runs 96 = .ok (.ireturn, 1) := by decide +kernel
set_option maxRecDepth 20000 in
theorem ggX8_behind_X8_in : GoodIn wsX8_behind wsX8_in := goodIn_r _ [9] (by decide +kernel) (by decide +kernel)
set_option maxRecDepth 20000 in
theorem gX8_behind_X8_in : GoodIn wsX8_behind (va_wsS RX8 62 yX8_in wsX8_in) := goodIn_app (goodIn_of _ (by decide +kernel)) ggX8_behind_X8_in
set_option maxRecDepth 20000 in
theorem ggX8_behind_X8_mayBe : GoodIn wsX8_behind wsX8_mayBe := goodIn_r _ [12] (by decide +kernel) (by decide +kernel)
set_option maxRecDepth 20000 in
theorem gX8_behind_X8_mayBe : GoodIn wsX8_behind (va_wsS RX8 84 yX8_mayBe wsX8_mayBe) := goodIn_app (goodIn_of _ (by decide +kernel)) ggX8_behind_X8_mayBe
set_option maxRecDepth 20000 in
theorem ggX8_behind_X8_next : GoodIn wsX8_behind wsX8_next := goodIn_r _ [15] (by decide +kernel) (by decide +kernel)
set_option maxRecDepth 20000 in
theorem gX8_behind_X8_next : GoodIn wsX8_behind (va_wsS RX8 88 yX8_next wsX8_next) := goodIn_app (goodIn_of _ (by decide +kernel)) ggX8_behind_X8_next
set_option maxRecDepth 20000 in
theorem ggX8_behind_X8_runs : GoodIn wsX8_behind wsX8_runs := goodIn_r _ [18, 19, 20, 8, 21] (by decide +kernel) (by decide +kernel)
set_option maxRecDepth 20000 in
theorem gX8_behind_X8_runs : GoodIn wsX8_behind (va_wsS RX8 92 yX8_runs wsX8_runs) := goodIn_app (goodIn_of _ (by decide +kernel)) ggX8_behind_X8_runs
theorem dX8_behind_0 : decode cX8_behind 0 = .ok (.aload_n 0, 1) := by decide +kernel
theorem dX8_behind_1 : decode cX8_behind 1 = .ok (.iconst 0, 1) := by decide +kernel
theorem dX8_behind_2 : decode cX8_behind 2 = .ok (.putfield 52, 3) := by decide +kernel
theorem dX8_behind_5 : decode cX8_behind 5 = .ok (.iload_n 1, 1) := by decide +kernel
theorem dX8_behind_6 : decode cX8_behind 6 = .ok (.i2l, 1) := by decide +kernel
theorem dX8_behind_7 : decode cX8_behind 7 = .ok (.lconst 0, 1) := by decide +kernel
theorem dX8_behind_8 : decode cX8_behind 8 = .ok (.ldc2_w 80, 3) := by decide +kernel
theorem dX8_behind_11 : decode cX8_behind 11 = .ok (.invokestatic 62, 3) := by decide +kernel
theorem dX8_behind_14 : decode cX8_behind 14 = .ok (.ifCond .eq 25, 3) := by decide +kernel
theorem dX8_behind_17 : decode cX8_behind 17 = .ok (.iload_n 2, 1) := by decide +kernel
theorem dX8_behind_18 : decode cX8_behind 18 = .ok (.i2l, 1) := by decide +kernel
theorem dX8_behind_19 : decode cX8_behind 19 = .ok (.lconst 0, 1) := by decide +kernel
theorem dX8_behind_20 : decode cX8_behind 20 = .ok (.ldc2_w 82, 3) := by decide +kernel
theorem dX8_behind_23 : decode cX8_behind 23 = .ok (.invokestatic 62, 3) := by decide +kernel
theorem dX8_behind_26 : decode cX8_behind 26 = .ok (.ifCond .eq 13, 3) := by decide +kernel
theorem dX8_behind_29 : decode cX8_behind 29 = .ok (.iload_n 3, 1) := by decide +kernel
theorem dX8_behind_30 : decode cX8_behind 30 = .ok (.i2l, 1) := by decide +kernel
theorem dX8_behind_31 : decode cX8_behind 31 = .ok (.lconst 0, 1) := by decide +kernel
theorem dX8_behind_32 : decode cX8_behind 32 = .ok (.lconst 1, 1) := by decide +kernel
theorem dX8_behind_33 : decode cX8_behind 33 = .ok (.invokestatic 62, 3) := by decide +kernel
theorem dX8_behind_36 : decode cX8_behind 36 = .ok (.ifCond .ne 6, 3) := by decide +kernel
theorem dX8_behind_39 : decode cX8_behind 39 = .ok (.ldc 72, 2) := by decide +kernel
theorem dX8_behind_41 : decode cX8_behind 41 = .ok (.ireturn, 1) := by decide +kernel
theorem dX8_behind_42 : decode cX8_behind 42 = .ok (.iload_n 1, 1) := by decide +kernel
theorem dX8_behind_43 : decode cX8_behind 43 = .ok (.iload_n 2, 1) := by decide +kernel
theorem dX8_behind_44 : decode cX8_behind 44 = .ok (.invokestatic 84, 3) := by decide +kernel
theorem dX8_behind_47 : decode cX8_behind 47 = .ok (.ifCond .ne 8, 3) := by decide +kernel
theorem dX8_behind_50 : decode cX8_behind 50 = .ok (.ldc 35, 2) := by decide +kernel
theorem dX8_behind_52 : decode cX8_behind 52 = .ok (.goto 20, 3) := by decide +kernel
theorem dX8_behind_55 : decode cX8_behind 55 = .ok (.iload_n 3, 1) := by decide +kernel
theorem dX8_behind_56 : decode cX8_behind 56 = .ok (.ifCond .ne 11, 3) := by decide +kernel
theorem dX8_behind_59 : decode cX8_behind 59 = .ok (.iload_n 1, 1) := by decide +kernel
theorem dX8_behind_60 : decode cX8_behind 60 = .ok (.iload_n 2, 1) := by decide +kernel
theorem dX8_behind_61 : decode cX8_behind 61 = .ok (.invokestatic 88, 3) := by decide +kernel
theorem dX8_behind_64 : decode cX8_behind 64 = .ok (.goto 8, 3) := by decide +kernel
theorem dX8_behind_67 : decode cX8_behind 67 = .ok (.iload_n 1, 1) := by decide +kernel
theorem dX8_behind_68 : decode cX8_behind 68 = .ok (.iload_n 2, 1) := by decide +kernel
theorem dX8_behind_69 : decode cX8_behind 69 = .ok (.invokestatic 92, 3) := by decide +kernel
theorem dX8_behind_72 : decode cX8_behind 72 = .ok (.ireturn, 1) := by decide +kernel
set_option maxRecDepth 20000 in
theorem ggX8_isStriker_X8_in : GoodIn wsX8_isStriker wsX8_in := goodIn_r _ [5] (by decide +kernel) (by decide +kernel)
set_option maxRecDepth 20000 in
theorem gX8_isStriker_X8_in : GoodIn wsX8_isStriker (va_wsS RX8 62 yX8_in wsX8_in) := goodIn_app (goodIn_of _ (by decide +kernel)) ggX8_isStriker_X8_in
theorem dX8_isStriker_0 : decode cX8_isStriker 0 = .ok (.iload_n 1, 1) := by decide +kernel
theorem dX8_isStriker_1 : decode cX8_isStriker 1 = .ok (.i2l, 1) := by decide +kernel
theorem dX8_isStriker_2 : decode cX8_isStriker 2 = .ok (.lconst 0, 1) := by decide +kernel
theorem dX8_isStriker_3 : decode cX8_isStriker 3 = .ok (.aload_n 0, 1) := by decide +kernel
theorem dX8_isStriker_4 : decode cX8_isStriker 4 = .ok (.getfield 95, 3) := by decide +kernel
theorem dX8_isStriker_7 : decode cX8_isStriker 7 = .ok (.iconst 1, 1) := by decide +kernel
theorem dX8_isStriker_8 : decode cX8_isStriker 8 = .ok (.isub, 1) := by decide +kernel
theorem dX8_isStriker_9 : decode cX8_isStriker 9 = .ok (.i2l, 1) := by decide +kernel
theorem dX8_isStriker_10 : decode cX8_isStriker 10 = .ok (.invokestatic 62, 3) := by decide +kernel
theorem dX8_isStriker_13 : decode cX8_isStriker 13 = .ok (.ireturn, 1) := by decide +kernel
set_option maxRecDepth 20000 in
theorem ggX8_isChance_X8_in : GoodIn wsX8_isChance wsX8_in := goodIn_r _ [5] (by decide +kernel) (by decide +kernel)
set_option maxRecDepth 20000 in
theorem gX8_isChance_X8_in : GoodIn wsX8_isChance (va_wsS RX8 62 yX8_in wsX8_in) := goodIn_app (goodIn_of _ (by decide +kernel)) ggX8_isChance_X8_in
theorem dX8_isChance_0 : decode cX8_isChance 0 = .ok (.iload_n 0, 1) := by decide +kernel
theorem dX8_isChance_1 : decode cX8_isChance 1 = .ok (.i2l, 1) := by decide +kernel
theorem dX8_isChance_2 : decode cX8_isChance 2 = .ok (.lconst 0, 1) := by decide +kernel
theorem dX8_isChance_3 : decode cX8_isChance 3 = .ok (.ldc2_w 98, 3) := by decide +kernel
theorem dX8_isChance_6 : decode cX8_isChance 6 = .ok (.invokestatic 62, 3) := by decide +kernel
theorem dX8_isChance_9 : decode cX8_isChance 9 = .ok (.ireturn, 1) := by decide +kernel
theorem dX8_settle_0 : decode cX8_settle 0 = .ok (.aload_n 0, 1) := by decide +kernel
theorem dX8_settle_1 : decode cX8_settle 1 = .ok (.getfield 19, 3) := by decide +kernel
theorem dX8_settle_4 : decode cX8_settle 4 = .ok (.bipush 7, 2) := by decide +kernel
theorem dX8_settle_6 : decode cX8_settle 6 = .ok (.iload_n 1, 1) := by decide +kernel
theorem dX8_settle_7 : decode cX8_settle 7 = .ok (.imul, 1) := by decide +kernel
theorem dX8_settle_8 : decode cX8_settle 8 = .ok (.sipush 1000, 3) := by decide +kernel
theorem dX8_settle_11 : decode cX8_settle 11 = .ok (.aload_n 0, 1) := by decide +kernel
theorem dX8_settle_12 : decode cX8_settle 12 = .ok (.getfield 19, 3) := by decide +kernel
theorem dX8_settle_15 : decode cX8_settle 15 = .ok (.bipush 7, 2) := by decide +kernel
theorem dX8_settle_17 : decode cX8_settle 17 = .ok (.iload_n 1, 1) := by decide +kernel
theorem dX8_settle_18 : decode cX8_settle 18 = .ok (.imul, 1) := by decide +kernel
theorem dX8_settle_19 : decode cX8_settle 19 = .ok (.iconst 1, 1) := by decide +kernel
theorem dX8_settle_20 : decode cX8_settle 20 = .ok (.iadd, 1) := by decide +kernel
theorem dX8_settle_21 : decode cX8_settle 21 = .ok (.iaload, 1) := by decide +kernel
theorem dX8_settle_22 : decode cX8_settle 22 = .ok (.isub, 1) := by decide +kernel
theorem dX8_settle_23 : decode cX8_settle 23 = .ok (.aload_n 0, 1) := by decide +kernel
theorem dX8_settle_24 : decode cX8_settle 24 = .ok (.getfield 19, 3) := by decide +kernel
theorem dX8_settle_27 : decode cX8_settle 27 = .ok (.bipush 7, 2) := by decide +kernel
theorem dX8_settle_29 : decode cX8_settle 29 = .ok (.iload_n 1, 1) := by decide +kernel
theorem dX8_settle_30 : decode cX8_settle 30 = .ok (.imul, 1) := by decide +kernel
theorem dX8_settle_31 : decode cX8_settle 31 = .ok (.iconst 2, 1) := by decide +kernel
theorem dX8_settle_32 : decode cX8_settle 32 = .ok (.iadd, 1) := by decide +kernel
theorem dX8_settle_33 : decode cX8_settle 33 = .ok (.iaload, 1) := by decide +kernel
theorem dX8_settle_34 : decode cX8_settle 34 = .ok (.isub, 1) := by decide +kernel
theorem dX8_settle_35 : decode cX8_settle 35 = .ok (.aload_n 0, 1) := by decide +kernel
theorem dX8_settle_36 : decode cX8_settle 36 = .ok (.getfield 19, 3) := by decide +kernel
theorem dX8_settle_39 : decode cX8_settle 39 = .ok (.bipush 7, 2) := by decide +kernel
theorem dX8_settle_41 : decode cX8_settle 41 = .ok (.iload_n 1, 1) := by decide +kernel
theorem dX8_settle_42 : decode cX8_settle 42 = .ok (.imul, 1) := by decide +kernel
theorem dX8_settle_43 : decode cX8_settle 43 = .ok (.iconst 3, 1) := by decide +kernel
theorem dX8_settle_44 : decode cX8_settle 44 = .ok (.iadd, 1) := by decide +kernel
theorem dX8_settle_45 : decode cX8_settle 45 = .ok (.iaload, 1) := by decide +kernel
theorem dX8_settle_46 : decode cX8_settle 46 = .ok (.isub, 1) := by decide +kernel
theorem dX8_settle_47 : decode cX8_settle 47 = .ok (.aload_n 0, 1) := by decide +kernel
theorem dX8_settle_48 : decode cX8_settle 48 = .ok (.getfield 19, 3) := by decide +kernel
theorem dX8_settle_51 : decode cX8_settle 51 = .ok (.bipush 7, 2) := by decide +kernel
theorem dX8_settle_53 : decode cX8_settle 53 = .ok (.iload_n 1, 1) := by decide +kernel
theorem dX8_settle_54 : decode cX8_settle 54 = .ok (.imul, 1) := by decide +kernel
theorem dX8_settle_55 : decode cX8_settle 55 = .ok (.iconst 4, 1) := by decide +kernel
theorem dX8_settle_56 : decode cX8_settle 56 = .ok (.iadd, 1) := by decide +kernel
theorem dX8_settle_57 : decode cX8_settle 57 = .ok (.iaload, 1) := by decide +kernel
theorem dX8_settle_58 : decode cX8_settle 58 = .ok (.isub, 1) := by decide +kernel
theorem dX8_settle_59 : decode cX8_settle 59 = .ok (.aload_n 0, 1) := by decide +kernel
theorem dX8_settle_60 : decode cX8_settle 60 = .ok (.getfield 19, 3) := by decide +kernel
theorem dX8_settle_63 : decode cX8_settle 63 = .ok (.bipush 7, 2) := by decide +kernel
theorem dX8_settle_65 : decode cX8_settle 65 = .ok (.iload_n 1, 1) := by decide +kernel
theorem dX8_settle_66 : decode cX8_settle 66 = .ok (.imul, 1) := by decide +kernel
theorem dX8_settle_67 : decode cX8_settle 67 = .ok (.iconst 5, 1) := by decide +kernel
theorem dX8_settle_68 : decode cX8_settle 68 = .ok (.iadd, 1) := by decide +kernel
theorem dX8_settle_69 : decode cX8_settle 69 = .ok (.iaload, 1) := by decide +kernel
theorem dX8_settle_70 : decode cX8_settle 70 = .ok (.isub, 1) := by decide +kernel
theorem dX8_settle_71 : decode cX8_settle 71 = .ok (.iastore, 1) := by decide +kernel
theorem dX8_settle_72 : decode cX8_settle 72 = .ok (.return_, 1) := by decide +kernel
set_option maxRecDepth 20000 in
theorem ggX8_striker_X8_isChance : GoodIn wsX8_striker wsX8_isChance := goodIn_r _ [9, 10, 11, 12, 8, 13] (by decide +kernel) (by decide +kernel)
set_option maxRecDepth 20000 in
theorem gX8_striker_X8_isChance : GoodIn wsX8_striker (va_wsS RX8 100 yX8_isChance wsX8_isChance) := goodIn_app (goodIn_of _ (by decide +kernel)) ggX8_striker_X8_isChance
set_option maxRecDepth 20000 in
theorem ggX8_striker_X8_settle : GoodIn wsX8_striker wsX8_settle := goodIn_r _ [17, 5, 18, 19, 20, 21, 22, 23, 24, 25, 26, 27, 28, 29, 30, 31, 32, 33, 34, 35, 36, 37, 38, 39] (by decide +kernel) (by decide +kernel)
set_option maxRecDepth 20000 in
theorem gX8_striker_X8_settle : GoodIn wsX8_striker (wsV RX8 104 RX8 yX8_settle wsX8_settle) := goodIn_app (goodIn_of _ (by decide +kernel)) ggX8_striker_X8_settle
theorem dX8_striker_0 : decode cX8_striker 0 = .ok (.aload_n 0, 1) := by decide +kernel
theorem dX8_striker_1 : decode cX8_striker 1 = .ok (.iconst 0, 1) := by decide +kernel
theorem dX8_striker_2 : decode cX8_striker 2 = .ok (.putfield 52, 3) := by decide +kernel
theorem dX8_striker_5 : decode cX8_striker 5 = .ok (.iload_n 1, 1) := by decide +kernel
theorem dX8_striker_6 : decode cX8_striker 6 = .ok (.invokestatic 100, 3) := by decide +kernel
theorem dX8_striker_9 : decode cX8_striker 9 = .ok (.ifCond .eq 58, 3) := by decide +kernel
theorem dX8_striker_12 : decode cX8_striker 12 = .ok (.iload_n 2, 1) := by decide +kernel
theorem dX8_striker_13 : decode cX8_striker 13 = .ok (.invokestatic 100, 3) := by decide +kernel
theorem dX8_striker_16 : decode cX8_striker 16 = .ok (.ifCond .eq 51, 3) := by decide +kernel
theorem dX8_striker_19 : decode cX8_striker 19 = .ok (.iload_n 3, 1) := by decide +kernel
theorem dX8_striker_20 : decode cX8_striker 20 = .ok (.invokestatic 100, 3) := by decide +kernel
theorem dX8_striker_23 : decode cX8_striker 23 = .ok (.ifCond .eq 44, 3) := by decide +kernel
theorem dX8_striker_26 : decode cX8_striker 26 = .ok (.iload 4, 2) := by decide +kernel
theorem dX8_striker_28 : decode cX8_striker 28 = .ok (.invokestatic 100, 3) := by decide +kernel
theorem dX8_striker_31 : decode cX8_striker 31 = .ok (.ifCond .eq 36, 3) := by decide +kernel
theorem dX8_striker_34 : decode cX8_striker 34 = .ok (.iload 5, 2) := by decide +kernel
theorem dX8_striker_36 : decode cX8_striker 36 = .ok (.invokestatic 100, 3) := by decide +kernel
theorem dX8_striker_39 : decode cX8_striker 39 = .ok (.ifCond .eq 28, 3) := by decide +kernel
theorem dX8_striker_42 : decode cX8_striker 42 = .ok (.iload 6, 2) := by decide +kernel
theorem dX8_striker_44 : decode cX8_striker 44 = .ok (.invokestatic 100, 3) := by decide +kernel
theorem dX8_striker_47 : decode cX8_striker 47 = .ok (.ifCond .eq 20, 3) := by decide +kernel
theorem dX8_striker_50 : decode cX8_striker 50 = .ok (.iload_n 1, 1) := by decide +kernel
theorem dX8_striker_51 : decode cX8_striker 51 = .ok (.iload_n 2, 1) := by decide +kernel
theorem dX8_striker_52 : decode cX8_striker 52 = .ok (.iadd, 1) := by decide +kernel
theorem dX8_striker_53 : decode cX8_striker 53 = .ok (.iload_n 3, 1) := by decide +kernel
theorem dX8_striker_54 : decode cX8_striker 54 = .ok (.iadd, 1) := by decide +kernel
theorem dX8_striker_55 : decode cX8_striker 55 = .ok (.iload 4, 2) := by decide +kernel
theorem dX8_striker_57 : decode cX8_striker 57 = .ok (.iadd, 1) := by decide +kernel
theorem dX8_striker_58 : decode cX8_striker 58 = .ok (.iload 5, 2) := by decide +kernel
theorem dX8_striker_60 : decode cX8_striker 60 = .ok (.iadd, 1) := by decide +kernel
theorem dX8_striker_61 : decode cX8_striker 61 = .ok (.sipush 1000, 3) := by decide +kernel
theorem dX8_striker_64 : decode cX8_striker 64 = .ok (.if_icmp .le 6, 3) := by decide +kernel
theorem dX8_striker_67 : decode cX8_striker 67 = .ok (.ldc 72, 2) := by decide +kernel
theorem dX8_striker_69 : decode cX8_striker 69 = .ok (.ireturn, 1) := by decide +kernel
theorem dX8_striker_70 : decode cX8_striker 70 = .ok (.aload_n 0, 1) := by decide +kernel
theorem dX8_striker_71 : decode cX8_striker 71 = .ok (.getfield 95, 3) := by decide +kernel
theorem dX8_striker_74 : decode cX8_striker 74 = .ok (.bipush 12, 2) := by decide +kernel
theorem dX8_striker_76 : decode cX8_striker 76 = .ok (.if_icmp .ne 6, 3) := by decide +kernel
theorem dX8_striker_79 : decode cX8_striker 79 = .ok (.ldc 103, 2) := by decide +kernel
theorem dX8_striker_81 : decode cX8_striker 81 = .ok (.ireturn, 1) := by decide +kernel
theorem dX8_striker_82 : decode cX8_striker 82 = .ok (.bipush 7, 2) := by decide +kernel
theorem dX8_striker_84 : decode cX8_striker 84 = .ok (.aload_n 0, 1) := by decide +kernel
theorem dX8_striker_85 : decode cX8_striker 85 = .ok (.getfield 95, 3) := by decide +kernel
theorem dX8_striker_88 : decode cX8_striker 88 = .ok (.imul, 1) := by decide +kernel
theorem dX8_striker_89 : decode cX8_striker 89 = .ok (.istore 7, 2) := by decide +kernel
theorem dX8_striker_91 : decode cX8_striker 91 = .ok (.aload_n 0, 1) := by decide +kernel
theorem dX8_striker_92 : decode cX8_striker 92 = .ok (.getfield 19, 3) := by decide +kernel
theorem dX8_striker_95 : decode cX8_striker 95 = .ok (.iload 7, 2) := by decide +kernel
theorem dX8_striker_97 : decode cX8_striker 97 = .ok (.iconst 1, 1) := by decide +kernel
theorem dX8_striker_98 : decode cX8_striker 98 = .ok (.iadd, 1) := by decide +kernel
theorem dX8_striker_99 : decode cX8_striker 99 = .ok (.iload_n 1, 1) := by decide +kernel
theorem dX8_striker_100 : decode cX8_striker 100 = .ok (.iastore, 1) := by decide +kernel
theorem dX8_striker_101 : decode cX8_striker 101 = .ok (.aload_n 0, 1) := by decide +kernel
theorem dX8_striker_102 : decode cX8_striker 102 = .ok (.getfield 19, 3) := by decide +kernel
theorem dX8_striker_105 : decode cX8_striker 105 = .ok (.iload 7, 2) := by decide +kernel
theorem dX8_striker_107 : decode cX8_striker 107 = .ok (.iconst 2, 1) := by decide +kernel
theorem dX8_striker_108 : decode cX8_striker 108 = .ok (.iadd, 1) := by decide +kernel
theorem dX8_striker_109 : decode cX8_striker 109 = .ok (.iload_n 2, 1) := by decide +kernel
theorem dX8_striker_110 : decode cX8_striker 110 = .ok (.iastore, 1) := by decide +kernel
theorem dX8_striker_111 : decode cX8_striker 111 = .ok (.aload_n 0, 1) := by decide +kernel
theorem dX8_striker_112 : decode cX8_striker 112 = .ok (.getfield 19, 3) := by decide +kernel
theorem dX8_striker_115 : decode cX8_striker 115 = .ok (.iload 7, 2) := by decide +kernel
theorem dX8_striker_117 : decode cX8_striker 117 = .ok (.iconst 3, 1) := by decide +kernel
theorem dX8_striker_118 : decode cX8_striker 118 = .ok (.iadd, 1) := by decide +kernel
theorem dX8_striker_119 : decode cX8_striker 119 = .ok (.iload_n 3, 1) := by decide +kernel
theorem dX8_striker_120 : decode cX8_striker 120 = .ok (.iastore, 1) := by decide +kernel
theorem dX8_striker_121 : decode cX8_striker 121 = .ok (.aload_n 0, 1) := by decide +kernel
theorem dX8_striker_122 : decode cX8_striker 122 = .ok (.getfield 19, 3) := by decide +kernel
theorem dX8_striker_125 : decode cX8_striker 125 = .ok (.iload 7, 2) := by decide +kernel
theorem dX8_striker_127 : decode cX8_striker 127 = .ok (.iconst 4, 1) := by decide +kernel
theorem dX8_striker_128 : decode cX8_striker 128 = .ok (.iadd, 1) := by decide +kernel
theorem dX8_striker_129 : decode cX8_striker 129 = .ok (.iload 4, 2) := by decide +kernel
theorem dX8_striker_131 : decode cX8_striker 131 = .ok (.iastore, 1) := by decide +kernel
theorem dX8_striker_132 : decode cX8_striker 132 = .ok (.aload_n 0, 1) := by decide +kernel
theorem dX8_striker_133 : decode cX8_striker 133 = .ok (.getfield 19, 3) := by decide +kernel
theorem dX8_striker_136 : decode cX8_striker 136 = .ok (.iload 7, 2) := by decide +kernel
theorem dX8_striker_138 : decode cX8_striker 138 = .ok (.iconst 5, 1) := by decide +kernel
theorem dX8_striker_139 : decode cX8_striker 139 = .ok (.iadd, 1) := by decide +kernel
theorem dX8_striker_140 : decode cX8_striker 140 = .ok (.iload 5, 2) := by decide +kernel
theorem dX8_striker_142 : decode cX8_striker 142 = .ok (.iastore, 1) := by decide +kernel
theorem dX8_striker_143 : decode cX8_striker 143 = .ok (.aload_n 0, 1) := by decide +kernel
theorem dX8_striker_144 : decode cX8_striker 144 = .ok (.getfield 19, 3) := by decide +kernel
theorem dX8_striker_147 : decode cX8_striker 147 = .ok (.iload 7, 2) := by decide +kernel
theorem dX8_striker_149 : decode cX8_striker 149 = .ok (.bipush 6, 2) := by decide +kernel
theorem dX8_striker_151 : decode cX8_striker 151 = .ok (.iadd, 1) := by decide +kernel
theorem dX8_striker_152 : decode cX8_striker 152 = .ok (.iload 6, 2) := by decide +kernel
theorem dX8_striker_154 : decode cX8_striker 154 = .ok (.iastore, 1) := by decide +kernel
theorem dX8_striker_155 : decode cX8_striker 155 = .ok (.aload_n 0, 1) := by decide +kernel
theorem dX8_striker_156 : decode cX8_striker 156 = .ok (.aload_n 0, 1) := by decide +kernel
theorem dX8_striker_157 : decode cX8_striker 157 = .ok (.getfield 95, 3) := by decide +kernel
theorem dX8_striker_160 : decode cX8_striker 160 = .ok (.invokevirtual 104, 3) := by decide +kernel
theorem dX8_striker_163 : decode cX8_striker 163 = .ok (.aload_n 0, 1) := by decide +kernel
theorem dX8_striker_164 : decode cX8_striker 164 = .ok (.dup, 1) := by decide +kernel
theorem dX8_striker_165 : decode cX8_striker 165 = .ok (.getfield 95, 3) := by decide +kernel
theorem dX8_striker_168 : decode cX8_striker 168 = .ok (.iconst 1, 1) := by decide +kernel
theorem dX8_striker_169 : decode cX8_striker 169 = .ok (.iadd, 1) := by decide +kernel
theorem dX8_striker_170 : decode cX8_striker 170 = .ok (.putfield 95, 3) := by decide +kernel
theorem dX8_striker_173 : decode cX8_striker 173 = .ok (.aload_n 0, 1) := by decide +kernel
theorem dX8_striker_174 : decode cX8_striker 174 = .ok (.getfield 95, 3) := by decide +kernel
theorem dX8_striker_177 : decode cX8_striker 177 = .ok (.iconst 1, 1) := by decide +kernel
theorem dX8_striker_178 : decode cX8_striker 178 = .ok (.isub, 1) := by decide +kernel
theorem dX8_striker_179 : decode cX8_striker 179 = .ok (.ireturn, 1) := by decide +kernel
set_option maxRecDepth 20000 in
theorem ggX8_train_X8_isStriker : GoodIn wsX8_train wsX8_isStriker := goodIn_r _ [10, 11, 12, 13, 9, 14, 23, 24, 25, 26, 27, 28, 29, 30, 31, 32, 33, 34, 35, 36, 37, 38, 39, 40, 41, 42, 43, 44] (by decide +kernel) (by decide +kernel)
set_option maxRecDepth 20000 in
theorem gX8_train_X8_isStriker : GoodIn wsX8_train (wsV RX8 108 RX8 yX8_isStriker wsX8_isStriker) := goodIn_app (goodIn_of _ (by decide +kernel)) ggX8_train_X8_isStriker
set_option maxRecDepth 20000 in
theorem ggX8_train_X8_in : GoodIn wsX8_train wsX8_in := goodIn_r _ [14] (by decide +kernel) (by decide +kernel)
set_option maxRecDepth 20000 in
theorem gX8_train_X8_in : GoodIn wsX8_train (va_wsS RX8 62 yX8_in wsX8_in) := goodIn_app (goodIn_of _ (by decide +kernel)) ggX8_train_X8_in
set_option maxRecDepth 20000 in
theorem ggX8_train_X8_isChance : GoodIn wsX8_train wsX8_isChance := goodIn_r _ [17, 18, 12, 13, 9, 14] (by decide +kernel) (by decide +kernel)
set_option maxRecDepth 20000 in
theorem gX8_train_X8_isChance : GoodIn wsX8_train (va_wsS RX8 100 yX8_isChance wsX8_isChance) := goodIn_app (goodIn_of _ (by decide +kernel)) ggX8_train_X8_isChance
set_option maxRecDepth 20000 in
theorem ggX8_train_X8_settle : GoodIn wsX8_train wsX8_settle := goodIn_r _ [22, 4, 23, 24, 25, 26, 27, 28, 29, 30, 31, 32, 33, 34, 35, 36, 37, 38, 39, 40, 41, 42, 43, 44] (by decide +kernel) (by decide +kernel)
set_option maxRecDepth 20000 in
theorem gX8_train_X8_settle : GoodIn wsX8_train (wsV RX8 104 RX8 yX8_settle wsX8_settle) := goodIn_app (goodIn_of _ (by decide +kernel)) ggX8_train_X8_settle
theorem dX8_train_0 : decode cX8_train 0 = .ok (.aload_n 0, 1) := by decide +kernel
theorem dX8_train_1 : decode cX8_train 1 = .ok (.iconst 0, 1) := by decide +kernel
theorem dX8_train_2 : decode cX8_train 2 = .ok (.putfield 52, 3) := by decide +kernel
theorem dX8_train_5 : decode cX8_train 5 = .ok (.aload_n 0, 1) := by decide +kernel
theorem dX8_train_6 : decode cX8_train 6 = .ok (.iload_n 1, 1) := by decide +kernel
theorem dX8_train_7 : decode cX8_train 7 = .ok (.invokevirtual 108, 3) := by decide +kernel
theorem dX8_train_10 : decode cX8_train 10 = .ok (.ifCond .eq 22, 3) := by decide +kernel
theorem dX8_train_13 : decode cX8_train 13 = .ok (.iload_n 2, 1) := by decide +kernel
theorem dX8_train_14 : decode cX8_train 14 = .ok (.i2l, 1) := by decide +kernel
theorem dX8_train_15 : decode cX8_train 15 = .ok (.lconst 1, 1) := by decide +kernel
theorem dX8_train_16 : decode cX8_train 16 = .ok (.ldc2_w 111, 3) := by decide +kernel
theorem dX8_train_19 : decode cX8_train 19 = .ok (.invokestatic 62, 3) := by decide +kernel
theorem dX8_train_22 : decode cX8_train 22 = .ok (.ifCond .eq 10, 3) := by decide +kernel
theorem dX8_train_25 : decode cX8_train 25 = .ok (.iload_n 3, 1) := by decide +kernel
theorem dX8_train_26 : decode cX8_train 26 = .ok (.invokestatic 100, 3) := by decide +kernel
theorem dX8_train_29 : decode cX8_train 29 = .ok (.ifCond .ne 6, 3) := by decide +kernel
theorem dX8_train_32 : decode cX8_train 32 = .ok (.ldc 72, 2) := by decide +kernel
theorem dX8_train_34 : decode cX8_train 34 = .ok (.ireturn, 1) := by decide +kernel
theorem dX8_train_35 : decode cX8_train 35 = .ok (.aload_n 0, 1) := by decide +kernel
theorem dX8_train_36 : decode cX8_train 36 = .ok (.getfield 19, 3) := by decide +kernel
theorem dX8_train_39 : decode cX8_train 39 = .ok (.bipush 7, 2) := by decide +kernel
theorem dX8_train_41 : decode cX8_train 41 = .ok (.iload_n 1, 1) := by decide +kernel
theorem dX8_train_42 : decode cX8_train 42 = .ok (.imul, 1) := by decide +kernel
theorem dX8_train_43 : decode cX8_train 43 = .ok (.iload_n 2, 1) := by decide +kernel
theorem dX8_train_44 : decode cX8_train 44 = .ok (.iadd, 1) := by decide +kernel
theorem dX8_train_45 : decode cX8_train 45 = .ok (.iaload, 1) := by decide +kernel
theorem dX8_train_46 : decode cX8_train 46 = .ok (.istore 4, 2) := by decide +kernel
theorem dX8_train_48 : decode cX8_train 48 = .ok (.iload_n 2, 1) := by decide +kernel
theorem dX8_train_49 : decode cX8_train 49 = .ok (.bipush 6, 2) := by decide +kernel
theorem dX8_train_51 : decode cX8_train 51 = .ok (.if_icmp .ge 22, 3) := by decide +kernel
theorem dX8_train_54 : decode cX8_train 54 = .ok (.aload_n 0, 1) := by decide +kernel
theorem dX8_train_55 : decode cX8_train 55 = .ok (.getfield 19, 3) := by decide +kernel
theorem dX8_train_58 : decode cX8_train 58 = .ok (.bipush 7, 2) := by decide +kernel
theorem dX8_train_60 : decode cX8_train 60 = .ok (.iload_n 1, 1) := by decide +kernel
theorem dX8_train_61 : decode cX8_train 61 = .ok (.imul, 1) := by decide +kernel
theorem dX8_train_62 : decode cX8_train 62 = .ok (.iaload, 1) := by decide +kernel
theorem dX8_train_63 : decode cX8_train 63 = .ok (.iload 4, 2) := by decide +kernel
theorem dX8_train_65 : decode cX8_train 65 = .ok (.iadd, 1) := by decide +kernel
theorem dX8_train_66 : decode cX8_train 66 = .ok (.iload_n 3, 1) := by decide +kernel
theorem dX8_train_67 : decode cX8_train 67 = .ok (.if_icmp .ge 6, 3) := by decide +kernel
theorem dX8_train_70 : decode cX8_train 70 = .ok (.ldc 113, 2) := by decide +kernel
theorem dX8_train_72 : decode cX8_train 72 = .ok (.ireturn, 1) := by decide +kernel
theorem dX8_train_73 : decode cX8_train 73 = .ok (.aload_n 0, 1) := by decide +kernel
theorem dX8_train_74 : decode cX8_train 74 = .ok (.getfield 19, 3) := by decide +kernel
theorem dX8_train_77 : decode cX8_train 77 = .ok (.bipush 7, 2) := by decide +kernel
theorem dX8_train_79 : decode cX8_train 79 = .ok (.iload_n 1, 1) := by decide +kernel
theorem dX8_train_80 : decode cX8_train 80 = .ok (.imul, 1) := by decide +kernel
theorem dX8_train_81 : decode cX8_train 81 = .ok (.iload_n 2, 1) := by decide +kernel
theorem dX8_train_82 : decode cX8_train 82 = .ok (.iadd, 1) := by decide +kernel
theorem dX8_train_83 : decode cX8_train 83 = .ok (.iload_n 3, 1) := by decide +kernel
theorem dX8_train_84 : decode cX8_train 84 = .ok (.iastore, 1) := by decide +kernel
theorem dX8_train_85 : decode cX8_train 85 = .ok (.aload_n 0, 1) := by decide +kernel
theorem dX8_train_86 : decode cX8_train 86 = .ok (.iload_n 1, 1) := by decide +kernel
theorem dX8_train_87 : decode cX8_train 87 = .ok (.invokevirtual 104, 3) := by decide +kernel
theorem dX8_train_90 : decode cX8_train 90 = .ok (.iload 4, 2) := by decide +kernel
theorem dX8_train_92 : decode cX8_train 92 = .ok (.ireturn, 1) := by decide +kernel
set_option maxRecDepth 20000 in
theorem ggX8_chance_X8_isStriker : GoodIn wsX8_chance wsX8_isStriker := goodIn_r _ [9, 10, 11, 12, 8, 13, 14, 15, 16, 17, 18, 19, 20, 21, 22, 23, 24, 25, 26, 27, 28, 29, 30, 31, 32, 33, 34, 35] (by decide +kernel) (by decide +kernel)
set_option maxRecDepth 20000 in
theorem gX8_chance_X8_isStriker : GoodIn wsX8_chance (wsV RX8 108 RX8 yX8_isStriker wsX8_isStriker) := goodIn_app (goodIn_of _ (by decide +kernel)) ggX8_chance_X8_isStriker
set_option maxRecDepth 20000 in
theorem ggX8_chance_X8_in : GoodIn wsX8_chance wsX8_in := goodIn_r _ [13] (by decide +kernel) (by decide +kernel)
set_option maxRecDepth 20000 in
theorem gX8_chance_X8_in : GoodIn wsX8_chance (va_wsS RX8 62 yX8_in wsX8_in) := goodIn_app (goodIn_of _ (by decide +kernel)) ggX8_chance_X8_in
theorem dX8_chance_0 : decode cX8_chance 0 = .ok (.aload_n 0, 1) := by decide +kernel
theorem dX8_chance_1 : decode cX8_chance 1 = .ok (.iconst 0, 1) := by decide +kernel
theorem dX8_chance_2 : decode cX8_chance 2 = .ok (.putfield 52, 3) := by decide +kernel
theorem dX8_chance_5 : decode cX8_chance 5 = .ok (.aload_n 0, 1) := by decide +kernel
theorem dX8_chance_6 : decode cX8_chance 6 = .ok (.iload_n 1, 1) := by decide +kernel
theorem dX8_chance_7 : decode cX8_chance 7 = .ok (.invokevirtual 108, 3) := by decide +kernel
theorem dX8_chance_10 : decode cX8_chance 10 = .ok (.ifCond .eq 15, 3) := by decide +kernel
theorem dX8_chance_13 : decode cX8_chance 13 = .ok (.iload_n 2, 1) := by decide +kernel
theorem dX8_chance_14 : decode cX8_chance 14 = .ok (.i2l, 1) := by decide +kernel
theorem dX8_chance_15 : decode cX8_chance 15 = .ok (.lconst 0, 1) := by decide +kernel
theorem dX8_chance_16 : decode cX8_chance 16 = .ok (.ldc2_w 111, 3) := by decide +kernel
theorem dX8_chance_19 : decode cX8_chance 19 = .ok (.invokestatic 62, 3) := by decide +kernel
theorem dX8_chance_22 : decode cX8_chance 22 = .ok (.ifCond .ne 8, 3) := by decide +kernel
theorem dX8_chance_25 : decode cX8_chance 25 = .ok (.ldc 72, 2) := by decide +kernel
theorem dX8_chance_27 : decode cX8_chance 27 = .ok (.goto 14, 3) := by decide +kernel
theorem dX8_chance_30 : decode cX8_chance 30 = .ok (.aload_n 0, 1) := by decide +kernel
theorem dX8_chance_31 : decode cX8_chance 31 = .ok (.getfield 19, 3) := by decide +kernel
theorem dX8_chance_34 : decode cX8_chance 34 = .ok (.bipush 7, 2) := by decide +kernel
theorem dX8_chance_36 : decode cX8_chance 36 = .ok (.iload_n 1, 1) := by decide +kernel
theorem dX8_chance_37 : decode cX8_chance 37 = .ok (.imul, 1) := by decide +kernel
theorem dX8_chance_38 : decode cX8_chance 38 = .ok (.iload_n 2, 1) := by decide +kernel
theorem dX8_chance_39 : decode cX8_chance 39 = .ok (.iadd, 1) := by decide +kernel
theorem dX8_chance_40 : decode cX8_chance 40 = .ok (.iaload, 1) := by decide +kernel
theorem dX8_chance_41 : decode cX8_chance 41 = .ok (.ireturn, 1) := by decide +kernel
set_option maxRecDepth 20000 in
theorem ggX8_order_X8_isSheet : GoodIn wsX8_order wsX8_isSheet := goodIn_r _ [13, 14, 15, 16, 12, 17] (by decide +kernel) (by decide +kernel)
set_option maxRecDepth 20000 in
theorem gX8_order_X8_isSheet : GoodIn wsX8_order (va_wsS RX8 66 yX8_isSheet wsX8_isSheet) := goodIn_app (goodIn_of _ (by decide +kernel)) ggX8_order_X8_isSheet
set_option maxRecDepth 20000 in
theorem ggX8_order_X8_in : GoodIn wsX8_order wsX8_in := goodIn_r _ [17] (by decide +kernel) (by decide +kernel)
set_option maxRecDepth 20000 in
theorem gX8_order_X8_in : GoodIn wsX8_order (va_wsS RX8 62 yX8_in wsX8_in) := goodIn_app (goodIn_of _ (by decide +kernel)) ggX8_order_X8_in
set_option maxRecDepth 20000 in
theorem ggX8_order_X8_found : GoodIn wsX8_order wsX8_found := goodIn_r _ [21, 7, 22, 28, 29, 30, 31, 32, 33, 34, 35, 36, 37, 38, 39, 40, 41, 42, 43, 44, 45, 46, 47, 48, 49] (by decide +kernel) (by decide +kernel)
set_option maxRecDepth 20000 in
theorem gX8_order_X8_found : GoodIn wsX8_order (wsV RX8 73 RX8 yX8_found wsX8_found) := goodIn_app (goodIn_of _ (by decide +kernel)) ggX8_order_X8_found
set_option maxRecDepth 20000 in
theorem ggX8_order_X8_isStriker : GoodIn wsX8_order wsX8_isStriker := goodIn_r _ [26, 27, 15, 16, 12, 17, 28, 29, 30, 31, 32, 33, 34, 35, 36, 37, 38, 39, 40, 41, 42, 43, 44, 45, 46, 47, 48, 49] (by decide +kernel) (by decide +kernel)
set_option maxRecDepth 20000 in
theorem gX8_order_X8_isStriker : GoodIn wsX8_order (wsV RX8 108 RX8 yX8_isStriker wsX8_isStriker) := goodIn_app (goodIn_of _ (by decide +kernel)) ggX8_order_X8_isStriker
theorem dX8_order_0 : decode cX8_order 0 = .ok (.aload_n 0, 1) := by decide +kernel
theorem dX8_order_1 : decode cX8_order 1 = .ok (.iconst 0, 1) := by decide +kernel
theorem dX8_order_2 : decode cX8_order 2 = .ok (.putfield 52, 3) := by decide +kernel
theorem dX8_order_5 : decode cX8_order 5 = .ok (.iload_n 1, 1) := by decide +kernel
theorem dX8_order_6 : decode cX8_order 6 = .ok (.invokestatic 66, 3) := by decide +kernel
theorem dX8_order_9 : decode cX8_order 9 = .ok (.ifCond .eq 15, 3) := by decide +kernel
theorem dX8_order_12 : decode cX8_order 12 = .ok (.iload_n 3, 1) := by decide +kernel
theorem dX8_order_13 : decode cX8_order 13 = .ok (.i2l, 1) := by decide +kernel
theorem dX8_order_14 : decode cX8_order 14 = .ok (.lconst 1, 1) := by decide +kernel
theorem dX8_order_15 : decode cX8_order 15 = .ok (.ldc2_w 114, 3) := by decide +kernel
theorem dX8_order_18 : decode cX8_order 18 = .ok (.invokestatic 62, 3) := by decide +kernel
theorem dX8_order_21 : decode cX8_order 21 = .ok (.ifCond .ne 6, 3) := by decide +kernel
theorem dX8_order_24 : decode cX8_order 24 = .ok (.ldc 72, 2) := by decide +kernel
theorem dX8_order_26 : decode cX8_order 26 = .ok (.ireturn, 1) := by decide +kernel
theorem dX8_order_27 : decode cX8_order 27 = .ok (.aload_n 0, 1) := by decide +kernel
theorem dX8_order_28 : decode cX8_order 28 = .ok (.getfield 7, 3) := by decide +kernel
theorem dX8_order_31 : decode cX8_order 31 = .ok (.iload_n 1, 1) := by decide +kernel
theorem dX8_order_32 : decode cX8_order 32 = .ok (.iaload, 1) := by decide +kernel
theorem dX8_order_33 : decode cX8_order 33 = .ok (.ifCond .ge 9, 3) := by decide +kernel
theorem dX8_order_36 : decode cX8_order 36 = .ok (.aload_n 0, 1) := by decide +kernel
theorem dX8_order_37 : decode cX8_order 37 = .ok (.iconst 1, 1) := by decide +kernel
theorem dX8_order_38 : decode cX8_order 38 = .ok (.invokevirtual 73, 3) := by decide +kernel
theorem dX8_order_41 : decode cX8_order 41 = .ok (.ireturn, 1) := by decide +kernel
theorem dX8_order_42 : decode cX8_order 42 = .ok (.iload_n 2, 1) := by decide +kernel
theorem dX8_order_43 : decode cX8_order 43 = .ok (.ifCond .lt 19, 3) := by decide +kernel
theorem dX8_order_46 : decode cX8_order 46 = .ok (.iload_n 2, 1) := by decide +kernel
theorem dX8_order_47 : decode cX8_order 47 = .ok (.i2l, 1) := by decide +kernel
theorem dX8_order_48 : decode cX8_order 48 = .ok (.iload_n 3, 1) := by decide +kernel
theorem dX8_order_49 : decode cX8_order 49 = .ok (.i2l, 1) := by decide +kernel
theorem dX8_order_50 : decode cX8_order 50 = .ok (.ladd, 1) := by decide +kernel
theorem dX8_order_51 : decode cX8_order 51 = .ok (.aload_n 0, 1) := by decide +kernel
theorem dX8_order_52 : decode cX8_order 52 = .ok (.getfield 13, 3) := by decide +kernel
theorem dX8_order_55 : decode cX8_order 55 = .ok (.iload_n 1, 1) := by decide +kernel
theorem dX8_order_56 : decode cX8_order 56 = .ok (.iaload, 1) := by decide +kernel
theorem dX8_order_57 : decode cX8_order 57 = .ok (.i2l, 1) := by decide +kernel
theorem dX8_order_58 : decode cX8_order 58 = .ok (.lcmp, 1) := by decide +kernel
theorem dX8_order_59 : decode cX8_order 59 = .ok (.ifCond .le 9, 3) := by decide +kernel
theorem dX8_order_62 : decode cX8_order 62 = .ok (.aload_n 0, 1) := by decide +kernel
theorem dX8_order_63 : decode cX8_order 63 = .ok (.iconst 2, 1) := by decide +kernel
theorem dX8_order_64 : decode cX8_order 64 = .ok (.invokevirtual 73, 3) := by decide +kernel
theorem dX8_order_67 : decode cX8_order 67 = .ok (.ireturn, 1) := by decide +kernel
theorem dX8_order_68 : decode cX8_order 68 = .ok (.iconst 0, 1) := by decide +kernel
theorem dX8_order_69 : decode cX8_order 69 = .ok (.istore 4, 2) := by decide +kernel
theorem dX8_order_71 : decode cX8_order 71 = .ok (.iload 4, 2) := by decide +kernel
theorem dX8_order_73 : decode cX8_order 73 = .ok (.iload_n 3, 1) := by decide +kernel
theorem dX8_order_74 : decode cX8_order 74 = .ok (.if_icmp .ge 33, 3) := by decide +kernel
theorem dX8_order_77 : decode cX8_order 77 = .ok (.aload_n 0, 1) := by decide +kernel
theorem dX8_order_78 : decode cX8_order 78 = .ok (.aload_n 0, 1) := by decide +kernel
theorem dX8_order_79 : decode cX8_order 79 = .ok (.getfield 16, 3) := by decide +kernel
theorem dX8_order_82 : decode cX8_order 82 = .ok (.bipush 60, 2) := by decide +kernel
theorem dX8_order_84 : decode cX8_order 84 = .ok (.iload_n 1, 1) := by decide +kernel
theorem dX8_order_85 : decode cX8_order 85 = .ok (.imul, 1) := by decide +kernel
theorem dX8_order_86 : decode cX8_order 86 = .ok (.iload_n 2, 1) := by decide +kernel
theorem dX8_order_87 : decode cX8_order 87 = .ok (.iadd, 1) := by decide +kernel
theorem dX8_order_88 : decode cX8_order 88 = .ok (.iload 4, 2) := by decide +kernel
theorem dX8_order_90 : decode cX8_order 90 = .ok (.iadd, 1) := by decide +kernel
theorem dX8_order_91 : decode cX8_order 91 = .ok (.iaload, 1) := by decide +kernel
theorem dX8_order_92 : decode cX8_order 92 = .ok (.invokevirtual 108, 3) := by decide +kernel
theorem dX8_order_95 : decode cX8_order 95 = .ok (.ifCond .ne 6, 3) := by decide +kernel
theorem dX8_order_98 : decode cX8_order 98 = .ok (.ldc 72, 2) := by decide +kernel
theorem dX8_order_100 : decode cX8_order 100 = .ok (.ireturn, 1) := by decide +kernel
theorem dX8_order_101 : decode cX8_order 101 = .ok (.iinc 4 1, 3) := by decide +kernel
theorem dX8_order_104 : decode cX8_order 104 = .ok (.goto (-33), 3) := by decide +kernel
theorem dX8_order_107 : decode cX8_order 107 = .ok (.aload_n 0, 1) := by decide +kernel
theorem dX8_order_108 : decode cX8_order 108 = .ok (.iconst 0, 1) := by decide +kernel
theorem dX8_order_109 : decode cX8_order 109 = .ok (.putfield 56, 3) := by decide +kernel
theorem dX8_order_112 : decode cX8_order 112 = .ok (.aload_n 0, 1) := by decide +kernel
theorem dX8_order_113 : decode cX8_order 113 = .ok (.iload_n 3, 1) := by decide +kernel
theorem dX8_order_114 : decode cX8_order 114 = .ok (.putfield 116, 3) := by decide +kernel
theorem dX8_order_117 : decode cX8_order 117 = .ok (.iconst 0, 1) := by decide +kernel
theorem dX8_order_118 : decode cX8_order 118 = .ok (.istore 4, 2) := by decide +kernel
theorem dX8_order_120 : decode cX8_order 120 = .ok (.iload 4, 2) := by decide +kernel
theorem dX8_order_122 : decode cX8_order 122 = .ok (.iload_n 3, 1) := by decide +kernel
theorem dX8_order_123 : decode cX8_order 123 = .ok (.if_icmp .ge 30, 3) := by decide +kernel
theorem dX8_order_126 : decode cX8_order 126 = .ok (.aload_n 0, 1) := by decide +kernel
theorem dX8_order_127 : decode cX8_order 127 = .ok (.getfield 22, 3) := by decide +kernel
theorem dX8_order_130 : decode cX8_order 130 = .ok (.iload 4, 2) := by decide +kernel
theorem dX8_order_132 : decode cX8_order 132 = .ok (.aload_n 0, 1) := by decide +kernel
theorem dX8_order_133 : decode cX8_order 133 = .ok (.getfield 16, 3) := by decide +kernel
theorem dX8_order_136 : decode cX8_order 136 = .ok (.bipush 60, 2) := by decide +kernel
theorem dX8_order_138 : decode cX8_order 138 = .ok (.iload_n 1, 1) := by decide +kernel
theorem dX8_order_139 : decode cX8_order 139 = .ok (.imul, 1) := by decide +kernel
theorem dX8_order_140 : decode cX8_order 140 = .ok (.iload_n 2, 1) := by decide +kernel
theorem dX8_order_141 : decode cX8_order 141 = .ok (.iadd, 1) := by decide +kernel
theorem dX8_order_142 : decode cX8_order 142 = .ok (.iload 4, 2) := by decide +kernel
theorem dX8_order_144 : decode cX8_order 144 = .ok (.iadd, 1) := by decide +kernel
theorem dX8_order_145 : decode cX8_order 145 = .ok (.iaload, 1) := by decide +kernel
theorem dX8_order_146 : decode cX8_order 146 = .ok (.iastore, 1) := by decide +kernel
theorem dX8_order_147 : decode cX8_order 147 = .ok (.iinc 4 1, 3) := by decide +kernel
theorem dX8_order_150 : decode cX8_order 150 = .ok (.goto (-30), 3) := by decide +kernel
theorem dX8_order_153 : decode cX8_order 153 = .ok (.iload_n 3, 1) := by decide +kernel
theorem dX8_order_154 : decode cX8_order 154 = .ok (.ireturn, 1) := by decide +kernel
set_option maxRecDepth 20000 in
theorem ggX8_striking_X8_in : GoodIn wsX8_striking wsX8_in := goodIn_r _ [9] (by decide +kernel) (by decide +kernel)
set_option maxRecDepth 20000 in
theorem gX8_striking_X8_in : GoodIn wsX8_striking (va_wsS RX8 62 yX8_in wsX8_in) := goodIn_app (goodIn_of _ (by decide +kernel)) ggX8_striking_X8_in
theorem dX8_striking_0 : decode cX8_striking 0 = .ok (.aload_n 0, 1) := by decide +kernel
theorem dX8_striking_1 : decode cX8_striking 1 = .ok (.iconst 0, 1) := by decide +kernel
theorem dX8_striking_2 : decode cX8_striking 2 = .ok (.putfield 52, 3) := by decide +kernel
theorem dX8_striking_5 : decode cX8_striking 5 = .ok (.iload_n 1, 1) := by decide +kernel
theorem dX8_striking_6 : decode cX8_striking 6 = .ok (.ldc 35, 2) := by decide +kernel
theorem dX8_striking_8 : decode cX8_striking 8 = .ok (.if_icmp .ne 10, 3) := by decide +kernel
theorem dX8_striking_11 : decode cX8_striking 11 = .ok (.aload_n 0, 1) := by decide +kernel
theorem dX8_striking_12 : decode cX8_striking 12 = .ok (.getfield 116, 3) := by decide +kernel
theorem dX8_striking_15 : decode cX8_striking 15 = .ok (.goto 30, 3) := by decide +kernel
theorem dX8_striking_18 : decode cX8_striking 18 = .ok (.iload_n 1, 1) := by decide +kernel
theorem dX8_striking_19 : decode cX8_striking 19 = .ok (.i2l, 1) := by decide +kernel
theorem dX8_striking_20 : decode cX8_striking 20 = .ok (.lconst 0, 1) := by decide +kernel
theorem dX8_striking_21 : decode cX8_striking 21 = .ok (.aload_n 0, 1) := by decide +kernel
theorem dX8_striking_22 : decode cX8_striking 22 = .ok (.getfield 116, 3) := by decide +kernel
theorem dX8_striking_25 : decode cX8_striking 25 = .ok (.iconst 1, 1) := by decide +kernel
theorem dX8_striking_26 : decode cX8_striking 26 = .ok (.isub, 1) := by decide +kernel
theorem dX8_striking_27 : decode cX8_striking 27 = .ok (.i2l, 1) := by decide +kernel
theorem dX8_striking_28 : decode cX8_striking 28 = .ok (.invokestatic 62, 3) := by decide +kernel
theorem dX8_striking_31 : decode cX8_striking 31 = .ok (.ifCond .eq 12, 3) := by decide +kernel
theorem dX8_striking_34 : decode cX8_striking 34 = .ok (.aload_n 0, 1) := by decide +kernel
theorem dX8_striking_35 : decode cX8_striking 35 = .ok (.getfield 22, 3) := by decide +kernel
theorem dX8_striking_38 : decode cX8_striking 38 = .ok (.iload_n 1, 1) := by decide +kernel
theorem dX8_striking_39 : decode cX8_striking 39 = .ok (.iaload, 1) := by decide +kernel
theorem dX8_striking_40 : decode cX8_striking 40 = .ok (.goto 5, 3) := by decide +kernel
theorem dX8_striking_43 : decode cX8_striking 43 = .ok (.ldc 72, 2) := by decide +kernel
theorem dX8_striking_45 : decode cX8_striking 45 = .ok (.ireturn, 1) := by decide +kernel
set_option maxRecDepth 20000 in
theorem ggX8_findMeans_X8_runs : GoodIn wsX8_findMeans wsX8_runs := goodIn_r _ [10, 11, 12, 9, 13] (by decide +kernel) (by decide +kernel)
set_option maxRecDepth 20000 in
theorem gX8_findMeans_X8_runs : GoodIn wsX8_findMeans (va_wsS RX8 92 yX8_runs wsX8_runs) := goodIn_app (goodIn_of _ (by decide +kernel)) ggX8_findMeans_X8_runs
set_option maxRecDepth 20000 in
theorem ggX8_findMeans_X8_next : GoodIn wsX8_findMeans wsX8_next := goodIn_r _ [16] (by decide +kernel) (by decide +kernel)
set_option maxRecDepth 20000 in
theorem gX8_findMeans_X8_next : GoodIn wsX8_findMeans (va_wsS RX8 88 yX8_next wsX8_next) := goodIn_app (goodIn_of _ (by decide +kernel)) ggX8_findMeans_X8_next
theorem dX8_findMeans_0 : decode cX8_findMeans 0 = .ok (.iconst 0, 1) := by decide +kernel
theorem dX8_findMeans_1 : decode cX8_findMeans 1 = .ok (.istore_n 2, 1) := by decide +kernel
theorem dX8_findMeans_2 : decode cX8_findMeans 2 = .ok (.iload_n 2, 1) := by decide +kernel
theorem dX8_findMeans_3 : decode cX8_findMeans 3 = .ok (.iload_n 1, 1) := by decide +kernel
theorem dX8_findMeans_4 : decode cX8_findMeans 4 = .ok (.if_icmp .gt 185, 3) := by decide +kernel
theorem dX8_findMeans_7 : decode cX8_findMeans 7 = .ok (.iconst 0, 1) := by decide +kernel
theorem dX8_findMeans_8 : decode cX8_findMeans 8 = .ok (.istore_n 3, 1) := by decide +kernel
theorem dX8_findMeans_9 : decode cX8_findMeans 9 = .ok (.iload_n 3, 1) := by decide +kernel
theorem dX8_findMeans_10 : decode cX8_findMeans 10 = .ok (.aload_n 0, 1) := by decide +kernel
theorem dX8_findMeans_11 : decode cX8_findMeans 11 = .ok (.getfield 116, 3) := by decide +kernel
theorem dX8_findMeans_14 : decode cX8_findMeans 14 = .ok (.if_icmp .ge 169, 3) := by decide +kernel
theorem dX8_findMeans_17 : decode cX8_findMeans 17 = .ok (.iload_n 3, 1) := by decide +kernel
theorem dX8_findMeans_18 : decode cX8_findMeans 18 = .ok (.iconst 1, 1) := by decide +kernel
theorem dX8_findMeans_19 : decode cX8_findMeans 19 = .ok (.iadd, 1) := by decide +kernel
theorem dX8_findMeans_20 : decode cX8_findMeans 20 = .ok (.aload_n 0, 1) := by decide +kernel
theorem dX8_findMeans_21 : decode cX8_findMeans 21 = .ok (.getfield 116, 3) := by decide +kernel
theorem dX8_findMeans_24 : decode cX8_findMeans 24 = .ok (.irem, 1) := by decide +kernel
theorem dX8_findMeans_25 : decode cX8_findMeans 25 = .ok (.istore 4, 2) := by decide +kernel
theorem dX8_findMeans_27 : decode cX8_findMeans 27 = .ok (.iconst 0, 1) := by decide +kernel
theorem dX8_findMeans_28 : decode cX8_findMeans 28 = .ok (.istore 5, 2) := by decide +kernel
theorem dX8_findMeans_30 : decode cX8_findMeans 30 = .ok (.iload 5, 2) := by decide +kernel
theorem dX8_findMeans_32 : decode cX8_findMeans 32 = .ok (.bipush 25, 2) := by decide +kernel
theorem dX8_findMeans_34 : decode cX8_findMeans 34 = .ok (.if_icmp .ge 143, 3) := by decide +kernel
theorem dX8_findMeans_37 : decode cX8_findMeans 37 = .ok (.lconst 0, 1) := by decide +kernel
theorem dX8_findMeans_38 : decode cX8_findMeans 38 = .ok (.lstore 6, 2) := by decide +kernel
theorem dX8_findMeans_40 : decode cX8_findMeans 40 = .ok (.iconst 0, 1) := by decide +kernel
theorem dX8_findMeans_41 : decode cX8_findMeans 41 = .ok (.istore 8, 2) := by decide +kernel
theorem dX8_findMeans_43 : decode cX8_findMeans 43 = .ok (.iload 8, 2) := by decide +kernel
theorem dX8_findMeans_45 : decode cX8_findMeans 45 = .ok (.bipush 6, 2) := by decide +kernel
theorem dX8_findMeans_47 : decode cX8_findMeans 47 = .ok (.if_icmp .ge 99, 3) := by decide +kernel
theorem dX8_findMeans_50 : decode cX8_findMeans 50 = .ok (.iload_n 2, 1) := by decide +kernel
theorem dX8_findMeans_51 : decode cX8_findMeans 51 = .ok (.ifCond .le 95, 3) := by decide +kernel
theorem dX8_findMeans_54 : decode cX8_findMeans 54 = .ok (.iload 5, 2) := by decide +kernel
theorem dX8_findMeans_56 : decode cX8_findMeans 56 = .ok (.bipush 24, 2) := by decide +kernel
theorem dX8_findMeans_58 : decode cX8_findMeans 58 = .ok (.if_icmp .ge 88, 3) := by decide +kernel
theorem dX8_findMeans_61 : decode cX8_findMeans 61 = .ok (.aload_n 0, 1) := by decide +kernel
theorem dX8_findMeans_62 : decode cX8_findMeans 62 = .ok (.getfield 19, 3) := by decide +kernel
theorem dX8_findMeans_65 : decode cX8_findMeans 65 = .ok (.bipush 7, 2) := by decide +kernel
theorem dX8_findMeans_67 : decode cX8_findMeans 67 = .ok (.aload_n 0, 1) := by decide +kernel
theorem dX8_findMeans_68 : decode cX8_findMeans 68 = .ok (.getfield 22, 3) := by decide +kernel
theorem dX8_findMeans_71 : decode cX8_findMeans 71 = .ok (.iload_n 3, 1) := by decide +kernel
theorem dX8_findMeans_72 : decode cX8_findMeans 72 = .ok (.iaload, 1) := by decide +kernel
theorem dX8_findMeans_73 : decode cX8_findMeans 73 = .ok (.imul, 1) := by decide +kernel
theorem dX8_findMeans_74 : decode cX8_findMeans 74 = .ok (.iload 8, 2) := by decide +kernel
theorem dX8_findMeans_76 : decode cX8_findMeans 76 = .ok (.iadd, 1) := by decide +kernel
theorem dX8_findMeans_77 : decode cX8_findMeans 77 = .ok (.iaload, 1) := by decide +kernel
theorem dX8_findMeans_78 : decode cX8_findMeans 78 = .ok (.i2l, 1) := by decide +kernel
theorem dX8_findMeans_79 : decode cX8_findMeans 79 = .ok (.lstore 9, 2) := by decide +kernel
theorem dX8_findMeans_81 : decode cX8_findMeans 81 = .ok (.lload 6, 2) := by decide +kernel
theorem dX8_findMeans_83 : decode cX8_findMeans 83 = .ok (.lload 9, 2) := by decide +kernel
theorem dX8_findMeans_85 : decode cX8_findMeans 85 = .ok (.lconst 0, 1) := by decide +kernel
theorem dX8_findMeans_86 : decode cX8_findMeans 86 = .ok (.lcmp, 1) := by decide +kernel
theorem dX8_findMeans_87 : decode cX8_findMeans 87 = .ok (.ifCond .ne 7, 3) := by decide +kernel
theorem dX8_findMeans_90 : decode cX8_findMeans 90 = .ok (.lconst 0, 1) := by decide +kernel
theorem dX8_findMeans_91 : decode cX8_findMeans 91 = .ok (.goto 46, 3) := by decide +kernel
theorem dX8_findMeans_94 : decode cX8_findMeans 94 = .ok (.lload 9, 2) := by decide +kernel
theorem dX8_findMeans_96 : decode cX8_findMeans 96 = .ok (.iload 5, 2) := by decide +kernel
theorem dX8_findMeans_98 : decode cX8_findMeans 98 = .ok (.iload 8, 2) := by decide +kernel
theorem dX8_findMeans_100 : decode cX8_findMeans 100 = .ok (.invokestatic 92, 3) := by decide +kernel
theorem dX8_findMeans_103 : decode cX8_findMeans 103 = .ok (.i2l, 1) := by decide +kernel
theorem dX8_findMeans_104 : decode cX8_findMeans 104 = .ok (.ldc2_w 119, 3) := by decide +kernel
theorem dX8_findMeans_107 : decode cX8_findMeans 107 = .ok (.lmul, 1) := by decide +kernel
theorem dX8_findMeans_108 : decode cX8_findMeans 108 = .ok (.aload_n 0, 1) := by decide +kernel
theorem dX8_findMeans_109 : decode cX8_findMeans 109 = .ok (.getfield 25, 3) := by decide +kernel
theorem dX8_findMeans_112 : decode cX8_findMeans 112 = .ok (.sipush 225, 3) := by decide +kernel
theorem dX8_findMeans_115 : decode cX8_findMeans 115 = .ok (.iload_n 2, 1) := by decide +kernel
theorem dX8_findMeans_116 : decode cX8_findMeans 116 = .ok (.iconst 1, 1) := by decide +kernel
theorem dX8_findMeans_117 : decode cX8_findMeans 117 = .ok (.isub, 1) := by decide +kernel
theorem dX8_findMeans_118 : decode cX8_findMeans 118 = .ok (.imul, 1) := by decide +kernel
theorem dX8_findMeans_119 : decode cX8_findMeans 119 = .ok (.bipush 25, 2) := by decide +kernel
theorem dX8_findMeans_121 : decode cX8_findMeans 121 = .ok (.iload 4, 2) := by decide +kernel
theorem dX8_findMeans_123 : decode cX8_findMeans 123 = .ok (.imul, 1) := by decide +kernel
theorem dX8_findMeans_124 : decode cX8_findMeans 124 = .ok (.iadd, 1) := by decide +kernel
theorem dX8_findMeans_125 : decode cX8_findMeans 125 = .ok (.iload 5, 2) := by decide +kernel
theorem dX8_findMeans_127 : decode cX8_findMeans 127 = .ok (.iload 8, 2) := by decide +kernel
theorem dX8_findMeans_129 : decode cX8_findMeans 129 = .ok (.invokestatic 88, 3) := by decide +kernel
theorem dX8_findMeans_132 : decode cX8_findMeans 132 = .ok (.iadd, 1) := by decide +kernel
theorem dX8_findMeans_133 : decode cX8_findMeans 133 = .ok (.iaload, 1) := by decide +kernel
theorem dX8_findMeans_134 : decode cX8_findMeans 134 = .ok (.i2l, 1) := by decide +kernel
theorem dX8_findMeans_135 : decode cX8_findMeans 135 = .ok (.ladd, 1) := by decide +kernel
theorem dX8_findMeans_136 : decode cX8_findMeans 136 = .ok (.lmul, 1) := by decide +kernel
theorem dX8_findMeans_137 : decode cX8_findMeans 137 = .ok (.ladd, 1) := by decide +kernel
theorem dX8_findMeans_138 : decode cX8_findMeans 138 = .ok (.lstore 6, 2) := by decide +kernel
theorem dX8_findMeans_140 : decode cX8_findMeans 140 = .ok (.iinc 8 1, 3) := by decide +kernel
theorem dX8_findMeans_143 : decode cX8_findMeans 143 = .ok (.goto (-100), 3) := by decide +kernel
theorem dX8_findMeans_146 : decode cX8_findMeans 146 = .ok (.aload_n 0, 1) := by decide +kernel
theorem dX8_findMeans_147 : decode cX8_findMeans 147 = .ok (.getfield 25, 3) := by decide +kernel
theorem dX8_findMeans_150 : decode cX8_findMeans 150 = .ok (.sipush 225, 3) := by decide +kernel
theorem dX8_findMeans_153 : decode cX8_findMeans 153 = .ok (.iload_n 2, 1) := by decide +kernel
theorem dX8_findMeans_154 : decode cX8_findMeans 154 = .ok (.imul, 1) := by decide +kernel
theorem dX8_findMeans_155 : decode cX8_findMeans 155 = .ok (.bipush 25, 2) := by decide +kernel
theorem dX8_findMeans_157 : decode cX8_findMeans 157 = .ok (.iload_n 3, 1) := by decide +kernel
theorem dX8_findMeans_158 : decode cX8_findMeans 158 = .ok (.imul, 1) := by decide +kernel
theorem dX8_findMeans_159 : decode cX8_findMeans 159 = .ok (.iadd, 1) := by decide +kernel
theorem dX8_findMeans_160 : decode cX8_findMeans 160 = .ok (.iload 5, 2) := by decide +kernel
theorem dX8_findMeans_162 : decode cX8_findMeans 162 = .ok (.iadd, 1) := by decide +kernel
theorem dX8_findMeans_163 : decode cX8_findMeans 163 = .ok (.lload 6, 2) := by decide +kernel
theorem dX8_findMeans_165 : decode cX8_findMeans 165 = .ok (.ldc2_w 98, 3) := by decide +kernel
theorem dX8_findMeans_168 : decode cX8_findMeans 168 = .ok (.ldiv, 1) := by decide +kernel
theorem dX8_findMeans_169 : decode cX8_findMeans 169 = .ok (.l2i, 1) := by decide +kernel
theorem dX8_findMeans_170 : decode cX8_findMeans 170 = .ok (.iastore, 1) := by decide +kernel
theorem dX8_findMeans_171 : decode cX8_findMeans 171 = .ok (.iinc 5 1, 3) := by decide +kernel
theorem dX8_findMeans_174 : decode cX8_findMeans 174 = .ok (.goto (-144), 3) := by decide +kernel
theorem dX8_findMeans_177 : decode cX8_findMeans 177 = .ok (.iinc 3 1, 3) := by decide +kernel
theorem dX8_findMeans_180 : decode cX8_findMeans 180 = .ok (.goto (-171), 3) := by decide +kernel
theorem dX8_findMeans_183 : decode cX8_findMeans 183 = .ok (.iinc 2 1, 3) := by decide +kernel
theorem dX8_findMeans_186 : decode cX8_findMeans 186 = .ok (.goto (-184), 3) := by decide +kernel
theorem dX8_findMeans_189 : decode cX8_findMeans 189 = .ok (.return_, 1) := by decide +kernel
set_option maxRecDepth 20000 in
theorem ggX8_isAt_X8_in : GoodIn wsX8_isAt wsX8_in := goodIn_r _ [7] (by decide +kernel) (by decide +kernel)
set_option maxRecDepth 20000 in
theorem gX8_isAt_X8_in : GoodIn wsX8_isAt (va_wsS RX8 62 yX8_in wsX8_in) := goodIn_app (goodIn_of _ (by decide +kernel)) ggX8_isAt_X8_in
theorem dX8_isAt_0 : decode cX8_isAt 0 = .ok (.iload_n 1, 1) := by decide +kernel
theorem dX8_isAt_1 : decode cX8_isAt 1 = .ok (.i2l, 1) := by decide +kernel
theorem dX8_isAt_2 : decode cX8_isAt 2 = .ok (.lconst 0, 1) := by decide +kernel
theorem dX8_isAt_3 : decode cX8_isAt 3 = .ok (.ldc2_w 121, 3) := by decide +kernel
theorem dX8_isAt_6 : decode cX8_isAt 6 = .ok (.invokestatic 62, 3) := by decide +kernel
theorem dX8_isAt_9 : decode cX8_isAt 9 = .ok (.ifCond .eq 35, 3) := by decide +kernel
theorem dX8_isAt_12 : decode cX8_isAt 12 = .ok (.iload_n 2, 1) := by decide +kernel
theorem dX8_isAt_13 : decode cX8_isAt 13 = .ok (.i2l, 1) := by decide +kernel
theorem dX8_isAt_14 : decode cX8_isAt 14 = .ok (.lconst 0, 1) := by decide +kernel
theorem dX8_isAt_15 : decode cX8_isAt 15 = .ok (.aload_n 0, 1) := by decide +kernel
theorem dX8_isAt_16 : decode cX8_isAt 16 = .ok (.getfield 116, 3) := by decide +kernel
theorem dX8_isAt_19 : decode cX8_isAt 19 = .ok (.iconst 1, 1) := by decide +kernel
theorem dX8_isAt_20 : decode cX8_isAt 20 = .ok (.isub, 1) := by decide +kernel
theorem dX8_isAt_21 : decode cX8_isAt 21 = .ok (.i2l, 1) := by decide +kernel
theorem dX8_isAt_22 : decode cX8_isAt 22 = .ok (.invokestatic 62, 3) := by decide +kernel
theorem dX8_isAt_25 : decode cX8_isAt 25 = .ok (.ifCond .eq 19, 3) := by decide +kernel
theorem dX8_isAt_28 : decode cX8_isAt 28 = .ok (.iload_n 3, 1) := by decide +kernel
theorem dX8_isAt_29 : decode cX8_isAt 29 = .ok (.i2l, 1) := by decide +kernel
theorem dX8_isAt_30 : decode cX8_isAt 30 = .ok (.lconst 0, 1) := by decide +kernel
theorem dX8_isAt_31 : decode cX8_isAt 31 = .ok (.ldc2_w 123, 3) := by decide +kernel
theorem dX8_isAt_34 : decode cX8_isAt 34 = .ok (.invokestatic 62, 3) := by decide +kernel
theorem dX8_isAt_37 : decode cX8_isAt 37 = .ok (.ifCond .eq 7, 3) := by decide +kernel
theorem dX8_isAt_40 : decode cX8_isAt 40 = .ok (.iconst 1, 1) := by decide +kernel
theorem dX8_isAt_41 : decode cX8_isAt 41 = .ok (.goto 4, 3) := by decide +kernel
theorem dX8_isAt_44 : decode cX8_isAt 44 = .ok (.iconst 0, 1) := by decide +kernel
theorem dX8_isAt_45 : decode cX8_isAt 45 = .ok (.ireturn, 1) := by decide +kernel
set_option maxRecDepth 20000 in
theorem ggX8_mean_X8_isAt : GoodIn wsX8_mean wsX8_isAt := goodIn_r _ [8, 9, 10, 11, 12, 13, 7, 14, 32, 33, 34, 35, 36, 37, 38, 39, 40, 41, 42, 43, 44, 45, 46, 47, 48, 49, 50, 51, 52, 53] (by decide +kernel) (by decide +kernel)
set_option maxRecDepth 20000 in
theorem gX8_mean_X8_isAt : GoodIn wsX8_mean (wsV RX8 125 RX8 yX8_isAt wsX8_isAt) := goodIn_app (goodIn_of _ (by decide +kernel)) ggX8_mean_X8_isAt
set_option maxRecDepth 20000 in
theorem ggX8_mean_X8_findMeans : GoodIn wsX8_mean wsX8_findMeans := goodIn_r _ [18, 10, 19, 20, 21, 3, 22, 23, 24, 7, 25, 26, 27, 28, 29, 30, 31, 32, 33, 34, 35, 36, 37, 38, 39, 40, 41, 42, 43, 44, 45, 46, 47, 48, 49, 50, 51, 52, 53] (by decide +kernel) (by decide +kernel)
set_option maxRecDepth 20000 in
theorem gX8_mean_X8_findMeans : GoodIn wsX8_mean (wsV RX8 129 RX8 yX8_findMeans wsX8_findMeans) := goodIn_app (goodIn_of _ (by decide +kernel)) ggX8_mean_X8_findMeans
theorem dX8_mean_0 : decode cX8_mean 0 = .ok (.aload_n 0, 1) := by decide +kernel
theorem dX8_mean_1 : decode cX8_mean 1 = .ok (.iconst 0, 1) := by decide +kernel
theorem dX8_mean_2 : decode cX8_mean 2 = .ok (.putfield 52, 3) := by decide +kernel
theorem dX8_mean_5 : decode cX8_mean 5 = .ok (.aload_n 0, 1) := by decide +kernel
theorem dX8_mean_6 : decode cX8_mean 6 = .ok (.iload_n 1, 1) := by decide +kernel
theorem dX8_mean_7 : decode cX8_mean 7 = .ok (.iload_n 2, 1) := by decide +kernel
theorem dX8_mean_8 : decode cX8_mean 8 = .ok (.iload_n 3, 1) := by decide +kernel
theorem dX8_mean_9 : decode cX8_mean 9 = .ok (.invokevirtual 125, 3) := by decide +kernel
theorem dX8_mean_12 : decode cX8_mean 12 = .ok (.ifCond .ne 6, 3) := by decide +kernel
theorem dX8_mean_15 : decode cX8_mean 15 = .ok (.ldc 72, 2) := by decide +kernel
theorem dX8_mean_17 : decode cX8_mean 17 = .ok (.ireturn, 1) := by decide +kernel
theorem dX8_mean_18 : decode cX8_mean 18 = .ok (.aload_n 0, 1) := by decide +kernel
theorem dX8_mean_19 : decode cX8_mean 19 = .ok (.iload_n 3, 1) := by decide +kernel
theorem dX8_mean_20 : decode cX8_mean 20 = .ok (.invokevirtual 129, 3) := by decide +kernel
theorem dX8_mean_23 : decode cX8_mean 23 = .ok (.aload_n 0, 1) := by decide +kernel
theorem dX8_mean_24 : decode cX8_mean 24 = .ok (.getfield 25, 3) := by decide +kernel
theorem dX8_mean_27 : decode cX8_mean 27 = .ok (.sipush 225, 3) := by decide +kernel
theorem dX8_mean_30 : decode cX8_mean 30 = .ok (.iload_n 3, 1) := by decide +kernel
theorem dX8_mean_31 : decode cX8_mean 31 = .ok (.imul, 1) := by decide +kernel
theorem dX8_mean_32 : decode cX8_mean 32 = .ok (.bipush 25, 2) := by decide +kernel
theorem dX8_mean_34 : decode cX8_mean 34 = .ok (.iload_n 2, 1) := by decide +kernel
theorem dX8_mean_35 : decode cX8_mean 35 = .ok (.imul, 1) := by decide +kernel
theorem dX8_mean_36 : decode cX8_mean 36 = .ok (.iadd, 1) := by decide +kernel
theorem dX8_mean_37 : decode cX8_mean 37 = .ok (.iload_n 1, 1) := by decide +kernel
theorem dX8_mean_38 : decode cX8_mean 38 = .ok (.iadd, 1) := by decide +kernel
theorem dX8_mean_39 : decode cX8_mean 39 = .ok (.iaload, 1) := by decide +kernel
theorem dX8_mean_40 : decode cX8_mean 40 = .ok (.ireturn, 1) := by decide +kernel
set_option maxRecDepth 20000 in
theorem ggX8_likely_X8_isAt : GoodIn wsX8_likely wsX8_isAt := goodIn_r _ [15, 16, 4, 17, 18, 19, 14, 20, 30, 31, 32, 33, 34, 35, 36, 37, 38, 39, 40, 41, 42, 43, 44, 45, 46, 47, 48, 49, 50, 51] (by decide +kernel) (by decide +kernel)
set_option maxRecDepth 20000 in
theorem gX8_likely_X8_isAt : GoodIn wsX8_likely (wsV RX8 125 RX8 yX8_isAt wsX8_isAt) := goodIn_app (goodIn_of _ (by decide +kernel)) ggX8_likely_X8_isAt
set_option maxRecDepth 20000 in
theorem ggX8_likely_X8_in : GoodIn wsX8_likely wsX8_in := goodIn_r _ [20] (by decide +kernel) (by decide +kernel)
set_option maxRecDepth 20000 in
theorem gX8_likely_X8_in : GoodIn wsX8_likely (va_wsS RX8 62 yX8_in wsX8_in) := goodIn_app (goodIn_of _ (by decide +kernel)) ggX8_likely_X8_in
set_option maxRecDepth 20000 in
theorem ggX8_likely_X8_runs : GoodIn wsX8_likely wsX8_runs := goodIn_r _ [23, 24, 25, 14, 26] (by decide +kernel) (by decide +kernel)
set_option maxRecDepth 20000 in
theorem gX8_likely_X8_runs : GoodIn wsX8_likely (va_wsS RX8 92 yX8_runs wsX8_runs) := goodIn_app (goodIn_of _ (by decide +kernel)) ggX8_likely_X8_runs
set_option maxRecDepth 20000 in
theorem ggX8_likely_X8_next : GoodIn wsX8_likely wsX8_next := goodIn_r _ [29] (by decide +kernel) (by decide +kernel)
set_option maxRecDepth 20000 in
theorem gX8_likely_X8_next : GoodIn wsX8_likely (va_wsS RX8 88 yX8_next wsX8_next) := goodIn_app (goodIn_of _ (by decide +kernel)) ggX8_likely_X8_next
theorem dX8_likely_0 : decode cX8_likely 0 = .ok (.aload_n 0, 1) := by decide +kernel
theorem dX8_likely_1 : decode cX8_likely 1 = .ok (.iconst 0, 1) := by decide +kernel
theorem dX8_likely_2 : decode cX8_likely 2 = .ok (.putfield 52, 3) := by decide +kernel
theorem dX8_likely_5 : decode cX8_likely 5 = .ok (.aload_n 0, 1) := by decide +kernel
theorem dX8_likely_6 : decode cX8_likely 6 = .ok (.iload_n 1, 1) := by decide +kernel
theorem dX8_likely_7 : decode cX8_likely 7 = .ok (.iload_n 2, 1) := by decide +kernel
theorem dX8_likely_8 : decode cX8_likely 8 = .ok (.iload_n 3, 1) := by decide +kernel
theorem dX8_likely_9 : decode cX8_likely 9 = .ok (.invokevirtual 125, 3) := by decide +kernel
theorem dX8_likely_12 : decode cX8_likely 12 = .ok (.ifCond .eq 16, 3) := by decide +kernel
theorem dX8_likely_15 : decode cX8_likely 15 = .ok (.iload 4, 2) := by decide +kernel
theorem dX8_likely_17 : decode cX8_likely 17 = .ok (.i2l, 1) := by decide +kernel
theorem dX8_likely_18 : decode cX8_likely 18 = .ok (.lconst 0, 1) := by decide +kernel
theorem dX8_likely_19 : decode cX8_likely 19 = .ok (.ldc2_w 114, 3) := by decide +kernel
theorem dX8_likely_22 : decode cX8_likely 22 = .ok (.invokestatic 62, 3) := by decide +kernel
theorem dX8_likely_25 : decode cX8_likely 25 = .ok (.ifCond .ne 6, 3) := by decide +kernel
theorem dX8_likely_28 : decode cX8_likely 28 = .ok (.ldc 72, 2) := by decide +kernel
theorem dX8_likely_30 : decode cX8_likely 30 = .ok (.ireturn, 1) := by decide +kernel
theorem dX8_likely_31 : decode cX8_likely 31 = .ok (.iconst 0, 1) := by decide +kernel
theorem dX8_likely_32 : decode cX8_likely 32 = .ok (.istore 5, 2) := by decide +kernel
theorem dX8_likely_34 : decode cX8_likely 34 = .ok (.iload 5, 2) := by decide +kernel
theorem dX8_likely_36 : decode cX8_likely 36 = .ok (.iload_n 3, 1) := by decide +kernel
theorem dX8_likely_37 : decode cX8_likely 37 = .ok (.if_icmp .gt 284, 3) := by decide +kernel
theorem dX8_likely_40 : decode cX8_likely 40 = .ok (.iconst 0, 1) := by decide +kernel
theorem dX8_likely_41 : decode cX8_likely 41 = .ok (.istore 6, 2) := by decide +kernel
theorem dX8_likely_43 : decode cX8_likely 43 = .ok (.iload 6, 2) := by decide +kernel
theorem dX8_likely_45 : decode cX8_likely 45 = .ok (.aload_n 0, 1) := by decide +kernel
theorem dX8_likely_46 : decode cX8_likely 46 = .ok (.getfield 116, 3) := by decide +kernel
theorem dX8_likely_49 : decode cX8_likely 49 = .ok (.if_icmp .ge 266, 3) := by decide +kernel
theorem dX8_likely_52 : decode cX8_likely 52 = .ok (.iload 6, 2) := by decide +kernel
theorem dX8_likely_54 : decode cX8_likely 54 = .ok (.iconst 1, 1) := by decide +kernel
theorem dX8_likely_55 : decode cX8_likely 55 = .ok (.iadd, 1) := by decide +kernel
theorem dX8_likely_56 : decode cX8_likely 56 = .ok (.aload_n 0, 1) := by decide +kernel
theorem dX8_likely_57 : decode cX8_likely 57 = .ok (.getfield 116, 3) := by decide +kernel
theorem dX8_likely_60 : decode cX8_likely 60 = .ok (.irem, 1) := by decide +kernel
theorem dX8_likely_61 : decode cX8_likely 61 = .ok (.istore 7, 2) := by decide +kernel
theorem dX8_likely_63 : decode cX8_likely 63 = .ok (.iconst 0, 1) := by decide +kernel
theorem dX8_likely_64 : decode cX8_likely 64 = .ok (.istore 8, 2) := by decide +kernel
theorem dX8_likely_66 : decode cX8_likely 66 = .ok (.iload 8, 2) := by decide +kernel
theorem dX8_likely_68 : decode cX8_likely 68 = .ok (.bipush 25, 2) := by decide +kernel
theorem dX8_likely_70 : decode cX8_likely 70 = .ok (.if_icmp .ge 239, 3) := by decide +kernel
theorem dX8_likely_73 : decode cX8_likely 73 = .ok (.iconst 0, 1) := by decide +kernel
theorem dX8_likely_74 : decode cX8_likely 74 = .ok (.istore 9, 2) := by decide +kernel
theorem dX8_likely_76 : decode cX8_likely 76 = .ok (.iload 9, 2) := by decide +kernel
theorem dX8_likely_78 : decode cX8_likely 78 = .ok (.bipush 10, 2) := by decide +kernel
theorem dX8_likely_80 : decode cX8_likely 80 = .ok (.if_icmp .ge 223, 3) := by decide +kernel
theorem dX8_likely_83 : decode cX8_likely 83 = .ok (.bipush 10, 2) := by decide +kernel
theorem dX8_likely_85 : decode cX8_likely 85 = .ok (.sipush 225, 3) := by decide +kernel
theorem dX8_likely_88 : decode cX8_likely 88 = .ok (.iload 5, 2) := by decide +kernel
theorem dX8_likely_90 : decode cX8_likely 90 = .ok (.imul, 1) := by decide +kernel
theorem dX8_likely_91 : decode cX8_likely 91 = .ok (.bipush 25, 2) := by decide +kernel
theorem dX8_likely_93 : decode cX8_likely 93 = .ok (.iload 6, 2) := by decide +kernel
theorem dX8_likely_95 : decode cX8_likely 95 = .ok (.imul, 1) := by decide +kernel
theorem dX8_likely_96 : decode cX8_likely 96 = .ok (.iadd, 1) := by decide +kernel
theorem dX8_likely_97 : decode cX8_likely 97 = .ok (.iload 8, 2) := by decide +kernel
theorem dX8_likely_99 : decode cX8_likely 99 = .ok (.iadd, 1) := by decide +kernel
theorem dX8_likely_100 : decode cX8_likely 100 = .ok (.imul, 1) := by decide +kernel
theorem dX8_likely_101 : decode cX8_likely 101 = .ok (.iload 9, 2) := by decide +kernel
theorem dX8_likely_103 : decode cX8_likely 103 = .ok (.iadd, 1) := by decide +kernel
theorem dX8_likely_104 : decode cX8_likely 104 = .ok (.istore 10, 2) := by decide +kernel
theorem dX8_likely_106 : decode cX8_likely 106 = .ok (.lconst 0, 1) := by decide +kernel
theorem dX8_likely_107 : decode cX8_likely 107 = .ok (.lstore 11, 2) := by decide +kernel
theorem dX8_likely_109 : decode cX8_likely 109 = .ok (.iconst 0, 1) := by decide +kernel
theorem dX8_likely_110 : decode cX8_likely 110 = .ok (.istore 13, 2) := by decide +kernel
theorem dX8_likely_112 : decode cX8_likely 112 = .ok (.iload 13, 2) := by decide +kernel
theorem dX8_likely_114 : decode cX8_likely 114 = .ok (.bipush 6, 2) := by decide +kernel
theorem dX8_likely_116 : decode cX8_likely 116 = .ok (.if_icmp .ge 141, 3) := by decide +kernel
theorem dX8_likely_119 : decode cX8_likely 119 = .ok (.iload 5, 2) := by decide +kernel
theorem dX8_likely_121 : decode cX8_likely 121 = .ok (.ifCond .le 136, 3) := by decide +kernel
theorem dX8_likely_124 : decode cX8_likely 124 = .ok (.iload 8, 2) := by decide +kernel
theorem dX8_likely_126 : decode cX8_likely 126 = .ok (.bipush 24, 2) := by decide +kernel
theorem dX8_likely_128 : decode cX8_likely 128 = .ok (.if_icmp .ge 129, 3) := by decide +kernel
theorem dX8_likely_131 : decode cX8_likely 131 = .ok (.iload 9, 2) := by decide +kernel
theorem dX8_likely_133 : decode cX8_likely 133 = .ok (.iload 8, 2) := by decide +kernel
theorem dX8_likely_135 : decode cX8_likely 135 = .ok (.iload 13, 2) := by decide +kernel
theorem dX8_likely_137 : decode cX8_likely 137 = .ok (.invokestatic 92, 3) := by decide +kernel
theorem dX8_likely_140 : decode cX8_likely 140 = .ok (.isub, 1) := by decide +kernel
theorem dX8_likely_141 : decode cX8_likely 141 = .ok (.istore 14, 2) := by decide +kernel
theorem dX8_likely_143 : decode cX8_likely 143 = .ok (.bipush 10, 2) := by decide +kernel
theorem dX8_likely_145 : decode cX8_likely 145 = .ok (.sipush 225, 3) := by decide +kernel
theorem dX8_likely_148 : decode cX8_likely 148 = .ok (.iload 5, 2) := by decide +kernel
theorem dX8_likely_150 : decode cX8_likely 150 = .ok (.iconst 1, 1) := by decide +kernel
theorem dX8_likely_151 : decode cX8_likely 151 = .ok (.isub, 1) := by decide +kernel
theorem dX8_likely_152 : decode cX8_likely 152 = .ok (.imul, 1) := by decide +kernel
theorem dX8_likely_153 : decode cX8_likely 153 = .ok (.bipush 25, 2) := by decide +kernel
theorem dX8_likely_155 : decode cX8_likely 155 = .ok (.iload 7, 2) := by decide +kernel
theorem dX8_likely_157 : decode cX8_likely 157 = .ok (.imul, 1) := by decide +kernel
theorem dX8_likely_158 : decode cX8_likely 158 = .ok (.iadd, 1) := by decide +kernel
theorem dX8_likely_159 : decode cX8_likely 159 = .ok (.iload 8, 2) := by decide +kernel
theorem dX8_likely_161 : decode cX8_likely 161 = .ok (.iload 13, 2) := by decide +kernel
theorem dX8_likely_163 : decode cX8_likely 163 = .ok (.invokestatic 88, 3) := by decide +kernel
theorem dX8_likely_166 : decode cX8_likely 166 = .ok (.iadd, 1) := by decide +kernel
theorem dX8_likely_167 : decode cX8_likely 167 = .ok (.imul, 1) := by decide +kernel
theorem dX8_likely_168 : decode cX8_likely 168 = .ok (.istore 15, 2) := by decide +kernel
theorem dX8_likely_170 : decode cX8_likely 170 = .ok (.iload 4, 2) := by decide +kernel
theorem dX8_likely_172 : decode cX8_likely 172 = .ok (.bipush 9, 2) := by decide +kernel
theorem dX8_likely_174 : decode cX8_likely 174 = .ok (.if_icmp .ne 28, 3) := by decide +kernel
theorem dX8_likely_177 : decode cX8_likely 177 = .ok (.iload 14, 2) := by decide +kernel
theorem dX8_likely_179 : decode cX8_likely 179 = .ok (.ifCond .gt 9, 3) := by decide +kernel
theorem dX8_likely_182 : decode cX8_likely 182 = .ok (.ldc2_w 119, 3) := by decide +kernel
theorem dX8_likely_185 : decode cX8_likely 185 = .ok (.goto 37, 3) := by decide +kernel
theorem dX8_likely_188 : decode cX8_likely 188 = .ok (.aload_n 0, 1) := by decide +kernel
theorem dX8_likely_189 : decode cX8_likely 189 = .ok (.getfield 29, 3) := by decide +kernel
theorem dX8_likely_192 : decode cX8_likely 192 = .ok (.iload 15, 2) := by decide +kernel
theorem dX8_likely_194 : decode cX8_likely 194 = .ok (.iload 14, 2) := by decide +kernel
theorem dX8_likely_196 : decode cX8_likely 196 = .ok (.iadd, 1) := by decide +kernel
theorem dX8_likely_197 : decode cX8_likely 197 = .ok (.iaload, 1) := by decide +kernel
theorem dX8_likely_198 : decode cX8_likely 198 = .ok (.i2l, 1) := by decide +kernel
theorem dX8_likely_199 : decode cX8_likely 199 = .ok (.goto 23, 3) := by decide +kernel
theorem dX8_likely_202 : decode cX8_likely 202 = .ok (.iload 14, 2) := by decide +kernel
theorem dX8_likely_204 : decode cX8_likely 204 = .ok (.ifCond .ge 7, 3) := by decide +kernel
theorem dX8_likely_207 : decode cX8_likely 207 = .ok (.lconst 0, 1) := by decide +kernel
theorem dX8_likely_208 : decode cX8_likely 208 = .ok (.goto 14, 3) := by decide +kernel
theorem dX8_likely_211 : decode cX8_likely 211 = .ok (.aload_n 0, 1) := by decide +kernel
theorem dX8_likely_212 : decode cX8_likely 212 = .ok (.getfield 29, 3) := by decide +kernel
theorem dX8_likely_215 : decode cX8_likely 215 = .ok (.iload 15, 2) := by decide +kernel
theorem dX8_likely_217 : decode cX8_likely 217 = .ok (.iload 14, 2) := by decide +kernel
theorem dX8_likely_219 : decode cX8_likely 219 = .ok (.iadd, 1) := by decide +kernel
theorem dX8_likely_220 : decode cX8_likely 220 = .ok (.iaload, 1) := by decide +kernel
theorem dX8_likely_221 : decode cX8_likely 221 = .ok (.i2l, 1) := by decide +kernel
theorem dX8_likely_222 : decode cX8_likely 222 = .ok (.lstore 16, 2) := by decide +kernel
theorem dX8_likely_224 : decode cX8_likely 224 = .ok (.lload 11, 2) := by decide +kernel
theorem dX8_likely_226 : decode cX8_likely 226 = .ok (.aload_n 0, 1) := by decide +kernel
theorem dX8_likely_227 : decode cX8_likely 227 = .ok (.getfield 19, 3) := by decide +kernel
theorem dX8_likely_230 : decode cX8_likely 230 = .ok (.bipush 7, 2) := by decide +kernel
theorem dX8_likely_232 : decode cX8_likely 232 = .ok (.aload_n 0, 1) := by decide +kernel
theorem dX8_likely_233 : decode cX8_likely 233 = .ok (.getfield 22, 3) := by decide +kernel
theorem dX8_likely_236 : decode cX8_likely 236 = .ok (.iload 6, 2) := by decide +kernel
theorem dX8_likely_238 : decode cX8_likely 238 = .ok (.iaload, 1) := by decide +kernel
theorem dX8_likely_239 : decode cX8_likely 239 = .ok (.imul, 1) := by decide +kernel
theorem dX8_likely_240 : decode cX8_likely 240 = .ok (.iload 13, 2) := by decide +kernel
theorem dX8_likely_242 : decode cX8_likely 242 = .ok (.iadd, 1) := by decide +kernel
theorem dX8_likely_243 : decode cX8_likely 243 = .ok (.iaload, 1) := by decide +kernel
theorem dX8_likely_244 : decode cX8_likely 244 = .ok (.i2l, 1) := by decide +kernel
theorem dX8_likely_245 : decode cX8_likely 245 = .ok (.lload 16, 2) := by decide +kernel
theorem dX8_likely_247 : decode cX8_likely 247 = .ok (.lmul, 1) := by decide +kernel
theorem dX8_likely_248 : decode cX8_likely 248 = .ok (.ladd, 1) := by decide +kernel
theorem dX8_likely_249 : decode cX8_likely 249 = .ok (.lstore 11, 2) := by decide +kernel
theorem dX8_likely_251 : decode cX8_likely 251 = .ok (.iinc 13 1, 3) := by decide +kernel
theorem dX8_likely_254 : decode cX8_likely 254 = .ok (.goto (-142), 3) := by decide +kernel
theorem dX8_likely_257 : decode cX8_likely 257 = .ok (.aload_n 0, 1) := by decide +kernel
theorem dX8_likely_258 : decode cX8_likely 258 = .ok (.getfield 29, 3) := by decide +kernel
theorem dX8_likely_261 : decode cX8_likely 261 = .ok (.iload 10, 2) := by decide +kernel
theorem dX8_likely_263 : decode cX8_likely 263 = .ok (.iload 5, 2) := by decide +kernel
theorem dX8_likely_265 : decode cX8_likely 265 = .ok (.ifCond .eq 10, 3) := by decide +kernel
theorem dX8_likely_268 : decode cX8_likely 268 = .ok (.iload 8, 2) := by decide +kernel
theorem dX8_likely_270 : decode cX8_likely 270 = .ok (.bipush 24, 2) := by decide +kernel
theorem dX8_likely_272 : decode cX8_likely 272 = .ok (.if_icmp .ne 17, 3) := by decide +kernel
theorem dX8_likely_275 : decode cX8_likely 275 = .ok (.iload 9, 2) := by decide +kernel
theorem dX8_likely_277 : decode cX8_likely 277 = .ok (.ifCond .ne 8, 3) := by decide +kernel
theorem dX8_likely_280 : decode cX8_likely 280 = .ok (.ldc 132, 2) := by decide +kernel
theorem dX8_likely_282 : decode cX8_likely 282 = .ok (.goto 14, 3) := by decide +kernel
theorem dX8_likely_285 : decode cX8_likely 285 = .ok (.iconst 0, 1) := by decide +kernel
theorem dX8_likely_286 : decode cX8_likely 286 = .ok (.goto 10, 3) := by decide +kernel
theorem dX8_likely_289 : decode cX8_likely 289 = .ok (.lload 11, 2) := by decide +kernel
theorem dX8_likely_291 : decode cX8_likely 291 = .ok (.ldc2_w 98, 3) := by decide +kernel
theorem dX8_likely_294 : decode cX8_likely 294 = .ok (.ldiv, 1) := by decide +kernel
theorem dX8_likely_295 : decode cX8_likely 295 = .ok (.l2i, 1) := by decide +kernel
theorem dX8_likely_296 : decode cX8_likely 296 = .ok (.iastore, 1) := by decide +kernel
theorem dX8_likely_297 : decode cX8_likely 297 = .ok (.iinc 9 1, 3) := by decide +kernel
theorem dX8_likely_300 : decode cX8_likely 300 = .ok (.goto (-224), 3) := by decide +kernel
theorem dX8_likely_303 : decode cX8_likely 303 = .ok (.iinc 8 1, 3) := by decide +kernel
theorem dX8_likely_306 : decode cX8_likely 306 = .ok (.goto (-240), 3) := by decide +kernel
theorem dX8_likely_309 : decode cX8_likely 309 = .ok (.iinc 6 1, 3) := by decide +kernel
theorem dX8_likely_312 : decode cX8_likely 312 = .ok (.goto (-269), 3) := by decide +kernel
theorem dX8_likely_315 : decode cX8_likely 315 = .ok (.iinc 5 1, 3) := by decide +kernel
theorem dX8_likely_318 : decode cX8_likely 318 = .ok (.goto (-284), 3) := by decide +kernel
theorem dX8_likely_321 : decode cX8_likely 321 = .ok (.aload_n 0, 1) := by decide +kernel
theorem dX8_likely_322 : decode cX8_likely 322 = .ok (.getfield 29, 3) := by decide +kernel
theorem dX8_likely_325 : decode cX8_likely 325 = .ok (.bipush 10, 2) := by decide +kernel
theorem dX8_likely_327 : decode cX8_likely 327 = .ok (.sipush 225, 3) := by decide +kernel
theorem dX8_likely_330 : decode cX8_likely 330 = .ok (.iload_n 3, 1) := by decide +kernel
theorem dX8_likely_331 : decode cX8_likely 331 = .ok (.imul, 1) := by decide +kernel
theorem dX8_likely_332 : decode cX8_likely 332 = .ok (.bipush 25, 2) := by decide +kernel
theorem dX8_likely_334 : decode cX8_likely 334 = .ok (.iload_n 2, 1) := by decide +kernel
theorem dX8_likely_335 : decode cX8_likely 335 = .ok (.imul, 1) := by decide +kernel
theorem dX8_likely_336 : decode cX8_likely 336 = .ok (.iadd, 1) := by decide +kernel
theorem dX8_likely_337 : decode cX8_likely 337 = .ok (.iload_n 1, 1) := by decide +kernel
theorem dX8_likely_338 : decode cX8_likely 338 = .ok (.iadd, 1) := by decide +kernel
theorem dX8_likely_339 : decode cX8_likely 339 = .ok (.imul, 1) := by decide +kernel
theorem dX8_likely_340 : decode cX8_likely 340 = .ok (.iload 4, 2) := by decide +kernel
theorem dX8_likely_342 : decode cX8_likely 342 = .ok (.iadd, 1) := by decide +kernel
theorem dX8_likely_343 : decode cX8_likely 343 = .ok (.iaload, 1) := by decide +kernel
theorem dX8_likely_344 : decode cX8_likely 344 = .ok (.ireturn, 1) := by decide +kernel
set_option maxRecDepth 20000 in
theorem ggX8_worth_X8_isAt : GoodIn wsX8_worth wsX8_isAt := goodIn_r _ [11, 12, 6, 13, 14, 15, 10, 16, 34, 35, 36, 37, 38, 39, 40, 41, 42, 43, 44, 45, 46, 47, 48, 49, 50, 51, 52, 53, 54, 55] (by decide +kernel) (by decide +kernel)
set_option maxRecDepth 20000 in
theorem gX8_worth_X8_isAt : GoodIn wsX8_worth (wsV RX8 125 RX8 yX8_isAt wsX8_isAt) := goodIn_app (goodIn_of _ (by decide +kernel)) ggX8_worth_X8_isAt
set_option maxRecDepth 20000 in
theorem ggX8_worth_X8_in : GoodIn wsX8_worth wsX8_in := goodIn_r _ [16] (by decide +kernel) (by decide +kernel)
set_option maxRecDepth 20000 in
theorem gX8_worth_X8_in : GoodIn wsX8_worth (va_wsS RX8 62 yX8_in wsX8_in) := goodIn_app (goodIn_of _ (by decide +kernel)) ggX8_worth_X8_in
set_option maxRecDepth 20000 in
theorem ggX8_worth_X8_findMeans : GoodIn wsX8_worth wsX8_findMeans := goodIn_r _ [20, 6, 21, 22, 23, 5, 24, 25, 26, 10, 27, 28, 29, 30, 31, 32, 33, 34, 35, 36, 37, 38, 39, 40, 41, 42, 43, 44, 45, 46, 47, 48, 49, 50, 51, 52, 53, 54, 55] (by decide +kernel) (by decide +kernel)
set_option maxRecDepth 20000 in
theorem gX8_worth_X8_findMeans : GoodIn wsX8_worth (wsV RX8 129 RX8 yX8_findMeans wsX8_findMeans) := goodIn_app (goodIn_of _ (by decide +kernel)) ggX8_worth_X8_findMeans
set_option maxRecDepth 20000 in
theorem ggX8_worth_X8_runs : GoodIn wsX8_worth wsX8_runs := goodIn_r _ [27, 28, 29, 10, 30] (by decide +kernel) (by decide +kernel)
set_option maxRecDepth 20000 in
theorem gX8_worth_X8_runs : GoodIn wsX8_worth (va_wsS RX8 92 yX8_runs wsX8_runs) := goodIn_app (goodIn_of _ (by decide +kernel)) ggX8_worth_X8_runs
set_option maxRecDepth 20000 in
theorem ggX8_worth_X8_next : GoodIn wsX8_worth wsX8_next := goodIn_r _ [33] (by decide +kernel) (by decide +kernel)
set_option maxRecDepth 20000 in
theorem gX8_worth_X8_next : GoodIn wsX8_worth (va_wsS RX8 88 yX8_next wsX8_next) := goodIn_app (goodIn_of _ (by decide +kernel)) ggX8_worth_X8_next
theorem dX8_worth_0 : decode cX8_worth 0 = .ok (.aload_n 0, 1) := by decide +kernel
theorem dX8_worth_1 : decode cX8_worth 1 = .ok (.iconst 0, 1) := by decide +kernel
theorem dX8_worth_2 : decode cX8_worth 2 = .ok (.putfield 52, 3) := by decide +kernel
theorem dX8_worth_5 : decode cX8_worth 5 = .ok (.aload_n 0, 1) := by decide +kernel
theorem dX8_worth_6 : decode cX8_worth 6 = .ok (.iload_n 1, 1) := by decide +kernel
theorem dX8_worth_7 : decode cX8_worth 7 = .ok (.iload_n 3, 1) := by decide +kernel
theorem dX8_worth_8 : decode cX8_worth 8 = .ok (.iload 4, 2) := by decide +kernel
theorem dX8_worth_10 : decode cX8_worth 10 = .ok (.invokevirtual 125, 3) := by decide +kernel
theorem dX8_worth_13 : decode cX8_worth 13 = .ok (.ifCond .eq 26, 3) := by decide +kernel
theorem dX8_worth_16 : decode cX8_worth 16 = .ok (.iload_n 1, 1) := by decide +kernel
theorem dX8_worth_17 : decode cX8_worth 17 = .ok (.bipush 24, 2) := by decide +kernel
theorem dX8_worth_19 : decode cX8_worth 19 = .ok (.if_icmp .eq 20, 3) := by decide +kernel
theorem dX8_worth_22 : decode cX8_worth 22 = .ok (.iload 4, 2) := by decide +kernel
theorem dX8_worth_24 : decode cX8_worth 24 = .ok (.ifCond .eq 15, 3) := by decide +kernel
theorem dX8_worth_27 : decode cX8_worth 27 = .ok (.iload_n 2, 1) := by decide +kernel
theorem dX8_worth_28 : decode cX8_worth 28 = .ok (.i2l, 1) := by decide +kernel
theorem dX8_worth_29 : decode cX8_worth 29 = .ok (.lconst 0, 1) := by decide +kernel
theorem dX8_worth_30 : decode cX8_worth 30 = .ok (.ldc2_w 111, 3) := by decide +kernel
theorem dX8_worth_33 : decode cX8_worth 33 = .ok (.invokestatic 62, 3) := by decide +kernel
theorem dX8_worth_36 : decode cX8_worth 36 = .ok (.ifCond .ne 6, 3) := by decide +kernel
theorem dX8_worth_39 : decode cX8_worth 39 = .ok (.ldc 72, 2) := by decide +kernel
theorem dX8_worth_41 : decode cX8_worth 41 = .ok (.ireturn, 1) := by decide +kernel
theorem dX8_worth_42 : decode cX8_worth 42 = .ok (.aload_n 0, 1) := by decide +kernel
theorem dX8_worth_43 : decode cX8_worth 43 = .ok (.iload 4, 2) := by decide +kernel
theorem dX8_worth_45 : decode cX8_worth 45 = .ok (.invokevirtual 129, 3) := by decide +kernel
theorem dX8_worth_48 : decode cX8_worth 48 = .ok (.iload_n 1, 1) := by decide +kernel
theorem dX8_worth_49 : decode cX8_worth 49 = .ok (.iload_n 2, 1) := by decide +kernel
theorem dX8_worth_50 : decode cX8_worth 50 = .ok (.invokestatic 92, 3) := by decide +kernel
theorem dX8_worth_53 : decode cX8_worth 53 = .ok (.ldc 132, 2) := by decide +kernel
theorem dX8_worth_55 : decode cX8_worth 55 = .ok (.imul, 1) := by decide +kernel
theorem dX8_worth_56 : decode cX8_worth 56 = .ok (.aload_n 0, 1) := by decide +kernel
theorem dX8_worth_57 : decode cX8_worth 57 = .ok (.getfield 25, 3) := by decide +kernel
theorem dX8_worth_60 : decode cX8_worth 60 = .ok (.sipush 225, 3) := by decide +kernel
theorem dX8_worth_63 : decode cX8_worth 63 = .ok (.iload 4, 2) := by decide +kernel
theorem dX8_worth_65 : decode cX8_worth 65 = .ok (.iconst 1, 1) := by decide +kernel
theorem dX8_worth_66 : decode cX8_worth 66 = .ok (.isub, 1) := by decide +kernel
theorem dX8_worth_67 : decode cX8_worth 67 = .ok (.imul, 1) := by decide +kernel
theorem dX8_worth_68 : decode cX8_worth 68 = .ok (.bipush 25, 2) := by decide +kernel
theorem dX8_worth_70 : decode cX8_worth 70 = .ok (.iload_n 3, 1) := by decide +kernel
theorem dX8_worth_71 : decode cX8_worth 71 = .ok (.iconst 1, 1) := by decide +kernel
theorem dX8_worth_72 : decode cX8_worth 72 = .ok (.iadd, 1) := by decide +kernel
theorem dX8_worth_73 : decode cX8_worth 73 = .ok (.aload_n 0, 1) := by decide +kernel
theorem dX8_worth_74 : decode cX8_worth 74 = .ok (.getfield 116, 3) := by decide +kernel
theorem dX8_worth_77 : decode cX8_worth 77 = .ok (.irem, 1) := by decide +kernel
theorem dX8_worth_78 : decode cX8_worth 78 = .ok (.imul, 1) := by decide +kernel
theorem dX8_worth_79 : decode cX8_worth 79 = .ok (.iadd, 1) := by decide +kernel
theorem dX8_worth_80 : decode cX8_worth 80 = .ok (.iload_n 1, 1) := by decide +kernel
theorem dX8_worth_81 : decode cX8_worth 81 = .ok (.iload_n 2, 1) := by decide +kernel
theorem dX8_worth_82 : decode cX8_worth 82 = .ok (.invokestatic 88, 3) := by decide +kernel
theorem dX8_worth_85 : decode cX8_worth 85 = .ok (.iadd, 1) := by decide +kernel
theorem dX8_worth_86 : decode cX8_worth 86 = .ok (.iaload, 1) := by decide +kernel
theorem dX8_worth_87 : decode cX8_worth 87 = .ok (.iadd, 1) := by decide +kernel
theorem dX8_worth_88 : decode cX8_worth 88 = .ok (.aload_n 0, 1) := by decide +kernel
theorem dX8_worth_89 : decode cX8_worth 89 = .ok (.getfield 25, 3) := by decide +kernel
theorem dX8_worth_92 : decode cX8_worth 92 = .ok (.sipush 225, 3) := by decide +kernel
theorem dX8_worth_95 : decode cX8_worth 95 = .ok (.iload 4, 2) := by decide +kernel
theorem dX8_worth_97 : decode cX8_worth 97 = .ok (.imul, 1) := by decide +kernel
theorem dX8_worth_98 : decode cX8_worth 98 = .ok (.bipush 25, 2) := by decide +kernel
theorem dX8_worth_100 : decode cX8_worth 100 = .ok (.iload_n 3, 1) := by decide +kernel
theorem dX8_worth_101 : decode cX8_worth 101 = .ok (.imul, 1) := by decide +kernel
theorem dX8_worth_102 : decode cX8_worth 102 = .ok (.iadd, 1) := by decide +kernel
theorem dX8_worth_103 : decode cX8_worth 103 = .ok (.iload_n 1, 1) := by decide +kernel
theorem dX8_worth_104 : decode cX8_worth 104 = .ok (.iadd, 1) := by decide +kernel
theorem dX8_worth_105 : decode cX8_worth 105 = .ok (.iaload, 1) := by decide +kernel
theorem dX8_worth_106 : decode cX8_worth 106 = .ok (.isub, 1) := by decide +kernel
theorem dX8_worth_107 : decode cX8_worth 107 = .ok (.ireturn, 1) := by decide +kernel
set_option maxRecDepth 20000 in
theorem ggX8_rateNow_X8_findMeans : GoodIn wsX8_rateNow wsX8_findMeans := goodIn_r _ [7, 2, 8, 9, 10, 1, 11, 12, 13, 6, 14, 15, 16, 17, 18, 19, 20, 21, 22, 23, 24, 25, 26, 27, 28, 29, 30, 31, 32, 33, 34, 35, 36, 37, 38, 39, 40, 41, 42] (by decide +kernel) (by decide +kernel)
set_option maxRecDepth 20000 in
theorem gX8_rateNow_X8_findMeans : GoodIn wsX8_rateNow (wsV RX8 129 RX8 yX8_findMeans wsX8_findMeans) := goodIn_app (goodIn_of _ (by decide +kernel)) ggX8_rateNow_X8_findMeans
theorem dX8_rateNow_0 : decode cX8_rateNow 0 = .ok (.aload_n 0, 1) := by decide +kernel
theorem dX8_rateNow_1 : decode cX8_rateNow 1 = .ok (.bipush 30, 2) := by decide +kernel
theorem dX8_rateNow_3 : decode cX8_rateNow 3 = .ok (.invokevirtual 129, 3) := by decide +kernel
theorem dX8_rateNow_6 : decode cX8_rateNow 6 = .ok (.aload_n 0, 1) := by decide +kernel
theorem dX8_rateNow_7 : decode cX8_rateNow 7 = .ok (.getfield 25, 3) := by decide +kernel
theorem dX8_rateNow_10 : decode cX8_rateNow 10 = .ok (.sipush 6750, 3) := by decide +kernel
theorem dX8_rateNow_13 : decode cX8_rateNow 13 = .ok (.iaload, 1) := by decide +kernel
theorem dX8_rateNow_14 : decode cX8_rateNow 14 = .ok (.aload_n 0, 1) := by decide +kernel
theorem dX8_rateNow_15 : decode cX8_rateNow 15 = .ok (.getfield 25, 3) := by decide +kernel
theorem dX8_rateNow_18 : decode cX8_rateNow 18 = .ok (.sipush 6750, 3) := by decide +kernel
theorem dX8_rateNow_21 : decode cX8_rateNow 21 = .ok (.bipush 25, 2) := by decide +kernel
theorem dX8_rateNow_23 : decode cX8_rateNow 23 = .ok (.aload_n 0, 1) := by decide +kernel
theorem dX8_rateNow_24 : decode cX8_rateNow 24 = .ok (.getfield 116, 3) := by decide +kernel
theorem dX8_rateNow_27 : decode cX8_rateNow 27 = .ok (.iconst 2, 1) := by decide +kernel
theorem dX8_rateNow_28 : decode cX8_rateNow 28 = .ok (.idiv, 1) := by decide +kernel
theorem dX8_rateNow_29 : decode cX8_rateNow 29 = .ok (.imul, 1) := by decide +kernel
theorem dX8_rateNow_30 : decode cX8_rateNow 30 = .ok (.iadd, 1) := by decide +kernel
theorem dX8_rateNow_31 : decode cX8_rateNow 31 = .ok (.iaload, 1) := by decide +kernel
theorem dX8_rateNow_32 : decode cX8_rateNow 32 = .ok (.iadd, 1) := by decide +kernel
theorem dX8_rateNow_33 : decode cX8_rateNow 33 = .ok (.ireturn, 1) := by decide +kernel
set_option maxRecDepth 20000 in
theorem ggX8_rate_X8_rateNow : GoodIn wsX8_rate wsX8_rateNow := goodIn_r _ [8, 9, 2, 10, 11, 12, 7, 13, 14, 15, 16, 17, 18, 19, 20, 21, 22, 23, 24, 25, 26, 27, 28, 29, 30, 31, 32, 33, 34, 35, 36, 37, 38, 39, 40, 41, 42, 43, 44, 45, 46, 47, 48] (by decide +kernel) (by decide +kernel)
set_option maxRecDepth 20000 in
theorem gX8_rate_X8_rateNow : GoodIn wsX8_rate (wsV RX8 133 RX8 yX8_rateNow wsX8_rateNow) := goodIn_app (goodIn_of _ (by decide +kernel)) ggX8_rate_X8_rateNow
theorem dX8_rate_0 : decode cX8_rate 0 = .ok (.aload_n 0, 1) := by decide +kernel
theorem dX8_rate_1 : decode cX8_rate 1 = .ok (.iconst 0, 1) := by decide +kernel
theorem dX8_rate_2 : decode cX8_rate 2 = .ok (.putfield 52, 3) := by decide +kernel
theorem dX8_rate_5 : decode cX8_rate 5 = .ok (.aload_n 0, 1) := by decide +kernel
theorem dX8_rate_6 : decode cX8_rate 6 = .ok (.getfield 116, 3) := by decide +kernel
theorem dX8_rate_9 : decode cX8_rate 9 = .ok (.ifCond .ne 8, 3) := by decide +kernel
theorem dX8_rate_12 : decode cX8_rate 12 = .ok (.ldc 113, 2) := by decide +kernel
theorem dX8_rate_14 : decode cX8_rate 14 = .ok (.goto 7, 3) := by decide +kernel
theorem dX8_rate_17 : decode cX8_rate 17 = .ok (.aload_n 0, 1) := by decide +kernel
theorem dX8_rate_18 : decode cX8_rate 18 = .ok (.invokevirtual 133, 3) := by decide +kernel
theorem dX8_rate_21 : decode cX8_rate 21 = .ok (.ireturn, 1) := by decide +kernel
theorem dX8_exchange_0 : decode cX8_exchange 0 = .ok (.aload_n 0, 1) := by decide +kernel
theorem dX8_exchange_1 : decode cX8_exchange 1 = .ok (.getfield 22, 3) := by decide +kernel
theorem dX8_exchange_4 : decode cX8_exchange 4 = .ok (.iload_n 1, 1) := by decide +kernel
theorem dX8_exchange_5 : decode cX8_exchange 5 = .ok (.iaload, 1) := by decide +kernel
theorem dX8_exchange_6 : decode cX8_exchange 6 = .ok (.istore_n 3, 1) := by decide +kernel
theorem dX8_exchange_7 : decode cX8_exchange 7 = .ok (.aload_n 0, 1) := by decide +kernel
theorem dX8_exchange_8 : decode cX8_exchange 8 = .ok (.getfield 22, 3) := by decide +kernel
theorem dX8_exchange_11 : decode cX8_exchange 11 = .ok (.iload_n 1, 1) := by decide +kernel
theorem dX8_exchange_12 : decode cX8_exchange 12 = .ok (.aload_n 0, 1) := by decide +kernel
theorem dX8_exchange_13 : decode cX8_exchange 13 = .ok (.getfield 22, 3) := by decide +kernel
theorem dX8_exchange_16 : decode cX8_exchange 16 = .ok (.iload_n 2, 1) := by decide +kernel
theorem dX8_exchange_17 : decode cX8_exchange 17 = .ok (.iaload, 1) := by decide +kernel
theorem dX8_exchange_18 : decode cX8_exchange 18 = .ok (.iastore, 1) := by decide +kernel
theorem dX8_exchange_19 : decode cX8_exchange 19 = .ok (.aload_n 0, 1) := by decide +kernel
theorem dX8_exchange_20 : decode cX8_exchange 20 = .ok (.getfield 22, 3) := by decide +kernel
theorem dX8_exchange_23 : decode cX8_exchange 23 = .ok (.iload_n 2, 1) := by decide +kernel
theorem dX8_exchange_24 : decode cX8_exchange 24 = .ok (.iload_n 3, 1) := by decide +kernel
theorem dX8_exchange_25 : decode cX8_exchange 25 = .ok (.iastore, 1) := by decide +kernel
theorem dX8_exchange_26 : decode cX8_exchange 26 = .ok (.return_, 1) := by decide +kernel
set_option maxRecDepth 20000 in
theorem ggX8_swapped_X8_rateNow : GoodIn wsX8_swapped wsX8_rateNow := goodIn_r _ [8, 9, 2, 10, 11, 12, 7, 13, 14, 15, 16, 17, 18, 19, 20, 21, 22, 23, 24, 25, 26, 31, 32, 33, 34, 35, 36, 37, 38, 39, 40, 41, 42, 43, 44, 45, 46, 47, 48, 49, 50, 51, 52] (by decide +kernel) (by decide +kernel)
set_option maxRecDepth 20000 in
theorem gX8_swapped_X8_rateNow : GoodIn wsX8_swapped (wsV RX8 133 RX8 yX8_rateNow wsX8_rateNow) := goodIn_app (goodIn_of _ (by decide +kernel)) ggX8_swapped_X8_rateNow
set_option maxRecDepth 20000 in
theorem ggX8_swapped_X8_exchange : GoodIn wsX8_swapped wsX8_exchange := goodIn_r _ [30, 15, 31, 32, 33, 34, 35, 36, 37, 38, 39, 40, 41, 42, 43, 44, 45, 46, 47, 48, 49, 50, 51, 52] (by decide +kernel) (by decide +kernel)
set_option maxRecDepth 20000 in
theorem gX8_swapped_X8_exchange : GoodIn wsX8_swapped (wsV RX8 137 RX8 yX8_exchange wsX8_exchange) := goodIn_app (goodIn_of _ (by decide +kernel)) ggX8_swapped_X8_exchange
theorem dX8_swapped_0 : decode cX8_swapped 0 = .ok (.aload_n 0, 1) := by decide +kernel
theorem dX8_swapped_1 : decode cX8_swapped 1 = .ok (.iconst 0, 1) := by decide +kernel
theorem dX8_swapped_2 : decode cX8_swapped 2 = .ok (.putfield 52, 3) := by decide +kernel
theorem dX8_swapped_5 : decode cX8_swapped 5 = .ok (.aload_n 0, 1) := by decide +kernel
theorem dX8_swapped_6 : decode cX8_swapped 6 = .ok (.getfield 116, 3) := by decide +kernel
theorem dX8_swapped_9 : decode cX8_swapped 9 = .ok (.ifCond .ne 6, 3) := by decide +kernel
theorem dX8_swapped_12 : decode cX8_swapped 12 = .ok (.ldc 113, 2) := by decide +kernel
theorem dX8_swapped_14 : decode cX8_swapped 14 = .ok (.ireturn, 1) := by decide +kernel
theorem dX8_swapped_15 : decode cX8_swapped 15 = .ok (.iconst 0, 1) := by decide +kernel
theorem dX8_swapped_16 : decode cX8_swapped 16 = .ok (.istore_n 1, 1) := by decide +kernel
theorem dX8_swapped_17 : decode cX8_swapped 17 = .ok (.aload_n 0, 1) := by decide +kernel
theorem dX8_swapped_18 : decode cX8_swapped 18 = .ok (.invokevirtual 133, 3) := by decide +kernel
theorem dX8_swapped_21 : decode cX8_swapped 21 = .ok (.istore_n 2, 1) := by decide +kernel
theorem dX8_swapped_22 : decode cX8_swapped 22 = .ok (.iconst 1, 1) := by decide +kernel
theorem dX8_swapped_23 : decode cX8_swapped 23 = .ok (.istore_n 3, 1) := by decide +kernel
theorem dX8_swapped_24 : decode cX8_swapped 24 = .ok (.iload_n 3, 1) := by decide +kernel
theorem dX8_swapped_25 : decode cX8_swapped 25 = .ok (.ifCond .eq 100, 3) := by decide +kernel
theorem dX8_swapped_28 : decode cX8_swapped 28 = .ok (.iload_n 1, 1) := by decide +kernel
theorem dX8_swapped_29 : decode cX8_swapped 29 = .ok (.bipush 40, 2) := by decide +kernel
theorem dX8_swapped_31 : decode cX8_swapped 31 = .ok (.if_icmp .ge 94, 3) := by decide +kernel
theorem dX8_swapped_34 : decode cX8_swapped 34 = .ok (.iconst 0, 1) := by decide +kernel
theorem dX8_swapped_35 : decode cX8_swapped 35 = .ok (.istore_n 3, 1) := by decide +kernel
theorem dX8_swapped_36 : decode cX8_swapped 36 = .ok (.iconst 0, 1) := by decide +kernel
theorem dX8_swapped_37 : decode cX8_swapped 37 = .ok (.istore 4, 2) := by decide +kernel
theorem dX8_swapped_39 : decode cX8_swapped 39 = .ok (.iload 4, 2) := by decide +kernel
theorem dX8_swapped_41 : decode cX8_swapped 41 = .ok (.aload_n 0, 1) := by decide +kernel
theorem dX8_swapped_42 : decode cX8_swapped 42 = .ok (.getfield 116, 3) := by decide +kernel
theorem dX8_swapped_45 : decode cX8_swapped 45 = .ok (.if_icmp .ge 77, 3) := by decide +kernel
theorem dX8_swapped_48 : decode cX8_swapped 48 = .ok (.iload_n 3, 1) := by decide +kernel
theorem dX8_swapped_49 : decode cX8_swapped 49 = .ok (.ifCond .ne 73, 3) := by decide +kernel
theorem dX8_swapped_52 : decode cX8_swapped 52 = .ok (.iload 4, 2) := by decide +kernel
theorem dX8_swapped_54 : decode cX8_swapped 54 = .ok (.iconst 1, 1) := by decide +kernel
theorem dX8_swapped_55 : decode cX8_swapped 55 = .ok (.iadd, 1) := by decide +kernel
theorem dX8_swapped_56 : decode cX8_swapped 56 = .ok (.istore 5, 2) := by decide +kernel
theorem dX8_swapped_58 : decode cX8_swapped 58 = .ok (.iload 5, 2) := by decide +kernel
theorem dX8_swapped_60 : decode cX8_swapped 60 = .ok (.aload_n 0, 1) := by decide +kernel
theorem dX8_swapped_61 : decode cX8_swapped 61 = .ok (.getfield 116, 3) := by decide +kernel
theorem dX8_swapped_64 : decode cX8_swapped 64 = .ok (.if_icmp .ge 52, 3) := by decide +kernel
theorem dX8_swapped_67 : decode cX8_swapped 67 = .ok (.iload_n 3, 1) := by decide +kernel
theorem dX8_swapped_68 : decode cX8_swapped 68 = .ok (.ifCond .ne 48, 3) := by decide +kernel
theorem dX8_swapped_71 : decode cX8_swapped 71 = .ok (.aload_n 0, 1) := by decide +kernel
theorem dX8_swapped_72 : decode cX8_swapped 72 = .ok (.iload 4, 2) := by decide +kernel
theorem dX8_swapped_74 : decode cX8_swapped 74 = .ok (.iload 5, 2) := by decide +kernel
theorem dX8_swapped_76 : decode cX8_swapped 76 = .ok (.invokevirtual 137, 3) := by decide +kernel
theorem dX8_swapped_79 : decode cX8_swapped 79 = .ok (.aload_n 0, 1) := by decide +kernel
theorem dX8_swapped_80 : decode cX8_swapped 80 = .ok (.invokevirtual 133, 3) := by decide +kernel
theorem dX8_swapped_83 : decode cX8_swapped 83 = .ok (.istore 6, 2) := by decide +kernel
theorem dX8_swapped_85 : decode cX8_swapped 85 = .ok (.iload 6, 2) := by decide +kernel
theorem dX8_swapped_87 : decode cX8_swapped 87 = .ok (.iload_n 2, 1) := by decide +kernel
theorem dX8_swapped_88 : decode cX8_swapped 88 = .ok (.if_icmp .le 14, 3) := by decide +kernel
theorem dX8_swapped_91 : decode cX8_swapped 91 = .ok (.iload 6, 2) := by decide +kernel
theorem dX8_swapped_93 : decode cX8_swapped 93 = .ok (.istore_n 2, 1) := by decide +kernel
theorem dX8_swapped_94 : decode cX8_swapped 94 = .ok (.iinc 1 1, 3) := by decide +kernel
theorem dX8_swapped_97 : decode cX8_swapped 97 = .ok (.iconst 1, 1) := by decide +kernel
theorem dX8_swapped_98 : decode cX8_swapped 98 = .ok (.istore_n 3, 1) := by decide +kernel
theorem dX8_swapped_99 : decode cX8_swapped 99 = .ok (.goto 11, 3) := by decide +kernel
theorem dX8_swapped_102 : decode cX8_swapped 102 = .ok (.aload_n 0, 1) := by decide +kernel
theorem dX8_swapped_103 : decode cX8_swapped 103 = .ok (.iload 4, 2) := by decide +kernel
theorem dX8_swapped_105 : decode cX8_swapped 105 = .ok (.iload 5, 2) := by decide +kernel
theorem dX8_swapped_107 : decode cX8_swapped 107 = .ok (.invokevirtual 137, 3) := by decide +kernel
theorem dX8_swapped_110 : decode cX8_swapped 110 = .ok (.iinc 5 1, 3) := by decide +kernel
theorem dX8_swapped_113 : decode cX8_swapped 113 = .ok (.goto (-55), 3) := by decide +kernel
theorem dX8_swapped_116 : decode cX8_swapped 116 = .ok (.iinc 4 1, 3) := by decide +kernel
theorem dX8_swapped_119 : decode cX8_swapped 119 = .ok (.goto (-80), 3) := by decide +kernel
theorem dX8_swapped_122 : decode cX8_swapped 122 = .ok (.goto (-98), 3) := by decide +kernel
theorem dX8_swapped_125 : decode cX8_swapped 125 = .ok (.iload_n 1, 1) := by decide +kernel
theorem dX8_swapped_126 : decode cX8_swapped 126 = .ok (.ireturn, 1) := by decide +kernel
set_option maxRecDepth 20000 in
theorem ggX8_nextOrder_X8_exchange : GoodIn wsX8_nextOrder wsX8_exchange := goodIn_r _ [7, 2, 8, 9, 10, 11, 12, 13, 14, 15, 16, 17, 18, 19, 20, 21, 22, 23, 24, 25, 26, 27, 28, 29] (by decide +kernel) (by decide +kernel)
set_option maxRecDepth 20000 in
theorem gX8_nextOrder_X8_exchange : GoodIn wsX8_nextOrder (wsV RX8 137 RX8 yX8_exchange wsX8_exchange) := goodIn_app (goodIn_of _ (by decide +kernel)) ggX8_nextOrder_X8_exchange
theorem dX8_nextOrder_0 : decode cX8_nextOrder 0 = .ok (.aload_n 0, 1) := by decide +kernel
theorem dX8_nextOrder_1 : decode cX8_nextOrder 1 = .ok (.getfield 116, 3) := by decide +kernel
theorem dX8_nextOrder_4 : decode cX8_nextOrder 4 = .ok (.iconst 2, 1) := by decide +kernel
theorem dX8_nextOrder_5 : decode cX8_nextOrder 5 = .ok (.isub, 1) := by decide +kernel
theorem dX8_nextOrder_6 : decode cX8_nextOrder 6 = .ok (.istore_n 1, 1) := by decide +kernel
theorem dX8_nextOrder_7 : decode cX8_nextOrder 7 = .ok (.iload_n 1, 1) := by decide +kernel
theorem dX8_nextOrder_8 : decode cX8_nextOrder 8 = .ok (.ifCond .lt 26, 3) := by decide +kernel
theorem dX8_nextOrder_11 : decode cX8_nextOrder 11 = .ok (.aload_n 0, 1) := by decide +kernel
theorem dX8_nextOrder_12 : decode cX8_nextOrder 12 = .ok (.getfield 22, 3) := by decide +kernel
theorem dX8_nextOrder_15 : decode cX8_nextOrder 15 = .ok (.iload_n 1, 1) := by decide +kernel
theorem dX8_nextOrder_16 : decode cX8_nextOrder 16 = .ok (.iaload, 1) := by decide +kernel
theorem dX8_nextOrder_17 : decode cX8_nextOrder 17 = .ok (.aload_n 0, 1) := by decide +kernel
theorem dX8_nextOrder_18 : decode cX8_nextOrder 18 = .ok (.getfield 22, 3) := by decide +kernel
theorem dX8_nextOrder_21 : decode cX8_nextOrder 21 = .ok (.iload_n 1, 1) := by decide +kernel
theorem dX8_nextOrder_22 : decode cX8_nextOrder 22 = .ok (.iconst 1, 1) := by decide +kernel
theorem dX8_nextOrder_23 : decode cX8_nextOrder 23 = .ok (.iadd, 1) := by decide +kernel
theorem dX8_nextOrder_24 : decode cX8_nextOrder 24 = .ok (.iaload, 1) := by decide +kernel
theorem dX8_nextOrder_25 : decode cX8_nextOrder 25 = .ok (.if_icmp .lt 9, 3) := by decide +kernel
theorem dX8_nextOrder_28 : decode cX8_nextOrder 28 = .ok (.iinc 1 (-1), 3) := by decide +kernel
theorem dX8_nextOrder_31 : decode cX8_nextOrder 31 = .ok (.goto (-24), 3) := by decide +kernel
theorem dX8_nextOrder_34 : decode cX8_nextOrder 34 = .ok (.iload_n 1, 1) := by decide +kernel
theorem dX8_nextOrder_35 : decode cX8_nextOrder 35 = .ok (.ifCond .ge 5, 3) := by decide +kernel
theorem dX8_nextOrder_38 : decode cX8_nextOrder 38 = .ok (.iconst 0, 1) := by decide +kernel
theorem dX8_nextOrder_39 : decode cX8_nextOrder 39 = .ok (.ireturn, 1) := by decide +kernel
theorem dX8_nextOrder_40 : decode cX8_nextOrder 40 = .ok (.aload_n 0, 1) := by decide +kernel
theorem dX8_nextOrder_41 : decode cX8_nextOrder 41 = .ok (.getfield 116, 3) := by decide +kernel
theorem dX8_nextOrder_44 : decode cX8_nextOrder 44 = .ok (.iconst 1, 1) := by decide +kernel
theorem dX8_nextOrder_45 : decode cX8_nextOrder 45 = .ok (.isub, 1) := by decide +kernel
theorem dX8_nextOrder_46 : decode cX8_nextOrder 46 = .ok (.istore_n 2, 1) := by decide +kernel
theorem dX8_nextOrder_47 : decode cX8_nextOrder 47 = .ok (.aload_n 0, 1) := by decide +kernel
theorem dX8_nextOrder_48 : decode cX8_nextOrder 48 = .ok (.getfield 22, 3) := by decide +kernel
theorem dX8_nextOrder_51 : decode cX8_nextOrder 51 = .ok (.iload_n 2, 1) := by decide +kernel
theorem dX8_nextOrder_52 : decode cX8_nextOrder 52 = .ok (.iaload, 1) := by decide +kernel
theorem dX8_nextOrder_53 : decode cX8_nextOrder 53 = .ok (.aload_n 0, 1) := by decide +kernel
theorem dX8_nextOrder_54 : decode cX8_nextOrder 54 = .ok (.getfield 22, 3) := by decide +kernel
theorem dX8_nextOrder_57 : decode cX8_nextOrder 57 = .ok (.iload_n 1, 1) := by decide +kernel
theorem dX8_nextOrder_58 : decode cX8_nextOrder 58 = .ok (.iaload, 1) := by decide +kernel
theorem dX8_nextOrder_59 : decode cX8_nextOrder 59 = .ok (.if_icmp .gt 9, 3) := by decide +kernel
theorem dX8_nextOrder_62 : decode cX8_nextOrder 62 = .ok (.iinc 2 (-1), 3) := by decide +kernel
theorem dX8_nextOrder_65 : decode cX8_nextOrder 65 = .ok (.goto (-18), 3) := by decide +kernel
theorem dX8_nextOrder_68 : decode cX8_nextOrder 68 = .ok (.aload_n 0, 1) := by decide +kernel
theorem dX8_nextOrder_69 : decode cX8_nextOrder 69 = .ok (.iload_n 1, 1) := by decide +kernel
theorem dX8_nextOrder_70 : decode cX8_nextOrder 70 = .ok (.iload_n 2, 1) := by decide +kernel
theorem dX8_nextOrder_71 : decode cX8_nextOrder 71 = .ok (.invokevirtual 137, 3) := by decide +kernel
theorem dX8_nextOrder_74 : decode cX8_nextOrder 74 = .ok (.iload_n 1, 1) := by decide +kernel
theorem dX8_nextOrder_75 : decode cX8_nextOrder 75 = .ok (.iconst 1, 1) := by decide +kernel
theorem dX8_nextOrder_76 : decode cX8_nextOrder 76 = .ok (.iadd, 1) := by decide +kernel
theorem dX8_nextOrder_77 : decode cX8_nextOrder 77 = .ok (.istore_n 3, 1) := by decide +kernel
theorem dX8_nextOrder_78 : decode cX8_nextOrder 78 = .ok (.aload_n 0, 1) := by decide +kernel
theorem dX8_nextOrder_79 : decode cX8_nextOrder 79 = .ok (.getfield 116, 3) := by decide +kernel
theorem dX8_nextOrder_82 : decode cX8_nextOrder 82 = .ok (.iconst 1, 1) := by decide +kernel
theorem dX8_nextOrder_83 : decode cX8_nextOrder 83 = .ok (.isub, 1) := by decide +kernel
theorem dX8_nextOrder_84 : decode cX8_nextOrder 84 = .ok (.istore 4, 2) := by decide +kernel
theorem dX8_nextOrder_86 : decode cX8_nextOrder 86 = .ok (.iload_n 3, 1) := by decide +kernel
theorem dX8_nextOrder_87 : decode cX8_nextOrder 87 = .ok (.iload 4, 2) := by decide +kernel
theorem dX8_nextOrder_89 : decode cX8_nextOrder 89 = .ok (.if_icmp .ge 19, 3) := by decide +kernel
theorem dX8_nextOrder_92 : decode cX8_nextOrder 92 = .ok (.aload_n 0, 1) := by decide +kernel
theorem dX8_nextOrder_93 : decode cX8_nextOrder 93 = .ok (.iload_n 3, 1) := by decide +kernel
theorem dX8_nextOrder_94 : decode cX8_nextOrder 94 = .ok (.iload 4, 2) := by decide +kernel
theorem dX8_nextOrder_96 : decode cX8_nextOrder 96 = .ok (.invokevirtual 137, 3) := by decide +kernel
theorem dX8_nextOrder_99 : decode cX8_nextOrder 99 = .ok (.iinc 3 1, 3) := by decide +kernel
theorem dX8_nextOrder_102 : decode cX8_nextOrder 102 = .ok (.iinc 4 (-1), 3) := by decide +kernel
theorem dX8_nextOrder_105 : decode cX8_nextOrder 105 = .ok (.goto (-19), 3) := by decide +kernel
theorem dX8_nextOrder_108 : decode cX8_nextOrder 108 = .ok (.iconst 1, 1) := by decide +kernel
theorem dX8_nextOrder_109 : decode cX8_nextOrder 109 = .ok (.ireturn, 1) := by decide +kernel
set_option maxRecDepth 20000 in
theorem ggX8_best_X8_exchange : GoodIn wsX8_best wsX8_exchange := goodIn_r _ [10, 4, 36, 37, 38, 39, 40, 41, 42, 43, 44, 45, 46, 47, 48, 49, 50, 51, 52, 53, 54, 55, 56, 57] (by decide +kernel) (by decide +kernel)
set_option maxRecDepth 20000 in
theorem gX8_best_X8_exchange : GoodIn wsX8_best (wsV RX8 137 RX8 yX8_exchange wsX8_exchange) := goodIn_app (goodIn_of _ (by decide +kernel)) ggX8_best_X8_exchange
set_option maxRecDepth 20000 in
theorem ggX8_best_X8_rateNow : GoodIn wsX8_best wsX8_rateNow := goodIn_r _ [14, 15, 2, 16, 17, 18, 9, 19, 20, 4, 21, 22, 23, 24, 25, 26, 27, 28, 29, 30, 31, 36, 37, 38, 39, 40, 41, 42, 43, 44, 45, 46, 47, 48, 49, 50, 51, 52, 53, 54, 55, 56, 57] (by decide +kernel) (by decide +kernel)
set_option maxRecDepth 20000 in
theorem gX8_best_X8_rateNow : GoodIn wsX8_best (wsV RX8 133 RX8 yX8_rateNow wsX8_rateNow) := goodIn_app (goodIn_of _ (by decide +kernel)) ggX8_best_X8_rateNow
set_option maxRecDepth 20000 in
theorem ggX8_best_X8_nextOrder : GoodIn wsX8_best wsX8_nextOrder := goodIn_r _ [35, 2, 4, 6, 7, 8, 9, 10, 36, 37, 38, 39, 40, 41, 42, 43, 44, 45, 46, 47, 48, 49, 50, 51, 52, 53, 54, 55, 56, 57] (by decide +kernel) (by decide +kernel)
set_option maxRecDepth 20000 in
theorem gX8_best_X8_nextOrder : GoodIn wsX8_best (wsV RX8 141 RX8 yX8_nextOrder wsX8_nextOrder) := goodIn_app (goodIn_of _ (by decide +kernel)) ggX8_best_X8_nextOrder
theorem dX8_best_0 : decode cX8_best 0 = .ok (.aload_n 0, 1) := by decide +kernel
theorem dX8_best_1 : decode cX8_best 1 = .ok (.iconst 0, 1) := by decide +kernel
theorem dX8_best_2 : decode cX8_best 2 = .ok (.putfield 52, 3) := by decide +kernel
theorem dX8_best_5 : decode cX8_best 5 = .ok (.aload_n 0, 1) := by decide +kernel
theorem dX8_best_6 : decode cX8_best 6 = .ok (.getfield 116, 3) := by decide +kernel
theorem dX8_best_9 : decode cX8_best 9 = .ok (.ifCond .eq 12, 3) := by decide +kernel
theorem dX8_best_12 : decode cX8_best 12 = .ok (.aload_n 0, 1) := by decide +kernel
theorem dX8_best_13 : decode cX8_best 13 = .ok (.getfield 116, 3) := by decide +kernel
theorem dX8_best_16 : decode cX8_best 16 = .ok (.bipush 6, 2) := by decide +kernel
theorem dX8_best_18 : decode cX8_best 18 = .ok (.if_icmp .le 6, 3) := by decide +kernel
theorem dX8_best_21 : decode cX8_best 21 = .ok (.ldc 113, 2) := by decide +kernel
theorem dX8_best_23 : decode cX8_best 23 = .ok (.ireturn, 1) := by decide +kernel
theorem dX8_best_24 : decode cX8_best 24 = .ok (.iconst 0, 1) := by decide +kernel
theorem dX8_best_25 : decode cX8_best 25 = .ok (.istore_n 1, 1) := by decide +kernel
theorem dX8_best_26 : decode cX8_best 26 = .ok (.iload_n 1, 1) := by decide +kernel
theorem dX8_best_27 : decode cX8_best 27 = .ok (.aload_n 0, 1) := by decide +kernel
theorem dX8_best_28 : decode cX8_best 28 = .ok (.getfield 116, 3) := by decide +kernel
theorem dX8_best_31 : decode cX8_best 31 = .ok (.if_icmp .ge 48, 3) := by decide +kernel
theorem dX8_best_34 : decode cX8_best 34 = .ok (.iload_n 1, 1) := by decide +kernel
theorem dX8_best_35 : decode cX8_best 35 = .ok (.iconst 1, 1) := by decide +kernel
theorem dX8_best_36 : decode cX8_best 36 = .ok (.iadd, 1) := by decide +kernel
theorem dX8_best_37 : decode cX8_best 37 = .ok (.istore_n 2, 1) := by decide +kernel
theorem dX8_best_38 : decode cX8_best 38 = .ok (.iload_n 2, 1) := by decide +kernel
theorem dX8_best_39 : decode cX8_best 39 = .ok (.aload_n 0, 1) := by decide +kernel
theorem dX8_best_40 : decode cX8_best 40 = .ok (.getfield 116, 3) := by decide +kernel
theorem dX8_best_43 : decode cX8_best 43 = .ok (.if_icmp .ge 30, 3) := by decide +kernel
theorem dX8_best_46 : decode cX8_best 46 = .ok (.aload_n 0, 1) := by decide +kernel
theorem dX8_best_47 : decode cX8_best 47 = .ok (.getfield 22, 3) := by decide +kernel
theorem dX8_best_50 : decode cX8_best 50 = .ok (.iload_n 2, 1) := by decide +kernel
theorem dX8_best_51 : decode cX8_best 51 = .ok (.iaload, 1) := by decide +kernel
theorem dX8_best_52 : decode cX8_best 52 = .ok (.aload_n 0, 1) := by decide +kernel
theorem dX8_best_53 : decode cX8_best 53 = .ok (.getfield 22, 3) := by decide +kernel
theorem dX8_best_56 : decode cX8_best 56 = .ok (.iload_n 1, 1) := by decide +kernel
theorem dX8_best_57 : decode cX8_best 57 = .ok (.iaload, 1) := by decide +kernel
theorem dX8_best_58 : decode cX8_best 58 = .ok (.if_icmp .ge 9, 3) := by decide +kernel
theorem dX8_best_61 : decode cX8_best 61 = .ok (.aload_n 0, 1) := by decide +kernel
theorem dX8_best_62 : decode cX8_best 62 = .ok (.iload_n 1, 1) := by decide +kernel
theorem dX8_best_63 : decode cX8_best 63 = .ok (.iload_n 2, 1) := by decide +kernel
theorem dX8_best_64 : decode cX8_best 64 = .ok (.invokevirtual 137, 3) := by decide +kernel
theorem dX8_best_67 : decode cX8_best 67 = .ok (.iinc 2 1, 3) := by decide +kernel
theorem dX8_best_70 : decode cX8_best 70 = .ok (.goto (-32), 3) := by decide +kernel
theorem dX8_best_73 : decode cX8_best 73 = .ok (.iinc 1 1, 3) := by decide +kernel
theorem dX8_best_76 : decode cX8_best 76 = .ok (.goto (-50), 3) := by decide +kernel
theorem dX8_best_79 : decode cX8_best 79 = .ok (.iconst (-1), 1) := by decide +kernel
theorem dX8_best_80 : decode cX8_best 80 = .ok (.istore_n 1, 1) := by decide +kernel
theorem dX8_best_81 : decode cX8_best 81 = .ok (.iconst 1, 1) := by decide +kernel
theorem dX8_best_82 : decode cX8_best 82 = .ok (.istore_n 2, 1) := by decide +kernel
theorem dX8_best_83 : decode cX8_best 83 = .ok (.iload_n 2, 1) := by decide +kernel
theorem dX8_best_84 : decode cX8_best 84 = .ok (.ifCond .eq 55, 3) := by decide +kernel
theorem dX8_best_87 : decode cX8_best 87 = .ok (.aload_n 0, 1) := by decide +kernel
theorem dX8_best_88 : decode cX8_best 88 = .ok (.invokevirtual 133, 3) := by decide +kernel
theorem dX8_best_91 : decode cX8_best 91 = .ok (.istore_n 3, 1) := by decide +kernel
theorem dX8_best_92 : decode cX8_best 92 = .ok (.iload_n 3, 1) := by decide +kernel
theorem dX8_best_93 : decode cX8_best 93 = .ok (.iload_n 1, 1) := by decide +kernel
theorem dX8_best_94 : decode cX8_best 94 = .ok (.if_icmp .le 37, 3) := by decide +kernel
theorem dX8_best_97 : decode cX8_best 97 = .ok (.iload_n 3, 1) := by decide +kernel
theorem dX8_best_98 : decode cX8_best 98 = .ok (.istore_n 1, 1) := by decide +kernel
theorem dX8_best_99 : decode cX8_best 99 = .ok (.iconst 0, 1) := by decide +kernel
theorem dX8_best_100 : decode cX8_best 100 = .ok (.istore 4, 2) := by decide +kernel
theorem dX8_best_102 : decode cX8_best 102 = .ok (.iload 4, 2) := by decide +kernel
theorem dX8_best_104 : decode cX8_best 104 = .ok (.aload_n 0, 1) := by decide +kernel
theorem dX8_best_105 : decode cX8_best 105 = .ok (.getfield 116, 3) := by decide +kernel
theorem dX8_best_108 : decode cX8_best 108 = .ok (.if_icmp .ge 23, 3) := by decide +kernel
theorem dX8_best_111 : decode cX8_best 111 = .ok (.aload_n 0, 1) := by decide +kernel
theorem dX8_best_112 : decode cX8_best 112 = .ok (.getfield 32, 3) := by decide +kernel
theorem dX8_best_115 : decode cX8_best 115 = .ok (.iload 4, 2) := by decide +kernel
theorem dX8_best_117 : decode cX8_best 117 = .ok (.aload_n 0, 1) := by decide +kernel
theorem dX8_best_118 : decode cX8_best 118 = .ok (.getfield 22, 3) := by decide +kernel
theorem dX8_best_121 : decode cX8_best 121 = .ok (.iload 4, 2) := by decide +kernel
theorem dX8_best_123 : decode cX8_best 123 = .ok (.iaload, 1) := by decide +kernel
theorem dX8_best_124 : decode cX8_best 124 = .ok (.iastore, 1) := by decide +kernel
theorem dX8_best_125 : decode cX8_best 125 = .ok (.iinc 4 1, 3) := by decide +kernel
theorem dX8_best_128 : decode cX8_best 128 = .ok (.goto (-26), 3) := by decide +kernel
theorem dX8_best_131 : decode cX8_best 131 = .ok (.aload_n 0, 1) := by decide +kernel
theorem dX8_best_132 : decode cX8_best 132 = .ok (.invokevirtual 141, 3) := by decide +kernel
theorem dX8_best_135 : decode cX8_best 135 = .ok (.istore_n 2, 1) := by decide +kernel
theorem dX8_best_136 : decode cX8_best 136 = .ok (.goto (-53), 3) := by decide +kernel
theorem dX8_best_139 : decode cX8_best 139 = .ok (.iconst 0, 1) := by decide +kernel
theorem dX8_best_140 : decode cX8_best 140 = .ok (.istore_n 3, 1) := by decide +kernel
theorem dX8_best_141 : decode cX8_best 141 = .ok (.iload_n 3, 1) := by decide +kernel
theorem dX8_best_142 : decode cX8_best 142 = .ok (.aload_n 0, 1) := by decide +kernel
theorem dX8_best_143 : decode cX8_best 143 = .ok (.getfield 116, 3) := by decide +kernel
theorem dX8_best_146 : decode cX8_best 146 = .ok (.if_icmp .ge 21, 3) := by decide +kernel
theorem dX8_best_149 : decode cX8_best 149 = .ok (.aload_n 0, 1) := by decide +kernel
theorem dX8_best_150 : decode cX8_best 150 = .ok (.getfield 22, 3) := by decide +kernel
theorem dX8_best_153 : decode cX8_best 153 = .ok (.iload_n 3, 1) := by decide +kernel
theorem dX8_best_154 : decode cX8_best 154 = .ok (.aload_n 0, 1) := by decide +kernel
theorem dX8_best_155 : decode cX8_best 155 = .ok (.getfield 32, 3) := by decide +kernel
theorem dX8_best_158 : decode cX8_best 158 = .ok (.iload_n 3, 1) := by decide +kernel
theorem dX8_best_159 : decode cX8_best 159 = .ok (.iaload, 1) := by decide +kernel
theorem dX8_best_160 : decode cX8_best 160 = .ok (.iastore, 1) := by decide +kernel
theorem dX8_best_161 : decode cX8_best 161 = .ok (.iinc 3 1, 3) := by decide +kernel
theorem dX8_best_164 : decode cX8_best 164 = .ok (.goto (-23), 3) := by decide +kernel
theorem dX8_best_167 : decode cX8_best 167 = .ok (.iload_n 1, 1) := by decide +kernel
theorem dX8_best_168 : decode cX8_best 168 = .ok (.ireturn, 1) := by decide +kernel
set_option maxRecDepth 20000 in
theorem ggX8_team_X8_in : GoodIn wsX8_team wsX8_in := goodIn_r _ [7] (by decide +kernel) (by decide +kernel)
set_option maxRecDepth 20000 in
theorem gX8_team_X8_in : GoodIn wsX8_team (va_wsS RX8 62 yX8_in wsX8_in) := goodIn_app (goodIn_of _ (by decide +kernel)) ggX8_team_X8_in
set_option maxRecDepth 20000 in
theorem ggX8_team_X8_isStriker : GoodIn wsX8_team wsX8_isStriker := goodIn_r _ [11, 12, 4, 5, 6, 7, 13, 14, 15, 16, 17, 18, 19, 20, 21, 22, 23, 24, 25, 26, 27, 28, 29, 30, 31, 32, 33, 34] (by decide +kernel) (by decide +kernel)
set_option maxRecDepth 20000 in
theorem gX8_team_X8_isStriker : GoodIn wsX8_team (wsV RX8 108 RX8 yX8_isStriker wsX8_isStriker) := goodIn_app (goodIn_of _ (by decide +kernel)) ggX8_team_X8_isStriker
theorem dX8_team_0 : decode cX8_team 0 = .ok (.aload_n 0, 1) := by decide +kernel
theorem dX8_team_1 : decode cX8_team 1 = .ok (.iconst 0, 1) := by decide +kernel
theorem dX8_team_2 : decode cX8_team 2 = .ok (.putfield 52, 3) := by decide +kernel
theorem dX8_team_5 : decode cX8_team 5 = .ok (.iload_n 1, 1) := by decide +kernel
theorem dX8_team_6 : decode cX8_team 6 = .ok (.i2l, 1) := by decide +kernel
theorem dX8_team_7 : decode cX8_team 7 = .ok (.lconst 0, 1) := by decide +kernel
theorem dX8_team_8 : decode cX8_team 8 = .ok (.lconst 1, 1) := by decide +kernel
theorem dX8_team_9 : decode cX8_team 9 = .ok (.invokestatic 62, 3) := by decide +kernel
theorem dX8_team_12 : decode cX8_team 12 = .ok (.ifCond .eq 11, 3) := by decide +kernel
theorem dX8_team_15 : decode cX8_team 15 = .ok (.aload_n 0, 1) := by decide +kernel
theorem dX8_team_16 : decode cX8_team 16 = .ok (.iload_n 2, 1) := by decide +kernel
theorem dX8_team_17 : decode cX8_team 17 = .ok (.invokevirtual 108, 3) := by decide +kernel
theorem dX8_team_20 : decode cX8_team 20 = .ok (.ifCond .ne 6, 3) := by decide +kernel
theorem dX8_team_23 : decode cX8_team 23 = .ok (.ldc 72, 2) := by decide +kernel
theorem dX8_team_25 : decode cX8_team 25 = .ok (.ireturn, 1) := by decide +kernel
theorem dX8_team_26 : decode cX8_team 26 = .ok (.aload_n 0, 1) := by decide +kernel
theorem dX8_team_27 : decode cX8_team 27 = .ok (.getfield 36, 3) := by decide +kernel
theorem dX8_team_30 : decode cX8_team 30 = .ok (.iload_n 1, 1) := by decide +kernel
theorem dX8_team_31 : decode cX8_team 31 = .ok (.iaload, 1) := by decide +kernel
theorem dX8_team_32 : decode cX8_team 32 = .ok (.istore_n 3, 1) := by decide +kernel
theorem dX8_team_33 : decode cX8_team 33 = .ok (.aload_n 0, 1) := by decide +kernel
theorem dX8_team_34 : decode cX8_team 34 = .ok (.getfield 36, 3) := by decide +kernel
theorem dX8_team_37 : decode cX8_team 37 = .ok (.iload_n 1, 1) := by decide +kernel
theorem dX8_team_38 : decode cX8_team 38 = .ok (.iload_n 2, 1) := by decide +kernel
theorem dX8_team_39 : decode cX8_team 39 = .ok (.iastore, 1) := by decide +kernel
theorem dX8_team_40 : decode cX8_team 40 = .ok (.iload_n 3, 1) := by decide +kernel
theorem dX8_team_41 : decode cX8_team 41 = .ok (.ireturn, 1) := by decide +kernel
theorem dX8_placeOf_0 : decode cX8_placeOf 0 = .ok (.iload_n 0, 1) := by decide +kernel
theorem dX8_placeOf_1 : decode cX8_placeOf 1 = .ok (.bipush 19, 2) := by decide +kernel
theorem dX8_placeOf_3 : decode cX8_placeOf 3 = .ok (.imul, 1) := by decide +kernel
theorem dX8_placeOf_4 : decode cX8_placeOf 4 = .ok (.iload_n 1, 1) := by decide +kernel
theorem dX8_placeOf_5 : decode cX8_placeOf 5 = .ok (.iadd, 1) := by decide +kernel
theorem dX8_placeOf_6 : decode cX8_placeOf 6 = .ok (.bipush 9, 2) := by decide +kernel
theorem dX8_placeOf_8 : decode cX8_placeOf 8 = .ok (.iadd, 1) := by decide +kernel
theorem dX8_placeOf_9 : decode cX8_placeOf 9 = .ok (.bipush 13, 2) := by decide +kernel
theorem dX8_placeOf_11 : decode cX8_placeOf 11 = .ok (.imul, 1) := by decide +kernel
theorem dX8_placeOf_12 : decode cX8_placeOf 12 = .ok (.iload_n 2, 1) := by decide +kernel
theorem dX8_placeOf_13 : decode cX8_placeOf 13 = .ok (.iadd, 1) := by decide +kernel
theorem dX8_placeOf_14 : decode cX8_placeOf 14 = .ok (.bipush 25, 2) := by decide +kernel
theorem dX8_placeOf_16 : decode cX8_placeOf 16 = .ok (.imul, 1) := by decide +kernel
theorem dX8_placeOf_17 : decode cX8_placeOf 17 = .ok (.iload_n 3, 1) := by decide +kernel
theorem dX8_placeOf_18 : decode cX8_placeOf 18 = .ok (.iadd, 1) := by decide +kernel
theorem dX8_placeOf_19 : decode cX8_placeOf 19 = .ok (.ireturn, 1) := by decide +kernel
set_option maxRecDepth 20000 in
theorem ggX8_winBehind_X8_runs : GoodIn wsX8_winBehind wsX8_runs := goodIn_r _ [5, 6, 7, 4, 8] (by decide +kernel) (by decide +kernel)
set_option maxRecDepth 20000 in
theorem gX8_winBehind_X8_runs : GoodIn wsX8_winBehind (va_wsS RX8 92 yX8_runs wsX8_runs) := goodIn_app (goodIn_of _ (by decide +kernel)) ggX8_winBehind_X8_runs
set_option maxRecDepth 20000 in
theorem ggX8_winBehind_X8_next : GoodIn wsX8_winBehind wsX8_next := goodIn_r _ [11] (by decide +kernel) (by decide +kernel)
set_option maxRecDepth 20000 in
theorem gX8_winBehind_X8_next : GoodIn wsX8_winBehind (va_wsS RX8 88 yX8_next wsX8_next) := goodIn_app (goodIn_of _ (by decide +kernel)) ggX8_winBehind_X8_next
set_option maxRecDepth 20000 in
theorem ggX8_winBehind_X8_placeOf : GoodIn wsX8_winBehind wsX8_placeOf := goodIn_r _ [14] (by decide +kernel) (by decide +kernel)
set_option maxRecDepth 20000 in
theorem gX8_winBehind_X8_placeOf : GoodIn wsX8_winBehind (va_wsS RX8 145 yX8_placeOf wsX8_placeOf) := goodIn_app (goodIn_of _ (by decide +kernel)) ggX8_winBehind_X8_placeOf
