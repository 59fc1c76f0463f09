theorem dX3_howManyStrikes_5 : decode cX3_howManyStrikes 5 = .ok (.iconst 5, 1) := by decide +kernel
theorem dX3_howManyStrikes_6 : decode cX3_howManyStrikes 6 = .ok (.if_icmp .gt 18, 3) := by decide +kernel
theorem dX3_howManyStrikes_9 : decode cX3_howManyStrikes 9 = .ok (.iload_n 1, 1) := by decide +kernel
theorem dX3_howManyStrikes_10 : decode cX3_howManyStrikes 10 = .ok (.aload_n 0, 1) := by decide +kernel
theorem dX3_howManyStrikes_11 : decode cX3_howManyStrikes 11 = .ok (.getfield 9, 3) := by decide +kernel
theorem dX3_howManyStrikes_14 : decode cX3_howManyStrikes 14 = .ok (.iload_n 2, 1) := by decide +kernel
theorem dX3_howManyStrikes_15 : decode cX3_howManyStrikes 15 = .ok (.iaload, 1) := by decide +kernel
theorem dX3_howManyStrikes_16 : decode cX3_howManyStrikes 16 = .ok (.iadd, 1) := by decide +kernel
theorem dX3_howManyStrikes_17 : decode cX3_howManyStrikes 17 = .ok (.istore_n 1, 1) := by decide +kernel
theorem dX3_howManyStrikes_18 : decode cX3_howManyStrikes 18 = .ok (.iinc 2 1, 3) := by decide +kernel
theorem dX3_howManyStrikes_21 : decode cX3_howManyStrikes 21 = .ok (.goto (-17), 3) := by decide +kernel
theorem dX3_howManyStrikes_24 : decode cX3_howManyStrikes 24 = .ok (.iload_n 1, 1) := by decide +kernel
theorem dX3_howManyStrikes_25 : decode cX3_howManyStrikes 25 = .ok (.ireturn, 1) := by decide +kernel
set_option maxRecDepth 20000 in
theorem ggX3_told_X7_within : GoodIn wsX3_told wsX7_within := goodIn_r _ [9] (by decide +kernel) (by decide +kernel)
set_option maxRecDepth 20000 in
theorem gX3_told_X7_within_n43 : GoodIn wsX3_told (wsX7_within) := ggX3_told_X7_within
theorem dX3_told_0 : decode cX3_told 0 = .ok (.iload_n 1, 1) := by decide +kernel
theorem dX3_told_1 : decode cX3_told 1 = .ok (.tableswitch 51 0 3 #[31, 36, 41, 46], 31) := by decide +kernel
theorem dX3_told_32 : decode cX3_told 32 = .ok (.aload_n 0, 1) := by decide +kernel
theorem dX3_told_33 : decode cX3_told 33 = .ok (.getfield 26, 3) := by decide +kernel
theorem dX3_told_36 : decode cX3_told 36 = .ok (.ireturn, 1) := by decide +kernel
theorem dX3_told_37 : decode cX3_told 37 = .ok (.aload_n 0, 1) := by decide +kernel
theorem dX3_told_38 : decode cX3_told 38 = .ok (.getfield 30, 3) := by decide +kernel
theorem dX3_told_41 : decode cX3_told 41 = .ok (.ireturn, 1) := by decide +kernel
theorem dX3_told_42 : decode cX3_told 42 = .ok (.aload_n 0, 1) := by decide +kernel
theorem dX3_told_43 : decode cX3_told 43 = .ok (.getfield 33, 3) := by decide +kernel
theorem dX3_told_46 : decode cX3_told 46 = .ok (.ireturn, 1) := by decide +kernel
theorem dX3_told_47 : decode cX3_told 47 = .ok (.aload_n 0, 1) := by decide +kernel
theorem dX3_told_48 : decode cX3_told 48 = .ok (.getfield 36, 3) := by decide +kernel
theorem dX3_told_51 : decode cX3_told 51 = .ok (.ireturn, 1) := by decide +kernel
theorem dX3_told_52 : decode cX3_told 52 = .ok (.iload_n 1, 1) := by decide +kernel
theorem dX3_told_53 : decode cX3_told 53 = .ok (.bipush 10, 2) := by decide +kernel
theorem dX3_told_55 : decode cX3_told 55 = .ok (.bipush 18, 2) := by decide +kernel
theorem dX3_told_57 : decode cX3_told 57 = .ok (.invokestatic 43, 3) := by decide +kernel
theorem dX3_told_60 : decode cX3_told 60 = .ok (.ifCond .eq 15, 3) := by decide +kernel
theorem dX3_told_63 : decode cX3_told 63 = .ok (.aload_n 0, 1) := by decide +kernel
theorem dX3_told_64 : decode cX3_told 64 = .ok (.getfield 9, 3) := by decide +kernel
theorem dX3_told_67 : decode cX3_told 67 = .ok (.iload_n 1, 1) := by decide +kernel
theorem dX3_told_68 : decode cX3_told 68 = .ok (.bipush 10, 2) := by decide +kernel
theorem dX3_told_70 : decode cX3_told 70 = .ok (.isub, 1) := by decide +kernel
theorem dX3_told_71 : decode cX3_told 71 = .ok (.iaload, 1) := by decide +kernel
theorem dX3_told_72 : decode cX3_told 72 = .ok (.goto 5, 3) := by decide +kernel
theorem dX3_told_75 : decode cX3_told 75 = .ok (.ldc 55, 2) := by decide +kernel
theorem dX3_told_77 : decode cX3_told 77 = .ok (.ireturn, 1) := by decide +kernel
theorem dX4_init_0 : decode cX4_init 0 = .ok (.aload_n 0, 1) := by decide +kernel
theorem dX4_init_1 : decode cX4_init 1 = .ok (.invokespecial 3, 3) := by decide +kernel
theorem dX4_init_4 : decode cX4_init 4 = .ok (.aload_n 0, 1) := by decide +kernel
theorem dX4_init_5 : decode cX4_init 5 = .ok (.iconst 2, 1) := by decide +kernel
theorem dX4_init_6 : decode cX4_init 6 = .ok (.newarray .int, 2) := by decide +kernel
theorem dX4_init_8 : decode cX4_init 8 = .ok (.dup, 1) := by decide +kernel
theorem dX4_init_9 : decode cX4_init 9 = .ok (.iconst 0, 1) := by decide +kernel
theorem dX4_init_10 : decode cX4_init 10 = .ok (.ldc 9, 2) := by decide +kernel
theorem dX4_init_12 : decode cX4_init 12 = .ok (.iastore, 1) := by decide +kernel
theorem dX4_init_13 : decode cX4_init 13 = .ok (.dup, 1) := by decide +kernel
theorem dX4_init_14 : decode cX4_init 14 = .ok (.iconst 1, 1) := by decide +kernel
theorem dX4_init_15 : decode cX4_init 15 = .ok (.ldc 9, 2) := by decide +kernel
theorem dX4_init_17 : decode cX4_init 17 = .ok (.iastore, 1) := by decide +kernel
theorem dX4_init_18 : decode cX4_init 18 = .ok (.putfield 10, 3) := by decide +kernel
theorem dX4_init_21 : decode cX4_init 21 = .ok (.aload_n 0, 1) := by decide +kernel
theorem dX4_init_22 : decode cX4_init 22 = .ok (.bipush 114, 2) := by decide +kernel
theorem dX4_init_24 : decode cX4_init 24 = .ok (.newarray .int, 2) := by decide +kernel
theorem dX4_init_26 : decode cX4_init 26 = .ok (.putfield 16, 3) := by decide +kernel
theorem dX4_init_29 : decode cX4_init 29 = .ok (.aload_n 0, 1) := by decide +kernel
theorem dX4_init_30 : decode cX4_init 30 = .ok (.sipush 475, 3) := by decide +kernel
theorem dX4_init_33 : decode cX4_init 33 = .ok (.newarray .int, 2) := by decide +kernel
theorem dX4_init_35 : decode cX4_init 35 = .ok (.putfield 19, 3) := by decide +kernel
theorem dX4_init_38 : decode cX4_init 38 = .ok (.aload_n 0, 1) := by decide +kernel
theorem dX4_init_39 : decode cX4_init 39 = .ok (.sipush 475, 3) := by decide +kernel
theorem dX4_init_42 : decode cX4_init 42 = .ok (.newarray .int, 2) := by decide +kernel
theorem dX4_init_44 : decode cX4_init 44 = .ok (.putfield 22, 3) := by decide +kernel
theorem dX4_init_47 : decode cX4_init 47 = .ok (.aload_n 0, 1) := by decide +kernel
theorem dX4_init_48 : decode cX4_init 48 = .ok (.aload_n 1, 1) := by decide +kernel
theorem dX4_init_49 : decode cX4_init 49 = .ok (.putfield 25, 3) := by decide +kernel
theorem dX4_init_52 : decode cX4_init 52 = .ok (.aload_n 0, 1) := by decide +kernel
theorem dX4_init_53 : decode cX4_init 53 = .ok (.aload_n 2, 1) := by decide +kernel
theorem dX4_init_54 : decode cX4_init 54 = .ok (.putfield 29, 3) := by decide +kernel
theorem dX4_init_57 : decode cX4_init 57 = .ok (.iconst 0, 1) := by decide +kernel
theorem dX4_init_58 : decode cX4_init 58 = .ok (.istore_n 3, 1) := by decide +kernel
theorem dX4_init_59 : decode cX4_init 59 = .ok (.iload_n 3, 1) := by decide +kernel
theorem dX4_init_60 : decode cX4_init 60 = .ok (.bipush 19, 2) := by decide +kernel
theorem dX4_init_62 : decode cX4_init 62 = .ok (.if_icmp .ge 38, 3) := by decide +kernel
theorem dX4_init_65 : decode cX4_init 65 = .ok (.aload_n 0, 1) := by decide +kernel
theorem dX4_init_66 : decode cX4_init 66 = .ok (.getfield 16, 3) := by decide +kernel
theorem dX4_init_69 : decode cX4_init 69 = .ok (.iload_n 3, 1) := by decide +kernel
theorem dX4_init_70 : decode cX4_init 70 = .ok (.iload_n 3, 1) := by decide +kernel
theorem dX4_init_71 : decode cX4_init 71 = .ok (.bipush 9, 2) := by decide +kernel
theorem dX4_init_73 : decode cX4_init 73 = .ok (.if_icmp .le 8, 3) := by decide +kernel
theorem dX4_init_76 : decode cX4_init 76 = .ok (.ldc 33, 2) := by decide +kernel
theorem dX4_init_78 : decode cX4_init 78 = .ok (.goto 15, 3) := by decide +kernel
theorem dX4_init_81 : decode cX4_init 81 = .ok (.iload_n 3, 1) := by decide +kernel
theorem dX4_init_82 : decode cX4_init 82 = .ok (.bipush 9, 2) := by decide +kernel
theorem dX4_init_84 : decode cX4_init 84 = .ok (.if_icmp .ne 8, 3) := by decide +kernel
theorem dX4_init_87 : decode cX4_init 87 = .ok (.ldc 34, 2) := by decide +kernel
theorem dX4_init_89 : decode cX4_init 89 = .ok (.goto 4, 3) := by decide +kernel
theorem dX4_init_92 : decode cX4_init 92 = .ok (.iconst 0, 1) := by decide +kernel
theorem dX4_init_93 : decode cX4_init 93 = .ok (.iastore, 1) := by decide +kernel
theorem dX4_init_94 : decode cX4_init 94 = .ok (.iinc 3 1, 3) := by decide +kernel
theorem dX4_init_97 : decode cX4_init 97 = .ok (.goto (-38), 3) := by decide +kernel
theorem dX4_init_100 : decode cX4_init 100 = .ok (.aload_n 0, 1) := by decide +kernel
theorem dX4_init_101 : decode cX4_init 101 = .ok (.iconst 0, 1) := by decide +kernel
theorem dX4_init_102 : decode cX4_init 102 = .ok (.putfield 35, 3) := by decide +kernel
theorem dX4_init_105 : decode cX4_init 105 = .ok (.return_, 1) := by decide +kernel
theorem dX4_forget_0 : decode cX4_forget 0 = .ok (.aload_n 0, 1) := by decide +kernel
theorem dX4_forget_1 : decode cX4_forget 1 = .ok (.iconst 0, 1) := by decide +kernel
theorem dX4_forget_2 : decode cX4_forget 2 = .ok (.putfield 35, 3) := by decide +kernel
theorem dX4_forget_5 : decode cX4_forget 5 = .ok (.return_, 1) := by decide +kernel
theorem dX4_howManyTeams_0 : decode cX4_howManyTeams 0 = .ok (.aload_n 0, 1) := by decide +kernel
theorem dX4_howManyTeams_1 : decode cX4_howManyTeams 1 = .ok (.getfield 10, 3) := by decide +kernel
theorem dX4_howManyTeams_4 : decode cX4_howManyTeams 4 = .ok (.iconst 0, 1) := by decide +kernel
theorem dX4_howManyTeams_5 : decode cX4_howManyTeams 5 = .ok (.iaload, 1) := by decide +kernel
theorem dX4_howManyTeams_6 : decode cX4_howManyTeams 6 = .ok (.ldc 9, 2) := by decide +kernel
theorem dX4_howManyTeams_8 : decode cX4_howManyTeams 8 = .ok (.if_icmp .ne 7, 3) := by decide +kernel
theorem dX4_howManyTeams_11 : decode cX4_howManyTeams 11 = .ok (.iconst 0, 1) := by decide +kernel
theorem dX4_howManyTeams_12 : decode cX4_howManyTeams 12 = .ok (.goto 4, 3) := by decide +kernel
theorem dX4_howManyTeams_15 : decode cX4_howManyTeams 15 = .ok (.iconst 1, 1) := by decide +kernel
theorem dX4_howManyTeams_16 : decode cX4_howManyTeams 16 = .ok (.aload_n 0, 1) := by decide +kernel
theorem dX4_howManyTeams_17 : decode cX4_howManyTeams 17 = .ok (.getfield 10, 3) := by decide +kernel
theorem dX4_howManyTeams_20 : decode cX4_howManyTeams 20 = .ok (.iconst 1, 1) := by decide +kernel
theorem dX4_howManyTeams_21 : decode cX4_howManyTeams 21 = .ok (.iaload, 1) := by decide +kernel
theorem dX4_howManyTeams_22 : decode cX4_howManyTeams 22 = .ok (.ldc 9, 2) := by decide +kernel
theorem dX4_howManyTeams_24 : decode cX4_howManyTeams 24 = .ok (.if_icmp .ne 7, 3) := by decide +kernel
theorem dX4_howManyTeams_27 : decode cX4_howManyTeams 27 = .ok (.iconst 0, 1) := by decide +kernel
theorem dX4_howManyTeams_28 : decode cX4_howManyTeams 28 = .ok (.goto 4, 3) := by decide +kernel
theorem dX4_howManyTeams_31 : decode cX4_howManyTeams 31 = .ok (.iconst 1, 1) := by decide +kernel
theorem dX4_howManyTeams_32 : decode cX4_howManyTeams 32 = .ok (.iadd, 1) := by decide +kernel
theorem dX4_howManyTeams_33 : decode cX4_howManyTeams 33 = .ok (.ireturn, 1) := by decide +kernel
set_option maxRecDepth 20000 in
theorem ggX4_told_X4_learnStarts : GoodIn wsX4_told wsX4_learnStarts := goodIn_r _ [12, 13, 6, 7, 14, 15, 16, 11, 17, 18, 19, 20, 21, 22, 23, 24, 25, 26, 27, 28, 29, 30, 31, 32, 33, 34, 35, 36, 37, 38, 39, 40, 41, 42, 43, 44, 45, 46, 47, 48, 49, 2, 3, 4, 5, 50, 51, 52, 53, 54, 55, 56, 57, 58, 59, 60, 69, 70, 71, 72, 73, 74, 75, 76, 77, 78, 79, 80] (by decide +kernel) (by decide +kernel)
set_option maxRecDepth 20000 in
theorem gX4_told_X4_learnStarts : GoodIn wsX4_told (wsV RX4 45 RX4 yX4_learnStarts wsX4_learnStarts) := goodIn_app (goodIn_of _ (by decide +kernel)) ggX4_told_X4_learnStarts
set_option maxRecDepth 20000 in
theorem ggX4_told_X4_fillHalf : GoodIn wsX4_told wsX4_fillHalf := goodIn_r _ [17, 18, 7, 19, 20, 21, 22, 11, 23, 6, 24, 25, 26, 27, 28, 29, 30, 31, 32, 33, 34, 35, 36, 37, 38, 39, 40, 41, 42, 43, 44, 45, 46, 47, 48, 49, 2, 3, 4, 5, 50, 51, 52, 53, 54, 55, 56, 57, 58, 59, 60, 69, 70, 71, 72, 73, 74, 75, 76, 77, 78, 79, 80] (by decide +kernel) (by decide +kernel)
set_option maxRecDepth 20000 in
theorem gX4_told_X4_fillHalf : GoodIn wsX4_told (wsV RX4 49 RX4 yX4_fillHalf wsX4_fillHalf) := goodIn_app (goodIn_of _ (by decide +kernel)) ggX4_told_X4_fillHalf
set_option maxRecDepth 20000 in
theorem ggX4_told_X4_choiceAt : GoodIn wsX4_told wsX4_choiceAt := goodIn_r _ [64, 7, 28, 29, 30, 11, 31, 32, 33, 18, 34, 35, 36, 37, 38, 39, 40, 19, 41, 42, 43, 44, 45, 69, 70, 71, 72, 73, 74, 75, 76, 77, 78, 79, 80] (by decide +kernel) (by decide +kernel)
set_option maxRecDepth 20000 in
theorem gX4_told_X4_choiceAt : GoodIn wsX4_told (wsV RX4 53 RX4 yX4_choiceAt wsX4_choiceAt) := goodIn_app (goodIn_of _ (by decide +kernel)) ggX4_told_X4_choiceAt
set_option maxRecDepth 20000 in
theorem ggX4_told_X4_walkIsBetter : GoodIn wsX4_told wsX4_walkIsBetter := goodIn_r _ [68, 7, 18, 35, 36, 37, 11, 38, 39, 40, 19, 41, 69, 70, 71, 72, 73, 74, 75, 76, 79, 80] (by decide +kernel) (by decide +kernel)
set_option maxRecDepth 20000 in
theorem gX4_told_X4_walkIsBetter : GoodIn wsX4_told (wsV RX4 56 RX4 yX4_walkIsBetter wsX4_walkIsBetter) := goodIn_app (goodIn_of _ (by decide +kernel)) ggX4_told_X4_walkIsBetter
theorem dX4_told_0 : decode cX4_told 0 = .ok (.iload_n 2, 1) := by decide +kernel
theorem dX4_told_1 : decode cX4_told 1 = .ok (.bipush 9, 2) := by decide +kernel
theorem dX4_told_3 : decode cX4_told 3 = .ok (.iadd, 1) := by decide +kernel
theorem dX4_told_4 : decode cX4_told 4 = .ok (.istore 6, 2) := by decide +kernel
theorem dX4_told_6 : decode cX4_told 6 = .ok (.iload_n 1, 1) := by decide +kernel
theorem dX4_told_7 : decode cX4_told 7 = .ok (.ifCond .eq 14, 3) := by decide +kernel
theorem dX4_told_10 : decode cX4_told 10 = .ok (.iload_n 3, 1) := by decide +kernel
theorem dX4_told_11 : decode cX4_told 11 = .ok (.bipush 24, 2) := by decide +kernel
theorem dX4_told_13 : decode cX4_told 13 = .ok (.if_icmp .eq 8, 3) := by decide +kernel
theorem dX4_told_16 : decode cX4_told 16 = .ok (.iload 4, 2) := by decide +kernel
theorem dX4_told_18 : decode cX4_told 18 = .ok (.ifCond .ne 7, 3) := by decide +kernel
theorem dX4_told_21 : decode cX4_told 21 = .ok (.iconst 1, 1) := by decide +kernel
theorem dX4_told_22 : decode cX4_told 22 = .ok (.goto 4, 3) := by decide +kernel
theorem dX4_told_25 : decode cX4_told 25 = .ok (.iconst 0, 1) := by decide +kernel
theorem dX4_told_26 : decode cX4_told 26 = .ok (.istore 7, 2) := by decide +kernel
theorem dX4_told_28 : decode cX4_told 28 = .ok (.iload 7, 2) := by decide +kernel
theorem dX4_told_30 : decode cX4_told 30 = .ok (.ifCond .eq 21, 3) := by decide +kernel
theorem dX4_told_33 : decode cX4_told 33 = .ok (.iload 5, 2) := by decide +kernel
theorem dX4_told_35 : decode cX4_told 35 = .ok (.ifCond .eq 16, 3) := by decide +kernel
theorem dX4_told_38 : decode cX4_told 38 = .ok (.iload 5, 2) := by decide +kernel
theorem dX4_told_40 : decode cX4_told 40 = .ok (.iconst 1, 1) := by decide +kernel
theorem dX4_told_41 : decode cX4_told 41 = .ok (.if_icmp .ne 8, 3) := by decide +kernel
theorem dX4_told_44 : decode cX4_told 44 = .ok (.ldc 9, 2) := by decide +kernel
theorem dX4_told_46 : decode cX4_told 46 = .ok (.goto 4, 3) := by decide +kernel
theorem dX4_told_49 : decode cX4_told 49 = .ok (.iconst 0, 1) := by decide +kernel
theorem dX4_told_50 : decode cX4_told 50 = .ok (.ireturn, 1) := by decide +kernel
theorem dX4_told_51 : decode cX4_told 51 = .ok (.iload_n 1, 1) := by decide +kernel
theorem dX4_told_52 : decode cX4_told 52 = .ok (.iconst 1, 1) := by decide +kernel
theorem dX4_told_53 : decode cX4_told 53 = .ok (.isub, 1) := by decide +kernel
theorem dX4_told_54 : decode cX4_told 54 = .ok (.iconst 0, 1) := by decide +kernel
theorem dX4_told_55 : decode cX4_told 55 = .ok (.invokestatic 39, 3) := by decide +kernel
theorem dX4_told_58 : decode cX4_told 58 = .ok (.istore 8, 2) := by decide +kernel
theorem dX4_told_60 : decode cX4_told 60 = .ok (.aload_n 0, 1) := by decide +kernel
theorem dX4_told_61 : decode cX4_told 61 = .ok (.iload 8, 2) := by decide +kernel
theorem dX4_told_63 : decode cX4_told 63 = .ok (.invokevirtual 45, 3) := by decide +kernel
theorem dX4_told_66 : decode cX4_told 66 = .ok (.iload 7, 2) := by decide +kernel
theorem dX4_told_68 : decode cX4_told 68 = .ok (.ifCond .eq 17, 3) := by decide +kernel
theorem dX4_told_71 : decode cX4_told 71 = .ok (.aload_n 0, 1) := by decide +kernel
theorem dX4_told_72 : decode cX4_told 72 = .ok (.getfield 16, 3) := by decide +kernel
theorem dX4_told_75 : decode cX4_told 75 = .ok (.iload 8, 2) := by decide +kernel
theorem dX4_told_77 : decode cX4_told 77 = .ok (.bipush 19, 2) := by decide +kernel
theorem dX4_told_79 : decode cX4_told 79 = .ok (.imul, 1) := by decide +kernel
theorem dX4_told_80 : decode cX4_told 80 = .ok (.iload 6, 2) := by decide +kernel
theorem dX4_told_82 : decode cX4_told 82 = .ok (.iadd, 1) := by decide +kernel
theorem dX4_told_83 : decode cX4_told 83 = .ok (.iaload, 1) := by decide +kernel
theorem dX4_told_84 : decode cX4_told 84 = .ok (.ireturn, 1) := by decide +kernel
theorem dX4_told_85 : decode cX4_told 85 = .ok (.aload_n 0, 1) := by decide +kernel
theorem dX4_told_86 : decode cX4_told 86 = .ok (.iload_n 1, 1) := by decide +kernel
theorem dX4_told_87 : decode cX4_told 87 = .ok (.iload 4, 2) := by decide +kernel
theorem dX4_told_89 : decode cX4_told 89 = .ok (.invokevirtual 49, 3) := by decide +kernel
theorem dX4_told_92 : decode cX4_told 92 = .ok (.iload 5, 2) := by decide +kernel
theorem dX4_told_94 : decode cX4_told 94 = .ok (.ifCond .ne 16, 3) := by decide +kernel
theorem dX4_told_97 : decode cX4_told 97 = .ok (.aload_n 0, 1) := by decide +kernel
theorem dX4_told_98 : decode cX4_told 98 = .ok (.getfield 19, 3) := by decide +kernel
theorem dX4_told_101 : decode cX4_told 101 = .ok (.iload 6, 2) := by decide +kernel
theorem dX4_told_103 : decode cX4_told 103 = .ok (.bipush 25, 2) := by decide +kernel
theorem dX4_told_105 : decode cX4_told 105 = .ok (.imul, 1) := by decide +kernel
theorem dX4_told_106 : decode cX4_told 106 = .ok (.iload_n 3, 1) := by decide +kernel
theorem dX4_told_107 : decode cX4_told 107 = .ok (.iadd, 1) := by decide +kernel
theorem dX4_told_108 : decode cX4_told 108 = .ok (.iaload, 1) := by decide +kernel
theorem dX4_told_109 : decode cX4_told 109 = .ok (.ireturn, 1) := by decide +kernel
theorem dX4_told_110 : decode cX4_told 110 = .ok (.iload 5, 2) := by decide +kernel
theorem dX4_told_112 : decode cX4_told 112 = .ok (.iconst 1, 1) := by decide +kernel
theorem dX4_told_113 : decode cX4_told 113 = .ok (.if_icmp .ne 13, 3) := by decide +kernel
theorem dX4_told_116 : decode cX4_told 116 = .ok (.aload_n 0, 1) := by decide +kernel
theorem dX4_told_117 : decode cX4_told 117 = .ok (.iload 6, 2) := by decide +kernel
theorem dX4_told_119 : decode cX4_told 119 = .ok (.iload_n 3, 1) := by decide +kernel
theorem dX4_told_120 : decode cX4_told 120 = .ok (.invokevirtual 53, 3) := by decide +kernel
theorem dX4_told_123 : decode cX4_told 123 = .ok (.goto 10, 3) := by decide +kernel
theorem dX4_told_126 : decode cX4_told 126 = .ok (.aload_n 0, 1) := by decide +kernel
theorem dX4_told_127 : decode cX4_told 127 = .ok (.iload 6, 2) := by decide +kernel
theorem dX4_told_129 : decode cX4_told 129 = .ok (.iload_n 3, 1) := by decide +kernel
theorem dX4_told_130 : decode cX4_told 130 = .ok (.invokevirtual 56, 3) := by decide +kernel
theorem dX4_told_133 : decode cX4_told 133 = .ok (.ireturn, 1) := by decide +kernel
set_option maxRecDepth 20000 in
theorem ggX4_learnStarts_X4_fillHalf : GoodIn wsX4_learnStarts wsX4_fillHalf := goodIn_r _ [8, 9, 3, 10, 11, 12, 13, 7, 14, 2, 15, 16, 17, 18, 19, 20, 21, 22, 23, 24, 25, 26, 27, 28, 29, 30, 31, 32, 33, 34, 35, 36, 37, 38, 39, 40, 41, 42, 43, 44, 45, 46, 47, 48, 49, 50, 51, 52, 53, 54, 55, 56, 57, 58, 59, 60, 61, 62, 63, 64, 65, 66, 67] (by decide +kernel) (by decide +kernel)
set_option maxRecDepth 20000 in
theorem gX4_learnStarts_X4_fillHalf : GoodIn wsX4_learnStarts (wsV RX4 49 RX4 yX4_fillHalf wsX4_fillHalf) := goodIn_app (goodIn_of _ (by decide +kernel)) ggX4_learnStarts_X4_fillHalf
theorem dX4_learnStarts_0 : decode cX4_learnStarts 0 = .ok (.aload_n 0, 1) := by decide +kernel
theorem dX4_learnStarts_1 : decode cX4_learnStarts 1 = .ok (.getfield 35, 3) := by decide +kernel
theorem dX4_learnStarts_4 : decode cX4_learnStarts 4 = .ok (.iconst 1, 1) := by decide +kernel
theorem dX4_learnStarts_5 : decode cX4_learnStarts 5 = .ok (.iadd, 1) := by decide +kernel
theorem dX4_learnStarts_6 : decode cX4_learnStarts 6 = .ok (.istore_n 2, 1) := by decide +kernel
theorem dX4_learnStarts_7 : decode cX4_learnStarts 7 = .ok (.iload_n 2, 1) := by decide +kernel
theorem dX4_learnStarts_8 : decode cX4_learnStarts 8 = .ok (.iload_n 1, 1) := by decide +kernel
theorem dX4_learnStarts_9 : decode cX4_learnStarts 9 = .ok (.if_icmp .gt 55, 3) := by decide +kernel
theorem dX4_learnStarts_12 : decode cX4_learnStarts 12 = .ok (.aload_n 0, 1) := by decide +kernel
theorem dX4_learnStarts_13 : decode cX4_learnStarts 13 = .ok (.iload_n 2, 1) := by decide +kernel
theorem dX4_learnStarts_14 : decode cX4_learnStarts 14 = .ok (.bipush 12, 2) := by decide +kernel
theorem dX4_learnStarts_16 : decode cX4_learnStarts 16 = .ok (.invokevirtual 49, 3) := by decide +kernel
theorem dX4_learnStarts_19 : decode cX4_learnStarts 19 = .ok (.iconst 0, 1) := by decide +kernel
theorem dX4_learnStarts_20 : decode cX4_learnStarts 20 = .ok (.istore_n 3, 1) := by decide +kernel
theorem dX4_learnStarts_21 : decode cX4_learnStarts 21 = .ok (.iload_n 3, 1) := by decide +kernel
theorem dX4_learnStarts_22 : decode cX4_learnStarts 22 = .ok (.bipush 19, 2) := by decide +kernel
theorem dX4_learnStarts_24 : decode cX4_learnStarts 24 = .ok (.if_icmp .ge 29, 3) := by decide +kernel
theorem dX4_learnStarts_27 : decode cX4_learnStarts 27 = .ok (.aload_n 0, 1) := by decide +kernel
theorem dX4_learnStarts_28 : decode cX4_learnStarts 28 = .ok (.getfield 16, 3) := by decide +kernel
theorem dX4_learnStarts_31 : decode cX4_learnStarts 31 = .ok (.iload_n 2, 1) := by decide +kernel
theorem dX4_learnStarts_32 : decode cX4_learnStarts 32 = .ok (.bipush 19, 2) := by decide +kernel
theorem dX4_learnStarts_34 : decode cX4_learnStarts 34 = .ok (.imul, 1) := by decide +kernel
theorem dX4_learnStarts_35 : decode cX4_learnStarts 35 = .ok (.iload_n 3, 1) := by decide +kernel
theorem dX4_learnStarts_36 : decode cX4_learnStarts 36 = .ok (.iadd, 1) := by decide +kernel
theorem dX4_learnStarts_37 : decode cX4_learnStarts 37 = .ok (.aload_n 0, 1) := by decide +kernel
theorem dX4_learnStarts_38 : decode cX4_learnStarts 38 = .ok (.getfield 19, 3) := by decide +kernel
theorem dX4_learnStarts_41 : decode cX4_learnStarts 41 = .ok (.iload_n 3, 1) := by decide +kernel
theorem dX4_learnStarts_42 : decode cX4_learnStarts 42 = .ok (.bipush 25, 2) := by decide +kernel
theorem dX4_learnStarts_44 : decode cX4_learnStarts 44 = .ok (.imul, 1) := by decide +kernel
theorem dX4_learnStarts_45 : decode cX4_learnStarts 45 = .ok (.iaload, 1) := by decide +kernel
theorem dX4_learnStarts_46 : decode cX4_learnStarts 46 = .ok (.iastore, 1) := by decide +kernel
theorem dX4_learnStarts_47 : decode cX4_learnStarts 47 = .ok (.iinc 3 1, 3) := by decide +kernel
theorem dX4_learnStarts_50 : decode cX4_learnStarts 50 = .ok (.goto (-29), 3) := by decide +kernel
theorem dX4_learnStarts_53 : decode cX4_learnStarts 53 = .ok (.aload_n 0, 1) := by decide +kernel
theorem dX4_learnStarts_54 : decode cX4_learnStarts 54 = .ok (.iload_n 2, 1) := by decide +kernel
theorem dX4_learnStarts_55 : decode cX4_learnStarts 55 = .ok (.putfield 35, 3) := by decide +kernel
theorem dX4_learnStarts_58 : decode cX4_learnStarts 58 = .ok (.iinc 2 1, 3) := by decide +kernel
theorem dX4_learnStarts_61 : decode cX4_learnStarts 61 = .ok (.goto (-54), 3) := by decide +kernel
theorem dX4_learnStarts_64 : decode cX4_learnStarts 64 = .ok (.return_, 1) := by decide +kernel
set_option maxRecDepth 20000 in
theorem ggX4_fillHalf_X4_beginHalf : GoodIn wsX4_fillHalf wsX4_beginHalf := goodIn_r _ [8, 9, 51, 52, 53, 54, 55, 56, 57, 58] (by decide +kernel) (by decide +kernel)
set_option maxRecDepth 20000 in
theorem gX4_fillHalf_X4_beginHalf : GoodIn wsX4_fillHalf (wsV RX4 62 RX4 yX4_beginHalf wsX4_beginHalf) := goodIn_app (goodIn_of _ (by decide +kernel)) ggX4_fillHalf_X4_beginHalf
set_option maxRecDepth 20000 in
theorem ggX4_fillHalf_X4_winByBest : GoodIn wsX4_fillHalf wsX4_winByBest := goodIn_r _ [13, 14, 15, 16, 7, 17, 18, 19, 1, 20, 21, 22, 23, 24, 25, 26, 3, 27, 28, 29, 30, 31, 32, 33, 34, 35, 36, 37, 38, 39, 40, 41, 42, 43, 44, 45, 46, 47, 48, 49, 50, 51, 52, 53, 54, 55, 56, 57, 58, 59, 60, 61, 62] (by decide +kernel) (by decide +kernel)
set_option maxRecDepth 20000 in
theorem gX4_fillHalf_X4_winByBest : GoodIn wsX4_fillHalf (wsV RX4 66 RX4 yX4_winByBest wsX4_winByBest) := goodIn_app (goodIn_of _ (by decide +kernel)) ggX4_fillHalf_X4_winByBest
theorem dX4_fillHalf_0 : decode cX4_fillHalf 0 = .ok (.aload_n 0, 1) := by decide +kernel
theorem dX4_fillHalf_1 : decode cX4_fillHalf 1 = .ok (.iload_n 1, 1) := by decide +kernel
theorem dX4_fillHalf_2 : decode cX4_fillHalf 2 = .ok (.iconst 2, 1) := by decide +kernel
theorem dX4_fillHalf_3 : decode cX4_fillHalf 3 = .ok (.irem, 1) := by decide +kernel
theorem dX4_fillHalf_4 : decode cX4_fillHalf 4 = .ok (.putfield 59, 3) := by decide +kernel
theorem dX4_fillHalf_7 : decode cX4_fillHalf 7 = .ok (.aload_n 0, 1) := by decide +kernel
theorem dX4_fillHalf_8 : decode cX4_fillHalf 8 = .ok (.aload_n 0, 1) := by decide +kernel
theorem dX4_fillHalf_9 : decode cX4_fillHalf 9 = .ok (.getfield 19, 3) := by decide +kernel
theorem dX4_fillHalf_12 : decode cX4_fillHalf 12 = .ok (.iload_n 1, 1) := by decide +kernel
theorem dX4_fillHalf_13 : decode cX4_fillHalf 13 = .ok (.iconst 1, 1) := by decide +kernel
theorem dX4_fillHalf_14 : decode cX4_fillHalf 14 = .ok (.isub, 1) := by decide +kernel
theorem dX4_fillHalf_15 : decode cX4_fillHalf 15 = .ok (.invokevirtual 62, 3) := by decide +kernel
theorem dX4_fillHalf_18 : decode cX4_fillHalf 18 = .ok (.aload_n 0, 1) := by decide +kernel
theorem dX4_fillHalf_19 : decode cX4_fillHalf 19 = .ok (.aload_n 0, 1) := by decide +kernel
theorem dX4_fillHalf_20 : decode cX4_fillHalf 20 = .ok (.getfield 22, 3) := by decide +kernel
theorem dX4_fillHalf_23 : decode cX4_fillHalf 23 = .ok (.iload_n 1, 1) := by decide +kernel
theorem dX4_fillHalf_24 : decode cX4_fillHalf 24 = .ok (.iconst 1, 1) := by decide +kernel
theorem dX4_fillHalf_25 : decode cX4_fillHalf 25 = .ok (.isub, 1) := by decide +kernel
theorem dX4_fillHalf_26 : decode cX4_fillHalf 26 = .ok (.invokevirtual 62, 3) := by decide +kernel
theorem dX4_fillHalf_29 : decode cX4_fillHalf 29 = .ok (.iconst 1, 1) := by decide +kernel
theorem dX4_fillHalf_30 : decode cX4_fillHalf 30 = .ok (.istore_n 3, 1) := by decide +kernel
theorem dX4_fillHalf_31 : decode cX4_fillHalf 31 = .ok (.iload_n 3, 1) := by decide +kernel
theorem dX4_fillHalf_32 : decode cX4_fillHalf 32 = .ok (.iload_n 2, 1) := by decide +kernel
theorem dX4_fillHalf_33 : decode cX4_fillHalf 33 = .ok (.if_icmp .gt 82, 3) := by decide +kernel
theorem dX4_fillHalf_36 : decode cX4_fillHalf 36 = .ok (.aload_n 0, 1) := by decide +kernel
theorem dX4_fillHalf_37 : decode cX4_fillHalf 37 = .ok (.getfield 22, 3) := by decide +kernel
theorem dX4_fillHalf_40 : decode cX4_fillHalf 40 = .ok (.astore 4, 2) := by decide +kernel
theorem dX4_fillHalf_42 : decode cX4_fillHalf 42 = .ok (.aload_n 0, 1) := by decide +kernel
theorem dX4_fillHalf_43 : decode cX4_fillHalf 43 = .ok (.aload_n 0, 1) := by decide +kernel
theorem dX4_fillHalf_44 : decode cX4_fillHalf 44 = .ok (.getfield 19, 3) := by decide +kernel
theorem dX4_fillHalf_47 : decode cX4_fillHalf 47 = .ok (.putfield 22, 3) := by decide +kernel
theorem dX4_fillHalf_50 : decode cX4_fillHalf 50 = .ok (.aload_n 0, 1) := by decide +kernel
theorem dX4_fillHalf_51 : decode cX4_fillHalf 51 = .ok (.aload 4, 2) := by decide +kernel
theorem dX4_fillHalf_53 : decode cX4_fillHalf 53 = .ok (.putfield 19, 3) := by decide +kernel
theorem dX4_fillHalf_56 : decode cX4_fillHalf 56 = .ok (.iconst 0, 1) := by decide +kernel
theorem dX4_fillHalf_57 : decode cX4_fillHalf 57 = .ok (.istore 5, 2) := by decide +kernel
theorem dX4_fillHalf_59 : decode cX4_fillHalf 59 = .ok (.iload 5, 2) := by decide +kernel
theorem dX4_fillHalf_61 : decode cX4_fillHalf 61 = .ok (.bipush 19, 2) := by decide +kernel
theorem dX4_fillHalf_63 : decode cX4_fillHalf 63 = .ok (.if_icmp .ge 46, 3) := by decide +kernel
theorem dX4_fillHalf_66 : decode cX4_fillHalf 66 = .ok (.iconst 0, 1) := by decide +kernel
theorem dX4_fillHalf_67 : decode cX4_fillHalf 67 = .ok (.istore 6, 2) := by decide +kernel
theorem dX4_fillHalf_69 : decode cX4_fillHalf 69 = .ok (.iload 6, 2) := by decide +kernel
theorem dX4_fillHalf_71 : decode cX4_fillHalf 71 = .ok (.bipush 24, 2) := by decide +kernel
theorem dX4_fillHalf_73 : decode cX4_fillHalf 73 = .ok (.if_icmp .ge 30, 3) := by decide +kernel
theorem dX4_fillHalf_76 : decode cX4_fillHalf 76 = .ok (.aload_n 0, 1) := by decide +kernel
theorem dX4_fillHalf_77 : decode cX4_fillHalf 77 = .ok (.getfield 19, 3) := by decide +kernel
theorem dX4_fillHalf_80 : decode cX4_fillHalf 80 = .ok (.iload 5, 2) := by decide +kernel
theorem dX4_fillHalf_82 : decode cX4_fillHalf 82 = .ok (.bipush 25, 2) := by decide +kernel
theorem dX4_fillHalf_84 : decode cX4_fillHalf 84 = .ok (.imul, 1) := by decide +kernel
theorem dX4_fillHalf_85 : decode cX4_fillHalf 85 = .ok (.iload 6, 2) := by decide +kernel
theorem dX4_fillHalf_87 : decode cX4_fillHalf 87 = .ok (.iadd, 1) := by decide +kernel
theorem dX4_fillHalf_88 : decode cX4_fillHalf 88 = .ok (.aload_n 0, 1) := by decide +kernel
theorem dX4_fillHalf_89 : decode cX4_fillHalf 89 = .ok (.iload 5, 2) := by decide +kernel
theorem dX4_fillHalf_91 : decode cX4_fillHalf 91 = .ok (.iload 6, 2) := by decide +kernel
theorem dX4_fillHalf_93 : decode cX4_fillHalf 93 = .ok (.invokevirtual 66, 3) := by decide +kernel
theorem dX4_fillHalf_96 : decode cX4_fillHalf 96 = .ok (.iastore, 1) := by decide +kernel
theorem dX4_fillHalf_97 : decode cX4_fillHalf 97 = .ok (.iinc 6 1, 3) := by decide +kernel
theorem dX4_fillHalf_100 : decode cX4_fillHalf 100 = .ok (.goto (-31), 3) := by decide +kernel
theorem dX4_fillHalf_103 : decode cX4_fillHalf 103 = .ok (.iinc 5 1, 3) := by decide +kernel
theorem dX4_fillHalf_106 : decode cX4_fillHalf 106 = .ok (.goto (-47), 3) := by decide +kernel
theorem dX4_fillHalf_109 : decode cX4_fillHalf 109 = .ok (.iinc 3 1, 3) := by decide +kernel
theorem dX4_fillHalf_112 : decode cX4_fillHalf 112 = .ok (.goto (-81), 3) := by decide +kernel
theorem dX4_fillHalf_115 : decode cX4_fillHalf 115 = .ok (.return_, 1) := by decide +kernel
theorem dX4_beginHalf_0 : decode cX4_beginHalf 0 = .ok (.iconst 0, 1) := by decide +kernel
theorem dX4_beginHalf_1 : decode cX4_beginHalf 1 = .ok (.istore_n 3, 1) := by decide +kernel
theorem dX4_beginHalf_2 : decode cX4_beginHalf 2 = .ok (.iload_n 3, 1) := by decide +kernel
theorem dX4_beginHalf_3 : decode cX4_beginHalf 3 = .ok (.bipush 19, 2) := by decide +kernel
theorem dX4_beginHalf_5 : decode cX4_beginHalf 5 = .ok (.if_icmp .ge 49, 3) := by decide +kernel
theorem dX4_beginHalf_8 : decode cX4_beginHalf 8 = .ok (.aload_n 0, 1) := by decide +kernel
theorem dX4_beginHalf_9 : decode cX4_beginHalf 9 = .ok (.getfield 16, 3) := by decide +kernel
theorem dX4_beginHalf_12 : decode cX4_beginHalf 12 = .ok (.iload_n 2, 1) := by decide +kernel
theorem dX4_beginHalf_13 : decode cX4_beginHalf 13 = .ok (.bipush 19, 2) := by decide +kernel
theorem dX4_beginHalf_15 : decode cX4_beginHalf 15 = .ok (.imul, 1) := by decide +kernel
theorem dX4_beginHalf_16 : decode cX4_beginHalf 16 = .ok (.iload_n 3, 1) := by decide +kernel
theorem dX4_beginHalf_17 : decode cX4_beginHalf 17 = .ok (.iadd, 1) := by decide +kernel
theorem dX4_beginHalf_18 : decode cX4_beginHalf 18 = .ok (.iaload, 1) := by decide +kernel
theorem dX4_beginHalf_19 : decode cX4_beginHalf 19 = .ok (.istore 4, 2) := by decide +kernel
theorem dX4_beginHalf_21 : decode cX4_beginHalf 21 = .ok (.iconst 0, 1) := by decide +kernel
theorem dX4_beginHalf_22 : decode cX4_beginHalf 22 = .ok (.istore 5, 2) := by decide +kernel
theorem dX4_beginHalf_24 : decode cX4_beginHalf 24 = .ok (.iload 5, 2) := by decide +kernel
theorem dX4_beginHalf_26 : decode cX4_beginHalf 26 = .ok (.bipush 25, 2) := by decide +kernel
theorem dX4_beginHalf_28 : decode cX4_beginHalf 28 = .ok (.if_icmp .ge 20, 3) := by decide +kernel
theorem dX4_beginHalf_31 : decode cX4_beginHalf 31 = .ok (.aload_n 1, 1) := by decide +kernel
theorem dX4_beginHalf_32 : decode cX4_beginHalf 32 = .ok (.iload_n 3, 1) := by decide +kernel
theorem dX4_beginHalf_33 : decode cX4_beginHalf 33 = .ok (.bipush 25, 2) := by decide +kernel
theorem dX4_beginHalf_35 : decode cX4_beginHalf 35 = .ok (.imul, 1) := by decide +kernel
theorem dX4_beginHalf_36 : decode cX4_beginHalf 36 = .ok (.iload 5, 2) := by decide +kernel
theorem dX4_beginHalf_38 : decode cX4_beginHalf 38 = .ok (.iadd, 1) := by decide +kernel
theorem dX4_beginHalf_39 : decode cX4_beginHalf 39 = .ok (.iload 4, 2) := by decide +kernel
theorem dX4_beginHalf_41 : decode cX4_beginHalf 41 = .ok (.iastore, 1) := by decide +kernel
theorem dX4_beginHalf_42 : decode cX4_beginHalf 42 = .ok (.iinc 5 1, 3) := by decide +kernel
theorem dX4_beginHalf_45 : decode cX4_beginHalf 45 = .ok (.goto (-21), 3) := by decide +kernel
theorem dX4_beginHalf_48 : decode cX4_beginHalf 48 = .ok (.iinc 3 1, 3) := by decide +kernel
theorem dX4_beginHalf_51 : decode cX4_beginHalf 51 = .ok (.goto (-49), 3) := by decide +kernel
theorem dX4_beginHalf_54 : decode cX4_beginHalf 54 = .ok (.return_, 1) := by decide +kernel
set_option maxRecDepth 20000 in
theorem ggX4_winByBest_X4_winByStrike : GoodIn wsX4_winByBest wsX4_winByStrike := goodIn_r _ [5, 6, 7, 8, 9, 10, 11, 12, 4, 13, 14, 15, 16, 17, 41, 42, 43, 44, 45, 46, 47, 48, 49, 50, 51, 52] (by decide +kernel) (by decide +kernel)
set_option maxRecDepth 20000 in
theorem gX4_winByBest_X4_winByStrike : GoodIn wsX4_winByBest (wsV RX4 69 RX4 yX4_winByStrike wsX4_winByStrike) := goodIn_app (goodIn_of _ (by decide +kernel)) ggX4_winByBest_X4_winByStrike
set_option maxRecDepth 20000 in
theorem ggX4_winByBest_X1_someoneIsOn : GoodIn wsX4_winByBest wsX1_someoneIsOn := goodIn_r _ [21] (by decide +kernel) (by decide +kernel)
set_option maxRecDepth 20000 in
theorem gX4_winByBest_X1_someoneIsOn : GoodIn wsX4_winByBest (va_wsS RX4 72 yX1_someoneIsOn wsX1_someoneIsOn) := goodIn_app (goodIn_of _ (by decide +kernel)) ggX4_winByBest_X1_someoneIsOn
set_option maxRecDepth 20000 in
theorem ggX4_winByBest_X4_winAfter : GoodIn wsX4_winByBest wsX4_winAfter := goodIn_r _ [13, 8, 14, 15, 16, 17, 41, 42, 43, 44, 45, 46, 47, 48, 51, 52] (by decide +kernel) (by decide +kernel)
set_option maxRecDepth 20000 in
theorem gX4_winByBest_X4_winAfter : GoodIn wsX4_winByBest (wsV RX4 78 RX4 yX4_winAfter wsX4_winAfter) := goodIn_app (goodIn_of _ (by decide +kernel)) ggX4_winByBest_X4_winAfter
set_option maxRecDepth 20000 in
theorem ggX4_winByBest_X4_betterOf : GoodIn wsX4_winByBest wsX4_betterOf := goodIn_r _ [25, 8, 26, 27, 28, 29, 30, 31, 32, 41, 42, 43, 44, 45, 46, 47, 48] (by decide +kernel) (by decide +kernel)
set_option maxRecDepth 20000 in
theorem gX4_winByBest_X4_betterOf : GoodIn wsX4_winByBest (wsV RX4 82 RX4 yX4_betterOf wsX4_betterOf) := goodIn_app (goodIn_of _ (by decide +kernel)) ggX4_winByBest_X4_betterOf
set_option maxRecDepth 20000 in
theorem ggX4_winByBest_X1_canSteal : GoodIn wsX4_winByBest wsX1_canSteal := goodIn_r _ [35] (by decide +kernel) (by decide +kernel)
set_option maxRecDepth 20000 in
theorem gX4_winByBest_X1_canSteal : GoodIn wsX4_winByBest (va_wsS RX4 85 yX1_canSteal wsX1_canSteal) := goodIn_app (goodIn_of _ (by decide +kernel)) ggX4_winByBest_X1_canSteal
set_option maxRecDepth 20000 in
theorem ggX4_winByBest_X4_winBySteal : GoodIn wsX4_winByBest wsX4_winBySteal := goodIn_r _ [39, 6, 7, 8, 40, 10, 11, 12, 4, 13, 14, 15, 16, 17, 41, 42, 43, 44, 45, 46, 47, 48, 49, 50, 51, 52] (by decide +kernel) (by decide +kernel)
set_option maxRecDepth 20000 in
theorem gX4_winByBest_X4_winBySteal : GoodIn wsX4_winByBest (wsV RX4 88 RX4 yX4_winBySteal wsX4_winBySteal) := goodIn_app (goodIn_of _ (by decide +kernel)) ggX4_winByBest_X4_winBySteal
theorem dX4_winByBest_0 : decode cX4_winByBest 0 = .ok (.aload_n 0, 1) := by decide +kernel
theorem dX4_winByBest_1 : decode cX4_winByBest 1 = .ok (.iload_n 1, 1) := by decide +kernel
theorem dX4_winByBest_2 : decode cX4_winByBest 2 = .ok (.iload_n 2, 1) := by decide +kernel
theorem dX4_winByBest_3 : decode cX4_winByBest 3 = .ok (.invokevirtual 69, 3) := by decide +kernel
theorem dX4_winByBest_6 : decode cX4_winByBest 6 = .ok (.istore_n 3, 1) := by decide +kernel
theorem dX4_winByBest_7 : decode cX4_winByBest 7 = .ok (.iload_n 2, 1) := by decide +kernel
theorem dX4_winByBest_8 : decode cX4_winByBest 8 = .ok (.invokestatic 72, 3) := by decide +kernel
theorem dX4_winByBest_11 : decode cX4_winByBest 11 = .ok (.ifCond .eq 17, 3) := by decide +kernel
theorem dX4_winByBest_14 : decode cX4_winByBest 14 = .ok (.aload_n 0, 1) := by decide +kernel
theorem dX4_winByBest_15 : decode cX4_winByBest 15 = .ok (.iload_n 3, 1) := by decide +kernel
theorem dX4_winByBest_16 : decode cX4_winByBest 16 = .ok (.aload_n 0, 1) := by decide +kernel
theorem dX4_winByBest_17 : decode cX4_winByBest 17 = .ok (.iload_n 1, 1) := by decide +kernel
theorem dX4_winByBest_18 : decode cX4_winByBest 18 = .ok (.iload_n 2, 1) := by decide +kernel
theorem dX4_winByBest_19 : decode cX4_winByBest 19 = .ok (.bipush 6, 2) := by decide +kernel
theorem dX4_winByBest_21 : decode cX4_winByBest 21 = .ok (.invokevirtual 78, 3) := by decide +kernel
theorem dX4_winByBest_24 : decode cX4_winByBest 24 = .ok (.invokevirtual 82, 3) := by decide +kernel
theorem dX4_winByBest_27 : decode cX4_winByBest 27 = .ok (.istore_n 3, 1) := by decide +kernel
theorem dX4_winByBest_28 : decode cX4_winByBest 28 = .ok (.iload_n 2, 1) := by decide +kernel
theorem dX4_winByBest_29 : decode cX4_winByBest 29 = .ok (.invokestatic 85, 3) := by decide +kernel
theorem dX4_winByBest_32 : decode cX4_winByBest 32 = .ok (.ifCond .eq 15, 3) := by decide +kernel
theorem dX4_winByBest_35 : decode cX4_winByBest 35 = .ok (.aload_n 0, 1) := by decide +kernel
theorem dX4_winByBest_36 : decode cX4_winByBest 36 = .ok (.iload_n 3, 1) := by decide +kernel
theorem dX4_winByBest_37 : decode cX4_winByBest 37 = .ok (.aload_n 0, 1) := by decide +kernel
theorem dX4_winByBest_38 : decode cX4_winByBest 38 = .ok (.iload_n 1, 1) := by decide +kernel
theorem dX4_winByBest_39 : decode cX4_winByBest 39 = .ok (.iload_n 2, 1) := by decide +kernel
theorem dX4_winByBest_40 : decode cX4_winByBest 40 = .ok (.invokevirtual 88, 3) := by decide +kernel
theorem dX4_winByBest_43 : decode cX4_winByBest 43 = .ok (.invokevirtual 82, 3) := by decide +kernel
theorem dX4_winByBest_46 : decode cX4_winByBest 46 = .ok (.istore_n 3, 1) := by decide +kernel
theorem dX4_winByBest_47 : decode cX4_winByBest 47 = .ok (.iload_n 3, 1) := by decide +kernel
theorem dX4_winByBest_48 : decode cX4_winByBest 48 = .ok (.ireturn, 1) := by decide +kernel
theorem dX4_betterOf_0 : decode cX4_betterOf 0 = .ok (.aload_n 0, 1) := by decide +kernel
theorem dX4_betterOf_1 : decode cX4_betterOf 1 = .ok (.getfield 59, 3) := by decide +kernel
theorem dX4_betterOf_4 : decode cX4_betterOf 4 = .ok (.ifCond .ne 11, 3) := by decide +kernel
theorem dX4_betterOf_7 : decode cX4_betterOf 7 = .ok (.iload_n 1, 1) := by decide +kernel
theorem dX4_betterOf_8 : decode cX4_betterOf 8 = .ok (.iload_n 2, 1) := by decide +kernel
theorem dX4_betterOf_9 : decode cX4_betterOf 9 = .ok (.invokestatic 39, 3) := by decide +kernel
theorem dX4_betterOf_12 : decode cX4_betterOf 12 = .ok (.goto 8, 3) := by decide +kernel
theorem dX4_betterOf_15 : decode cX4_betterOf 15 = .ok (.iload_n 1, 1) := by decide +kernel
theorem dX4_betterOf_16 : decode cX4_betterOf 16 = .ok (.iload_n 2, 1) := by decide +kernel
theorem dX4_betterOf_17 : decode cX4_betterOf 17 = .ok (.invokestatic 91, 3) := by decide +kernel
theorem dX4_betterOf_20 : decode cX4_betterOf 20 = .ok (.ireturn, 1) := by decide +kernel
set_option maxRecDepth 20000 in
theorem ggX4_choiceAt_X4_winByStrike : GoodIn wsX4_choiceAt wsX4_winByStrike := goodIn_r _ [6, 7, 8, 9, 10, 11, 12, 13, 5, 14, 15, 16, 17, 18, 23, 24, 25, 26, 27, 28, 29, 30, 31, 32, 33, 34] (by decide +kernel) (by decide +kernel)
set_option maxRecDepth 20000 in
theorem gX4_choiceAt_X4_winByStrike : GoodIn wsX4_choiceAt (wsV RX4 69 RX4 yX4_winByStrike wsX4_winByStrike) := goodIn_app (goodIn_of _ (by decide +kernel)) ggX4_choiceAt_X4_winByStrike
set_option maxRecDepth 20000 in
theorem ggX4_choiceAt_X1_someoneIsOn : GoodIn wsX4_choiceAt wsX1_someoneIsOn := goodIn_r _ [22] (by decide +kernel) (by decide +kernel)
set_option maxRecDepth 20000 in
theorem gX4_choiceAt_X1_someoneIsOn : GoodIn wsX4_choiceAt (va_wsS RX4 72 yX1_someoneIsOn wsX1_someoneIsOn) := goodIn_app (goodIn_of _ (by decide +kernel)) ggX4_choiceAt_X1_someoneIsOn
set_option maxRecDepth 20000 in
theorem ggX4_choiceAt_X4_winAfter : GoodIn wsX4_choiceAt wsX4_winAfter := goodIn_r _ [14, 9, 15, 16, 17, 18, 23, 24, 25, 26, 27, 28, 29, 30, 33, 34] (by decide +kernel) (by decide +kernel)
set_option maxRecDepth 20000 in
theorem gX4_choiceAt_X4_winAfter : GoodIn wsX4_choiceAt (wsV RX4 78 RX4 yX4_winAfter wsX4_winAfter) := goodIn_app (goodIn_of _ (by decide +kernel)) ggX4_choiceAt_X4_winAfter
theorem dX4_choiceAt_0 : decode cX4_choiceAt 0 = .ok (.aload_n 0, 1) := by decide +kernel
theorem dX4_choiceAt_1 : decode cX4_choiceAt 1 = .ok (.getfield 19, 3) := by decide +kernel
theorem dX4_choiceAt_4 : decode cX4_choiceAt 4 = .ok (.iload_n 1, 1) := by decide +kernel
theorem dX4_choiceAt_5 : decode cX4_choiceAt 5 = .ok (.bipush 25, 2) := by decide +kernel
theorem dX4_choiceAt_7 : decode cX4_choiceAt 7 = .ok (.imul, 1) := by decide +kernel
theorem dX4_choiceAt_8 : decode cX4_choiceAt 8 = .ok (.iload_n 2, 1) := by decide +kernel
theorem dX4_choiceAt_9 : decode cX4_choiceAt 9 = .ok (.iadd, 1) := by decide +kernel
theorem dX4_choiceAt_10 : decode cX4_choiceAt 10 = .ok (.iaload, 1) := by decide +kernel
theorem dX4_choiceAt_11 : decode cX4_choiceAt 11 = .ok (.istore_n 3, 1) := by decide +kernel
theorem dX4_choiceAt_12 : decode cX4_choiceAt 12 = .ok (.aload_n 0, 1) := by decide +kernel
theorem dX4_choiceAt_13 : decode cX4_choiceAt 13 = .ok (.iload_n 1, 1) := by decide +kernel
theorem dX4_choiceAt_14 : decode cX4_choiceAt 14 = .ok (.iload_n 2, 1) := by decide +kernel
theorem dX4_choiceAt_15 : decode cX4_choiceAt 15 = .ok (.invokevirtual 69, 3) := by decide +kernel
theorem dX4_choiceAt_18 : decode cX4_choiceAt 18 = .ok (.iload_n 3, 1) := by decide +kernel
theorem dX4_choiceAt_19 : decode cX4_choiceAt 19 = .ok (.if_icmp .ne 5, 3) := by decide +kernel
theorem dX4_choiceAt_22 : decode cX4_choiceAt 22 = .ok (.iconst 0, 1) := by decide +kernel
theorem dX4_choiceAt_23 : decode cX4_choiceAt 23 = .ok (.ireturn, 1) := by decide +kernel
theorem dX4_choiceAt_24 : decode cX4_choiceAt 24 = .ok (.iload_n 2, 1) := by decide +kernel
theorem dX4_choiceAt_25 : decode cX4_choiceAt 25 = .ok (.invokestatic 72, 3) := by decide +kernel
theorem dX4_choiceAt_28 : decode cX4_choiceAt 28 = .ok (.ifCond .eq 19, 3) := by decide +kernel
theorem dX4_choiceAt_31 : decode cX4_choiceAt 31 = .ok (.aload_n 0, 1) := by decide +kernel
theorem dX4_choiceAt_32 : decode cX4_choiceAt 32 = .ok (.iload_n 1, 1) := by decide +kernel
theorem dX4_choiceAt_33 : decode cX4_choiceAt 33 = .ok (.iload_n 2, 1) := by decide +kernel
theorem dX4_choiceAt_34 : decode cX4_choiceAt 34 = .ok (.bipush 6, 2) := by decide +kernel
theorem dX4_choiceAt_36 : decode cX4_choiceAt 36 = .ok (.invokevirtual 78, 3) := by decide +kernel
theorem dX4_choiceAt_39 : decode cX4_choiceAt 39 = .ok (.iload_n 3, 1) := by decide +kernel
theorem dX4_choiceAt_40 : decode cX4_choiceAt 40 = .ok (.if_icmp .ne 7, 3) := by decide +kernel
theorem dX4_choiceAt_43 : decode cX4_choiceAt 43 = .ok (.iconst 1, 1) := by decide +kernel
theorem dX4_choiceAt_44 : decode cX4_choiceAt 44 = .ok (.goto 4, 3) := by decide +kernel
theorem dX4_choiceAt_47 : decode cX4_choiceAt 47 = .ok (.iconst 0, 1) := by decide +kernel
theorem dX4_choiceAt_48 : decode cX4_choiceAt 48 = .ok (.istore 4, 2) := by decide +kernel
theorem dX4_choiceAt_50 : decode cX4_choiceAt 50 = .ok (.iload 4, 2) := by decide +kernel
theorem dX4_choiceAt_52 : decode cX4_choiceAt 52 = .ok (.ifCond .eq 7, 3) := by decide +kernel
theorem dX4_choiceAt_55 : decode cX4_choiceAt 55 = .ok (.iconst 1, 1) := by decide +kernel
theorem dX4_choiceAt_56 : decode cX4_choiceAt 56 = .ok (.goto 4, 3) := by decide +kernel
theorem dX4_choiceAt_59 : decode cX4_choiceAt 59 = .ok (.iconst 2, 1) := by decide +kernel
theorem dX4_choiceAt_60 : decode cX4_choiceAt 60 = .ok (.ireturn, 1) := by decide +kernel
set_option maxRecDepth 20000 in
theorem ggX4_walkIsBetter_X4_winAfter : GoodIn wsX4_walkIsBetter wsX4_winAfter := goodIn_r _ [7, 2, 8, 9, 10, 11, 12, 13, 14, 15, 16, 17, 18, 19, 20, 21] (by decide +kernel) (by decide +kernel)
set_option maxRecDepth 20000 in
theorem gX4_walkIsBetter_X4_winAfter : GoodIn wsX4_walkIsBetter (wsV RX4 78 RX4 yX4_winAfter wsX4_winAfter) := goodIn_app (goodIn_of _ (by decide +kernel)) ggX4_walkIsBetter_X4_winAfter
theorem dX4_walkIsBetter_0 : decode cX4_walkIsBetter 0 = .ok (.aload_n 0, 1) := by decide +kernel
theorem dX4_walkIsBetter_1 : decode cX4_walkIsBetter 1 = .ok (.getfield 19, 3) := by decide +kernel
theorem dX4_walkIsBetter_4 : decode cX4_walkIsBetter 4 = .ok (.iload_n 1, 1) := by decide +kernel
theorem dX4_walkIsBetter_5 : decode cX4_walkIsBetter 5 = .ok (.bipush 25, 2) := by decide +kernel
theorem dX4_walkIsBetter_7 : decode cX4_walkIsBetter 7 = .ok (.imul, 1) := by decide +kernel
theorem dX4_walkIsBetter_8 : decode cX4_walkIsBetter 8 = .ok (.iload_n 2, 1) := by decide +kernel
theorem dX4_walkIsBetter_9 : decode cX4_walkIsBetter 9 = .ok (.iadd, 1) := by decide +kernel
theorem dX4_walkIsBetter_10 : decode cX4_walkIsBetter 10 = .ok (.iaload, 1) := by decide +kernel
theorem dX4_walkIsBetter_11 : decode cX4_walkIsBetter 11 = .ok (.istore_n 3, 1) := by decide +kernel
theorem dX4_walkIsBetter_12 : decode cX4_walkIsBetter 12 = .ok (.aload_n 0, 1) := by decide +kernel
theorem dX4_walkIsBetter_13 : decode cX4_walkIsBetter 13 = .ok (.iload_n 1, 1) := by decide +kernel
theorem dX4_walkIsBetter_14 : decode cX4_walkIsBetter 14 = .ok (.iload_n 2, 1) := by decide +kernel
theorem dX4_walkIsBetter_15 : decode cX4_walkIsBetter 15 = .ok (.iconst 1, 1) := by decide +kernel
theorem dX4_walkIsBetter_16 : decode cX4_walkIsBetter 16 = .ok (.invokevirtual 78, 3) := by decide +kernel
theorem dX4_walkIsBetter_19 : decode cX4_walkIsBetter 19 = .ok (.istore 4, 2) := by decide +kernel
theorem dX4_walkIsBetter_21 : decode cX4_walkIsBetter 21 = .ok (.aload_n 0, 1) := by decide +kernel
theorem dX4_walkIsBetter_22 : decode cX4_walkIsBetter 22 = .ok (.getfield 59, 3) := by decide +kernel
theorem dX4_walkIsBetter_25 : decode cX4_walkIsBetter 25 = .ok (.ifCond .ne 17, 3) := by decide +kernel
theorem dX4_walkIsBetter_28 : decode cX4_walkIsBetter 28 = .ok (.iload 4, 2) := by decide +kernel
theorem dX4_walkIsBetter_30 : decode cX4_walkIsBetter 30 = .ok (.iload_n 3, 1) := by decide +kernel
theorem dX4_walkIsBetter_31 : decode cX4_walkIsBetter 31 = .ok (.if_icmp .ge 7, 3) := by decide +kernel
theorem dX4_walkIsBetter_34 : decode cX4_walkIsBetter 34 = .ok (.iconst 1, 1) := by decide +kernel
theorem dX4_walkIsBetter_35 : decode cX4_walkIsBetter 35 = .ok (.goto 18, 3) := by decide +kernel
theorem dX4_walkIsBetter_38 : decode cX4_walkIsBetter 38 = .ok (.iconst 0, 1) := by decide +kernel
theorem dX4_walkIsBetter_39 : decode cX4_walkIsBetter 39 = .ok (.goto 14, 3) := by decide +kernel
theorem dX4_walkIsBetter_42 : decode cX4_walkIsBetter 42 = .ok (.iload 4, 2) := by decide +kernel
theorem dX4_walkIsBetter_44 : decode cX4_walkIsBetter 44 = .ok (.iload_n 3, 1) := by decide +kernel
theorem dX4_walkIsBetter_45 : decode cX4_walkIsBetter 45 = .ok (.if_icmp .le 7, 3) := by decide +kernel
theorem dX4_walkIsBetter_48 : decode cX4_walkIsBetter 48 = .ok (.iconst 1, 1) := by decide +kernel
theorem dX4_walkIsBetter_49 : decode cX4_walkIsBetter 49 = .ok (.goto 4, 3) := by decide +kernel
theorem dX4_walkIsBetter_52 : decode cX4_walkIsBetter 52 = .ok (.iconst 0, 1) := by decide +kernel
theorem dX4_walkIsBetter_53 : decode cX4_walkIsBetter 53 = .ok (.istore 5, 2) := by decide +kernel
theorem dX4_walkIsBetter_55 : decode cX4_walkIsBetter 55 = .ok (.iload 5, 2) := by decide +kernel
theorem dX4_walkIsBetter_57 : decode cX4_walkIsBetter 57 = .ok (.ifCond .eq 7, 3) := by decide +kernel
theorem dX4_walkIsBetter_60 : decode cX4_walkIsBetter 60 = .ok (.iconst 1, 1) := by decide +kernel
theorem dX4_walkIsBetter_61 : decode cX4_walkIsBetter 61 = .ok (.goto 4, 3) := by decide +kernel
theorem dX4_walkIsBetter_64 : decode cX4_walkIsBetter 64 = .ok (.iconst 0, 1) := by decide +kernel
theorem dX4_walkIsBetter_65 : decode cX4_walkIsBetter 65 = .ok (.ireturn, 1) := by decide +kernel
set_option maxRecDepth 20000 in
theorem ggX4_winByStrike_X4_winAfter : GoodIn wsX4_winByStrike wsX4_winAfter := goodIn_r _ [9, 3, 10, 11, 12, 13, 14, 15, 16, 17, 18, 19, 20, 21, 24, 25] (by decide +kernel) (by decide +kernel)
set_option maxRecDepth 20000 in
theorem gX4_winByStrike_X4_winAfter : GoodIn wsX4_winByStrike (wsV RX4 78 RX4 yX4_winAfter wsX4_winAfter) := goodIn_app (goodIn_of _ (by decide +kernel)) ggX4_winByStrike_X4_winAfter
theorem dX4_winByStrike_0 : decode cX4_winByStrike 0 = .ok (.aload_n 0, 1) := by decide +kernel
theorem dX4_winByStrike_1 : decode cX4_winByStrike 1 = .ok (.getfield 29, 3) := by decide +kernel
theorem dX4_winByStrike_4 : decode cX4_winByStrike 4 = .ok (.aload_n 0, 1) := by decide +kernel
theorem dX4_winByStrike_5 : decode cX4_winByStrike 5 = .ok (.getfield 10, 3) := by decide +kernel
theorem dX4_winByStrike_8 : decode cX4_winByStrike 8 = .ok (.aload_n 0, 1) := by decide +kernel
theorem dX4_winByStrike_9 : decode cX4_winByStrike 9 = .ok (.getfield 59, 3) := by decide +kernel
theorem dX4_winByStrike_12 : decode cX4_winByStrike 12 = .ok (.iaload, 1) := by decide +kernel
theorem dX4_winByStrike_13 : decode cX4_winByStrike 13 = .ok (.aaload, 1) := by decide +kernel
theorem dX4_winByStrike_14 : decode cX4_winByStrike 14 = .ok (.getfield 94, 3) := by decide +kernel
theorem dX4_winByStrike_17 : decode cX4_winByStrike 17 = .ok (.astore_n 3, 1) := by decide +kernel
theorem dX4_winByStrike_18 : decode cX4_winByStrike 18 = .ok (.iconst 0, 1) := by decide +kernel
theorem dX4_winByStrike_19 : decode cX4_winByStrike 19 = .ok (.istore 4, 2) := by decide +kernel
theorem dX4_winByStrike_21 : decode cX4_winByStrike 21 = .ok (.iconst 0, 1) := by decide +kernel
theorem dX4_winByStrike_22 : decode cX4_winByStrike 22 = .ok (.istore 5, 2) := by decide +kernel
theorem dX4_winByStrike_24 : decode cX4_winByStrike 24 = .ok (.iload 5, 2) := by decide +kernel
theorem dX4_winByStrike_26 : decode cX4_winByStrike 26 = .ok (.iconst 5, 1) := by decide +kernel
theorem dX4_winByStrike_27 : decode cX4_winByStrike 27 = .ok (.if_icmp .gt 34, 3) := by decide +kernel
theorem dX4_winByStrike_30 : decode cX4_winByStrike 30 = .ok (.aload_n 3, 1) := by decide +kernel
theorem dX4_winByStrike_31 : decode cX4_winByStrike 31 = .ok (.iload 5, 2) := by decide +kernel
theorem dX4_winByStrike_33 : decode cX4_winByStrike 33 = .ok (.iaload, 1) := by decide +kernel
theorem dX4_winByStrike_34 : decode cX4_winByStrike 34 = .ok (.ifCond .le 21, 3) := by decide +kernel
theorem dX4_winByStrike_37 : decode cX4_winByStrike 37 = .ok (.iload 4, 2) := by decide +kernel
theorem dX4_winByStrike_39 : decode cX4_winByStrike 39 = .ok (.aload_n 3, 1) := by decide +kernel
theorem dX4_winByStrike_40 : decode cX4_winByStrike 40 = .ok (.iload 5, 2) := by decide +kernel
theorem dX4_winByStrike_42 : decode cX4_winByStrike 42 = .ok (.iaload, 1) := by decide +kernel
theorem dX4_winByStrike_43 : decode cX4_winByStrike 43 = .ok (.aload_n 0, 1) := by decide +kernel
theorem dX4_winByStrike_44 : decode cX4_winByStrike 44 = .ok (.iload_n 1, 1) := by decide +kernel
theorem dX4_winByStrike_45 : decode cX4_winByStrike 45 = .ok (.iload_n 2, 1) := by decide +kernel
theorem dX4_winByStrike_46 : decode cX4_winByStrike 46 = .ok (.iload 5, 2) := by decide +kernel
theorem dX4_winByStrike_48 : decode cX4_winByStrike 48 = .ok (.invokevirtual 78, 3) := by decide +kernel
theorem dX4_winByStrike_51 : decode cX4_winByStrike 51 = .ok (.imul, 1) := by decide +kernel
theorem dX4_winByStrike_52 : decode cX4_winByStrike 52 = .ok (.iadd, 1) := by decide +kernel
theorem dX4_winByStrike_53 : decode cX4_winByStrike 53 = .ok (.istore 4, 2) := by decide +kernel
theorem dX4_winByStrike_55 : decode cX4_winByStrike 55 = .ok (.iinc 5 1, 3) := by decide +kernel
theorem dX4_winByStrike_58 : decode cX4_winByStrike 58 = .ok (.goto (-34), 3) := by decide +kernel
theorem dX4_winByStrike_61 : decode cX4_winByStrike 61 = .ok (.iload 4, 2) := by decide +kernel
theorem dX4_winByStrike_63 : decode cX4_winByStrike 63 = .ok (.sipush 1000, 3) := by decide +kernel
theorem dX4_winByStrike_66 : decode cX4_winByStrike 66 = .ok (.idiv, 1) := by decide +kernel
theorem dX4_winByStrike_67 : decode cX4_winByStrike 67 = .ok (.ireturn, 1) := by decide +kernel
set_option maxRecDepth 20000 in
theorem ggX4_winBySteal_X4_winAfter : GoodIn wsX4_winBySteal wsX4_winAfter := goodIn_r _ [9, 3, 10, 11, 12, 13, 14, 15, 16, 17, 18, 19, 20, 21, 24, 25] (by decide +kernel) (by decide +kernel)
set_option maxRecDepth 20000 in
theorem gX4_winBySteal_X4_winAfter : GoodIn wsX4_winBySteal (wsV RX4 78 RX4 yX4_winAfter wsX4_winAfter) := goodIn_app (goodIn_of _ (by decide +kernel)) ggX4_winBySteal_X4_winAfter
theorem dX4_winBySteal_0 : decode cX4_winBySteal 0 = .ok (.aload_n 0, 1) := by decide +kernel
theorem dX4_winBySteal_1 : decode cX4_winBySteal 1 = .ok (.getfield 29, 3) := by decide +kernel
theorem dX4_winBySteal_4 : decode cX4_winBySteal 4 = .ok (.aload_n 0, 1) := by decide +kernel
theorem dX4_winBySteal_5 : decode cX4_winBySteal 5 = .ok (.getfield 10, 3) := by decide +kernel
theorem dX4_winBySteal_8 : decode cX4_winBySteal 8 = .ok (.aload_n 0, 1) := by decide +kernel
theorem dX4_winBySteal_9 : decode cX4_winBySteal 9 = .ok (.getfield 59, 3) := by decide +kernel
theorem dX4_winBySteal_12 : decode cX4_winBySteal 12 = .ok (.iaload, 1) := by decide +kernel
theorem dX4_winBySteal_13 : decode cX4_winBySteal 13 = .ok (.aaload, 1) := by decide +kernel
theorem dX4_winBySteal_14 : decode cX4_winBySteal 14 = .ok (.getfield 99, 3) := by decide +kernel
theorem dX4_winBySteal_17 : decode cX4_winBySteal 17 = .ok (.istore_n 3, 1) := by decide +kernel
theorem dX4_winBySteal_18 : decode cX4_winBySteal 18 = .ok (.iload_n 3, 1) := by decide +kernel
theorem dX4_winBySteal_19 : decode cX4_winBySteal 19 = .ok (.aload_n 0, 1) := by decide +kernel
theorem dX4_winBySteal_20 : decode cX4_winBySteal 20 = .ok (.iload_n 1, 1) := by decide +kernel
theorem dX4_winBySteal_21 : decode cX4_winBySteal 21 = .ok (.iload_n 2, 1) := by decide +kernel
theorem dX4_winBySteal_22 : decode cX4_winBySteal 22 = .ok (.bipush 7, 2) := by decide +kernel
theorem dX4_winBySteal_24 : decode cX4_winBySteal 24 = .ok (.invokevirtual 78, 3) := by decide +kernel
theorem dX4_winBySteal_27 : decode cX4_winBySteal 27 = .ok (.imul, 1) := by decide +kernel
theorem dX4_winBySteal_28 : decode cX4_winBySteal 28 = .ok (.sipush 1000, 3) := by decide +kernel
theorem dX4_winBySteal_31 : decode cX4_winBySteal 31 = .ok (.iload_n 3, 1) := by decide +kernel
theorem dX4_winBySteal_32 : decode cX4_winBySteal 32 = .ok (.isub, 1) := by decide +kernel
theorem dX4_winBySteal_33 : decode cX4_winBySteal 33 = .ok (.aload_n 0, 1) := by decide +kernel
theorem dX4_winBySteal_34 : decode cX4_winBySteal 34 = .ok (.iload_n 1, 1) := by decide +kernel
theorem dX4_winBySteal_35 : decode cX4_winBySteal 35 = .ok (.iload_n 2, 1) := by decide +kernel
theorem dX4_winBySteal_36 : decode cX4_winBySteal 36 = .ok (.bipush 8, 2) := by decide +kernel
theorem dX4_winBySteal_38 : decode cX4_winBySteal 38 = .ok (.invokevirtual 78, 3) := by decide +kernel
theorem dX4_winBySteal_41 : decode cX4_winBySteal 41 = .ok (.imul, 1) := by decide +kernel
theorem dX4_winBySteal_42 : decode cX4_winBySteal 42 = .ok (.iadd, 1) := by decide +kernel
theorem dX4_winBySteal_43 : decode cX4_winBySteal 43 = .ok (.istore 4, 2) := by decide +kernel
theorem dX4_winBySteal_45 : decode cX4_winBySteal 45 = .ok (.iload 4, 2) := by decide +kernel
theorem dX4_winBySteal_47 : decode cX4_winBySteal 47 = .ok (.sipush 1000, 3) := by decide +kernel
theorem dX4_winBySteal_50 : decode cX4_winBySteal 50 = .ok (.idiv, 1) := by decide +kernel
theorem dX4_winBySteal_51 : decode cX4_winBySteal 51 = .ok (.ireturn, 1) := by decide +kernel
theorem dX4_winAfter_0 : decode cX4_winAfter 0 = .ok (.iload_n 2, 1) := by decide +kernel
theorem dX4_winAfter_1 : decode cX4_winAfter 1 = .ok (.bipush 9, 2) := by decide +kernel
theorem dX4_winAfter_3 : decode cX4_winAfter 3 = .ok (.imul, 1) := by decide +kernel
theorem dX4_winAfter_4 : decode cX4_winAfter 4 = .ok (.iload_n 3, 1) := by decide +kernel
theorem dX4_winAfter_5 : decode cX4_winAfter 5 = .ok (.iadd, 1) := by decide +kernel
theorem dX4_winAfter_6 : decode cX4_winAfter 6 = .ok (.istore 4, 2) := by decide +kernel
theorem dX4_winAfter_8 : decode cX4_winAfter 8 = .ok (.aload_n 0, 1) := by decide +kernel
theorem dX4_winAfter_9 : decode cX4_winAfter 9 = .ok (.getfield 59, 3) := by decide +kernel
theorem dX4_winAfter_12 : decode cX4_winAfter 12 = .ok (.ifCond .ne 18, 3) := by decide +kernel
theorem dX4_winAfter_15 : decode cX4_winAfter 15 = .ok (.iload_n 1, 1) := by decide +kernel
theorem dX4_winAfter_16 : decode cX4_winAfter 16 = .ok (.aload_n 0, 1) := by decide +kernel
theorem dX4_winAfter_17 : decode cX4_winAfter 17 = .ok (.getfield 25, 3) := by decide +kernel
theorem dX4_winAfter_20 : decode cX4_winAfter 20 = .ok (.getfield 102, 3) := by decide +kernel
theorem dX4_winAfter_23 : decode cX4_winAfter 23 = .ok (.iload 4, 2) := by decide +kernel
theorem dX4_winAfter_25 : decode cX4_winAfter 25 = .ok (.iaload, 1) := by decide +kernel
theorem dX4_winAfter_26 : decode cX4_winAfter 26 = .ok (.iadd, 1) := by decide +kernel
theorem dX4_winAfter_27 : decode cX4_winAfter 27 = .ok (.goto 15, 3) := by decide +kernel
theorem dX4_winAfter_30 : decode cX4_winAfter 30 = .ok (.iload_n 1, 1) := by decide +kernel
theorem dX4_winAfter_31 : decode cX4_winAfter 31 = .ok (.aload_n 0, 1) := by decide +kernel
theorem dX4_winAfter_32 : decode cX4_winAfter 32 = .ok (.getfield 25, 3) := by decide +kernel
theorem dX4_winAfter_35 : decode cX4_winAfter 35 = .ok (.getfield 102, 3) := by decide +kernel
theorem dX4_winAfter_38 : decode cX4_winAfter 38 = .ok (.iload 4, 2) := by decide +kernel
theorem dX4_winAfter_40 : decode cX4_winAfter 40 = .ok (.iaload, 1) := by decide +kernel
theorem dX4_winAfter_41 : decode cX4_winAfter 41 = .ok (.isub, 1) := by decide +kernel
theorem dX4_winAfter_42 : decode cX4_winAfter 42 = .ok (.istore 5, 2) := by decide +kernel
theorem dX4_winAfter_44 : decode cX4_winAfter 44 = .ok (.iload 5, 2) := by decide +kernel
theorem dX4_winAfter_46 : decode cX4_winAfter 46 = .ok (.ifCond .ge 9, 3) := by decide +kernel
theorem dX4_winAfter_49 : decode cX4_winAfter 49 = .ok (.iconst 0, 1) := by decide +kernel
theorem dX4_winAfter_50 : decode cX4_winAfter 50 = .ok (.istore 5, 2) := by decide +kernel
theorem dX4_winAfter_52 : decode cX4_winAfter 52 = .ok (.goto 14, 3) := by decide +kernel
theorem dX4_winAfter_55 : decode cX4_winAfter 55 = .ok (.iload 5, 2) := by decide +kernel
theorem dX4_winAfter_57 : decode cX4_winAfter 57 = .ok (.bipush 19, 2) := by decide +kernel
theorem dX4_winAfter_59 : decode cX4_winAfter 59 = .ok (.if_icmp .lt 7, 3) := by decide +kernel
theorem dX4_winAfter_62 : decode cX4_winAfter 62 = .ok (.bipush 18, 2) := by decide +kernel
theorem dX4_winAfter_64 : decode cX4_winAfter 64 = .ok (.istore 5, 2) := by decide +kernel
theorem dX4_winAfter_66 : decode cX4_winAfter 66 = .ok (.aload_n 0, 1) := by decide +kernel
theorem dX4_winAfter_67 : decode cX4_winAfter 67 = .ok (.getfield 22, 3) := by decide +kernel
theorem dX4_winAfter_70 : decode cX4_winAfter 70 = .ok (.iload 5, 2) := by decide +kernel
theorem dX4_winAfter_72 : decode cX4_winAfter 72 = .ok (.bipush 25, 2) := by decide +kernel
theorem dX4_winAfter_74 : decode cX4_winAfter 74 = .ok (.imul, 1) := by decide +kernel
theorem dX4_winAfter_75 : decode cX4_winAfter 75 = .ok (.aload_n 0, 1) := by decide +kernel
theorem dX4_winAfter_76 : decode cX4_winAfter 76 = .ok (.getfield 25, 3) := by decide +kernel
theorem dX4_winAfter_79 : decode cX4_winAfter 79 = .ok (.getfield 105, 3) := by decide +kernel
theorem dX4_winAfter_82 : decode cX4_winAfter 82 = .ok (.iload 4, 2) := by decide +kernel
theorem dX4_winAfter_84 : decode cX4_winAfter 84 = .ok (.iaload, 1) := by decide +kernel
theorem dX4_winAfter_85 : decode cX4_winAfter 85 = .ok (.iadd, 1) := by decide +kernel
theorem dX4_winAfter_86 : decode cX4_winAfter 86 = .ok (.iaload, 1) := by decide +kernel
theorem dX4_winAfter_87 : decode cX4_winAfter 87 = .ok (.ireturn, 1) := by decide +kernel
theorem dX5_init_0 : decode cX5_init 0 = .ok (.aload_n 0, 1) := by decide +kernel
theorem dX5_init_1 : decode cX5_init 1 = .ok (.invokespecial 1, 3) := by decide +kernel
theorem dX5_init_4 : decode cX5_init 4 = .ok (.aload_n 0, 1) := by decide +kernel
theorem dX5_init_5 : decode cX5_init 5 = .ok (.bipush 60, 2) := by decide +kernel
theorem dX5_init_7 : decode cX5_init 7 = .ok (.newarray .int, 2) := by decide +kernel
theorem dX5_init_9 : decode cX5_init 9 = .ok (.putfield 9, 3) := by decide +kernel
theorem dX5_init_12 : decode cX5_init 12 = .ok (.aload_n 0, 1) := by decide +kernel
theorem dX5_init_13 : decode cX5_init 13 = .ok (.iconst 1, 1) := by decide +kernel
theorem dX5_init_14 : decode cX5_init 14 = .ok (.putfield 13, 3) := by decide +kernel
theorem dX5_init_17 : decode cX5_init 17 = .ok (.return_, 1) := by decide +kernel
set_option maxRecDepth 20000 in
theorem ggX5_begin_J7_fill_53178 : GoodIn wsX5_begin wsJ7_fill_53178 := goodIn_r _ [8] (by decide +kernel) (by decide +kernel)
set_option maxRecDepth 20000 in
theorem gX5_begin_J7_fill_53178 : GoodIn wsX5_begin (va_wsS RX5 24 yJ7_fill_53178 wsJ7_fill_53178) := goodIn_app (goodIn_of _ (by decide +kernel)) ggX5_begin_J7_fill_53178
theorem dX5_begin_0 : decode cX5_begin 0 = .ok (.aload_n 0, 1) := by decide +kernel
theorem dX5_begin_1 : decode cX5_begin 1 = .ok (.iconst 0, 1) := by decide +kernel
theorem dX5_begin_2 : decode cX5_begin 2 = .ok (.putfield 13, 3) := by decide +kernel
theorem dX5_begin_5 : decode cX5_begin 5 = .ok (.aload_n 0, 1) := by decide +kernel
theorem dX5_begin_6 : decode cX5_begin 6 = .ok (.iload_n 1, 1) := by decide +kernel
theorem dX5_begin_7 : decode cX5_begin 7 = .ok (.putfield 17, 3) := by decide +kernel
theorem dX5_begin_10 : decode cX5_begin 10 = .ok (.aload_n 0, 1) := by decide +kernel
theorem dX5_begin_11 : decode cX5_begin 11 = .ok (.iload_n 2, 1) := by decide +kernel
theorem dX5_begin_12 : decode cX5_begin 12 = .ok (.putfield 21, 3) := by decide +kernel
theorem dX5_begin_15 : decode cX5_begin 15 = .ok (.aload_n 0, 1) := by decide +kernel
theorem dX5_begin_16 : decode cX5_begin 16 = .ok (.getfield 9, 3) := by decide +kernel
theorem dX5_begin_19 : decode cX5_begin 19 = .ok (.iconst 0, 1) := by decide +kernel
theorem dX5_begin_20 : decode cX5_begin 20 = .ok (.invokestatic 24, 3) := by decide +kernel
theorem dX5_begin_23 : decode cX5_begin 23 = .ok (.return_, 1) := by decide +kernel
theorem dX5_holds_0 : decode cX5_holds 0 = .ok (.iload_n 1, 1) := by decide +kernel
theorem dX5_holds_1 : decode cX5_holds 1 = .ok (.ifCond .lt 21, 3) := by decide +kernel
theorem dX5_holds_4 : decode cX5_holds 4 = .ok (.iload_n 2, 1) := by decide +kernel
theorem dX5_holds_5 : decode cX5_holds 5 = .ok (.ifCond .lt 17, 3) := by decide +kernel
theorem dX5_holds_8 : decode cX5_holds 8 = .ok (.iload_n 1, 1) := by decide +kernel
theorem dX5_holds_9 : decode cX5_holds 9 = .ok (.aload_n 0, 1) := by decide +kernel
theorem dX5_holds_10 : decode cX5_holds 10 = .ok (.getfield 21, 3) := by decide +kernel
theorem dX5_holds_13 : decode cX5_holds 13 = .ok (.iload_n 2, 1) := by decide +kernel
theorem dX5_holds_14 : decode cX5_holds 14 = .ok (.isub, 1) := by decide +kernel
theorem dX5_holds_15 : decode cX5_holds 15 = .ok (.if_icmp .gt 7, 3) := by decide +kernel
theorem dX5_holds_18 : decode cX5_holds 18 = .ok (.iconst 1, 1) := by decide +kernel
theorem dX5_holds_19 : decode cX5_holds 19 = .ok (.goto 4, 3) := by decide +kernel
theorem dX5_holds_22 : decode cX5_holds 22 = .ok (.iconst 0, 1) := by decide +kernel
theorem dX5_holds_23 : decode cX5_holds 23 = .ok (.ireturn, 1) := by decide +kernel
theorem dX5_cutToLane_0 : decode cX5_cutToLane 0 = .ok (.aload_n 0, 1) := by decide +kernel
theorem dX5_cutToLane_1 : decode cX5_cutToLane 1 = .ok (.getfield 17, 3) := by decide +kernel
theorem dX5_cutToLane_4 : decode cX5_cutToLane 4 = .ok (.ifCond .ne 6, 3) := by decide +kernel
theorem dX5_cutToLane_7 : decode cX5_cutToLane 7 = .ok (.iload_n 1, 1) := by decide +kernel
theorem dX5_cutToLane_8 : decode cX5_cutToLane 8 = .ok (.i2b, 1) := by decide +kernel
theorem dX5_cutToLane_9 : decode cX5_cutToLane 9 = .ok (.ireturn, 1) := by decide +kernel
theorem dX5_cutToLane_10 : decode cX5_cutToLane 10 = .ok (.aload_n 0, 1) := by decide +kernel
theorem dX5_cutToLane_11 : decode cX5_cutToLane 11 = .ok (.getfield 17, 3) := by decide +kernel
theorem dX5_cutToLane_14 : decode cX5_cutToLane 14 = .ok (.iconst 1, 1) := by decide +kernel
theorem dX5_cutToLane_15 : decode cX5_cutToLane 15 = .ok (.if_icmp .ne 8, 3) := by decide +kernel
theorem dX5_cutToLane_18 : decode cX5_cutToLane 18 = .ok (.iload_n 1, 1) := by decide +kernel
theorem dX5_cutToLane_19 : decode cX5_cutToLane 19 = .ok (.i2s, 1) := by decide +kernel
theorem dX5_cutToLane_20 : decode cX5_cutToLane 20 = .ok (.goto 4, 3) := by decide +kernel
theorem dX5_cutToLane_23 : decode cX5_cutToLane 23 = .ok (.iload_n 1, 1) := by decide +kernel
theorem dX5_cutToLane_24 : decode cX5_cutToLane 24 = .ok (.ireturn, 1) := by decide +kernel
theorem dX6_init_0 : decode cX6_init 0 = .ok (.aload_n 0, 1) := by decide +kernel
theorem dX6_init_1 : decode cX6_init 1 = .ok (.invokespecial 3, 3) := by decide +kernel
theorem dX6_init_4 : decode cX6_init 4 = .ok (.aload_n 0, 1) := by decide +kernel
theorem dX6_init_5 : decode cX6_init 5 = .ok (.bipush 6, 2) := by decide +kernel
theorem dX6_init_7 : decode cX6_init 7 = .ok (.newarray .int, 2) := by decide +kernel
theorem dX6_init_9 : decode cX6_init 9 = .ok (.putfield 9, 3) := by decide +kernel
theorem dX6_init_12 : decode cX6_init 12 = .ok (.return_, 1) := by decide +kernel
theorem dX6_giveTheRestToOut_0 : decode cX6_giveTheRestToOut 0 = .ok (.sipush 1000, 3) := by decide +kernel
theorem dX6_giveTheRestToOut_3 : decode cX6_giveTheRestToOut 3 = .ok (.istore_n 1, 1) := by decide +kernel
theorem dX6_giveTheRestToOut_4 : decode cX6_giveTheRestToOut 4 = .ok (.iconst 1, 1) := by decide +kernel
theorem dX6_giveTheRestToOut_5 : decode cX6_giveTheRestToOut 5 = .ok (.istore_n 2, 1) := by decide +kernel
theorem dX6_giveTheRestToOut_6 : decode cX6_giveTheRestToOut 6 = .ok (.iload_n 2, 1) := by decide +kernel
theorem dX6_giveTheRestToOut_7 : decode cX6_giveTheRestToOut 7 = .ok (.iconst 5, 1) := by decide +kernel
theorem dX6_giveTheRestToOut_8 : decode cX6_giveTheRestToOut 8 = .ok (.if_icmp .gt 18, 3) := by decide +kernel
theorem dX6_giveTheRestToOut_11 : decode cX6_giveTheRestToOut 11 = .ok (.iload_n 1, 1) := by decide +kernel
theorem dX6_giveTheRestToOut_12 : decode cX6_giveTheRestToOut 12 = .ok (.aload_n 0, 1) := by decide +kernel
theorem dX6_giveTheRestToOut_13 : decode cX6_giveTheRestToOut 13 = .ok (.getfield 9, 3) := by decide +kernel
theorem dX6_giveTheRestToOut_16 : decode cX6_giveTheRestToOut 16 = .ok (.iload_n 2, 1) := by decide +kernel
theorem dX6_giveTheRestToOut_17 : decode cX6_giveTheRestToOut 17 = .ok (.iaload, 1) := by decide +kernel
theorem dX6_giveTheRestToOut_18 : decode cX6_giveTheRestToOut 18 = .ok (.isub, 1) := by decide +kernel
theorem dX6_giveTheRestToOut_19 : decode cX6_giveTheRestToOut 19 = .ok (.istore_n 1, 1) := by decide +kernel
theorem dX6_giveTheRestToOut_20 : decode cX6_giveTheRestToOut 20 = .ok (.iinc 2 1, 3) := by decide +kernel
theorem dX6_giveTheRestToOut_23 : decode cX6_giveTheRestToOut 23 = .ok (.goto (-17), 3) := by decide +kernel
theorem dX6_giveTheRestToOut_26 : decode cX6_giveTheRestToOut 26 = .ok (.aload_n 0, 1) := by decide +kernel
theorem dX6_giveTheRestToOut_27 : decode cX6_giveTheRestToOut 27 = .ok (.getfield 9, 3) := by decide +kernel
theorem dX6_giveTheRestToOut_30 : decode cX6_giveTheRestToOut 30 = .ok (.iconst 0, 1) := by decide +kernel
theorem dX6_giveTheRestToOut_31 : decode cX6_giveTheRestToOut 31 = .ok (.iload_n 1, 1) := by decide +kernel
theorem dX6_giveTheRestToOut_32 : decode cX6_giveTheRestToOut 32 = .ok (.iastore, 1) := by decide +kernel
theorem dX6_giveTheRestToOut_33 : decode cX6_giveTheRestToOut 33 = .ok (.return_, 1) := by decide +kernel
theorem dX6_chanceOrSteals_0 : decode cX6_chanceOrSteals 0 = .ok (.iload_n 1, 1) := by decide +kernel
theorem dX6_chanceOrSteals_1 : decode cX6_chanceOrSteals 1 = .ok (.bipush 6, 2) := by decide +kernel
theorem dX6_chanceOrSteals_3 : decode cX6_chanceOrSteals 3 = .ok (.if_icmp .ne 10, 3) := by decide +kernel
theorem dX6_chanceOrSteals_6 : decode cX6_chanceOrSteals 6 = .ok (.aload_n 0, 1) := by decide +kernel
theorem dX6_chanceOrSteals_7 : decode cX6_chanceOrSteals 7 = .ok (.getfield 15, 3) := by decide +kernel
theorem dX6_chanceOrSteals_10 : decode cX6_chanceOrSteals 10 = .ok (.goto 9, 3) := by decide +kernel
theorem dX6_chanceOrSteals_13 : decode cX6_chanceOrSteals 13 = .ok (.aload_n 0, 1) := by decide +kernel
theorem dX6_chanceOrSteals_14 : decode cX6_chanceOrSteals 14 = .ok (.getfield 9, 3) := by decide +kernel
theorem dX6_chanceOrSteals_17 : decode cX6_chanceOrSteals 17 = .ok (.iload_n 1, 1) := by decide +kernel
theorem dX6_chanceOrSteals_18 : decode cX6_chanceOrSteals 18 = .ok (.iaload, 1) := by decide +kernel
theorem dX6_chanceOrSteals_19 : decode cX6_chanceOrSteals 19 = .ok (.ireturn, 1) := by decide +kernel
theorem dX6_toldKind_0 : decode cX6_toldKind 0 = .ok (.aload_n 0, 1) := by decide +kernel
theorem dX6_toldKind_1 : decode cX6_toldKind 1 = .ok (.getfield 9, 3) := by decide +kernel
theorem dX6_toldKind_4 : decode cX6_toldKind 4 = .ok (.iconst 0, 1) := by decide +kernel
theorem dX6_toldKind_5 : decode cX6_toldKind 5 = .ok (.iaload, 1) := by decide +kernel
theorem dX6_toldKind_6 : decode cX6_toldKind 6 = .ok (.sipush 650, 3) := by decide +kernel
theorem dX6_toldKind_9 : decode cX6_toldKind 9 = .ok (.if_icmp .gt 27, 3) := by decide +kernel
theorem dX6_toldKind_12 : decode cX6_toldKind 12 = .ok (.aload_n 0, 1) := by decide +kernel
theorem dX6_toldKind_13 : decode cX6_toldKind 13 = .ok (.getfield 9, 3) := by decide +kernel
theorem dX6_toldKind_16 : decode cX6_toldKind 16 = .ok (.iconst 4, 1) := by decide +kernel
theorem dX6_toldKind_17 : decode cX6_toldKind 17 = .ok (.iaload, 1) := by decide +kernel
theorem dX6_toldKind_18 : decode cX6_toldKind 18 = .ok (.aload_n 0, 1) := by decide +kernel
theorem dX6_toldKind_19 : decode cX6_toldKind 19 = .ok (.getfield 9, 3) := by decide +kernel
theorem dX6_toldKind_22 : decode cX6_toldKind 22 = .ok (.iconst 5, 1) := by decide +kernel
theorem dX6_toldKind_23 : decode cX6_toldKind 23 = .ok (.iaload, 1) := by decide +kernel
theorem dX6_toldKind_24 : decode cX6_toldKind 24 = .ok (.iadd, 1) := by decide +kernel
theorem dX6_toldKind_25 : decode cX6_toldKind 25 = .ok (.bipush 60, 2) := by decide +kernel
theorem dX6_toldKind_27 : decode cX6_toldKind 27 = .ok (.if_icmp .lt 7, 3) := by decide +kernel
theorem dX6_toldKind_30 : decode cX6_toldKind 30 = .ok (.iconst 2, 1) := by decide +kernel
theorem dX6_toldKind_31 : decode cX6_toldKind 31 = .ok (.goto 4, 3) := by decide +kernel
theorem dX6_toldKind_34 : decode cX6_toldKind 34 = .ok (.iconst 1, 1) := by decide +kernel
theorem dX6_toldKind_35 : decode cX6_toldKind 35 = .ok (.ireturn, 1) := by decide +kernel
theorem dX6_toldKind_36 : decode cX6_toldKind 36 = .ok (.aload_n 0, 1) := by decide +kernel
theorem dX6_toldKind_37 : decode cX6_toldKind 37 = .ok (.getfield 15, 3) := by decide +kernel
theorem dX6_toldKind_40 : decode cX6_toldKind 40 = .ok (.sipush 700, 3) := by decide +kernel
theorem dX6_toldKind_43 : decode cX6_toldKind 43 = .ok (.if_icmp .lt 7, 3) := by decide +kernel
theorem dX6_toldKind_46 : decode cX6_toldKind 46 = .ok (.iconst 3, 1) := by decide +kernel
theorem dX6_toldKind_47 : decode cX6_toldKind 47 = .ok (.goto 4, 3) := by decide +kernel
theorem dX6_toldKind_50 : decode cX6_toldKind 50 = .ok (.iconst 0, 1) := by decide +kernel
theorem dX6_toldKind_51 : decode cX6_toldKind 51 = .ok (.ireturn, 1) := by decide +kernel
set_option maxRecDepth 20000 in
theorem ggX6_isOne_X6_toldKind : GoodIn wsX6_isOne wsX6_toldKind := goodIn_r _ [5, 6, 7, 8, 9] (by decide +kernel) (by decide +kernel)
set_option maxRecDepth 20000 in
theorem gX6_isOne_X6_toldKind : GoodIn wsX6_isOne (wsV RX6 19 RX6 yX6_toldKind wsX6_toldKind) := goodIn_app (goodIn_of _ (by decide +kernel)) ggX6_isOne_X6_toldKind
theorem dX6_isOne_0 : decode cX6_isOne 0 = .ok (.aload_n 0, 1) := by decide +kernel
theorem dX6_isOne_1 : decode cX6_isOne 1 = .ok (.invokevirtual 19, 3) := by decide +kernel
theorem dX6_isOne_4 : decode cX6_isOne 4 = .ok (.istore_n 2, 1) := by decide +kernel
theorem dX6_isOne_5 : decode cX6_isOne 5 = .ok (.iload_n 1, 1) := by decide +kernel
theorem dX6_isOne_6 : decode cX6_isOne 6 = .ok (.ifCond .eq 18, 3) := by decide +kernel
theorem dX6_isOne_9 : decode cX6_isOne 9 = .ok (.iload_n 1, 1) := by decide +kernel
theorem dX6_isOne_10 : decode cX6_isOne 10 = .ok (.iload_n 2, 1) := by decide +kernel
theorem dX6_isOne_11 : decode cX6_isOne 11 = .ok (.if_icmp .eq 13, 3) := by decide +kernel
theorem dX6_isOne_14 : decode cX6_isOne 14 = .ok (.iload_n 1, 1) := by decide +kernel
theorem dX6_isOne_15 : decode cX6_isOne 15 = .ok (.iconst 1, 1) := by decide +kernel
theorem dX6_isOne_16 : decode cX6_isOne 16 = .ok (.if_icmp .ne 12, 3) := by decide +kernel
theorem dX6_isOne_19 : decode cX6_isOne 19 = .ok (.iload_n 2, 1) := by decide +kernel
theorem dX6_isOne_20 : decode cX6_isOne 20 = .ok (.iconst 2, 1) := by decide +kernel
theorem dX6_isOne_21 : decode cX6_isOne 21 = .ok (.if_icmp .ne 7, 3) := by decide +kernel
theorem dX6_isOne_24 : decode cX6_isOne 24 = .ok (.iconst 1, 1) := by decide +kernel
theorem dX6_isOne_25 : decode cX6_isOne 25 = .ok (.goto 4, 3) := by decide +kernel
theorem dX6_isOne_28 : decode cX6_isOne 28 = .ok (.iconst 0, 1) := by decide +kernel
theorem dX6_isOne_29 : decode cX6_isOne 29 = .ok (.ireturn, 1) := by decide +kernel
set_option maxRecDepth 20000 in
theorem ggX7_init_X5_init : GoodIn wsX7_init wsX5_init := goodIn_r _ [35, 36, 2, 3, 37, 38, 39, 120, 121, 122, 123] (by decide +kernel) (by decide +kernel)
set_option maxRecDepth 20000 in
theorem gX7_init_X5_init_n15 : GoodIn wsX7_init (wsX5_init) := ggX7_init_X5_init
set_option maxRecDepth 20000 in
theorem ggX7_init_X6_init : GoodIn wsX7_init wsX6_init := goodIn_r _ [41, 42, 2, 3, 37, 43, 124, 125] (by decide +kernel) (by decide +kernel)
set_option maxRecDepth 20000 in
theorem gX7_init_X6_init_n22 : GoodIn wsX7_init (wsX6_init) := ggX7_init_X6_init
set_option maxRecDepth 20000 in
theorem ggX7_init_X1_init : GoodIn wsX7_init wsX1_init := goodIn_r _ [46, 47, 2, 3, 37, 48, 49, 50, 51, 52, 15, 53, 54, 55, 56, 57, 58, 59, 60, 61, 62, 63, 64, 65, 66, 67, 68, 69, 70, 71, 72, 73, 126, 127] (by decide +kernel) (by decide +kernel)
set_option maxRecDepth 20000 in
theorem gX7_init_X1_init : GoodIn wsX7_init (wsX1_init) := ggX7_init_X1_init
set_option maxRecDepth 20000 in
theorem ggX7_init_X2_init : GoodIn wsX7_init wsX2_init := goodIn_r _ [76, 77, 2, 3, 37, 78, 79, 80, 81, 82, 83, 84, 85, 86, 128, 129, 130, 131, 132, 133, 134, 135, 136] (by decide +kernel) (by decide +kernel)
set_option maxRecDepth 20000 in
theorem gX7_init_X2_init : GoodIn wsX7_init (wsX2_init) := ggX7_init_X2_init
set_option maxRecDepth 20000 in
theorem ggX7_init_X4_init : GoodIn wsX7_init wsX4_init := goodIn_r _ [89, 90, 2, 3, 37, 91, 92, 93, 94, 95, 96, 97, 98, 99, 100, 137, 138, 139, 140, 141, 142, 143, 144] (by decide +kernel) (by decide +kernel)
set_option maxRecDepth 20000 in
theorem gX7_init_X4_init : GoodIn wsX7_init (wsX4_init) := ggX7_init_X4_init
set_option maxRecDepth 20000 in
theorem ggX7_init_X3_init : GoodIn wsX7_init wsX3_init := goodIn_r _ [103, 104, 2, 3, 37, 105, 106, 145, 146, 147, 148, 149, 150] (by decide +kernel) (by decide +kernel)
set_option maxRecDepth 20000 in
theorem gX7_init_X3_init : GoodIn wsX7_init (wsX3_init) := ggX7_init_X3_init
set_option maxRecDepth 20000 in
theorem ggX7_init_X0_init : GoodIn wsX7_init wsX0_init := goodIn_r _ [108, 109, 2, 3, 37, 110, 151, 152] (by decide +kernel) (by decide +kernel)
set_option maxRecDepth 20000 in
theorem gX7_init_X0_init_n61 : GoodIn wsX7_init (wsX0_init) := ggX7_init_X0_init
theorem dX7_init_0 : decode cX7_init 0 = .ok (.aload_n 0, 1) := by decide +kernel
theorem dX7_init_1 : decode cX7_init 1 = .ok (.invokespecial 1, 3) := by decide +kernel
theorem dX7_init_4 : decode cX7_init 4 = .ok (.aload_n 0, 1) := by decide +kernel
theorem dX7_init_5 : decode cX7_init 5 = .ok (.bipush 8, 2) := by decide +kernel
theorem dX7_init_7 : decode cX7_init 7 = .ok (.anewarray 9, 3) := by decide +kernel
theorem dX7_init_10 : decode cX7_init 10 = .ok (.putfield 11, 3) := by decide +kernel
theorem dX7_init_13 : decode cX7_init 13 = .ok (.iconst 0, 1) := by decide +kernel
theorem dX7_init_14 : decode cX7_init 14 = .ok (.istore_n 1, 1) := by decide +kernel
theorem dX7_init_15 : decode cX7_init 15 = .ok (.iload_n 1, 1) := by decide +kernel
theorem dX7_init_16 : decode cX7_init 16 = .ok (.bipush 8, 2) := by decide +kernel
theorem dX7_init_18 : decode cX7_init 18 = .ok (.if_icmp .ge 22, 3) := by decide +kernel
theorem dX7_init_21 : decode cX7_init 21 = .ok (.aload_n 0, 1) := by decide +kernel
theorem dX7_init_22 : decode cX7_init 22 = .ok (.getfield 11, 3) := by decide +kernel
theorem dX7_init_25 : decode cX7_init 25 = .ok (.iload_n 1, 1) := by decide +kernel
theorem dX7_init_26 : decode cX7_init 26 = .ok (.new 9, 3) := by decide +kernel
theorem dX7_init_29 : decode cX7_init 29 = .ok (.dup, 1) := by decide +kernel
theorem dX7_init_30 : decode cX7_init 30 = .ok (.invokespecial 15, 3) := by decide +kernel
theorem dX7_init_33 : decode cX7_init 33 = .ok (.aastore, 1) := by decide +kernel
theorem dX7_init_34 : decode cX7_init 34 = .ok (.iinc 1 1, 3) := by decide +kernel
theorem dX7_init_37 : decode cX7_init 37 = .ok (.goto (-22), 3) := by decide +kernel
theorem dX7_init_40 : decode cX7_init 40 = .ok (.aload_n 0, 1) := by decide +kernel
theorem dX7_init_41 : decode cX7_init 41 = .ok (.bipush 12, 2) := by decide +kernel
theorem dX7_init_43 : decode cX7_init 43 = .ok (.anewarray 16, 3) := by decide +kernel
theorem dX7_init_46 : decode cX7_init 46 = .ok (.putfield 18, 3) := by decide +kernel
theorem dX7_init_49 : decode cX7_init 49 = .ok (.iconst 0, 1) := by decide +kernel
theorem dX7_init_50 : decode cX7_init 50 = .ok (.istore_n 1, 1) := by decide +kernel
theorem dX7_init_51 : decode cX7_init 51 = .ok (.iload_n 1, 1) := by decide +kernel
theorem dX7_init_52 : decode cX7_init 52 = .ok (.bipush 12, 2) := by decide +kernel
theorem dX7_init_54 : decode cX7_init 54 = .ok (.if_icmp .ge 22, 3) := by decide +kernel
theorem dX7_init_57 : decode cX7_init 57 = .ok (.aload_n 0, 1) := by decide +kernel
theorem dX7_init_58 : decode cX7_init 58 = .ok (.getfield 18, 3) := by decide +kernel
theorem dX7_init_61 : decode cX7_init 61 = .ok (.iload_n 1, 1) := by decide +kernel
theorem dX7_init_62 : decode cX7_init 62 = .ok (.new 16, 3) := by decide +kernel
theorem dX7_init_65 : decode cX7_init 65 = .ok (.dup, 1) := by decide +kernel
theorem dX7_init_66 : decode cX7_init 66 = .ok (.invokespecial 22, 3) := by decide +kernel
theorem dX7_init_69 : decode cX7_init 69 = .ok (.aastore, 1) := by decide +kernel
theorem dX7_init_70 : decode cX7_init 70 = .ok (.iinc 1 1, 3) := by decide +kernel
theorem dX7_init_73 : decode cX7_init 73 = .ok (.goto (-22), 3) := by decide +kernel
theorem dX7_init_76 : decode cX7_init 76 = .ok (.aload_n 0, 1) := by decide +kernel
theorem dX7_init_77 : decode cX7_init 77 = .ok (.iconst 0, 1) := by decide +kernel
theorem dX7_init_78 : decode cX7_init 78 = .ok (.putfield 23, 3) := by decide +kernel
theorem dX7_init_81 : decode cX7_init 81 = .ok (.aload_n 0, 1) := by decide +kernel
theorem dX7_init_82 : decode cX7_init 82 = .ok (.new 27, 3) := by decide +kernel
theorem dX7_init_85 : decode cX7_init 85 = .ok (.dup, 1) := by decide +kernel
theorem dX7_init_86 : decode cX7_init 86 = .ok (.invokespecial 29, 3) := by decide +kernel
theorem dX7_init_89 : decode cX7_init 89 = .ok (.putfield 30, 3) := by decide +kernel
theorem dX7_init_92 : decode cX7_init 92 = .ok (.aload_n 0, 1) := by decide +kernel
theorem dX7_init_93 : decode cX7_init 93 = .ok (.new 34, 3) := by decide +kernel
theorem dX7_init_96 : decode cX7_init 96 = .ok (.dup, 1) := by decide +kernel
theorem dX7_init_97 : decode cX7_init 97 = .ok (.aload_n 0, 1) := by decide +kernel
theorem dX7_init_98 : decode cX7_init 98 = .ok (.getfield 30, 3) := by decide +kernel
theorem dX7_init_101 : decode cX7_init 101 = .ok (.aload_n 0, 1) := by decide +kernel
theorem dX7_init_102 : decode cX7_init 102 = .ok (.getfield 18, 3) := by decide +kernel
theorem dX7_init_105 : decode cX7_init 105 = .ok (.invokespecial 36, 3) := by decide +kernel
theorem dX7_init_108 : decode cX7_init 108 = .ok (.putfield 39, 3) := by decide +kernel
theorem dX7_init_111 : decode cX7_init 111 = .ok (.aload_n 0, 1) := by decide +kernel
theorem dX7_init_112 : decode cX7_init 112 = .ok (.new 43, 3) := by decide +kernel
theorem dX7_init_115 : decode cX7_init 115 = .ok (.dup, 1) := by decide +kernel
theorem dX7_init_116 : decode cX7_init 116 = .ok (.aload_n 0, 1) := by decide +kernel
theorem dX7_init_117 : decode cX7_init 117 = .ok (.getfield 30, 3) := by decide +kernel
theorem dX7_init_120 : decode cX7_init 120 = .ok (.aload_n 0, 1) := by decide +kernel
theorem dX7_init_121 : decode cX7_init 121 = .ok (.getfield 18, 3) := by decide +kernel
theorem dX7_init_124 : decode cX7_init 124 = .ok (.invokespecial 45, 3) := by decide +kernel
theorem dX7_init_127 : decode cX7_init 127 = .ok (.putfield 46, 3) := by decide +kernel
theorem dX7_init_130 : decode cX7_init 130 = .ok (.aload_n 0, 1) := by decide +kernel
theorem dX7_init_131 : decode cX7_init 131 = .ok (.new 50, 3) := by decide +kernel
theorem dX7_init_134 : decode cX7_init 134 = .ok (.dup, 1) := by decide +kernel
theorem dX7_init_135 : decode cX7_init 135 = .ok (.aload_n 0, 1) := by decide +kernel
theorem dX7_init_136 : decode cX7_init 136 = .ok (.getfield 30, 3) := by decide +kernel
theorem dX7_init_139 : decode cX7_init 139 = .ok (.invokespecial 52, 3) := by decide +kernel
theorem dX7_init_142 : decode cX7_init 142 = .ok (.putfield 55, 3) := by decide +kernel
theorem dX7_init_145 : decode cX7_init 145 = .ok (.aload_n 0, 1) := by decide +kernel
theorem dX7_init_146 : decode cX7_init 146 = .ok (.new 59, 3) := by decide +kernel
theorem dX7_init_149 : decode cX7_init 149 = .ok (.dup, 1) := by decide +kernel
theorem dX7_init_150 : decode cX7_init 150 = .ok (.invokespecial 61, 3) := by decide +kernel
theorem dX7_init_153 : decode cX7_init 153 = .ok (.putfield 62, 3) := by decide +kernel
theorem dX7_init_156 : decode cX7_init 156 = .ok (.aload_n 0, 1) := by decide +kernel
theorem dX7_init_157 : decode cX7_init 157 = .ok (.iconst 0, 1) := by decide +kernel
theorem dX7_init_158 : decode cX7_init 158 = .ok (.putfield 66, 3) := by decide +kernel
theorem dX7_init_161 : decode cX7_init 161 = .ok (.return_, 1) := by decide +kernel
set_option maxRecDepth 20000 in
theorem ggX7_sheet_X7_isSheet : GoodIn wsX7_sheet wsX7_isSheet := goodIn_r _ [6, 7, 8, 5, 9] (by decide +kernel) (by decide +kernel)
set_option maxRecDepth 20000 in
theorem gX7_sheet_X7_isSheet : GoodIn wsX7_sheet (va_wsS RX7 69 yX7_isSheet wsX7_isSheet) := goodIn_app (goodIn_of _ (by decide +kernel)) ggX7_sheet_X7_isSheet
set_option maxRecDepth 20000 in
theorem ggX7_sheet_X7_within : GoodIn wsX7_sheet wsX7_within := goodIn_r _ [9] (by decide +kernel) (by decide +kernel)
set_option maxRecDepth 20000 in
theorem gX7_sheet_X7_within : GoodIn wsX7_sheet (va_wsS RX7 73 yX7_within wsX7_within) := goodIn_app (goodIn_of _ (by decide +kernel)) ggX7_sheet_X7_within
set_option maxRecDepth 20000 in
theorem ggX7_sheet_X7_found : GoodIn wsX7_sheet wsX7_found := goodIn_r _ [13, 14, 15, 33, 34, 35, 36, 37, 38, 39, 40, 41] (by decide +kernel) (by decide +kernel)
set_option maxRecDepth 20000 in
theorem gX7_sheet_X7_found : GoodIn wsX7_sheet (wsV RX7 78 RX7 yX7_found wsX7_found) := goodIn_app (goodIn_of _ (by decide +kernel)) ggX7_sheet_X7_found
set_option maxRecDepth 20000 in
theorem ggX7_sheet_X5_begin : GoodIn wsX7_sheet wsX5_begin := goodIn_r _ [20, 21, 22, 23, 24, 25, 26, 27, 28, 42, 43, 44, 45] (by decide +kernel) (by decide +kernel)
set_option maxRecDepth 20000 in
theorem gX7_sheet_X5_begin : GoodIn wsX7_sheet (wsV RX7 82 RX5 yX5_begin wsX5_begin) := goodIn_app (goodIn_of _ (by decide +kernel)) ggX7_sheet_X5_begin
set_option maxRecDepth 20000 in
theorem ggX7_sheet_X7_fine : GoodIn wsX7_sheet wsX7_fine := goodIn_r _ [32, 14, 33, 34, 35, 36, 37, 38, 39, 40, 41] (by decide +kernel) (by decide +kernel)
set_option maxRecDepth 20000 in
theorem gX7_sheet_X7_fine : GoodIn wsX7_sheet (wsV RX7 86 RX7 yX7_fine wsX7_fine) := goodIn_app (goodIn_of _ (by decide +kernel)) ggX7_sheet_X7_fine
theorem dX7_sheet_0 : decode cX7_sheet 0 = .ok (.iload_n 1, 1) := by decide +kernel
theorem dX7_sheet_1 : decode cX7_sheet 1 = .ok (.invokestatic 69, 3) := by decide +kernel
theorem dX7_sheet_4 : decode cX7_sheet 4 = .ok (.ifCond .eq 18, 3) := by decide +kernel
theorem dX7_sheet_7 : decode cX7_sheet 7 = .ok (.iload_n 2, 1) := by decide +kernel
theorem dX7_sheet_8 : decode cX7_sheet 8 = .ok (.iconst 0, 1) := by decide +kernel
theorem dX7_sheet_9 : decode cX7_sheet 9 = .ok (.iconst 2, 1) := by decide +kernel
theorem dX7_sheet_10 : decode cX7_sheet 10 = .ok (.invokestatic 73, 3) := by decide +kernel
theorem dX7_sheet_13 : decode cX7_sheet 13 = .ok (.ifCond .eq 9, 3) := by decide +kernel
theorem dX7_sheet_16 : decode cX7_sheet 16 = .ok (.iload_n 3, 1) := by decide +kernel
theorem dX7_sheet_17 : decode cX7_sheet 17 = .ok (.bipush 60, 2) := by decide +kernel
theorem dX7_sheet_19 : decode cX7_sheet 19 = .ok (.if_icmp .le 6, 3) := by decide +kernel
theorem dX7_sheet_22 : decode cX7_sheet 22 = .ok (.ldc 77, 2) := by decide +kernel
theorem dX7_sheet_24 : decode cX7_sheet 24 = .ok (.ireturn, 1) := by decide +kernel
theorem dX7_sheet_25 : decode cX7_sheet 25 = .ok (.iload_n 3, 1) := by decide +kernel
theorem dX7_sheet_26 : decode cX7_sheet 26 = .ok (.ifCond .ge 9, 3) := by decide +kernel
theorem dX7_sheet_29 : decode cX7_sheet 29 = .ok (.aload_n 0, 1) := by decide +kernel
theorem dX7_sheet_30 : decode cX7_sheet 30 = .ok (.iconst 4, 1) := by decide +kernel
theorem dX7_sheet_31 : decode cX7_sheet 31 = .ok (.invokevirtual 78, 3) := by decide +kernel
theorem dX7_sheet_34 : decode cX7_sheet 34 = .ok (.ireturn, 1) := by decide +kernel
theorem dX7_sheet_35 : decode cX7_sheet 35 = .ok (.aload_n 0, 1) := by decide +kernel
theorem dX7_sheet_36 : decode cX7_sheet 36 = .ok (.getfield 11, 3) := by decide +kernel
theorem dX7_sheet_39 : decode cX7_sheet 39 = .ok (.iload_n 1, 1) := by decide +kernel
theorem dX7_sheet_40 : decode cX7_sheet 40 = .ok (.aaload, 1) := by decide +kernel
theorem dX7_sheet_41 : decode cX7_sheet 41 = .ok (.iload_n 2, 1) := by decide +kernel
theorem dX7_sheet_42 : decode cX7_sheet 42 = .ok (.iload_n 3, 1) := by decide +kernel
theorem dX7_sheet_43 : decode cX7_sheet 43 = .ok (.invokevirtual 82, 3) := by decide +kernel
theorem dX7_sheet_46 : decode cX7_sheet 46 = .ok (.aload_n 0, 1) := by decide +kernel
theorem dX7_sheet_47 : decode cX7_sheet 47 = .ok (.iload_n 3, 1) := by decide +kernel
theorem dX7_sheet_48 : decode cX7_sheet 48 = .ok (.invokevirtual 86, 3) := by decide +kernel
theorem dX7_sheet_51 : decode cX7_sheet 51 = .ok (.ireturn, 1) := by decide +kernel
set_option maxRecDepth 20000 in
theorem ggX7_set_X7_isSheet : GoodIn wsX7_set wsX7_isSheet := goodIn_r _ [8, 9, 10, 7, 11] (by decide +kernel) (by decide +kernel)
set_option maxRecDepth 20000 in
theorem gX7_set_X7_isSheet : GoodIn wsX7_set (va_wsS RX7 69 yX7_isSheet wsX7_isSheet) := goodIn_app (goodIn_of _ (by decide +kernel)) ggX7_set_X7_isSheet
set_option maxRecDepth 20000 in
theorem ggX7_set_X7_found : GoodIn wsX7_set wsX7_found := goodIn_r _ [15, 16, 17, 33, 34, 35, 36, 37, 38, 39, 40, 41] (by decide +kernel) (by decide +kernel)
set_option maxRecDepth 20000 in
theorem gX7_set_X7_found : GoodIn wsX7_set (wsV RX7 78 RX7 yX7_found wsX7_found) := goodIn_app (goodIn_of _ (by decide +kernel)) ggX7_set_X7_found
set_option maxRecDepth 20000 in
theorem ggX7_set_X5_holds : GoodIn wsX7_set wsX5_holds := goodIn_r _ [22, 23, 42, 43, 44, 45] (by decide +kernel) (by decide +kernel)
set_option maxRecDepth 20000 in
theorem gX7_set_X5_holds : GoodIn wsX7_set (wsV RX7 93 RX5 yX5_holds wsX5_holds) := goodIn_app (goodIn_of _ (by decide +kernel)) ggX7_set_X5_holds
set_option maxRecDepth 20000 in
theorem ggX7_set_X5_cutToLane : GoodIn wsX7_set wsX5_cutToLane := goodIn_r _ [27, 28, 42, 43, 44, 45] (by decide +kernel) (by decide +kernel)
set_option maxRecDepth 20000 in
theorem gX7_set_X5_cutToLane : GoodIn wsX7_set (wsV RX7 101 RX5 yX5_cutToLane wsX5_cutToLane) := goodIn_app (goodIn_of _ (by decide +kernel)) ggX7_set_X5_cutToLane
set_option maxRecDepth 20000 in
theorem ggX7_set_X7_fine : GoodIn wsX7_set wsX7_fine := goodIn_r _ [32, 16, 33, 34, 35, 36, 37, 38, 39, 40, 41] (by decide +kernel) (by decide +kernel)
set_option maxRecDepth 20000 in
theorem gX7_set_X7_fine : GoodIn wsX7_set (wsV RX7 86 RX7 yX7_fine wsX7_fine) := goodIn_app (goodIn_of _ (by decide +kernel)) ggX7_set_X7_fine
theorem dX7_set_0 : decode cX7_set 0 = .ok (.iload_n 1, 1) := by decide +kernel
theorem dX7_set_1 : decode cX7_set 1 = .ok (.invokestatic 69, 3) := by decide +kernel
theorem dX7_set_4 : decode cX7_set 4 = .ok (.ifCond .ne 6, 3) := by decide +kernel
theorem dX7_set_7 : decode cX7_set 7 = .ok (.ldc 77, 2) := by decide +kernel
theorem dX7_set_9 : decode cX7_set 9 = .ok (.ireturn, 1) := by decide +kernel
theorem dX7_set_10 : decode cX7_set 10 = .ok (.aload_n 0, 1) := by decide +kernel
theorem dX7_set_11 : decode cX7_set 11 = .ok (.getfield 11, 3) := by decide +kernel
theorem dX7_set_14 : decode cX7_set 14 = .ok (.iload_n 1, 1) := by decide +kernel
theorem dX7_set_15 : decode cX7_set 15 = .ok (.aaload, 1) := by decide +kernel
theorem dX7_set_16 : decode cX7_set 16 = .ok (.astore 4, 2) := by decide +kernel
theorem dX7_set_18 : decode cX7_set 18 = .ok (.aload 4, 2) := by decide +kernel
theorem dX7_set_20 : decode cX7_set 20 = .ok (.getfield 89, 3) := by decide +kernel
theorem dX7_set_23 : decode cX7_set 23 = .ok (.ifCond .eq 9, 3) := by decide +kernel
theorem dX7_set_26 : decode cX7_set 26 = .ok (.aload_n 0, 1) := by decide +kernel
theorem dX7_set_27 : decode cX7_set 27 = .ok (.iconst 1, 1) := by decide +kernel
theorem dX7_set_28 : decode cX7_set 28 = .ok (.invokevirtual 78, 3) := by decide +kernel
theorem dX7_set_31 : decode cX7_set 31 = .ok (.ireturn, 1) := by decide +kernel
theorem dX7_set_32 : decode cX7_set 32 = .ok (.aload 4, 2) := by decide +kernel
theorem dX7_set_34 : decode cX7_set 34 = .ok (.iload_n 2, 1) := by decide +kernel
theorem dX7_set_35 : decode cX7_set 35 = .ok (.iconst 1, 1) := by decide +kernel
theorem dX7_set_36 : decode cX7_set 36 = .ok (.invokevirtual 93, 3) := by decide +kernel
theorem dX7_set_39 : decode cX7_set 39 = .ok (.ifCond .ne 9, 3) := by decide +kernel
theorem dX7_set_42 : decode cX7_set 42 = .ok (.aload_n 0, 1) := by decide +kernel
theorem dX7_set_43 : decode cX7_set 43 = .ok (.iconst 2, 1) := by decide +kernel
theorem dX7_set_44 : decode cX7_set 44 = .ok (.invokevirtual 78, 3) := by decide +kernel
theorem dX7_set_47 : decode cX7_set 47 = .ok (.ireturn, 1) := by decide +kernel
theorem dX7_set_48 : decode cX7_set 48 = .ok (.aload 4, 2) := by decide +kernel
theorem dX7_set_50 : decode cX7_set 50 = .ok (.getfield 97, 3) := by decide +kernel
theorem dX7_set_53 : decode cX7_set 53 = .ok (.iload_n 2, 1) := by decide +kernel
theorem dX7_set_54 : decode cX7_set 54 = .ok (.aload 4, 2) := by decide +kernel
theorem dX7_set_56 : decode cX7_set 56 = .ok (.iload_n 3, 1) := by decide +kernel
theorem dX7_set_57 : decode cX7_set 57 = .ok (.invokevirtual 101, 3) := by decide +kernel
theorem dX7_set_60 : decode cX7_set 60 = .ok (.iastore, 1) := by decide +kernel
theorem dX7_set_61 : decode cX7_set 61 = .ok (.aload_n 0, 1) := by decide +kernel
theorem dX7_set_62 : decode cX7_set 62 = .ok (.aload 4, 2) := by decide +kernel
theorem dX7_set_64 : decode cX7_set 64 = .ok (.getfield 97, 3) := by decide +kernel
theorem dX7_set_67 : decode cX7_set 67 = .ok (.iload_n 2, 1) := by decide +kernel
theorem dX7_set_68 : decode cX7_set 68 = .ok (.iaload, 1) := by decide +kernel
theorem dX7_set_69 : decode cX7_set 69 = .ok (.invokevirtual 86, 3) := by decide +kernel
theorem dX7_set_72 : decode cX7_set 72 = .ok (.ireturn, 1) := by decide +kernel
set_option maxRecDepth 20000 in
theorem ggX7_copy_X7_isSheet : GoodIn wsX7_copy wsX7_isSheet := goodIn_r _ [13, 14, 15, 12, 16] (by decide +kernel) (by decide +kernel)
set_option maxRecDepth 20000 in
theorem gX7_copy_X7_isSheet : GoodIn wsX7_copy (va_wsS RX7 69 yX7_isSheet wsX7_isSheet) := goodIn_app (goodIn_of _ (by decide +kernel)) ggX7_copy_X7_isSheet
set_option maxRecDepth 20000 in
theorem ggX7_copy_X7_found : GoodIn wsX7_copy wsX7_found := goodIn_r _ [20, 21, 22, 33, 34, 35, 36, 37, 38, 39, 40, 41] (by decide +kernel) (by decide +kernel)
set_option maxRecDepth 20000 in
theorem gX7_copy_X7_found : GoodIn wsX7_copy (wsV RX7 78 RX7 yX7_found wsX7_found) := goodIn_app (goodIn_of _ (by decide +kernel)) ggX7_copy_X7_found
set_option maxRecDepth 20000 in
theorem ggX7_copy_X5_holds : GoodIn wsX7_copy wsX5_holds := goodIn_r _ [27, 28, 42, 43, 44, 45] (by decide +kernel) (by decide +kernel)
set_option maxRecDepth 20000 in
theorem gX7_copy_X5_holds : GoodIn wsX7_copy (wsV RX7 93 RX5 yX5_holds wsX5_holds) := goodIn_app (goodIn_of _ (by decide +kernel)) ggX7_copy_X5_holds
set_option maxRecDepth 20000 in
theorem ggX7_copy_X7_fine : GoodIn wsX7_copy wsX7_fine := goodIn_r _ [32, 21, 33, 34, 35, 36, 37, 38, 39, 40, 41] (by decide +kernel) (by decide +kernel)
set_option maxRecDepth 20000 in
theorem gX7_copy_X7_fine : GoodIn wsX7_copy (wsV RX7 86 RX7 yX7_fine wsX7_fine) := goodIn_app (goodIn_of _ (by decide +kernel)) ggX7_copy_X7_fine
theorem dX7_copy_0 : decode cX7_copy 0 = .ok (.iload_n 1, 1) := by decide +kernel
theorem dX7_copy_1 : decode cX7_copy 1 = .ok (.invokestatic 69, 3) := by decide +kernel
theorem dX7_copy_4 : decode cX7_copy 4 = .ok (.ifCond .eq 10, 3) := by decide +kernel
theorem dX7_copy_7 : decode cX7_copy 7 = .ok (.iload_n 3, 1) := by decide +kernel
theorem dX7_copy_8 : decode cX7_copy 8 = .ok (.invokestatic 69, 3) := by decide +kernel
theorem dX7_copy_11 : decode cX7_copy 11 = .ok (.ifCond .ne 6, 3) := by decide +kernel
theorem dX7_copy_14 : decode cX7_copy 14 = .ok (.ldc 77, 2) := by decide +kernel
theorem dX7_copy_16 : decode cX7_copy 16 = .ok (.ireturn, 1) := by decide +kernel
theorem dX7_copy_17 : decode cX7_copy 17 = .ok (.aload_n 0, 1) := by decide +kernel
theorem dX7_copy_18 : decode cX7_copy 18 = .ok (.getfield 11, 3) := by decide +kernel
theorem dX7_copy_21 : decode cX7_copy 21 = .ok (.iload_n 1, 1) := by decide +kernel
theorem dX7_copy_22 : decode cX7_copy 22 = .ok (.aaload, 1) := by decide +kernel
theorem dX7_copy_23 : decode cX7_copy 23 = .ok (.astore 6, 2) := by decide +kernel
theorem dX7_copy_25 : decode cX7_copy 25 = .ok (.aload_n 0, 1) := by decide +kernel
theorem dX7_copy_26 : decode cX7_copy 26 = .ok (.getfield 11, 3) := by decide +kernel
theorem dX7_copy_29 : decode cX7_copy 29 = .ok (.iload_n 3, 1) := by decide +kernel
theorem dX7_copy_30 : decode cX7_copy 30 = .ok (.aaload, 1) := by decide +kernel
theorem dX7_copy_31 : decode cX7_copy 31 = .ok (.astore 7, 2) := by decide +kernel
theorem dX7_copy_33 : decode cX7_copy 33 = .ok (.aload 6, 2) := by decide +kernel
theorem dX7_copy_35 : decode cX7_copy 35 = .ok (.getfield 89, 3) := by decide +kernel
theorem dX7_copy_38 : decode cX7_copy 38 = .ok (.ifCond .ne 11, 3) := by decide +kernel
theorem dX7_copy_41 : decode cX7_copy 41 = .ok (.aload 7, 2) := by decide +kernel
theorem dX7_copy_43 : decode cX7_copy 43 = .ok (.getfield 89, 3) := by decide +kernel
theorem dX7_copy_46 : decode cX7_copy 46 = .ok (.ifCond .eq 9, 3) := by decide +kernel
theorem dX7_copy_49 : decode cX7_copy 49 = .ok (.aload_n 0, 1) := by decide +kernel
theorem dX7_copy_50 : decode cX7_copy 50 = .ok (.iconst 1, 1) := by decide +kernel
theorem dX7_copy_51 : decode cX7_copy 51 = .ok (.invokevirtual 78, 3) := by decide +kernel
theorem dX7_copy_54 : decode cX7_copy 54 = .ok (.ireturn, 1) := by decide +kernel
theorem dX7_copy_55 : decode cX7_copy 55 = .ok (.aload 6, 2) := by decide +kernel
theorem dX7_copy_57 : decode cX7_copy 57 = .ok (.getfield 104, 3) := by decide +kernel
theorem dX7_copy_60 : decode cX7_copy 60 = .ok (.aload 7, 2) := by decide +kernel
theorem dX7_copy_62 : decode cX7_copy 62 = .ok (.getfield 104, 3) := by decide +kernel
theorem dX7_copy_65 : decode cX7_copy 65 = .ok (.if_icmp .eq 9, 3) := by decide +kernel
theorem dX7_copy_68 : decode cX7_copy 68 = .ok (.aload_n 0, 1) := by decide +kernel
theorem dX7_copy_69 : decode cX7_copy 69 = .ok (.iconst 5, 1) := by decide +kernel
theorem dX7_copy_70 : decode cX7_copy 70 = .ok (.invokevirtual 78, 3) := by decide +kernel
theorem dX7_copy_73 : decode cX7_copy 73 = .ok (.ireturn, 1) := by decide +kernel
theorem dX7_copy_74 : decode cX7_copy 74 = .ok (.aload 6, 2) := by decide +kernel
theorem dX7_copy_76 : decode cX7_copy 76 = .ok (.iload_n 2, 1) := by decide +kernel
theorem dX7_copy_77 : decode cX7_copy 77 = .ok (.iload 5, 2) := by decide +kernel
theorem dX7_copy_79 : decode cX7_copy 79 = .ok (.invokevirtual 93, 3) := by decide +kernel
theorem dX7_copy_82 : decode cX7_copy 82 = .ok (.ifCond .eq 15, 3) := by decide +kernel
theorem dX7_copy_85 : decode cX7_copy 85 = .ok (.aload 7, 2) := by decide +kernel
theorem dX7_copy_87 : decode cX7_copy 87 = .ok (.iload 4, 2) := by decide +kernel
theorem dX7_copy_89 : decode cX7_copy 89 = .ok (.iload 5, 2) := by decide +kernel
theorem dX7_copy_91 : decode cX7_copy 91 = .ok (.invokevirtual 93, 3) := by decide +kernel
theorem dX7_copy_94 : decode cX7_copy 94 = .ok (.ifCond .ne 9, 3) := by decide +kernel
theorem dX7_copy_97 : decode cX7_copy 97 = .ok (.aload_n 0, 1) := by decide +kernel
theorem dX7_copy_98 : decode cX7_copy 98 = .ok (.iconst 2, 1) := by decide +kernel
theorem dX7_copy_99 : decode cX7_copy 99 = .ok (.invokevirtual 78, 3) := by decide +kernel
theorem dX7_copy_102 : decode cX7_copy 102 = .ok (.ireturn, 1) := by decide +kernel
theorem dX7_copy_103 : decode cX7_copy 103 = .ok (.aload 6, 2) := by decide +kernel
theorem dX7_copy_105 : decode cX7_copy 105 = .ok (.getfield 97, 3) := by decide +kernel
theorem dX7_copy_108 : decode cX7_copy 108 = .ok (.iload_n 2, 1) := by decide +kernel
theorem dX7_copy_109 : decode cX7_copy 109 = .ok (.aload 7, 2) := by decide +kernel
theorem dX7_copy_111 : decode cX7_copy 111 = .ok (.getfield 97, 3) := by decide +kernel
theorem dX7_copy_114 : decode cX7_copy 114 = .ok (.iload 4, 2) := by decide +kernel
theorem dX7_copy_116 : decode cX7_copy 116 = .ok (.iload 5, 2) := by decide +kernel
theorem dX7_copy_118 : decode cX7_copy 118 = .ok (.invokestatic 107, 3) := by decide +kernel
theorem dX7_copy_121 : decode cX7_copy 121 = .ok (.aload_n 0, 1) := by decide +kernel
theorem dX7_copy_122 : decode cX7_copy 122 = .ok (.iload 5, 2) := by decide +kernel
theorem dX7_copy_124 : decode cX7_copy 124 = .ok (.invokevirtual 86, 3) := by decide +kernel
theorem dX7_copy_127 : decode cX7_copy 127 = .ok (.ireturn, 1) := by decide +kernel
set_option maxRecDepth 20000 in
theorem ggX7_drop_X7_isSheet : GoodIn wsX7_drop wsX7_isSheet := goodIn_r _ [8, 9, 10, 7, 11] (by decide +kernel) (by decide +kernel)
set_option maxRecDepth 20000 in
theorem gX7_drop_X7_isSheet : GoodIn wsX7_drop (va_wsS RX7 69 yX7_isSheet wsX7_isSheet) := goodIn_app (goodIn_of _ (by decide +kernel)) ggX7_drop_X7_isSheet
set_option maxRecDepth 20000 in
theorem ggX7_drop_X7_found : GoodIn wsX7_drop wsX7_found := goodIn_r _ [15, 16, 17, 22, 23, 24, 25, 26, 27, 28, 29, 30] (by decide +kernel) (by decide +kernel)
set_option maxRecDepth 20000 in
theorem gX7_drop_X7_found : GoodIn wsX7_drop (wsV RX7 78 RX7 yX7_found wsX7_found) := goodIn_app (goodIn_of _ (by decide +kernel)) ggX7_drop_X7_found
set_option maxRecDepth 20000 in
theorem ggX7_drop_X7_fine : GoodIn wsX7_drop wsX7_fine := goodIn_r _ [21, 16, 22, 23, 24, 25, 26, 27, 28, 29, 30] (by decide +kernel) (by decide +kernel)
set_option maxRecDepth 20000 in
theorem gX7_drop_X7_fine : GoodIn wsX7_drop (wsV RX7 86 RX7 yX7_fine wsX7_fine) := goodIn_app (goodIn_of _ (by decide +kernel)) ggX7_drop_X7_fine
theorem dX7_drop_0 : decode cX7_drop 0 = .ok (.iload_n 1, 1) := by decide +kernel
theorem dX7_drop_1 : decode cX7_drop 1 = .ok (.invokestatic 69, 3) := by decide +kernel
theorem dX7_drop_4 : decode cX7_drop 4 = .ok (.ifCond .ne 6, 3) := by decide +kernel
theorem dX7_drop_7 : decode cX7_drop 7 = .ok (.ldc 77, 2) := by decide +kernel
theorem dX7_drop_9 : decode cX7_drop 9 = .ok (.ireturn, 1) := by decide +kernel
theorem dX7_drop_10 : decode cX7_drop 10 = .ok (.aload_n 0, 1) := by decide +kernel
theorem dX7_drop_11 : decode cX7_drop 11 = .ok (.getfield 11, 3) := by decide +kernel
theorem dX7_drop_14 : decode cX7_drop 14 = .ok (.iload_n 1, 1) := by decide +kernel
theorem dX7_drop_15 : decode cX7_drop 15 = .ok (.aaload, 1) := by decide +kernel
theorem dX7_drop_16 : decode cX7_drop 16 = .ok (.astore_n 2, 1) := by decide +kernel
theorem dX7_drop_17 : decode cX7_drop 17 = .ok (.aload_n 2, 1) := by decide +kernel
theorem dX7_drop_18 : decode cX7_drop 18 = .ok (.getfield 89, 3) := by decide +kernel
theorem dX7_drop_21 : decode cX7_drop 21 = .ok (.ifCond .eq 9, 3) := by decide +kernel
theorem dX7_drop_24 : decode cX7_drop 24 = .ok (.aload_n 0, 1) := by decide +kernel
theorem dX7_drop_25 : decode cX7_drop 25 = .ok (.iconst 1, 1) := by decide +kernel
theorem dX7_drop_26 : decode cX7_drop 26 = .ok (.invokevirtual 78, 3) := by decide +kernel
theorem dX7_drop_29 : decode cX7_drop 29 = .ok (.ireturn, 1) := by decide +kernel
theorem dX7_drop_30 : decode cX7_drop 30 = .ok (.aload_n 2, 1) := by decide +kernel
theorem dX7_drop_31 : decode cX7_drop 31 = .ok (.iconst 1, 1) := by decide +kernel
theorem dX7_drop_32 : decode cX7_drop 32 = .ok (.putfield 89, 3) := by decide +kernel
theorem dX7_drop_35 : decode cX7_drop 35 = .ok (.aload_n 0, 1) := by decide +kernel
theorem dX7_drop_36 : decode cX7_drop 36 = .ok (.aload_n 2, 1) := by decide +kernel
theorem dX7_drop_37 : decode cX7_drop 37 = .ok (.getfield 113, 3) := by decide +kernel
theorem dX7_drop_40 : decode cX7_drop 40 = .ok (.invokevirtual 86, 3) := by decide +kernel
theorem dX7_drop_43 : decode cX7_drop 43 = .ok (.ireturn, 1) := by decide +kernel
set_option maxRecDepth 20000 in
theorem ggX7_behind_X7_within : GoodIn wsX7_behind wsX7_within := goodIn_r _ [6] (by decide +kernel) (by decide +kernel)
set_option maxRecDepth 20000 in
theorem gX7_behind_X7_within : GoodIn wsX7_behind (va_wsS RX7 73 yX7_within wsX7_within) := goodIn_app (goodIn_of _ (by decide +kernel)) ggX7_behind_X7_within
set_option maxRecDepth 20000 in
theorem ggX7_behind_X1_standingAfter : GoodIn wsX7_behind wsX1_standingAfter := goodIn_r _ [11, 12, 27, 28] (by decide +kernel) (by decide +kernel)
set_option maxRecDepth 20000 in
theorem gX7_behind_X1_standingAfter : GoodIn wsX7_behind (wsV RX7 116 RX1 yX1_standingAfter wsX1_standingAfter) := goodIn_app (goodIn_of _ (by decide +kernel)) ggX7_behind_X1_standingAfter
set_option maxRecDepth 20000 in
theorem ggX7_behind_X1_runsOf : GoodIn wsX7_behind wsX1_runsOf := goodIn_r _ [16, 17, 27, 28] (by decide +kernel) (by decide +kernel)
set_option maxRecDepth 20000 in
theorem gX7_behind_X1_runsOf : GoodIn wsX7_behind (wsV RX7 120 RX1 yX1_runsOf wsX1_runsOf) := goodIn_app (goodIn_of _ (by decide +kernel)) ggX7_behind_X1_runsOf
theorem dX7_behind_0 : decode cX7_behind 0 = .ok (.iload_n 1, 1) := by decide +kernel
theorem dX7_behind_1 : decode cX7_behind 1 = .ok (.iconst 0, 1) := by decide +kernel
theorem dX7_behind_2 : decode cX7_behind 2 = .ok (.bipush 23, 2) := by decide +kernel
theorem dX7_behind_4 : decode cX7_behind 4 = .ok (.invokestatic 73, 3) := by decide +kernel
theorem dX7_behind_7 : decode cX7_behind 7 = .ok (.ifCond .eq 22, 3) := by decide +kernel
theorem dX7_behind_10 : decode cX7_behind 10 = .ok (.iload_n 2, 1) := by decide +kernel
theorem dX7_behind_11 : decode cX7_behind 11 = .ok (.iconst 0, 1) := by decide +kernel
theorem dX7_behind_12 : decode cX7_behind 12 = .ok (.bipush 8, 2) := by decide +kernel
theorem dX7_behind_14 : decode cX7_behind 14 = .ok (.invokestatic 73, 3) := by decide +kernel
theorem dX7_behind_17 : decode cX7_behind 17 = .ok (.ifCond .eq 12, 3) := by decide +kernel
theorem dX7_behind_20 : decode cX7_behind 20 = .ok (.iload_n 3, 1) := by decide +kernel
theorem dX7_behind_21 : decode cX7_behind 21 = .ok (.iconst 0, 1) := by decide +kernel
theorem dX7_behind_22 : decode cX7_behind 22 = .ok (.iconst 1, 1) := by decide +kernel
theorem dX7_behind_23 : decode cX7_behind 23 = .ok (.invokestatic 73, 3) := by decide +kernel
theorem dX7_behind_26 : decode cX7_behind 26 = .ok (.ifCond .ne 6, 3) := by decide +kernel
theorem dX7_behind_29 : decode cX7_behind 29 = .ok (.ldc 77, 2) := by decide +kernel
theorem dX7_behind_31 : decode cX7_behind 31 = .ok (.ireturn, 1) := by decide +kernel
theorem dX7_behind_32 : decode cX7_behind 32 = .ok (.iload_n 3, 1) := by decide +kernel
theorem dX7_behind_33 : decode cX7_behind 33 = .ok (.ifCond .ne 15, 3) := by decide +kernel
theorem dX7_behind_36 : decode cX7_behind 36 = .ok (.aload_n 0, 1) := by decide +kernel
theorem dX7_behind_37 : decode cX7_behind 37 = .ok (.getfield 30, 3) := by decide +kernel
theorem dX7_behind_40 : decode cX7_behind 40 = .ok (.iload_n 1, 1) := by decide +kernel
theorem dX7_behind_41 : decode cX7_behind 41 = .ok (.iload_n 2, 1) := by decide +kernel
theorem dX7_behind_42 : decode cX7_behind 42 = .ok (.invokevirtual 116, 3) := by decide +kernel
theorem dX7_behind_45 : decode cX7_behind 45 = .ok (.goto 12, 3) := by decide +kernel
theorem dX7_behind_48 : decode cX7_behind 48 = .ok (.aload_n 0, 1) := by decide +kernel
theorem dX7_behind_49 : decode cX7_behind 49 = .ok (.getfield 30, 3) := by decide +kernel
theorem dX7_behind_52 : decode cX7_behind 52 = .ok (.iload_n 1, 1) := by decide +kernel
theorem dX7_behind_53 : decode cX7_behind 53 = .ok (.iload_n 2, 1) := by decide +kernel
theorem dX7_behind_54 : decode cX7_behind 54 = .ok (.invokevirtual 120, 3) := by decide +kernel
theorem dX7_behind_57 : decode cX7_behind 57 = .ok (.ireturn, 1) := by decide +kernel
set_option maxRecDepth 20000 in
theorem ggX7_striker_X7_isChance : GoodIn wsX7_striker wsX7_isChance := goodIn_r _ [10, 11, 12, 9, 13] (by decide +kernel) (by decide +kernel)
set_option maxRecDepth 20000 in
theorem gX7_striker_X7_isChance : GoodIn wsX7_striker (va_wsS RX7 123 yX7_isChance wsX7_isChance) := goodIn_app (goodIn_of _ (by decide +kernel)) ggX7_striker_X7_isChance
set_option maxRecDepth 20000 in
theorem ggX7_striker_X6_giveTheRestToOut : GoodIn wsX7_striker wsX6_giveTheRestToOut := goodIn_r _ [18, 19, 33, 34] (by decide +kernel) (by decide +kernel)
set_option maxRecDepth 20000 in
theorem gX7_striker_X6_giveTheRestToOut : GoodIn wsX7_striker (wsV RX7 130 RX6 yX6_giveTheRestToOut wsX6_giveTheRestToOut) := goodIn_app (goodIn_of _ (by decide +kernel)) ggX7_striker_X6_giveTheRestToOut
set_option maxRecDepth 20000 in
theorem ggX7_striker_X7_admitted : GoodIn wsX7_striker wsX7_admitted := goodIn_r _ [23, 2, 24, 25, 26, 27, 28, 29, 30, 31, 32] (by decide +kernel) (by decide +kernel)
set_option maxRecDepth 20000 in
theorem gX7_striker_X7_admitted : GoodIn wsX7_striker (wsV RX7 136 RX7 yX7_admitted wsX7_admitted) := goodIn_app (goodIn_of _ (by decide +kernel)) ggX7_striker_X7_admitted
theorem dX7_striker_0 : decode cX7_striker 0 = .ok (.iload_n 1, 1) := by decide +kernel
theorem dX7_striker_1 : decode cX7_striker 1 = .ok (.invokestatic 123, 3) := by decide +kernel
theorem dX7_striker_4 : decode cX7_striker 4 = .ok (.ifCond .eq 41, 3) := by decide +kernel
theorem dX7_striker_7 : decode cX7_striker 7 = .ok (.iload_n 2, 1) := by decide +kernel
theorem dX7_striker_8 : decode cX7_striker 8 = .ok (.invokestatic 123, 3) := by decide +kernel
theorem dX7_striker_11 : decode cX7_striker 11 = .ok (.ifCond .eq 34, 3) := by decide +kernel
theorem dX7_striker_14 : decode cX7_striker 14 = .ok (.iload_n 3, 1) := by decide +kernel
theorem dX7_striker_15 : decode cX7_striker 15 = .ok (.invokestatic 123, 3) := by decide +kernel
theorem dX7_striker_18 : decode cX7_striker 18 = .ok (.ifCond .eq 27, 3) := by decide +kernel
theorem dX7_striker_21 : decode cX7_striker 21 = .ok (.iload 4, 2) := by decide +kernel
theorem dX7_striker_23 : decode cX7_striker 23 = .ok (.invokestatic 123, 3) := by decide +kernel
theorem dX7_striker_26 : decode cX7_striker 26 = .ok (.ifCond .eq 19, 3) := by decide +kernel
theorem dX7_striker_29 : decode cX7_striker 29 = .ok (.iload 5, 2) := by decide +kernel
theorem dX7_striker_31 : decode cX7_striker 31 = .ok (.invokestatic 123, 3) := by decide +kernel
theorem dX7_striker_34 : decode cX7_striker 34 = .ok (.ifCond .eq 11, 3) := by decide +kernel
theorem dX7_striker_37 : decode cX7_striker 37 = .ok (.iload 6, 2) := by decide +kernel
theorem dX7_striker_39 : decode cX7_striker 39 = .ok (.invokestatic 123, 3) := by decide +kernel
theorem dX7_striker_42 : decode cX7_striker 42 = .ok (.ifCond .ne 6, 3) := by decide +kernel
theorem dX7_striker_45 : decode cX7_striker 45 = .ok (.ldc 77, 2) := by decide +kernel
theorem dX7_striker_47 : decode cX7_striker 47 = .ok (.ireturn, 1) := by decide +kernel
theorem dX7_striker_48 : decode cX7_striker 48 = .ok (.iload_n 1, 1) := by decide +kernel
theorem dX7_striker_49 : decode cX7_striker 49 = .ok (.iload_n 2, 1) := by decide +kernel
theorem dX7_striker_50 : decode cX7_striker 50 = .ok (.iadd, 1) := by decide +kernel
theorem dX7_striker_51 : decode cX7_striker 51 = .ok (.iload_n 3, 1) := by decide +kernel
theorem dX7_striker_52 : decode cX7_striker 52 = .ok (.iadd, 1) := by decide +kernel
theorem dX7_striker_53 : decode cX7_striker 53 = .ok (.iload 4, 2) := by decide +kernel
theorem dX7_striker_55 : decode cX7_striker 55 = .ok (.iadd, 1) := by decide +kernel
theorem dX7_striker_56 : decode cX7_striker 56 = .ok (.iload 5, 2) := by decide +kernel
theorem dX7_striker_58 : decode cX7_striker 58 = .ok (.iadd, 1) := by decide +kernel
theorem dX7_striker_59 : decode cX7_striker 59 = .ok (.sipush 1000, 3) := by decide +kernel
theorem dX7_striker_62 : decode cX7_striker 62 = .ok (.if_icmp .le 6, 3) := by decide +kernel
theorem dX7_striker_65 : decode cX7_striker 65 = .ok (.ldc 77, 2) := by decide +kernel
theorem dX7_striker_67 : decode cX7_striker 67 = .ok (.ireturn, 1) := by decide +kernel
theorem dX7_striker_68 : decode cX7_striker 68 = .ok (.aload_n 0, 1) := by decide +kernel
theorem dX7_striker_69 : decode cX7_striker 69 = .ok (.getfield 23, 3) := by decide +kernel
theorem dX7_striker_72 : decode cX7_striker 72 = .ok (.bipush 12, 2) := by decide +kernel
theorem dX7_striker_74 : decode cX7_striker 74 = .ok (.if_icmp .lt 6, 3) := by decide +kernel
theorem dX7_striker_77 : decode cX7_striker 77 = .ok (.ldc 126, 2) := by decide +kernel
theorem dX7_striker_79 : decode cX7_striker 79 = .ok (.ireturn, 1) := by decide +kernel
theorem dX7_striker_80 : decode cX7_striker 80 = .ok (.aload_n 0, 1) := by decide +kernel
theorem dX7_striker_81 : decode cX7_striker 81 = .ok (.getfield 18, 3) := by decide +kernel
theorem dX7_striker_84 : decode cX7_striker 84 = .ok (.aload_n 0, 1) := by decide +kernel
theorem dX7_striker_85 : decode cX7_striker 85 = .ok (.getfield 23, 3) := by decide +kernel
theorem dX7_striker_88 : decode cX7_striker 88 = .ok (.aaload, 1) := by decide +kernel
theorem dX7_striker_89 : decode cX7_striker 89 = .ok (.astore 7, 2) := by decide +kernel
theorem dX7_striker_91 : decode cX7_striker 91 = .ok (.aload 7, 2) := by decide +kernel
theorem dX7_striker_93 : decode cX7_striker 93 = .ok (.getfield 127, 3) := by decide +kernel
theorem dX7_striker_96 : decode cX7_striker 96 = .ok (.iconst 1, 1) := by decide +kernel
theorem dX7_striker_97 : decode cX7_striker 97 = .ok (.iload_n 1, 1) := by decide +kernel
theorem dX7_striker_98 : decode cX7_striker 98 = .ok (.iastore, 1) := by decide +kernel
theorem dX7_striker_99 : decode cX7_striker 99 = .ok (.aload 7, 2) := by decide +kernel
theorem dX7_striker_101 : decode cX7_striker 101 = .ok (.getfield 127, 3) := by decide +kernel
theorem dX7_striker_104 : decode cX7_striker 104 = .ok (.iconst 2, 1) := by decide +kernel
theorem dX7_striker_105 : decode cX7_striker 105 = .ok (.iload_n 2, 1) := by decide +kernel
theorem dX7_striker_106 : decode cX7_striker 106 = .ok (.iastore, 1) := by decide +kernel
theorem dX7_striker_107 : decode cX7_striker 107 = .ok (.aload 7, 2) := by decide +kernel
theorem dX7_striker_109 : decode cX7_striker 109 = .ok (.getfield 127, 3) := by decide +kernel
theorem dX7_striker_112 : decode cX7_striker 112 = .ok (.iconst 3, 1) := by decide +kernel
theorem dX7_striker_113 : decode cX7_striker 113 = .ok (.iload_n 3, 1) := by decide +kernel
theorem dX7_striker_114 : decode cX7_striker 114 = .ok (.iastore, 1) := by decide +kernel
theorem dX7_striker_115 : decode cX7_striker 115 = .ok (.aload 7, 2) := by decide +kernel
theorem dX7_striker_117 : decode cX7_striker 117 = .ok (.getfield 127, 3) := by decide +kernel
theorem dX7_striker_120 : decode cX7_striker 120 = .ok (.iconst 4, 1) := by decide +kernel
theorem dX7_striker_121 : decode cX7_striker 121 = .ok (.iload 4, 2) := by decide +kernel
theorem dX7_striker_123 : decode cX7_striker 123 = .ok (.iastore, 1) := by decide +kernel
theorem dX7_striker_124 : decode cX7_striker 124 = .ok (.aload 7, 2) := by decide +kernel
theorem dX7_striker_126 : decode cX7_striker 126 = .ok (.getfield 127, 3) := by decide +kernel
theorem dX7_striker_129 : decode cX7_striker 129 = .ok (.iconst 5, 1) := by decide +kernel
theorem dX7_striker_130 : decode cX7_striker 130 = .ok (.iload 5, 2) := by decide +kernel
theorem dX7_striker_132 : decode cX7_striker 132 = .ok (.iastore, 1) := by decide +kernel
theorem dX7_striker_133 : decode cX7_striker 133 = .ok (.aload 7, 2) := by decide +kernel
theorem dX7_striker_135 : decode cX7_striker 135 = .ok (.invokevirtual 130, 3) := by decide +kernel
theorem dX7_striker_138 : decode cX7_striker 138 = .ok (.aload 7, 2) := by decide +kernel
theorem dX7_striker_140 : decode cX7_striker 140 = .ok (.iload 6, 2) := by decide +kernel
theorem dX7_striker_142 : decode cX7_striker 142 = .ok (.putfield 133, 3) := by decide +kernel
theorem dX7_striker_145 : decode cX7_striker 145 = .ok (.aload_n 0, 1) := by decide +kernel
theorem dX7_striker_146 : decode cX7_striker 146 = .ok (.invokevirtual 136, 3) := by decide +kernel
theorem dX7_striker_149 : decode cX7_striker 149 = .ok (.ireturn, 1) := by decide +kernel
set_option maxRecDepth 20000 in
theorem ggX7_train_X7_isStriker : GoodIn wsX7_train wsX7_isStriker := goodIn_r _ [11, 12, 13, 14, 10, 15, 36, 37, 38, 39, 40, 41, 42, 43, 44] (by decide +kernel) (by decide +kernel)
set_option maxRecDepth 20000 in
theorem gX7_train_X7_isStriker : GoodIn wsX7_train (wsV RX7 140 RX7 yX7_isStriker wsX7_isStriker) := goodIn_app (goodIn_of _ (by decide +kernel)) ggX7_train_X7_isStriker
set_option maxRecDepth 20000 in
theorem ggX7_train_X7_within : GoodIn wsX7_train wsX7_within := goodIn_r _ [15] (by decide +kernel) (by decide +kernel)
set_option maxRecDepth 20000 in
theorem gX7_train_X7_within : GoodIn wsX7_train (va_wsS RX7 73 yX7_within wsX7_within) := goodIn_app (goodIn_of _ (by decide +kernel)) ggX7_train_X7_within
set_option maxRecDepth 20000 in
theorem ggX7_train_X7_isChance : GoodIn wsX7_train wsX7_isChance := goodIn_r _ [18, 13, 14, 10, 15] (by decide +kernel) (by decide +kernel)
set_option maxRecDepth 20000 in
theorem gX7_train_X7_isChance : GoodIn wsX7_train (va_wsS RX7 123 yX7_isChance wsX7_isChance) := goodIn_app (goodIn_of _ (by decide +kernel)) ggX7_train_X7_isChance
set_option maxRecDepth 20000 in
theorem ggX7_train_X6_chanceOrSteals : GoodIn wsX7_train wsX6_chanceOrSteals := goodIn_r _ [23, 24, 25, 45, 46] (by decide +kernel) (by decide +kernel)
set_option maxRecDepth 20000 in
theorem gX7_train_X6_chanceOrSteals : GoodIn wsX7_train (wsV RX7 143 RX6 yX6_chanceOrSteals wsX6_chanceOrSteals) := goodIn_app (goodIn_of _ (by decide +kernel)) ggX7_train_X6_chanceOrSteals
set_option maxRecDepth 20000 in
theorem ggX7_train_X6_giveTheRestToOut : GoodIn wsX7_train wsX6_giveTheRestToOut := goodIn_r _ [29, 25, 45, 46] (by decide +kernel) (by decide +kernel)
set_option maxRecDepth 20000 in
theorem gX7_train_X6_giveTheRestToOut : GoodIn wsX7_train (wsV RX7 130 RX6 yX6_giveTheRestToOut wsX6_giveTheRestToOut) := goodIn_app (goodIn_of _ (by decide +kernel)) ggX7_train_X6_giveTheRestToOut
set_option maxRecDepth 20000 in
theorem ggX7_train_X4_forget : GoodIn wsX7_train wsX4_forget := goodIn_r _ [34, 35, 47, 48, 49, 50, 51, 52, 53, 54] (by decide +kernel) (by decide +kernel)
set_option maxRecDepth 20000 in
theorem gX7_train_X4_forget : GoodIn wsX7_train (wsV RX7 147 RX4 yX4_forget wsX4_forget) := goodIn_app (goodIn_of _ (by decide +kernel)) ggX7_train_X4_forget
theorem dX7_train_0 : decode cX7_train 0 = .ok (.aload_n 0, 1) := by decide +kernel
theorem dX7_train_1 : decode cX7_train 1 = .ok (.iload_n 1, 1) := by decide +kernel
theorem dX7_train_2 : decode cX7_train 2 = .ok (.invokevirtual 140, 3) := by decide +kernel
theorem dX7_train_5 : decode cX7_train 5 = .ok (.ifCond .eq 20, 3) := by decide +kernel
theorem dX7_train_8 : decode cX7_train 8 = .ok (.iload_n 2, 1) := by decide +kernel
theorem dX7_train_9 : decode cX7_train 9 = .ok (.iconst 1, 1) := by decide +kernel
theorem dX7_train_10 : decode cX7_train 10 = .ok (.bipush 6, 2) := by decide +kernel
theorem dX7_train_12 : decode cX7_train 12 = .ok (.invokestatic 73, 3) := by decide +kernel
theorem dX7_train_15 : decode cX7_train 15 = .ok (.ifCond .eq 10, 3) := by decide +kernel
theorem dX7_train_18 : decode cX7_train 18 = .ok (.iload_n 3, 1) := by decide +kernel
theorem dX7_train_19 : decode cX7_train 19 = .ok (.invokestatic 123, 3) := by decide +kernel
theorem dX7_train_22 : decode cX7_train 22 = .ok (.ifCond .ne 6, 3) := by decide +kernel
theorem dX7_train_25 : decode cX7_train 25 = .ok (.ldc 77, 2) := by decide +kernel
theorem dX7_train_27 : decode cX7_train 27 = .ok (.ireturn, 1) := by decide +kernel
theorem dX7_train_28 : decode cX7_train 28 = .ok (.aload_n 0, 1) := by decide +kernel
theorem dX7_train_29 : decode cX7_train 29 = .ok (.getfield 18, 3) := by decide +kernel
theorem dX7_train_32 : decode cX7_train 32 = .ok (.iload_n 1, 1) := by decide +kernel
theorem dX7_train_33 : decode cX7_train 33 = .ok (.aaload, 1) := by decide +kernel
theorem dX7_train_34 : decode cX7_train 34 = .ok (.astore 4, 2) := by decide +kernel
theorem dX7_train_36 : decode cX7_train 36 = .ok (.aload 4, 2) := by decide +kernel
theorem dX7_train_38 : decode cX7_train 38 = .ok (.iload_n 2, 1) := by decide +kernel
theorem dX7_train_39 : decode cX7_train 39 = .ok (.invokevirtual 143, 3) := by decide +kernel
theorem dX7_train_42 : decode cX7_train 42 = .ok (.istore 5, 2) := by decide +kernel
theorem dX7_train_44 : decode cX7_train 44 = .ok (.iload_n 2, 1) := by decide +kernel
theorem dX7_train_45 : decode cX7_train 45 = .ok (.bipush 6, 2) := by decide +kernel
theorem dX7_train_47 : decode cX7_train 47 = .ok (.if_icmp .ne 12, 3) := by decide +kernel
theorem dX7_train_50 : decode cX7_train 50 = .ok (.aload 4, 2) := by decide +kernel
theorem dX7_train_52 : decode cX7_train 52 = .ok (.iload_n 3, 1) := by decide +kernel
theorem dX7_train_53 : decode cX7_train 53 = .ok (.putfield 133, 3) := by decide +kernel
theorem dX7_train_56 : decode cX7_train 56 = .ok (.goto 33, 3) := by decide +kernel
theorem dX7_train_59 : decode cX7_train 59 = .ok (.iload_n 3, 1) := by decide +kernel
theorem dX7_train_60 : decode cX7_train 60 = .ok (.iload 5, 2) := by decide +kernel
theorem dX7_train_62 : decode cX7_train 62 = .ok (.isub, 1) := by decide +kernel
theorem dX7_train_63 : decode cX7_train 63 = .ok (.aload 4, 2) := by decide +kernel
theorem dX7_train_65 : decode cX7_train 65 = .ok (.getfield 127, 3) := by decide +kernel
theorem dX7_train_68 : decode cX7_train 68 = .ok (.iconst 0, 1) := by decide +kernel
theorem dX7_train_69 : decode cX7_train 69 = .ok (.iaload, 1) := by decide +kernel
theorem dX7_train_70 : decode cX7_train 70 = .ok (.if_icmp .le 6, 3) := by decide +kernel
theorem dX7_train_73 : decode cX7_train 73 = .ok (.ldc 146, 2) := by decide +kernel
theorem dX7_train_75 : decode cX7_train 75 = .ok (.ireturn, 1) := by decide +kernel
theorem dX7_train_76 : decode cX7_train 76 = .ok (.aload 4, 2) := by decide +kernel
theorem dX7_train_78 : decode cX7_train 78 = .ok (.getfield 127, 3) := by decide +kernel
theorem dX7_train_81 : decode cX7_train 81 = .ok (.iload_n 2, 1) := by decide +kernel
theorem dX7_train_82 : decode cX7_train 82 = .ok (.iload_n 3, 1) := by decide +kernel
theorem dX7_train_83 : decode cX7_train 83 = .ok (.iastore, 1) := by decide +kernel
theorem dX7_train_84 : decode cX7_train 84 = .ok (.aload 4, 2) := by decide +kernel
theorem dX7_train_86 : decode cX7_train 86 = .ok (.invokevirtual 130, 3) := by decide +kernel
theorem dX7_train_89 : decode cX7_train 89 = .ok (.aload_n 0, 1) := by decide +kernel
theorem dX7_train_90 : decode cX7_train 90 = .ok (.getfield 46, 3) := by decide +kernel
theorem dX7_train_93 : decode cX7_train 93 = .ok (.invokevirtual 147, 3) := by decide +kernel
theorem dX7_train_96 : decode cX7_train 96 = .ok (.iload 5, 2) := by decide +kernel
theorem dX7_train_98 : decode cX7_train 98 = .ok (.ireturn, 1) := by decide +kernel
set_option maxRecDepth 20000 in
theorem ggX7_chance_X7_isStriker : GoodIn wsX7_chance wsX7_isStriker := goodIn_r _ [7, 8, 9, 10, 6, 11, 19, 20, 21, 22, 23, 24, 25, 26, 27] (by decide +kernel) (by decide +kernel)
set_option maxRecDepth 20000 in
theorem gX7_chance_X7_isStriker : GoodIn wsX7_chance (wsV RX7 140 RX7 yX7_isStriker wsX7_isStriker) := goodIn_app (goodIn_of _ (by decide +kernel)) ggX7_chance_X7_isStriker
set_option maxRecDepth 20000 in
theorem ggX7_chance_X7_within : GoodIn wsX7_chance wsX7_within := goodIn_r _ [11] (by decide +kernel) (by decide +kernel)
set_option maxRecDepth 20000 in
theorem gX7_chance_X7_within : GoodIn wsX7_chance (va_wsS RX7 73 yX7_within wsX7_within) := goodIn_app (goodIn_of _ (by decide +kernel)) ggX7_chance_X7_within
set_option maxRecDepth 20000 in
theorem ggX7_chance_X6_chanceOrSteals : GoodIn wsX7_chance wsX6_chanceOrSteals := goodIn_r _ [16, 17, 18, 28, 29] (by decide +kernel) (by decide +kernel)
set_option maxRecDepth 20000 in
theorem gX7_chance_X6_chanceOrSteals : GoodIn wsX7_chance (wsV RX7 143 RX6 yX6_chanceOrSteals wsX6_chanceOrSteals) := goodIn_app (goodIn_of _ (by decide +kernel)) ggX7_chance_X6_chanceOrSteals
theorem dX7_chance_0 : decode cX7_chance 0 = .ok (.aload_n 0, 1) := by decide +kernel
theorem dX7_chance_1 : decode cX7_chance 1 = .ok (.iload_n 1, 1) := by decide +kernel
theorem dX7_chance_2 : decode cX7_chance 2 = .ok (.invokevirtual 140, 3) := by decide +kernel
theorem dX7_chance_5 : decode cX7_chance 5 = .ok (.ifCond .eq 13, 3) := by decide +kernel
theorem dX7_chance_8 : decode cX7_chance 8 = .ok (.iload_n 2, 1) := by decide +kernel
theorem dX7_chance_9 : decode cX7_chance 9 = .ok (.iconst 0, 1) := by decide +kernel
theorem dX7_chance_10 : decode cX7_chance 10 = .ok (.bipush 6, 2) := by decide +kernel
theorem dX7_chance_12 : decode cX7_chance 12 = .ok (.invokestatic 73, 3) := by decide +kernel
theorem dX7_chance_15 : decode cX7_chance 15 = .ok (.ifCond .ne 6, 3) := by decide +kernel
theorem dX7_chance_18 : decode cX7_chance 18 = .ok (.ldc 77, 2) := by decide +kernel
theorem dX7_chance_20 : decode cX7_chance 20 = .ok (.ireturn, 1) := by decide +kernel
theorem dX7_chance_21 : decode cX7_chance 21 = .ok (.aload_n 0, 1) := by decide +kernel
theorem dX7_chance_22 : decode cX7_chance 22 = .ok (.getfield 18, 3) := by decide +kernel
theorem dX7_chance_25 : decode cX7_chance 25 = .ok (.iload_n 1, 1) := by decide +kernel
theorem dX7_chance_26 : decode cX7_chance 26 = .ok (.aaload, 1) := by decide +kernel
theorem dX7_chance_27 : decode cX7_chance 27 = .ok (.iload_n 2, 1) := by decide +kernel
theorem dX7_chance_28 : decode cX7_chance 28 = .ok (.invokevirtual 143, 3) := by decide +kernel
theorem dX7_chance_31 : decode cX7_chance 31 = .ok (.ireturn, 1) := by decide +kernel
set_option maxRecDepth 20000 in
theorem ggX7_order_X7_isSheet : GoodIn wsX7_order wsX7_isSheet := goodIn_r _ [9, 10, 11, 8, 12] (by decide +kernel) (by decide +kernel)
set_option maxRecDepth 20000 in
theorem gX7_order_X7_isSheet : GoodIn wsX7_order (va_wsS RX7 69 yX7_isSheet wsX7_isSheet) := goodIn_app (goodIn_of _ (by decide +kernel)) ggX7_order_X7_isSheet
set_option maxRecDepth 20000 in
theorem ggX7_order_X7_within : GoodIn wsX7_order wsX7_within := goodIn_r _ [12] (by decide +kernel) (by decide +kernel)
set_option maxRecDepth 20000 in
theorem gX7_order_X7_within : GoodIn wsX7_order (va_wsS RX7 73 yX7_within wsX7_within) := goodIn_app (goodIn_of _ (by decide +kernel)) ggX7_order_X7_within
set_option maxRecDepth 20000 in
theorem ggX7_order_X7_found : GoodIn wsX7_order wsX7_found := goodIn_r _ [16, 17, 18, 45, 46, 47, 48, 49, 50, 51, 52, 53] (by decide +kernel) (by decide +kernel)
set_option maxRecDepth 20000 in
theorem gX7_order_X7_found : GoodIn wsX7_order (wsV RX7 78 RX7 yX7_found wsX7_found) := goodIn_app (goodIn_of _ (by decide +kernel)) ggX7_order_X7_found
set_option maxRecDepth 20000 in
theorem ggX7_order_X5_holds : GoodIn wsX7_order wsX5_holds := goodIn_r _ [23, 24, 54, 55, 56, 57] (by decide +kernel) (by decide +kernel)
set_option maxRecDepth 20000 in
theorem gX7_order_X5_holds : GoodIn wsX7_order (wsV RX7 93 RX5 yX5_holds wsX5_holds) := goodIn_app (goodIn_of _ (by decide +kernel)) ggX7_order_X5_holds
set_option maxRecDepth 20000 in
theorem ggX7_order_X7_isStriker : GoodIn wsX7_order wsX7_isStriker := goodIn_r _ [28, 29, 10, 11, 8, 12, 45, 46, 47, 48, 49, 50, 51, 52, 53] (by decide +kernel) (by decide +kernel)
set_option maxRecDepth 20000 in
theorem gX7_order_X7_isStriker : GoodIn wsX7_order (wsV RX7 140 RX7 yX7_isStriker wsX7_isStriker) := goodIn_app (goodIn_of _ (by decide +kernel)) ggX7_order_X7_isStriker
set_option maxRecDepth 20000 in
theorem ggX7_order_X2_take : GoodIn wsX7_order wsX2_take := goodIn_r _ [34, 35, 36, 37, 38, 39, 40, 58, 59, 60, 61, 62, 63, 64, 65, 66] (by decide +kernel) (by decide +kernel)
set_option maxRecDepth 20000 in
theorem gX7_order_X2_take : GoodIn wsX7_order (wsV RX7 150 RX2 yX2_take wsX2_take) := goodIn_app (goodIn_of _ (by decide +kernel)) ggX7_order_X2_take
set_option maxRecDepth 20000 in
theorem ggX7_order_X7_fine : GoodIn wsX7_order wsX7_fine := goodIn_r _ [44, 17, 45, 46, 47, 48, 49, 50, 51, 52, 53] (by decide +kernel) (by decide +kernel)
set_option maxRecDepth 20000 in
theorem gX7_order_X7_fine : GoodIn wsX7_order (wsV RX7 86 RX7 yX7_fine wsX7_fine) := goodIn_app (goodIn_of _ (by decide +kernel)) ggX7_order_X7_fine
