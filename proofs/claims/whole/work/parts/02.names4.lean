theorem dX7_order_0 : decode cX7_order 0 = .ok (.iload_n 1, 1) := by decide +kernel
theorem dX7_order_1 : decode cX7_order 1 = .ok (.invokestatic 69, 3) := by decide +kernel
theorem dX7_order_4 : decode cX7_order 4 = .ok (.ifCond .eq 13, 3) := by decide +kernel
theorem dX7_order_7 : decode cX7_order 7 = .ok (.iload_n 3, 1) := by decide +kernel
theorem dX7_order_8 : decode cX7_order 8 = .ok (.iconst 1, 1) := by decide +kernel
theorem dX7_order_9 : decode cX7_order 9 = .ok (.bipush 9, 2) := by decide +kernel
theorem dX7_order_11 : decode cX7_order 11 = .ok (.invokestatic 73, 3) := by decide +kernel
theorem dX7_order_14 : decode cX7_order 14 = .ok (.ifCond .ne 6, 3) := by decide +kernel
theorem dX7_order_17 : decode cX7_order 17 = .ok (.ldc 77, 2) := by decide +kernel
theorem dX7_order_19 : decode cX7_order 19 = .ok (.ireturn, 1) := by decide +kernel
theorem dX7_order_20 : decode cX7_order 20 = .ok (.aload_n 0, 1) := by decide +kernel
theorem dX7_order_21 : decode cX7_order 21 = .ok (.getfield 11, 3) := by decide +kernel
theorem dX7_order_24 : decode cX7_order 24 = .ok (.iload_n 1, 1) := by decide +kernel
theorem dX7_order_25 : decode cX7_order 25 = .ok (.aaload, 1) := by decide +kernel
theorem dX7_order_26 : decode cX7_order 26 = .ok (.astore 4, 2) := by decide +kernel
theorem dX7_order_28 : decode cX7_order 28 = .ok (.aload 4, 2) := by decide +kernel
theorem dX7_order_30 : decode cX7_order 30 = .ok (.getfield 89, 3) := by decide +kernel
theorem dX7_order_33 : decode cX7_order 33 = .ok (.ifCond .eq 9, 3) := by decide +kernel
theorem dX7_order_36 : decode cX7_order 36 = .ok (.aload_n 0, 1) := by decide +kernel
theorem dX7_order_37 : decode cX7_order 37 = .ok (.iconst 1, 1) := by decide +kernel
theorem dX7_order_38 : decode cX7_order 38 = .ok (.invokevirtual 78, 3) := by decide +kernel
theorem dX7_order_41 : decode cX7_order 41 = .ok (.ireturn, 1) := by decide +kernel
theorem dX7_order_42 : decode cX7_order 42 = .ok (.aload 4, 2) := by decide +kernel
theorem dX7_order_44 : decode cX7_order 44 = .ok (.iload_n 2, 1) := by decide +kernel
theorem dX7_order_45 : decode cX7_order 45 = .ok (.iload_n 3, 1) := by decide +kernel
theorem dX7_order_46 : decode cX7_order 46 = .ok (.invokevirtual 93, 3) := by decide +kernel
theorem dX7_order_49 : decode cX7_order 49 = .ok (.ifCond .ne 9, 3) := by decide +kernel
theorem dX7_order_52 : decode cX7_order 52 = .ok (.aload_n 0, 1) := by decide +kernel
theorem dX7_order_53 : decode cX7_order 53 = .ok (.iconst 2, 1) := by decide +kernel
theorem dX7_order_54 : decode cX7_order 54 = .ok (.invokevirtual 78, 3) := by decide +kernel
theorem dX7_order_57 : decode cX7_order 57 = .ok (.ireturn, 1) := by decide +kernel
theorem dX7_order_58 : decode cX7_order 58 = .ok (.iconst 0, 1) := by decide +kernel
theorem dX7_order_59 : decode cX7_order 59 = .ok (.istore 5, 2) := by decide +kernel
theorem dX7_order_61 : decode cX7_order 61 = .ok (.iload 5, 2) := by decide +kernel
theorem dX7_order_63 : decode cX7_order 63 = .ok (.iload_n 3, 1) := by decide +kernel
theorem dX7_order_64 : decode cX7_order 64 = .ok (.if_icmp .ge 29, 3) := by decide +kernel
theorem dX7_order_67 : decode cX7_order 67 = .ok (.aload_n 0, 1) := by decide +kernel
theorem dX7_order_68 : decode cX7_order 68 = .ok (.aload 4, 2) := by decide +kernel
theorem dX7_order_70 : decode cX7_order 70 = .ok (.getfield 97, 3) := by decide +kernel
theorem dX7_order_73 : decode cX7_order 73 = .ok (.iload_n 2, 1) := by decide +kernel
theorem dX7_order_74 : decode cX7_order 74 = .ok (.iload 5, 2) := by decide +kernel
theorem dX7_order_76 : decode cX7_order 76 = .ok (.iadd, 1) := by decide +kernel
theorem dX7_order_77 : decode cX7_order 77 = .ok (.iaload, 1) := by decide +kernel
theorem dX7_order_78 : decode cX7_order 78 = .ok (.invokevirtual 140, 3) := by decide +kernel
theorem dX7_order_81 : decode cX7_order 81 = .ok (.ifCond .ne 6, 3) := by decide +kernel
theorem dX7_order_84 : decode cX7_order 84 = .ok (.ldc 77, 2) := by decide +kernel
theorem dX7_order_86 : decode cX7_order 86 = .ok (.ireturn, 1) := by decide +kernel
theorem dX7_order_87 : decode cX7_order 87 = .ok (.iinc 5 1, 3) := by decide +kernel
theorem dX7_order_90 : decode cX7_order 90 = .ok (.goto (-29), 3) := by decide +kernel
theorem dX7_order_93 : decode cX7_order 93 = .ok (.aload_n 0, 1) := by decide +kernel
theorem dX7_order_94 : decode cX7_order 94 = .ok (.getfield 39, 3) := by decide +kernel
theorem dX7_order_97 : decode cX7_order 97 = .ok (.aload 4, 2) := by decide +kernel
theorem dX7_order_99 : decode cX7_order 99 = .ok (.getfield 97, 3) := by decide +kernel
theorem dX7_order_102 : decode cX7_order 102 = .ok (.iload_n 2, 1) := by decide +kernel
theorem dX7_order_103 : decode cX7_order 103 = .ok (.iload_n 3, 1) := by decide +kernel
theorem dX7_order_104 : decode cX7_order 104 = .ok (.invokevirtual 150, 3) := by decide +kernel
theorem dX7_order_107 : decode cX7_order 107 = .ok (.aload_n 0, 1) := by decide +kernel
theorem dX7_order_108 : decode cX7_order 108 = .ok (.iload_n 3, 1) := by decide +kernel
theorem dX7_order_109 : decode cX7_order 109 = .ok (.invokevirtual 86, 3) := by decide +kernel
theorem dX7_order_112 : decode cX7_order 112 = .ok (.ireturn, 1) := by decide +kernel
set_option maxRecDepth 20000 in
theorem ggX7_striking_X7_isPlace : GoodIn wsX7_striking wsX7_isPlace := goodIn_r _ [10, 2, 3, 11, 12, 9, 13, 14, 15, 16, 17, 18, 19, 20, 21, 22, 23, 24, 25, 26, 27, 28, 29, 30, 31] (by decide +kernel) (by decide +kernel)
set_option maxRecDepth 20000 in
theorem gX7_striking_X7_isPlace : GoodIn wsX7_striking (wsV RX7 158 RX7 yX7_isPlace wsX7_isPlace) := goodIn_app (goodIn_of _ (by decide +kernel)) ggX7_striking_X7_isPlace
theorem dX7_striking_0 : decode cX7_striking 0 = .ok (.iload_n 1, 1) := by decide +kernel
theorem dX7_striking_1 : decode cX7_striking 1 = .ok (.ldc 154, 2) := by decide +kernel
theorem dX7_striking_3 : decode cX7_striking 3 = .ok (.if_icmp .ne 11, 3) := by decide +kernel
theorem dX7_striking_6 : decode cX7_striking 6 = .ok (.aload_n 0, 1) := by decide +kernel
theorem dX7_striking_7 : decode cX7_striking 7 = .ok (.getfield 39, 3) := by decide +kernel
theorem dX7_striking_10 : decode cX7_striking 10 = .ok (.getfield 155, 3) := by decide +kernel
theorem dX7_striking_13 : decode cX7_striking 13 = .ok (.ireturn, 1) := by decide +kernel
theorem dX7_striking_14 : decode cX7_striking 14 = .ok (.aload_n 0, 1) := by decide +kernel
theorem dX7_striking_15 : decode cX7_striking 15 = .ok (.iload_n 1, 1) := by decide +kernel
theorem dX7_striking_16 : decode cX7_striking 16 = .ok (.invokevirtual 158, 3) := by decide +kernel
theorem dX7_striking_19 : decode cX7_striking 19 = .ok (.ifCond .eq 15, 3) := by decide +kernel
theorem dX7_striking_22 : decode cX7_striking 22 = .ok (.aload_n 0, 1) := by decide +kernel
theorem dX7_striking_23 : decode cX7_striking 23 = .ok (.getfield 39, 3) := by decide +kernel
theorem dX7_striking_26 : decode cX7_striking 26 = .ok (.getfield 161, 3) := by decide +kernel
theorem dX7_striking_29 : decode cX7_striking 29 = .ok (.iload_n 1, 1) := by decide +kernel
theorem dX7_striking_30 : decode cX7_striking 30 = .ok (.iaload, 1) := by decide +kernel
theorem dX7_striking_31 : decode cX7_striking 31 = .ok (.goto 5, 3) := by decide +kernel
theorem dX7_striking_34 : decode cX7_striking 34 = .ok (.ldc 77, 2) := by decide +kernel
theorem dX7_striking_36 : decode cX7_striking 36 = .ok (.ireturn, 1) := by decide +kernel
set_option maxRecDepth 20000 in
theorem ggX7_mean_X7_within : GoodIn wsX7_mean wsX7_within := goodIn_r _ [6] (by decide +kernel) (by decide +kernel)
set_option maxRecDepth 20000 in
theorem gX7_mean_X7_within : GoodIn wsX7_mean (va_wsS RX7 73 yX7_within wsX7_within) := goodIn_app (goodIn_of _ (by decide +kernel)) ggX7_mean_X7_within
set_option maxRecDepth 20000 in
theorem ggX7_mean_X7_isPlace : GoodIn wsX7_mean wsX7_isPlace := goodIn_r _ [10, 2, 11, 3, 4, 5, 6, 44, 45, 46, 47, 48, 49, 50, 51, 52, 53, 54, 55, 56, 57, 58, 59, 60, 61] (by decide +kernel) (by decide +kernel)
set_option maxRecDepth 20000 in
theorem gX7_mean_X7_isPlace : GoodIn wsX7_mean (wsV RX7 158 RX7 yX7_isPlace wsX7_isPlace) := goodIn_app (goodIn_of _ (by decide +kernel)) ggX7_mean_X7_isPlace
set_option maxRecDepth 20000 in
theorem ggX7_mean_X2_meanFrom : GoodIn wsX7_mean wsX2_meanFrom := goodIn_r _ [16, 17, 18, 19, 20, 15, 21, 22, 23, 24, 25, 26, 27, 28, 29, 30, 31, 32, 33, 34, 35, 36, 37, 38, 39, 40, 41, 42, 43, 53, 54, 55, 56, 57, 58, 59, 60, 61, 62, 63, 64, 65] (by decide +kernel) (by decide +kernel)
set_option maxRecDepth 20000 in
theorem gX7_mean_X2_meanFrom : GoodIn wsX7_mean (wsV RX7 164 RX2 yX2_meanFrom wsX2_meanFrom) := goodIn_app (goodIn_of _ (by decide +kernel)) ggX7_mean_X2_meanFrom
theorem dX7_mean_0 : decode cX7_mean 0 = .ok (.iload_n 1, 1) := by decide +kernel
theorem dX7_mean_1 : decode cX7_mean 1 = .ok (.iconst 0, 1) := by decide +kernel
theorem dX7_mean_2 : decode cX7_mean 2 = .ok (.bipush 24, 2) := by decide +kernel
theorem dX7_mean_4 : decode cX7_mean 4 = .ok (.invokestatic 73, 3) := by decide +kernel
theorem dX7_mean_7 : decode cX7_mean 7 = .ok (.ifCond .eq 21, 3) := by decide +kernel
theorem dX7_mean_10 : decode cX7_mean 10 = .ok (.aload_n 0, 1) := by decide +kernel
theorem dX7_mean_11 : decode cX7_mean 11 = .ok (.iload_n 2, 1) := by decide +kernel
theorem dX7_mean_12 : decode cX7_mean 12 = .ok (.invokevirtual 158, 3) := by decide +kernel
theorem dX7_mean_15 : decode cX7_mean 15 = .ok (.ifCond .eq 13, 3) := by decide +kernel
theorem dX7_mean_18 : decode cX7_mean 18 = .ok (.iload_n 3, 1) := by decide +kernel
theorem dX7_mean_19 : decode cX7_mean 19 = .ok (.iconst 0, 1) := by decide +kernel
theorem dX7_mean_20 : decode cX7_mean 20 = .ok (.bipush 30, 2) := by decide +kernel
theorem dX7_mean_22 : decode cX7_mean 22 = .ok (.invokestatic 73, 3) := by decide +kernel
theorem dX7_mean_25 : decode cX7_mean 25 = .ok (.ifCond .ne 6, 3) := by decide +kernel
theorem dX7_mean_28 : decode cX7_mean 28 = .ok (.ldc 77, 2) := by decide +kernel
theorem dX7_mean_30 : decode cX7_mean 30 = .ok (.ireturn, 1) := by decide +kernel
theorem dX7_mean_31 : decode cX7_mean 31 = .ok (.aload_n 0, 1) := by decide +kernel
theorem dX7_mean_32 : decode cX7_mean 32 = .ok (.getfield 39, 3) := by decide +kernel
theorem dX7_mean_35 : decode cX7_mean 35 = .ok (.iload_n 1, 1) := by decide +kernel
theorem dX7_mean_36 : decode cX7_mean 36 = .ok (.iload_n 2, 1) := by decide +kernel
theorem dX7_mean_37 : decode cX7_mean 37 = .ok (.iload_n 3, 1) := by decide +kernel
theorem dX7_mean_38 : decode cX7_mean 38 = .ok (.invokevirtual 164, 3) := by decide +kernel
theorem dX7_mean_41 : decode cX7_mean 41 = .ok (.ireturn, 1) := by decide +kernel
set_option maxRecDepth 20000 in
theorem ggX7_likely_X7_within : GoodIn wsX7_likely wsX7_within := goodIn_r _ [6] (by decide +kernel) (by decide +kernel)
set_option maxRecDepth 20000 in
theorem gX7_likely_X7_within : GoodIn wsX7_likely (va_wsS RX7 73 yX7_within wsX7_within) := goodIn_app (goodIn_of _ (by decide +kernel)) ggX7_likely_X7_within
set_option maxRecDepth 20000 in
theorem ggX7_likely_X7_isPlace : GoodIn wsX7_likely wsX7_isPlace := goodIn_r _ [10, 2, 11, 3, 4, 5, 6, 52, 53, 54, 55, 56, 57, 58, 59, 60, 61, 62, 63, 64, 65, 66, 67, 68, 69] (by decide +kernel) (by decide +kernel)
set_option maxRecDepth 20000 in
theorem gX7_likely_X7_isPlace : GoodIn wsX7_likely (wsV RX7 158 RX7 yX7_isPlace wsX7_isPlace) := goodIn_app (goodIn_of _ (by decide +kernel)) ggX7_likely_X7_isPlace
set_option maxRecDepth 20000 in
theorem ggX7_likely_X2_likelyFrom : GoodIn wsX7_likely wsX2_likelyFrom := goodIn_r _ [16, 17, 18, 19, 20, 21, 15, 22, 23, 24, 25, 26, 27, 28, 29, 30, 31, 32, 33, 34, 35, 36, 37, 38, 39, 40, 41, 42, 43, 44, 45, 46, 47, 48, 49, 50, 51, 61, 62, 63, 64, 65, 66, 67, 68, 69, 70, 71, 72, 73] (by decide +kernel) (by decide +kernel)
set_option maxRecDepth 20000 in
theorem gX7_likely_X2_likelyFrom : GoodIn wsX7_likely (wsV RX7 168 RX2 yX2_likelyFrom wsX2_likelyFrom) := goodIn_app (goodIn_of _ (by decide +kernel)) ggX7_likely_X2_likelyFrom
theorem dX7_likely_0 : decode cX7_likely 0 = .ok (.iload_n 1, 1) := by decide +kernel
theorem dX7_likely_1 : decode cX7_likely 1 = .ok (.iconst 0, 1) := by decide +kernel
theorem dX7_likely_2 : decode cX7_likely 2 = .ok (.bipush 24, 2) := by decide +kernel
theorem dX7_likely_4 : decode cX7_likely 4 = .ok (.invokestatic 73, 3) := by decide +kernel
theorem dX7_likely_7 : decode cX7_likely 7 = .ok (.ifCond .eq 32, 3) := by decide +kernel
theorem dX7_likely_10 : decode cX7_likely 10 = .ok (.aload_n 0, 1) := by decide +kernel
theorem dX7_likely_11 : decode cX7_likely 11 = .ok (.iload_n 2, 1) := by decide +kernel
theorem dX7_likely_12 : decode cX7_likely 12 = .ok (.invokevirtual 158, 3) := by decide +kernel
theorem dX7_likely_15 : decode cX7_likely 15 = .ok (.ifCond .eq 24, 3) := by decide +kernel
theorem dX7_likely_18 : decode cX7_likely 18 = .ok (.iload_n 3, 1) := by decide +kernel
theorem dX7_likely_19 : decode cX7_likely 19 = .ok (.iconst 0, 1) := by decide +kernel
theorem dX7_likely_20 : decode cX7_likely 20 = .ok (.bipush 30, 2) := by decide +kernel
theorem dX7_likely_22 : decode cX7_likely 22 = .ok (.invokestatic 73, 3) := by decide +kernel
theorem dX7_likely_25 : decode cX7_likely 25 = .ok (.ifCond .eq 14, 3) := by decide +kernel
theorem dX7_likely_28 : decode cX7_likely 28 = .ok (.iload 4, 2) := by decide +kernel
theorem dX7_likely_30 : decode cX7_likely 30 = .ok (.iconst 0, 1) := by decide +kernel
theorem dX7_likely_31 : decode cX7_likely 31 = .ok (.bipush 9, 2) := by decide +kernel
theorem dX7_likely_33 : decode cX7_likely 33 = .ok (.invokestatic 73, 3) := by decide +kernel
theorem dX7_likely_36 : decode cX7_likely 36 = .ok (.ifCond .ne 6, 3) := by decide +kernel
theorem dX7_likely_39 : decode cX7_likely 39 = .ok (.ldc 77, 2) := by decide +kernel
theorem dX7_likely_41 : decode cX7_likely 41 = .ok (.ireturn, 1) := by decide +kernel
theorem dX7_likely_42 : decode cX7_likely 42 = .ok (.aload_n 0, 1) := by decide +kernel
theorem dX7_likely_43 : decode cX7_likely 43 = .ok (.getfield 39, 3) := by decide +kernel
theorem dX7_likely_46 : decode cX7_likely 46 = .ok (.iload_n 1, 1) := by decide +kernel
theorem dX7_likely_47 : decode cX7_likely 47 = .ok (.iload_n 2, 1) := by decide +kernel
theorem dX7_likely_48 : decode cX7_likely 48 = .ok (.iload_n 3, 1) := by decide +kernel
theorem dX7_likely_49 : decode cX7_likely 49 = .ok (.iload 4, 2) := by decide +kernel
theorem dX7_likely_51 : decode cX7_likely 51 = .ok (.invokevirtual 168, 3) := by decide +kernel
theorem dX7_likely_54 : decode cX7_likely 54 = .ok (.ireturn, 1) := by decide +kernel
set_option maxRecDepth 20000 in
theorem ggX7_worth_X7_within : GoodIn wsX7_worth wsX7_within := goodIn_r _ [6] (by decide +kernel) (by decide +kernel)
set_option maxRecDepth 20000 in
theorem gX7_worth_X7_within : GoodIn wsX7_worth (va_wsS RX7 73 yX7_within wsX7_within) := goodIn_app (goodIn_of _ (by decide +kernel)) ggX7_worth_X7_within
set_option maxRecDepth 20000 in
theorem ggX7_worth_X7_isPlace : GoodIn wsX7_worth wsX7_isPlace := goodIn_r _ [10, 2, 11, 3, 4, 5, 6, 55, 56, 57, 58, 59, 60, 61, 62, 63, 64, 65, 66, 67, 68, 69, 70, 71, 72] (by decide +kernel) (by decide +kernel)
set_option maxRecDepth 20000 in
theorem gX7_worth_X7_isPlace : GoodIn wsX7_worth (wsV RX7 158 RX7 yX7_isPlace wsX7_isPlace) := goodIn_app (goodIn_of _ (by decide +kernel)) ggX7_worth_X7_isPlace
set_option maxRecDepth 20000 in
theorem ggX7_worth_X2_worthOf : GoodIn wsX7_worth wsX2_worthOf := goodIn_r _ [16, 17, 18, 19, 20, 21, 22, 23, 15, 24, 25, 26, 27, 28, 29, 30, 31, 32, 33, 34, 35, 36, 37, 38, 39, 40, 41, 42, 43, 44, 45, 46, 47, 48, 49, 50, 51, 52, 53, 54, 64, 65, 66, 67, 68, 69, 70, 71, 72, 73, 74, 75, 76] (by decide +kernel) (by decide +kernel)
set_option maxRecDepth 20000 in
theorem gX7_worth_X2_worthOf : GoodIn wsX7_worth (wsV RX7 172 RX2 yX2_worthOf wsX2_worthOf) := goodIn_app (goodIn_of _ (by decide +kernel)) ggX7_worth_X2_worthOf
theorem dX7_worth_0 : decode cX7_worth 0 = .ok (.iload_n 1, 1) := by decide +kernel
theorem dX7_worth_1 : decode cX7_worth 1 = .ok (.iconst 0, 1) := by decide +kernel
theorem dX7_worth_2 : decode cX7_worth 2 = .ok (.bipush 23, 2) := by decide +kernel
theorem dX7_worth_4 : decode cX7_worth 4 = .ok (.invokestatic 73, 3) := by decide +kernel
theorem dX7_worth_7 : decode cX7_worth 7 = .ok (.ifCond .eq 32, 3) := by decide +kernel
theorem dX7_worth_10 : decode cX7_worth 10 = .ok (.iload_n 2, 1) := by decide +kernel
theorem dX7_worth_11 : decode cX7_worth 11 = .ok (.iconst 0, 1) := by decide +kernel
theorem dX7_worth_12 : decode cX7_worth 12 = .ok (.bipush 6, 2) := by decide +kernel
theorem dX7_worth_14 : decode cX7_worth 14 = .ok (.invokestatic 73, 3) := by decide +kernel
theorem dX7_worth_17 : decode cX7_worth 17 = .ok (.ifCond .eq 22, 3) := by decide +kernel
theorem dX7_worth_20 : decode cX7_worth 20 = .ok (.aload_n 0, 1) := by decide +kernel
theorem dX7_worth_21 : decode cX7_worth 21 = .ok (.iload_n 3, 1) := by decide +kernel
theorem dX7_worth_22 : decode cX7_worth 22 = .ok (.invokevirtual 158, 3) := by decide +kernel
theorem dX7_worth_25 : decode cX7_worth 25 = .ok (.ifCond .eq 14, 3) := by decide +kernel
theorem dX7_worth_28 : decode cX7_worth 28 = .ok (.iload 4, 2) := by decide +kernel
theorem dX7_worth_30 : decode cX7_worth 30 = .ok (.iconst 1, 1) := by decide +kernel
theorem dX7_worth_31 : decode cX7_worth 31 = .ok (.bipush 30, 2) := by decide +kernel
theorem dX7_worth_33 : decode cX7_worth 33 = .ok (.invokestatic 73, 3) := by decide +kernel
theorem dX7_worth_36 : decode cX7_worth 36 = .ok (.ifCond .ne 6, 3) := by decide +kernel
theorem dX7_worth_39 : decode cX7_worth 39 = .ok (.ldc 77, 2) := by decide +kernel
theorem dX7_worth_41 : decode cX7_worth 41 = .ok (.ireturn, 1) := by decide +kernel
theorem dX7_worth_42 : decode cX7_worth 42 = .ok (.aload_n 0, 1) := by decide +kernel
theorem dX7_worth_43 : decode cX7_worth 43 = .ok (.getfield 39, 3) := by decide +kernel
theorem dX7_worth_46 : decode cX7_worth 46 = .ok (.iload_n 1, 1) := by decide +kernel
theorem dX7_worth_47 : decode cX7_worth 47 = .ok (.iload_n 2, 1) := by decide +kernel
theorem dX7_worth_48 : decode cX7_worth 48 = .ok (.iload_n 3, 1) := by decide +kernel
theorem dX7_worth_49 : decode cX7_worth 49 = .ok (.iload 4, 2) := by decide +kernel
theorem dX7_worth_51 : decode cX7_worth 51 = .ok (.invokevirtual 172, 3) := by decide +kernel
theorem dX7_worth_54 : decode cX7_worth 54 = .ok (.ireturn, 1) := by decide +kernel
set_option maxRecDepth 20000 in
theorem ggX7_rate_X2_rateNow : GoodIn wsX7_rate wsX2_rateNow := goodIn_r _ [8, 9, 10, 11, 12, 7, 13, 14, 15, 16, 17, 18, 19, 20, 21, 22, 23, 24, 25, 26, 27, 28, 29, 30, 31, 32, 33, 34, 35, 36, 37, 38, 39, 49, 50, 51, 52, 53, 54, 55, 56, 57, 58, 59, 60, 61] (by decide +kernel) (by decide +kernel)
set_option maxRecDepth 20000 in
theorem gX7_rate_X2_rateNow : GoodIn wsX7_rate (wsV RX7 175 RX2 yX2_rateNow wsX2_rateNow) := goodIn_app (goodIn_of _ (by decide +kernel)) ggX7_rate_X2_rateNow
theorem dX7_rate_0 : decode cX7_rate 0 = .ok (.aload_n 0, 1) := by decide +kernel
theorem dX7_rate_1 : decode cX7_rate 1 = .ok (.getfield 39, 3) := by decide +kernel
theorem dX7_rate_4 : decode cX7_rate 4 = .ok (.getfield 155, 3) := by decide +kernel
theorem dX7_rate_7 : decode cX7_rate 7 = .ok (.ifCond .ne 6, 3) := by decide +kernel
theorem dX7_rate_10 : decode cX7_rate 10 = .ok (.ldc 146, 2) := by decide +kernel
theorem dX7_rate_12 : decode cX7_rate 12 = .ok (.ireturn, 1) := by decide +kernel
theorem dX7_rate_13 : decode cX7_rate 13 = .ok (.aload_n 0, 1) := by decide +kernel
theorem dX7_rate_14 : decode cX7_rate 14 = .ok (.getfield 39, 3) := by decide +kernel
theorem dX7_rate_17 : decode cX7_rate 17 = .ok (.invokevirtual 175, 3) := by decide +kernel
theorem dX7_rate_20 : decode cX7_rate 20 = .ok (.ireturn, 1) := by decide +kernel
set_option maxRecDepth 20000 in
theorem ggX7_swapped_X2_exchangeWhileBetter : GoodIn wsX7_swapped wsX2_exchangeWhileBetter := goodIn_r _ [8, 9, 10, 11, 7, 12, 13, 14, 15, 16, 17, 18, 19, 20, 21, 22, 23, 24, 25, 26, 27, 28, 29, 30, 31, 32, 33, 34, 35, 36, 37, 38, 39, 40, 41, 42, 43, 44, 45, 46, 47, 48, 49, 50, 51, 61, 62, 63, 64, 65, 66, 67, 68, 69, 70, 71, 72, 73] (by decide +kernel) (by decide +kernel)
set_option maxRecDepth 20000 in
theorem gX7_swapped_X2_exchangeWhileBetter : GoodIn wsX7_swapped (wsV RX7 178 RX2 yX2_exchangeWhileBetter wsX2_exchangeWhileBetter) := goodIn_app (goodIn_of _ (by decide +kernel)) ggX7_swapped_X2_exchangeWhileBetter
theorem dX7_swapped_0 : decode cX7_swapped 0 = .ok (.aload_n 0, 1) := by decide +kernel
theorem dX7_swapped_1 : decode cX7_swapped 1 = .ok (.getfield 39, 3) := by decide +kernel
theorem dX7_swapped_4 : decode cX7_swapped 4 = .ok (.getfield 155, 3) := by decide +kernel
theorem dX7_swapped_7 : decode cX7_swapped 7 = .ok (.ifCond .ne 6, 3) := by decide +kernel
theorem dX7_swapped_10 : decode cX7_swapped 10 = .ok (.ldc 146, 2) := by decide +kernel
theorem dX7_swapped_12 : decode cX7_swapped 12 = .ok (.ireturn, 1) := by decide +kernel
theorem dX7_swapped_13 : decode cX7_swapped 13 = .ok (.aload_n 0, 1) := by decide +kernel
theorem dX7_swapped_14 : decode cX7_swapped 14 = .ok (.getfield 39, 3) := by decide +kernel
theorem dX7_swapped_17 : decode cX7_swapped 17 = .ok (.invokevirtual 178, 3) := by decide +kernel
theorem dX7_swapped_20 : decode cX7_swapped 20 = .ok (.ireturn, 1) := by decide +kernel
set_option maxRecDepth 20000 in
theorem ggX7_best_X2_becomeBest : GoodIn wsX7_best wsX2_becomeBest := goodIn_r _ [8, 9, 10, 11, 12, 13, 14, 15, 16, 17, 18, 7, 19, 20, 21, 22, 23, 24, 25, 26, 27, 28, 29, 30, 31, 32, 33, 34, 35, 36, 37, 38, 39, 40, 41, 42, 43, 44, 45, 46, 47, 48, 49, 50, 51, 52, 53, 54, 55, 56, 57, 58, 59, 60, 61, 62, 63, 64, 74, 75, 76, 77, 78, 79, 80, 81, 82, 83, 84, 85, 86] (by decide +kernel) (by decide +kernel)
set_option maxRecDepth 20000 in
theorem gX7_best_X2_becomeBest : GoodIn wsX7_best (wsV RX7 181 RX2 yX2_becomeBest wsX2_becomeBest) := goodIn_app (goodIn_of _ (by decide +kernel)) ggX7_best_X2_becomeBest
theorem dX7_best_0 : decode cX7_best 0 = .ok (.aload_n 0, 1) := by decide +kernel
theorem dX7_best_1 : decode cX7_best 1 = .ok (.getfield 39, 3) := by decide +kernel
theorem dX7_best_4 : decode cX7_best 4 = .ok (.getfield 155, 3) := by decide +kernel
theorem dX7_best_7 : decode cX7_best 7 = .ok (.ifCond .eq 15, 3) := by decide +kernel
theorem dX7_best_10 : decode cX7_best 10 = .ok (.aload_n 0, 1) := by decide +kernel
theorem dX7_best_11 : decode cX7_best 11 = .ok (.getfield 39, 3) := by decide +kernel
theorem dX7_best_14 : decode cX7_best 14 = .ok (.getfield 155, 3) := by decide +kernel
theorem dX7_best_17 : decode cX7_best 17 = .ok (.bipush 6, 2) := by decide +kernel
theorem dX7_best_19 : decode cX7_best 19 = .ok (.if_icmp .le 6, 3) := by decide +kernel
theorem dX7_best_22 : decode cX7_best 22 = .ok (.ldc 146, 2) := by decide +kernel
theorem dX7_best_24 : decode cX7_best 24 = .ok (.ireturn, 1) := by decide +kernel
theorem dX7_best_25 : decode cX7_best 25 = .ok (.aload_n 0, 1) := by decide +kernel
theorem dX7_best_26 : decode cX7_best 26 = .ok (.getfield 39, 3) := by decide +kernel
theorem dX7_best_29 : decode cX7_best 29 = .ok (.invokevirtual 181, 3) := by decide +kernel
theorem dX7_best_32 : decode cX7_best 32 = .ok (.ireturn, 1) := by decide +kernel
set_option maxRecDepth 20000 in
theorem ggX7_team_X7_within : GoodIn wsX7_team wsX7_within := goodIn_r _ [7] (by decide +kernel) (by decide +kernel)
set_option maxRecDepth 20000 in
theorem gX7_team_X7_within : GoodIn wsX7_team (va_wsS RX7 73 yX7_within wsX7_within) := goodIn_app (goodIn_of _ (by decide +kernel)) ggX7_team_X7_within
set_option maxRecDepth 20000 in
theorem ggX7_team_X7_isStriker : GoodIn wsX7_team wsX7_isStriker := goodIn_r _ [11, 12, 4, 5, 6, 7, 19, 20, 21, 22, 23, 24, 25, 26, 27] (by decide +kernel) (by decide +kernel)
set_option maxRecDepth 20000 in
theorem gX7_team_X7_isStriker : GoodIn wsX7_team (wsV RX7 140 RX7 yX7_isStriker wsX7_isStriker) := goodIn_app (goodIn_of _ (by decide +kernel)) ggX7_team_X7_isStriker
set_option maxRecDepth 20000 in
theorem ggX7_team_X4_forget : GoodIn wsX7_team wsX4_forget := goodIn_r _ [17, 18, 28, 29, 30, 31, 32, 33, 34, 35] (by decide +kernel) (by decide +kernel)
set_option maxRecDepth 20000 in
theorem gX7_team_X4_forget : GoodIn wsX7_team (wsV RX7 147 RX4 yX4_forget wsX4_forget) := goodIn_app (goodIn_of _ (by decide +kernel)) ggX7_team_X4_forget
theorem dX7_team_0 : decode cX7_team 0 = .ok (.iload_n 1, 1) := by decide +kernel
theorem dX7_team_1 : decode cX7_team 1 = .ok (.iconst 0, 1) := by decide +kernel
theorem dX7_team_2 : decode cX7_team 2 = .ok (.iconst 1, 1) := by decide +kernel
theorem dX7_team_3 : decode cX7_team 3 = .ok (.invokestatic 73, 3) := by decide +kernel
theorem dX7_team_6 : decode cX7_team 6 = .ok (.ifCond .eq 11, 3) := by decide +kernel
theorem dX7_team_9 : decode cX7_team 9 = .ok (.aload_n 0, 1) := by decide +kernel
theorem dX7_team_10 : decode cX7_team 10 = .ok (.iload_n 2, 1) := by decide +kernel
theorem dX7_team_11 : decode cX7_team 11 = .ok (.invokevirtual 140, 3) := by decide +kernel
theorem dX7_team_14 : decode cX7_team 14 = .ok (.ifCond .ne 6, 3) := by decide +kernel
theorem dX7_team_17 : decode cX7_team 17 = .ok (.ldc 77, 2) := by decide +kernel
theorem dX7_team_19 : decode cX7_team 19 = .ok (.ireturn, 1) := by decide +kernel
theorem dX7_team_20 : decode cX7_team 20 = .ok (.aload_n 0, 1) := by decide +kernel
theorem dX7_team_21 : decode cX7_team 21 = .ok (.getfield 46, 3) := by decide +kernel
theorem dX7_team_24 : decode cX7_team 24 = .ok (.getfield 184, 3) := by decide +kernel
theorem dX7_team_27 : decode cX7_team 27 = .ok (.iload_n 1, 1) := by decide +kernel
theorem dX7_team_28 : decode cX7_team 28 = .ok (.iaload, 1) := by decide +kernel
theorem dX7_team_29 : decode cX7_team 29 = .ok (.istore_n 3, 1) := by decide +kernel
theorem dX7_team_30 : decode cX7_team 30 = .ok (.aload_n 0, 1) := by decide +kernel
theorem dX7_team_31 : decode cX7_team 31 = .ok (.getfield 46, 3) := by decide +kernel
theorem dX7_team_34 : decode cX7_team 34 = .ok (.getfield 184, 3) := by decide +kernel
theorem dX7_team_37 : decode cX7_team 37 = .ok (.iload_n 1, 1) := by decide +kernel
theorem dX7_team_38 : decode cX7_team 38 = .ok (.iload_n 2, 1) := by decide +kernel
theorem dX7_team_39 : decode cX7_team 39 = .ok (.iastore, 1) := by decide +kernel
theorem dX7_team_40 : decode cX7_team 40 = .ok (.aload_n 0, 1) := by decide +kernel
theorem dX7_team_41 : decode cX7_team 41 = .ok (.getfield 46, 3) := by decide +kernel
theorem dX7_team_44 : decode cX7_team 44 = .ok (.invokevirtual 147, 3) := by decide +kernel
theorem dX7_team_47 : decode cX7_team 47 = .ok (.iload_n 3, 1) := by decide +kernel
theorem dX7_team_48 : decode cX7_team 48 = .ok (.ireturn, 1) := by decide +kernel
set_option maxRecDepth 20000 in
theorem ggX7_game_X7_within : GoodIn wsX7_game wsX7_within := goodIn_r _ [7] (by decide +kernel) (by decide +kernel)
set_option maxRecDepth 20000 in
theorem gX7_game_X7_within : GoodIn wsX7_game (va_wsS RX7 73 yX7_within wsX7_within) := goodIn_app (goodIn_of _ (by decide +kernel)) ggX7_game_X7_within
set_option maxRecDepth 20000 in
theorem ggX7_game_X4_howManyTeams : GoodIn wsX7_game wsX4_howManyTeams := goodIn_r _ [12, 13, 14, 93, 94, 95, 96, 97, 98, 99, 100] (by decide +kernel) (by decide +kernel)
set_option maxRecDepth 20000 in
theorem gX7_game_X4_howManyTeams : GoodIn wsX7_game (wsV RX7 187 RX4 yX4_howManyTeams wsX4_howManyTeams) := goodIn_app (goodIn_of _ (by decide +kernel)) ggX7_game_X4_howManyTeams
set_option maxRecDepth 20000 in
theorem ggX7_game_X4_told : GoodIn wsX7_game wsX4_told := goodIn_r _ [18, 14, 19, 20, 21, 22, 23, 24, 25, 26, 27, 11, 28, 29, 30, 31, 32, 33, 34, 35, 36, 37, 38, 39, 40, 41, 42, 43, 44, 45, 46, 47, 48, 13, 49, 50, 51, 52, 53, 54, 55, 56, 57, 58, 59, 60, 61, 62, 63, 64, 65, 66, 67, 68, 69, 70, 71, 72, 73, 74, 75, 76, 77, 78, 79, 80, 81, 82, 83, 93, 94, 95, 96, 97, 98, 99, 100, 101, 102, 103, 104] (by decide +kernel) (by decide +kernel)
set_option maxRecDepth 20000 in
theorem gX7_game_X4_told : GoodIn wsX7_game (wsV RX7 190 RX4 yX4_told wsX4_told) := goodIn_app (goodIn_of _ (by decide +kernel)) ggX7_game_X4_told
theorem dX7_game_0 : decode cX7_game 0 = .ok (.iload_n 1, 1) := by decide +kernel
theorem dX7_game_1 : decode cX7_game 1 = .ok (.iconst 0, 1) := by decide +kernel
theorem dX7_game_2 : decode cX7_game 2 = .ok (.iconst 5, 1) := by decide +kernel
theorem dX7_game_3 : decode cX7_game 3 = .ok (.invokestatic 73, 3) := by decide +kernel
theorem dX7_game_6 : decode cX7_game 6 = .ok (.ifCond .eq 45, 3) := by decide +kernel
theorem dX7_game_9 : decode cX7_game 9 = .ok (.iload_n 2, 1) := by decide +kernel
theorem dX7_game_10 : decode cX7_game 10 = .ok (.bipush (-9), 2) := by decide +kernel
theorem dX7_game_12 : decode cX7_game 12 = .ok (.bipush 9, 2) := by decide +kernel
theorem dX7_game_14 : decode cX7_game 14 = .ok (.invokestatic 73, 3) := by decide +kernel
theorem dX7_game_17 : decode cX7_game 17 = .ok (.ifCond .eq 34, 3) := by decide +kernel
theorem dX7_game_20 : decode cX7_game 20 = .ok (.iload_n 3, 1) := by decide +kernel
theorem dX7_game_21 : decode cX7_game 21 = .ok (.iconst 0, 1) := by decide +kernel
theorem dX7_game_22 : decode cX7_game 22 = .ok (.bipush 24, 2) := by decide +kernel
theorem dX7_game_24 : decode cX7_game 24 = .ok (.invokestatic 73, 3) := by decide +kernel
theorem dX7_game_27 : decode cX7_game 27 = .ok (.ifCond .eq 24, 3) := by decide +kernel
theorem dX7_game_30 : decode cX7_game 30 = .ok (.iload 4, 2) := by decide +kernel
theorem dX7_game_32 : decode cX7_game 32 = .ok (.iconst 0, 1) := by decide +kernel
theorem dX7_game_33 : decode cX7_game 33 = .ok (.bipush 12, 2) := by decide +kernel
theorem dX7_game_35 : decode cX7_game 35 = .ok (.invokestatic 73, 3) := by decide +kernel
theorem dX7_game_38 : decode cX7_game 38 = .ok (.ifCond .eq 13, 3) := by decide +kernel
theorem dX7_game_41 : decode cX7_game 41 = .ok (.iload 5, 2) := by decide +kernel
theorem dX7_game_43 : decode cX7_game 43 = .ok (.iconst 0, 1) := by decide +kernel
theorem dX7_game_44 : decode cX7_game 44 = .ok (.iconst 2, 1) := by decide +kernel
theorem dX7_game_45 : decode cX7_game 45 = .ok (.invokestatic 73, 3) := by decide +kernel
theorem dX7_game_48 : decode cX7_game 48 = .ok (.ifCond .ne 6, 3) := by decide +kernel
theorem dX7_game_51 : decode cX7_game 51 = .ok (.ldc 77, 2) := by decide +kernel
theorem dX7_game_53 : decode cX7_game 53 = .ok (.ireturn, 1) := by decide +kernel
theorem dX7_game_54 : decode cX7_game 54 = .ok (.aload_n 0, 1) := by decide +kernel
theorem dX7_game_55 : decode cX7_game 55 = .ok (.getfield 46, 3) := by decide +kernel
theorem dX7_game_58 : decode cX7_game 58 = .ok (.invokevirtual 187, 3) := by decide +kernel
theorem dX7_game_61 : decode cX7_game 61 = .ok (.iconst 2, 1) := by decide +kernel
theorem dX7_game_62 : decode cX7_game 62 = .ok (.if_icmp .ge 6, 3) := by decide +kernel
theorem dX7_game_65 : decode cX7_game 65 = .ok (.ldc 146, 2) := by decide +kernel
theorem dX7_game_67 : decode cX7_game 67 = .ok (.ireturn, 1) := by decide +kernel
theorem dX7_game_68 : decode cX7_game 68 = .ok (.aload_n 0, 1) := by decide +kernel
theorem dX7_game_69 : decode cX7_game 69 = .ok (.getfield 46, 3) := by decide +kernel
theorem dX7_game_72 : decode cX7_game 72 = .ok (.iload_n 1, 1) := by decide +kernel
theorem dX7_game_73 : decode cX7_game 73 = .ok (.iload_n 2, 1) := by decide +kernel
theorem dX7_game_74 : decode cX7_game 74 = .ok (.iload_n 3, 1) := by decide +kernel
theorem dX7_game_75 : decode cX7_game 75 = .ok (.iload 4, 2) := by decide +kernel
theorem dX7_game_77 : decode cX7_game 77 = .ok (.iload 5, 2) := by decide +kernel
theorem dX7_game_79 : decode cX7_game 79 = .ok (.invokevirtual 190, 3) := by decide +kernel
theorem dX7_game_82 : decode cX7_game 82 = .ok (.ireturn, 1) := by decide +kernel
set_option maxRecDepth 20000 in
theorem ggX7_log_X7_isSheet : GoodIn wsX7_log wsX7_isSheet := goodIn_r _ [8, 9, 10, 7, 11] (by decide +kernel) (by decide +kernel)
set_option maxRecDepth 20000 in
theorem gX7_log_X7_isSheet : GoodIn wsX7_log (va_wsS RX7 69 yX7_isSheet wsX7_isSheet) := goodIn_app (goodIn_of _ (by decide +kernel)) ggX7_log_X7_isSheet
set_option maxRecDepth 20000 in
theorem ggX7_log_X7_within : GoodIn wsX7_log wsX7_within := goodIn_r _ [11] (by decide +kernel) (by decide +kernel)
set_option maxRecDepth 20000 in
theorem gX7_log_X7_within : GoodIn wsX7_log (va_wsS RX7 73 yX7_within wsX7_within) := goodIn_app (goodIn_of _ (by decide +kernel)) ggX7_log_X7_within
set_option maxRecDepth 20000 in
theorem ggX7_log_X7_findingOfLog : GoodIn wsX7_log wsX7_findingOfLog := goodIn_r _ [15, 3, 16, 17, 18, 19, 20, 21, 22, 69, 70, 71, 72, 73, 74, 75, 76, 77, 78, 79, 80, 81] (by decide +kernel) (by decide +kernel)
set_option maxRecDepth 20000 in
theorem gX7_log_X7_findingOfLog : GoodIn wsX7_log (wsV RX7 194 RX7 yX7_findingOfLog wsX7_findingOfLog) := goodIn_app (goodIn_of _ (by decide +kernel)) ggX7_log_X7_findingOfLog
set_option maxRecDepth 20000 in
theorem ggX7_log_X7_found : GoodIn wsX7_log wsX7_found := goodIn_r _ [26, 27, 28, 69, 70, 71, 72, 73, 74, 75, 76, 77] (by decide +kernel) (by decide +kernel)
set_option maxRecDepth 20000 in
theorem gX7_log_X7_found : GoodIn wsX7_log (wsV RX7 78 RX7 yX7_found wsX7_found) := goodIn_app (goodIn_of _ (by decide +kernel)) ggX7_log_X7_found
set_option maxRecDepth 20000 in
theorem ggX7_log_X3_read : GoodIn wsX7_log wsX3_read := goodIn_r _ [33, 34, 35, 36, 37, 38, 39, 40, 41, 42, 43, 44, 45, 46, 32, 47, 48, 10, 7, 11, 49, 50, 51, 52, 53, 54, 55, 56, 57, 58, 59, 82, 83, 84, 85, 86, 87, 88, 89] (by decide +kernel) (by decide +kernel)
set_option maxRecDepth 20000 in
theorem gX7_log_X3_read : GoodIn wsX7_log (wsV RX7 197 RX3 yX3_read wsX3_read) := goodIn_app (goodIn_of _ (by decide +kernel)) ggX7_log_X3_read
set_option maxRecDepth 20000 in
theorem ggX7_log_X3_told : GoodIn wsX7_log wsX3_told := goodIn_r _ [63, 36, 37, 38, 39, 34, 64, 10, 7, 11, 82, 83, 84, 85, 86, 87] (by decide +kernel) (by decide +kernel)
set_option maxRecDepth 20000 in
theorem gX7_log_X3_told : GoodIn wsX7_log (wsV RX7 200 RX3 yX3_told wsX3_told) := goodIn_app (goodIn_of _ (by decide +kernel)) ggX7_log_X3_told
set_option maxRecDepth 20000 in
theorem ggX7_log_X7_fine : GoodIn wsX7_log wsX7_fine := goodIn_r _ [68, 27, 69, 70, 71, 72, 73, 74, 75, 76, 77] (by decide +kernel) (by decide +kernel)
set_option maxRecDepth 20000 in
theorem gX7_log_X7_fine : GoodIn wsX7_log (wsV RX7 86 RX7 yX7_fine wsX7_fine) := goodIn_app (goodIn_of _ (by decide +kernel)) ggX7_log_X7_fine
theorem dX7_log_0 : decode cX7_log 0 = .ok (.iload_n 1, 1) := by decide +kernel
theorem dX7_log_1 : decode cX7_log 1 = .ok (.invokestatic 69, 3) := by decide +kernel
theorem dX7_log_4 : decode cX7_log 4 = .ok (.ifCond .eq 35, 3) := by decide +kernel
theorem dX7_log_7 : decode cX7_log 7 = .ok (.iload_n 3, 1) := by decide +kernel
theorem dX7_log_8 : decode cX7_log 8 = .ok (.iconst 1, 1) := by decide +kernel
theorem dX7_log_9 : decode cX7_log 9 = .ok (.bipush 20, 2) := by decide +kernel
theorem dX7_log_11 : decode cX7_log 11 = .ok (.invokestatic 73, 3) := by decide +kernel
theorem dX7_log_14 : decode cX7_log 14 = .ok (.ifCond .eq 25, 3) := by decide +kernel
theorem dX7_log_17 : decode cX7_log 17 = .ok (.iload 4, 2) := by decide +kernel
theorem dX7_log_19 : decode cX7_log 19 = .ok (.iconst 0, 1) := by decide +kernel
theorem dX7_log_20 : decode cX7_log 20 = .ok (.iconst 3, 1) := by decide +kernel
theorem dX7_log_21 : decode cX7_log 21 = .ok (.invokestatic 73, 3) := by decide +kernel
theorem dX7_log_24 : decode cX7_log 24 = .ok (.ifCond .ne 18, 3) := by decide +kernel
theorem dX7_log_27 : decode cX7_log 27 = .ok (.iload 4, 2) := by decide +kernel
theorem dX7_log_29 : decode cX7_log 29 = .ok (.bipush 10, 2) := by decide +kernel
theorem dX7_log_31 : decode cX7_log 31 = .ok (.bipush 18, 2) := by decide +kernel
theorem dX7_log_33 : decode cX7_log 33 = .ok (.invokestatic 73, 3) := by decide +kernel
theorem dX7_log_36 : decode cX7_log 36 = .ok (.ifCond .ne 6, 3) := by decide +kernel
theorem dX7_log_39 : decode cX7_log 39 = .ok (.ldc 77, 2) := by decide +kernel
theorem dX7_log_41 : decode cX7_log 41 = .ok (.ireturn, 1) := by decide +kernel
theorem dX7_log_42 : decode cX7_log 42 = .ok (.aload_n 0, 1) := by decide +kernel
theorem dX7_log_43 : decode cX7_log 43 = .ok (.iload_n 1, 1) := by decide +kernel
theorem dX7_log_44 : decode cX7_log 44 = .ok (.iload_n 2, 1) := by decide +kernel
theorem dX7_log_45 : decode cX7_log 45 = .ok (.iload_n 3, 1) := by decide +kernel
theorem dX7_log_46 : decode cX7_log 46 = .ok (.invokevirtual 194, 3) := by decide +kernel
theorem dX7_log_49 : decode cX7_log 49 = .ok (.istore 5, 2) := by decide +kernel
theorem dX7_log_51 : decode cX7_log 51 = .ok (.iload 5, 2) := by decide +kernel
theorem dX7_log_53 : decode cX7_log 53 = .ok (.ifCond .eq 10, 3) := by decide +kernel
theorem dX7_log_56 : decode cX7_log 56 = .ok (.aload_n 0, 1) := by decide +kernel
theorem dX7_log_57 : decode cX7_log 57 = .ok (.iload 5, 2) := by decide +kernel
theorem dX7_log_59 : decode cX7_log 59 = .ok (.invokevirtual 78, 3) := by decide +kernel
theorem dX7_log_62 : decode cX7_log 62 = .ok (.ireturn, 1) := by decide +kernel
theorem dX7_log_63 : decode cX7_log 63 = .ok (.aload_n 0, 1) := by decide +kernel
theorem dX7_log_64 : decode cX7_log 64 = .ok (.getfield 55, 3) := by decide +kernel
theorem dX7_log_67 : decode cX7_log 67 = .ok (.aload_n 0, 1) := by decide +kernel
theorem dX7_log_68 : decode cX7_log 68 = .ok (.getfield 11, 3) := by decide +kernel
theorem dX7_log_71 : decode cX7_log 71 = .ok (.iload_n 1, 1) := by decide +kernel
theorem dX7_log_72 : decode cX7_log 72 = .ok (.aaload, 1) := by decide +kernel
theorem dX7_log_73 : decode cX7_log 73 = .ok (.getfield 97, 3) := by decide +kernel
theorem dX7_log_76 : decode cX7_log 76 = .ok (.iload_n 2, 1) := by decide +kernel
theorem dX7_log_77 : decode cX7_log 77 = .ok (.iload_n 3, 1) := by decide +kernel
theorem dX7_log_78 : decode cX7_log 78 = .ok (.invokevirtual 197, 3) := by decide +kernel
theorem dX7_log_81 : decode cX7_log 81 = .ok (.aload_n 0, 1) := by decide +kernel
theorem dX7_log_82 : decode cX7_log 82 = .ok (.aload_n 0, 1) := by decide +kernel
theorem dX7_log_83 : decode cX7_log 83 = .ok (.getfield 55, 3) := by decide +kernel
theorem dX7_log_86 : decode cX7_log 86 = .ok (.iload 4, 2) := by decide +kernel
theorem dX7_log_88 : decode cX7_log 88 = .ok (.invokevirtual 200, 3) := by decide +kernel
theorem dX7_log_91 : decode cX7_log 91 = .ok (.invokevirtual 86, 3) := by decide +kernel
theorem dX7_log_94 : decode cX7_log 94 = .ok (.ireturn, 1) := by decide +kernel
set_option maxRecDepth 20000 in
theorem ggX7_learn_X7_isSheet : GoodIn wsX7_learn wsX7_isSheet := goodIn_r _ [15, 16, 17, 14, 18] (by decide +kernel) (by decide +kernel)
set_option maxRecDepth 20000 in
theorem gX7_learn_X7_isSheet : GoodIn wsX7_learn (va_wsS RX7 69 yX7_isSheet wsX7_isSheet) := goodIn_app (goodIn_of _ (by decide +kernel)) ggX7_learn_X7_isSheet
set_option maxRecDepth 20000 in
theorem ggX7_learn_X7_within : GoodIn wsX7_learn wsX7_within := goodIn_r _ [18] (by decide +kernel) (by decide +kernel)
set_option maxRecDepth 20000 in
theorem gX7_learn_X7_within : GoodIn wsX7_learn (va_wsS RX7 73 yX7_within wsX7_within) := goodIn_app (goodIn_of _ (by decide +kernel)) ggX7_learn_X7_within
set_option maxRecDepth 20000 in
theorem ggX7_learn_X7_isChance : GoodIn wsX7_learn wsX7_isChance := goodIn_r _ [21, 16, 17, 14, 18] (by decide +kernel) (by decide +kernel)
set_option maxRecDepth 20000 in
theorem gX7_learn_X7_isChance : GoodIn wsX7_learn (va_wsS RX7 123 yX7_isChance wsX7_isChance) := goodIn_app (goodIn_of _ (by decide +kernel)) ggX7_learn_X7_isChance
set_option maxRecDepth 20000 in
theorem ggX7_learn_X7_findingOfLog : GoodIn wsX7_learn wsX7_findingOfLog := goodIn_r _ [25, 5, 26, 27, 28, 29, 30, 31, 32, 88, 89, 90, 91, 92, 93, 94, 95, 96, 97, 98, 99, 100] (by decide +kernel) (by decide +kernel)
set_option maxRecDepth 20000 in
theorem gX7_learn_X7_findingOfLog : GoodIn wsX7_learn (wsV RX7 194 RX7 yX7_findingOfLog wsX7_findingOfLog) := goodIn_app (goodIn_of _ (by decide +kernel)) ggX7_learn_X7_findingOfLog
set_option maxRecDepth 20000 in
theorem ggX7_learn_X7_found : GoodIn wsX7_learn wsX7_found := goodIn_r _ [36, 37, 38, 88, 89, 90, 91, 92, 93, 94, 95, 96] (by decide +kernel) (by decide +kernel)
set_option maxRecDepth 20000 in
theorem gX7_learn_X7_found : GoodIn wsX7_learn (wsV RX7 78 RX7 yX7_found wsX7_found) := goodIn_app (goodIn_of _ (by decide +kernel)) ggX7_learn_X7_found
set_option maxRecDepth 20000 in
theorem ggX7_learn_X3_read : GoodIn wsX7_learn wsX3_read := goodIn_r _ [43, 44, 45, 46, 47, 48, 49, 50, 51, 52, 53, 54, 55, 56, 42, 57, 58, 17, 14, 18, 59, 60, 61, 62, 63, 64, 65, 66, 67, 68, 69, 103, 104, 105, 106, 107, 108, 109, 110] (by decide +kernel) (by decide +kernel)
set_option maxRecDepth 20000 in
theorem gX7_learn_X3_read : GoodIn wsX7_learn (wsV RX7 197 RX3 yX3_read wsX3_read) := goodIn_app (goodIn_of _ (by decide +kernel)) ggX7_learn_X3_read
set_option maxRecDepth 20000 in
theorem ggX7_learn_X3_howManyStrikes : GoodIn wsX7_learn wsX3_howManyStrikes := goodIn_r _ [73, 44, 103, 104, 105, 106, 107, 108] (by decide +kernel) (by decide +kernel)
set_option maxRecDepth 20000 in
theorem gX7_learn_X3_howManyStrikes : GoodIn wsX7_learn (wsV RX7 202 RX3 yX3_howManyStrikes wsX3_howManyStrikes) := goodIn_app (goodIn_of _ (by decide +kernel)) ggX7_learn_X3_howManyStrikes
set_option maxRecDepth 20000 in
theorem ggX7_learn_X6_giveTheRestToOut : GoodIn wsX7_learn wsX6_giveTheRestToOut := goodIn_r _ [78, 79, 101, 102] (by decide +kernel) (by decide +kernel)
set_option maxRecDepth 20000 in
theorem gX7_learn_X6_giveTheRestToOut : GoodIn wsX7_learn (wsV RX7 130 RX6 yX6_giveTheRestToOut wsX6_giveTheRestToOut) := goodIn_app (goodIn_of _ (by decide +kernel)) ggX7_learn_X6_giveTheRestToOut
set_option maxRecDepth 20000 in
theorem ggX7_learn_X7_admitted : GoodIn wsX7_learn wsX7_admitted := goodIn_r _ [83, 2, 88, 89, 90, 91, 92, 93, 94, 95, 96] (by decide +kernel) (by decide +kernel)
set_option maxRecDepth 20000 in
theorem gX7_learn_X7_admitted : GoodIn wsX7_learn (wsV RX7 136 RX7 yX7_admitted wsX7_admitted) := goodIn_app (goodIn_of _ (by decide +kernel)) ggX7_learn_X7_admitted
set_option maxRecDepth 20000 in
theorem ggX7_learn_X7_fine : GoodIn wsX7_learn wsX7_fine := goodIn_r _ [87, 37, 88, 89, 90, 91, 92, 93, 94, 95, 96] (by decide +kernel) (by decide +kernel)
set_option maxRecDepth 20000 in
theorem gX7_learn_X7_fine : GoodIn wsX7_learn (wsV RX7 86 RX7 yX7_fine wsX7_fine) := goodIn_app (goodIn_of _ (by decide +kernel)) ggX7_learn_X7_fine
theorem dX7_learn_0 : decode cX7_learn 0 = .ok (.iload_n 1, 1) := by decide +kernel
theorem dX7_learn_1 : decode cX7_learn 1 = .ok (.invokestatic 69, 3) := by decide +kernel
theorem dX7_learn_4 : decode cX7_learn 4 = .ok (.ifCond .eq 21, 3) := by decide +kernel
theorem dX7_learn_7 : decode cX7_learn 7 = .ok (.iload_n 3, 1) := by decide +kernel
theorem dX7_learn_8 : decode cX7_learn 8 = .ok (.iconst 1, 1) := by decide +kernel
theorem dX7_learn_9 : decode cX7_learn 9 = .ok (.bipush 20, 2) := by decide +kernel
theorem dX7_learn_11 : decode cX7_learn 11 = .ok (.invokestatic 73, 3) := by decide +kernel
theorem dX7_learn_14 : decode cX7_learn 14 = .ok (.ifCond .eq 11, 3) := by decide +kernel
theorem dX7_learn_17 : decode cX7_learn 17 = .ok (.iload 4, 2) := by decide +kernel
theorem dX7_learn_19 : decode cX7_learn 19 = .ok (.invokestatic 123, 3) := by decide +kernel
theorem dX7_learn_22 : decode cX7_learn 22 = .ok (.ifCond .ne 6, 3) := by decide +kernel
theorem dX7_learn_25 : decode cX7_learn 25 = .ok (.ldc 77, 2) := by decide +kernel
theorem dX7_learn_27 : decode cX7_learn 27 = .ok (.ireturn, 1) := by decide +kernel
theorem dX7_learn_28 : decode cX7_learn 28 = .ok (.aload_n 0, 1) := by decide +kernel
theorem dX7_learn_29 : decode cX7_learn 29 = .ok (.getfield 23, 3) := by decide +kernel
theorem dX7_learn_32 : decode cX7_learn 32 = .ok (.bipush 12, 2) := by decide +kernel
theorem dX7_learn_34 : decode cX7_learn 34 = .ok (.if_icmp .lt 6, 3) := by decide +kernel
theorem dX7_learn_37 : decode cX7_learn 37 = .ok (.ldc 126, 2) := by decide +kernel
theorem dX7_learn_39 : decode cX7_learn 39 = .ok (.ireturn, 1) := by decide +kernel
theorem dX7_learn_40 : decode cX7_learn 40 = .ok (.aload_n 0, 1) := by decide +kernel
theorem dX7_learn_41 : decode cX7_learn 41 = .ok (.iload_n 1, 1) := by decide +kernel
theorem dX7_learn_42 : decode cX7_learn 42 = .ok (.iload_n 2, 1) := by decide +kernel
theorem dX7_learn_43 : decode cX7_learn 43 = .ok (.iload_n 3, 1) := by decide +kernel
theorem dX7_learn_44 : decode cX7_learn 44 = .ok (.invokevirtual 194, 3) := by decide +kernel
theorem dX7_learn_47 : decode cX7_learn 47 = .ok (.istore 5, 2) := by decide +kernel
theorem dX7_learn_49 : decode cX7_learn 49 = .ok (.iload 5, 2) := by decide +kernel
theorem dX7_learn_51 : decode cX7_learn 51 = .ok (.ifCond .eq 10, 3) := by decide +kernel
theorem dX7_learn_54 : decode cX7_learn 54 = .ok (.aload_n 0, 1) := by decide +kernel
theorem dX7_learn_55 : decode cX7_learn 55 = .ok (.iload 5, 2) := by decide +kernel
theorem dX7_learn_57 : decode cX7_learn 57 = .ok (.invokevirtual 78, 3) := by decide +kernel
theorem dX7_learn_60 : decode cX7_learn 60 = .ok (.ireturn, 1) := by decide +kernel
theorem dX7_learn_61 : decode cX7_learn 61 = .ok (.aload_n 0, 1) := by decide +kernel
theorem dX7_learn_62 : decode cX7_learn 62 = .ok (.getfield 55, 3) := by decide +kernel
theorem dX7_learn_65 : decode cX7_learn 65 = .ok (.aload_n 0, 1) := by decide +kernel
theorem dX7_learn_66 : decode cX7_learn 66 = .ok (.getfield 11, 3) := by decide +kernel
theorem dX7_learn_69 : decode cX7_learn 69 = .ok (.iload_n 1, 1) := by decide +kernel
theorem dX7_learn_70 : decode cX7_learn 70 = .ok (.aaload, 1) := by decide +kernel
theorem dX7_learn_71 : decode cX7_learn 71 = .ok (.getfield 97, 3) := by decide +kernel
theorem dX7_learn_74 : decode cX7_learn 74 = .ok (.iload_n 2, 1) := by decide +kernel
theorem dX7_learn_75 : decode cX7_learn 75 = .ok (.iload_n 3, 1) := by decide +kernel
theorem dX7_learn_76 : decode cX7_learn 76 = .ok (.invokevirtual 197, 3) := by decide +kernel
theorem dX7_learn_79 : decode cX7_learn 79 = .ok (.aload_n 0, 1) := by decide +kernel
theorem dX7_learn_80 : decode cX7_learn 80 = .ok (.getfield 55, 3) := by decide +kernel
theorem dX7_learn_83 : decode cX7_learn 83 = .ok (.invokevirtual 202, 3) := by decide +kernel
theorem dX7_learn_86 : decode cX7_learn 86 = .ok (.istore 6, 2) := by decide +kernel
theorem dX7_learn_88 : decode cX7_learn 88 = .ok (.iload 6, 2) := by decide +kernel
theorem dX7_learn_90 : decode cX7_learn 90 = .ok (.ifCond .ne 6, 3) := by decide +kernel
theorem dX7_learn_93 : decode cX7_learn 93 = .ok (.ldc 146, 2) := by decide +kernel
theorem dX7_learn_95 : decode cX7_learn 95 = .ok (.ireturn, 1) := by decide +kernel
theorem dX7_learn_96 : decode cX7_learn 96 = .ok (.aload_n 0, 1) := by decide +kernel
theorem dX7_learn_97 : decode cX7_learn 97 = .ok (.getfield 18, 3) := by decide +kernel
theorem dX7_learn_100 : decode cX7_learn 100 = .ok (.aload_n 0, 1) := by decide +kernel
theorem dX7_learn_101 : decode cX7_learn 101 = .ok (.getfield 23, 3) := by decide +kernel
theorem dX7_learn_104 : decode cX7_learn 104 = .ok (.aaload, 1) := by decide +kernel
theorem dX7_learn_105 : decode cX7_learn 105 = .ok (.astore 7, 2) := by decide +kernel
theorem dX7_learn_107 : decode cX7_learn 107 = .ok (.iconst 1, 1) := by decide +kernel
theorem dX7_learn_108 : decode cX7_learn 108 = .ok (.istore 8, 2) := by decide +kernel
theorem dX7_learn_110 : decode cX7_learn 110 = .ok (.iload 8, 2) := by decide +kernel
theorem dX7_learn_112 : decode cX7_learn 112 = .ok (.iconst 5, 1) := by decide +kernel
theorem dX7_learn_113 : decode cX7_learn 113 = .ok (.if_icmp .gt 34, 3) := by decide +kernel
theorem dX7_learn_116 : decode cX7_learn 116 = .ok (.aload 7, 2) := by decide +kernel
theorem dX7_learn_118 : decode cX7_learn 118 = .ok (.getfield 127, 3) := by decide +kernel
theorem dX7_learn_121 : decode cX7_learn 121 = .ok (.iload 8, 2) := by decide +kernel
theorem dX7_learn_123 : decode cX7_learn 123 = .ok (.aload_n 0, 1) := by decide +kernel
theorem dX7_learn_124 : decode cX7_learn 124 = .ok (.getfield 55, 3) := by decide +kernel
theorem dX7_learn_127 : decode cX7_learn 127 = .ok (.getfield 205, 3) := by decide +kernel
theorem dX7_learn_130 : decode cX7_learn 130 = .ok (.iload 8, 2) := by decide +kernel
theorem dX7_learn_132 : decode cX7_learn 132 = .ok (.iaload, 1) := by decide +kernel
theorem dX7_learn_133 : decode cX7_learn 133 = .ok (.sipush 1000, 3) := by decide +kernel
theorem dX7_learn_136 : decode cX7_learn 136 = .ok (.imul, 1) := by decide +kernel
theorem dX7_learn_137 : decode cX7_learn 137 = .ok (.iload 6, 2) := by decide +kernel
theorem dX7_learn_139 : decode cX7_learn 139 = .ok (.idiv, 1) := by decide +kernel
theorem dX7_learn_140 : decode cX7_learn 140 = .ok (.iastore, 1) := by decide +kernel
theorem dX7_learn_141 : decode cX7_learn 141 = .ok (.iinc 8 1, 3) := by decide +kernel
theorem dX7_learn_144 : decode cX7_learn 144 = .ok (.goto (-34), 3) := by decide +kernel
theorem dX7_learn_147 : decode cX7_learn 147 = .ok (.aload 7, 2) := by decide +kernel
theorem dX7_learn_149 : decode cX7_learn 149 = .ok (.invokevirtual 130, 3) := by decide +kernel
theorem dX7_learn_152 : decode cX7_learn 152 = .ok (.aload 7, 2) := by decide +kernel
theorem dX7_learn_154 : decode cX7_learn 154 = .ok (.iload 4, 2) := by decide +kernel
theorem dX7_learn_156 : decode cX7_learn 156 = .ok (.putfield 133, 3) := by decide +kernel
theorem dX7_learn_159 : decode cX7_learn 159 = .ok (.aload_n 0, 1) := by decide +kernel
theorem dX7_learn_160 : decode cX7_learn 160 = .ok (.aload_n 0, 1) := by decide +kernel
theorem dX7_learn_161 : decode cX7_learn 161 = .ok (.invokevirtual 136, 3) := by decide +kernel
theorem dX7_learn_164 : decode cX7_learn 164 = .ok (.invokevirtual 86, 3) := by decide +kernel
theorem dX7_learn_167 : decode cX7_learn 167 = .ok (.ireturn, 1) := by decide +kernel
set_option maxRecDepth 20000 in
theorem ggX7_kind_X7_isStriker : GoodIn wsX7_kind wsX7_isStriker := goodIn_r _ [7, 8, 9, 10, 6, 11, 19, 20, 21, 22, 23, 24, 25, 26, 27] (by decide +kernel) (by decide +kernel)
set_option maxRecDepth 20000 in
theorem gX7_kind_X7_isStriker : GoodIn wsX7_kind (wsV RX7 140 RX7 yX7_isStriker wsX7_isStriker) := goodIn_app (goodIn_of _ (by decide +kernel)) ggX7_kind_X7_isStriker
set_option maxRecDepth 20000 in
theorem ggX7_kind_X6_toldKind : GoodIn wsX7_kind wsX6_toldKind := goodIn_r _ [16, 17, 18, 28, 29] (by decide +kernel) (by decide +kernel)
set_option maxRecDepth 20000 in
theorem gX7_kind_X6_toldKind : GoodIn wsX7_kind (wsV RX7 208 RX6 yX6_toldKind wsX6_toldKind) := goodIn_app (goodIn_of _ (by decide +kernel)) ggX7_kind_X6_toldKind
theorem dX7_kind_0 : decode cX7_kind 0 = .ok (.aload_n 0, 1) := by decide +kernel
theorem dX7_kind_1 : decode cX7_kind 1 = .ok (.iload_n 1, 1) := by decide +kernel
theorem dX7_kind_2 : decode cX7_kind 2 = .ok (.invokevirtual 140, 3) := by decide +kernel
theorem dX7_kind_5 : decode cX7_kind 5 = .ok (.ifCond .eq 15, 3) := by decide +kernel
theorem dX7_kind_8 : decode cX7_kind 8 = .ok (.aload_n 0, 1) := by decide +kernel
theorem dX7_kind_9 : decode cX7_kind 9 = .ok (.getfield 18, 3) := by decide +kernel
theorem dX7_kind_12 : decode cX7_kind 12 = .ok (.iload_n 1, 1) := by decide +kernel
theorem dX7_kind_13 : decode cX7_kind 13 = .ok (.aaload, 1) := by decide +kernel
theorem dX7_kind_14 : decode cX7_kind 14 = .ok (.invokevirtual 208, 3) := by decide +kernel
theorem dX7_kind_17 : decode cX7_kind 17 = .ok (.goto 5, 3) := by decide +kernel
theorem dX7_kind_20 : decode cX7_kind 20 = .ok (.ldc 77, 2) := by decide +kernel
theorem dX7_kind_22 : decode cX7_kind 22 = .ok (.ireturn, 1) := by decide +kernel
set_option maxRecDepth 20000 in
theorem ggX7_as_X7_isStriker : GoodIn wsX7_as wsX7_isStriker := goodIn_r _ [8, 9, 10, 11, 7, 12, 34, 35, 36, 37, 38, 39, 40, 41, 42] (by decide +kernel) (by decide +kernel)
set_option maxRecDepth 20000 in
theorem gX7_as_X7_isStriker : GoodIn wsX7_as (wsV RX7 140 RX7 yX7_isStriker wsX7_isStriker) := goodIn_app (goodIn_of _ (by decide +kernel)) ggX7_as_X7_isStriker
set_option maxRecDepth 20000 in
theorem ggX7_as_X7_within : GoodIn wsX7_as wsX7_within := goodIn_r _ [12] (by decide +kernel) (by decide +kernel)
set_option maxRecDepth 20000 in
theorem gX7_as_X7_within : GoodIn wsX7_as (va_wsS RX7 73 yX7_within wsX7_within) := goodIn_app (goodIn_of _ (by decide +kernel)) ggX7_as_X7_within
set_option maxRecDepth 20000 in
theorem ggX7_as_X6_isOne : GoodIn wsX7_as wsX6_isOne := goodIn_r _ [17, 18, 19, 20, 16, 21, 22, 23, 43, 44] (by decide +kernel) (by decide +kernel)
set_option maxRecDepth 20000 in
theorem gX7_as_X6_isOne : GoodIn wsX7_as (wsV RX7 211 RX6 yX6_isOne wsX6_isOne) := goodIn_app (goodIn_of _ (by decide +kernel)) ggX7_as_X6_isOne
set_option maxRecDepth 20000 in
theorem ggX7_as_X7_found : GoodIn wsX7_as wsX7_found := goodIn_r _ [27, 28, 29, 34, 35, 36, 37, 38, 39, 40, 41, 42] (by decide +kernel) (by decide +kernel)
set_option maxRecDepth 20000 in
theorem gX7_as_X7_found : GoodIn wsX7_as (wsV RX7 78 RX7 yX7_found wsX7_found) := goodIn_app (goodIn_of _ (by decide +kernel)) ggX7_as_X7_found
set_option maxRecDepth 20000 in
theorem ggX7_as_X7_fine : GoodIn wsX7_as wsX7_fine := goodIn_r _ [33, 28, 34, 35, 36, 37, 38, 39, 40, 41, 42] (by decide +kernel) (by decide +kernel)
set_option maxRecDepth 20000 in
theorem gX7_as_X7_fine : GoodIn wsX7_as (wsV RX7 86 RX7 yX7_fine wsX7_fine) := goodIn_app (goodIn_of _ (by decide +kernel)) ggX7_as_X7_fine
theorem dX7_as_0 : decode cX7_as 0 = .ok (.aload_n 0, 1) := by decide +kernel
theorem dX7_as_1 : decode cX7_as 1 = .ok (.iload_n 1, 1) := by decide +kernel
theorem dX7_as_2 : decode cX7_as 2 = .ok (.invokevirtual 140, 3) := by decide +kernel
theorem dX7_as_5 : decode cX7_as 5 = .ok (.ifCond .eq 12, 3) := by decide +kernel
theorem dX7_as_8 : decode cX7_as 8 = .ok (.iload_n 2, 1) := by decide +kernel
theorem dX7_as_9 : decode cX7_as 9 = .ok (.iconst 0, 1) := by decide +kernel
theorem dX7_as_10 : decode cX7_as 10 = .ok (.iconst 3, 1) := by decide +kernel
theorem dX7_as_11 : decode cX7_as 11 = .ok (.invokestatic 73, 3) := by decide +kernel
theorem dX7_as_14 : decode cX7_as 14 = .ok (.ifCond .ne 6, 3) := by decide +kernel
theorem dX7_as_17 : decode cX7_as 17 = .ok (.ldc 77, 2) := by decide +kernel
theorem dX7_as_19 : decode cX7_as 19 = .ok (.ireturn, 1) := by decide +kernel
theorem dX7_as_20 : decode cX7_as 20 = .ok (.aload_n 0, 1) := by decide +kernel
theorem dX7_as_21 : decode cX7_as 21 = .ok (.getfield 18, 3) := by decide +kernel
theorem dX7_as_24 : decode cX7_as 24 = .ok (.iload_n 1, 1) := by decide +kernel
theorem dX7_as_25 : decode cX7_as 25 = .ok (.aaload, 1) := by decide +kernel
theorem dX7_as_26 : decode cX7_as 26 = .ok (.iload_n 2, 1) := by decide +kernel
theorem dX7_as_27 : decode cX7_as 27 = .ok (.invokevirtual 211, 3) := by decide +kernel
theorem dX7_as_30 : decode cX7_as 30 = .ok (.ifCond .ne 9, 3) := by decide +kernel
theorem dX7_as_33 : decode cX7_as 33 = .ok (.aload_n 0, 1) := by decide +kernel
theorem dX7_as_34 : decode cX7_as 34 = .ok (.iconst 3, 1) := by decide +kernel
theorem dX7_as_35 : decode cX7_as 35 = .ok (.invokevirtual 78, 3) := by decide +kernel
theorem dX7_as_38 : decode cX7_as 38 = .ok (.ireturn, 1) := by decide +kernel
theorem dX7_as_39 : decode cX7_as 39 = .ok (.aload_n 0, 1) := by decide +kernel
theorem dX7_as_40 : decode cX7_as 40 = .ok (.aload_n 0, 1) := by decide +kernel
theorem dX7_as_41 : decode cX7_as 41 = .ok (.getfield 18, 3) := by decide +kernel
theorem dX7_as_44 : decode cX7_as 44 = .ok (.iload_n 1, 1) := by decide +kernel
theorem dX7_as_45 : decode cX7_as 45 = .ok (.aaload, 1) := by decide +kernel
theorem dX7_as_46 : decode cX7_as 46 = .ok (.getfield 127, 3) := by decide +kernel
theorem dX7_as_49 : decode cX7_as 49 = .ok (.iconst 0, 1) := by decide +kernel
theorem dX7_as_50 : decode cX7_as 50 = .ok (.iaload, 1) := by decide +kernel
theorem dX7_as_51 : decode cX7_as 51 = .ok (.invokevirtual 86, 3) := by decide +kernel
theorem dX7_as_54 : decode cX7_as 54 = .ok (.ireturn, 1) := by decide +kernel
set_option maxRecDepth 20000 in
theorem ggX7_ask_X7_isStriker : GoodIn wsX7_ask wsX7_isStriker := goodIn_r _ [9, 10, 11, 12, 8, 13, 70, 71, 72, 73, 74, 75, 76, 77, 78] (by decide +kernel) (by decide +kernel)
set_option maxRecDepth 20000 in
theorem gX7_ask_X7_isStriker : GoodIn wsX7_ask (wsV RX7 140 RX7 yX7_isStriker wsX7_isStriker) := goodIn_app (goodIn_of _ (by decide +kernel)) ggX7_ask_X7_isStriker
set_option maxRecDepth 20000 in
theorem ggX7_ask_X7_within : GoodIn wsX7_ask wsX7_within := goodIn_r _ [13] (by decide +kernel) (by decide +kernel)
set_option maxRecDepth 20000 in
theorem gX7_ask_X7_within : GoodIn wsX7_ask (va_wsS RX7 73 yX7_within wsX7_within) := goodIn_app (goodIn_of _ (by decide +kernel)) ggX7_ask_X7_within
set_option maxRecDepth 20000 in
theorem ggX7_ask_X0_sizeOf : GoodIn wsX7_ask wsX0_sizeOf := goodIn_r _ [17, 18, 19, 20, 21, 22, 23, 24, 25, 26, 27, 15, 28, 29, 30, 31, 32, 33, 34, 35, 36, 37, 38, 39, 40, 41, 42, 43, 44, 45, 46, 47, 48, 49, 50, 51, 52, 53, 54, 55, 56, 57, 58, 59, 60, 61, 62, 63, 64, 65, 14, 16, 66, 67, 68, 69, 81, 82, 79, 80] (by decide +kernel) (by decide +kernel)
set_option maxRecDepth 20000 in
theorem gX7_ask_X0_sizeOf_n217 : GoodIn wsX7_ask (wsX0_sizeOf) := ggX7_ask_X0_sizeOf
set_option maxRecDepth 20000 in
theorem ggX7_ask_X0_markOf : GoodIn wsX7_ask wsX0_markOf := goodIn_r _ [48, 18, 19, 20, 21, 22, 23, 24, 49, 50, 51, 15, 52, 53, 54, 55, 29, 30, 31, 32, 33, 34, 56, 57, 58, 59, 39, 60, 61, 62, 63, 64, 65, 14, 16, 17, 25, 26, 27, 28, 35, 36, 37, 38, 40, 41, 42, 43, 44, 45, 46, 47, 66, 67, 68, 69, 81, 82, 79, 80] (by decide +kernel) (by decide +kernel)
set_option maxRecDepth 20000 in
theorem gX7_ask_X0_markOf_n221 : GoodIn wsX7_ask (wsX0_markOf) := ggX7_ask_X0_markOf
theorem dX7_ask_0 : decode cX7_ask 0 = .ok (.aload_n 0, 1) := by decide +kernel
theorem dX7_ask_1 : decode cX7_ask 1 = .ok (.iload_n 1, 1) := by decide +kernel
theorem dX7_ask_2 : decode cX7_ask 2 = .ok (.invokevirtual 140, 3) := by decide +kernel
theorem dX7_ask_5 : decode cX7_ask 5 = .ok (.ifCond .eq 12, 3) := by decide +kernel
theorem dX7_ask_8 : decode cX7_ask 8 = .ok (.iload_n 2, 1) := by decide +kernel
theorem dX7_ask_9 : decode cX7_ask 9 = .ok (.iconst 0, 1) := by decide +kernel
theorem dX7_ask_10 : decode cX7_ask 10 = .ok (.iconst 1, 1) := by decide +kernel
theorem dX7_ask_11 : decode cX7_ask 11 = .ok (.invokestatic 73, 3) := by decide +kernel
theorem dX7_ask_14 : decode cX7_ask 14 = .ok (.ifCond .ne 6, 3) := by decide +kernel
theorem dX7_ask_17 : decode cX7_ask 17 = .ok (.ldc 77, 2) := by decide +kernel
theorem dX7_ask_19 : decode cX7_ask 19 = .ok (.ireturn, 1) := by decide +kernel
theorem dX7_ask_20 : decode cX7_ask 20 = .ok (.aload_n 0, 1) := by decide +kernel
theorem dX7_ask_21 : decode cX7_ask 21 = .ok (.getfield 62, 3) := by decide +kernel
theorem dX7_ask_24 : decode cX7_ask 24 = .ok (.iconst 0, 1) := by decide +kernel
theorem dX7_ask_25 : decode cX7_ask 25 = .ok (.putfield 214, 3) := by decide +kernel
theorem dX7_ask_28 : decode cX7_ask 28 = .ok (.iload_n 2, 1) := by decide +kernel
theorem dX7_ask_29 : decode cX7_ask 29 = .ok (.ifCond .ne 20, 3) := by decide +kernel
theorem dX7_ask_32 : decode cX7_ask 32 = .ok (.aload_n 0, 1) := by decide +kernel
theorem dX7_ask_33 : decode cX7_ask 33 = .ok (.getfield 62, 3) := by decide +kernel
theorem dX7_ask_36 : decode cX7_ask 36 = .ok (.aload_n 0, 1) := by decide +kernel
theorem dX7_ask_37 : decode cX7_ask 37 = .ok (.getfield 18, 3) := by decide +kernel
theorem dX7_ask_40 : decode cX7_ask 40 = .ok (.iload_n 1, 1) := by decide +kernel
theorem dX7_ask_41 : decode cX7_ask 41 = .ok (.aaload, 1) := by decide +kernel
theorem dX7_ask_42 : decode cX7_ask 42 = .ok (.iconst 0, 1) := by decide +kernel
theorem dX7_ask_43 : decode cX7_ask 43 = .ok (.invokevirtual 217, 3) := by decide +kernel
theorem dX7_ask_46 : decode cX7_ask 46 = .ok (.goto 17, 3) := by decide +kernel
theorem dX7_ask_49 : decode cX7_ask 49 = .ok (.aload_n 0, 1) := by decide +kernel
theorem dX7_ask_50 : decode cX7_ask 50 = .ok (.getfield 62, 3) := by decide +kernel
theorem dX7_ask_53 : decode cX7_ask 53 = .ok (.aload_n 0, 1) := by decide +kernel
theorem dX7_ask_54 : decode cX7_ask 54 = .ok (.getfield 18, 3) := by decide +kernel
theorem dX7_ask_57 : decode cX7_ask 57 = .ok (.iload_n 1, 1) := by decide +kernel
theorem dX7_ask_58 : decode cX7_ask 58 = .ok (.aaload, 1) := by decide +kernel
theorem dX7_ask_59 : decode cX7_ask 59 = .ok (.iconst 0, 1) := by decide +kernel
theorem dX7_ask_60 : decode cX7_ask 60 = .ok (.invokevirtual 221, 3) := by decide +kernel
theorem dX7_ask_63 : decode cX7_ask 63 = .ok (.ireturn, 1) := by decide +kernel
set_option maxRecDepth 20000 in
theorem ggX7_trace_X7_within : GoodIn wsX7_trace wsX7_within := goodIn_r _ [8] (by decide +kernel) (by decide +kernel)
set_option maxRecDepth 20000 in
theorem gX7_trace_X7_within : GoodIn wsX7_trace (va_wsS RX7 73 yX7_within wsX7_within) := goodIn_app (goodIn_of _ (by decide +kernel)) ggX7_trace_X7_within
theorem dX7_trace_0 : decode cX7_trace 0 = .ok (.iload_n 1, 1) := by decide +kernel
theorem dX7_trace_1 : decode cX7_trace 1 = .ok (.iconst 0, 1) := by decide +kernel
theorem dX7_trace_2 : decode cX7_trace 2 = .ok (.aload_n 0, 1) := by decide +kernel
theorem dX7_trace_3 : decode cX7_trace 3 = .ok (.getfield 62, 3) := by decide +kernel
theorem dX7_trace_6 : decode cX7_trace 6 = .ok (.getfield 214, 3) := by decide +kernel
theorem dX7_trace_9 : decode cX7_trace 9 = .ok (.iconst 1, 1) := by decide +kernel
theorem dX7_trace_10 : decode cX7_trace 10 = .ok (.isub, 1) := by decide +kernel
theorem dX7_trace_11 : decode cX7_trace 11 = .ok (.invokestatic 73, 3) := by decide +kernel
theorem dX7_trace_14 : decode cX7_trace 14 = .ok (.ifCond .eq 15, 3) := by decide +kernel
theorem dX7_trace_17 : decode cX7_trace 17 = .ok (.aload_n 0, 1) := by decide +kernel
theorem dX7_trace_18 : decode cX7_trace 18 = .ok (.getfield 62, 3) := by decide +kernel
theorem dX7_trace_21 : decode cX7_trace 21 = .ok (.getfield 224, 3) := by decide +kernel
theorem dX7_trace_24 : decode cX7_trace 24 = .ok (.iload_n 1, 1) := by decide +kernel
theorem dX7_trace_25 : decode cX7_trace 25 = .ok (.iaload, 1) := by decide +kernel
theorem dX7_trace_26 : decode cX7_trace 26 = .ok (.goto 5, 3) := by decide +kernel
theorem dX7_trace_29 : decode cX7_trace 29 = .ok (.ldc 154, 2) := by decide +kernel
theorem dX7_trace_31 : decode cX7_trace 31 = .ok (.ireturn, 1) := by decide +kernel
set_option maxRecDepth 20000 in
theorem ggX7_count_X7_howManySheets : GoodIn wsX7_count wsX7_howManySheets := goodIn_r _ [10, 11, 12, 36, 37, 38, 39, 40, 41, 42, 43, 44, 54, 55, 56, 57] (by decide +kernel) (by decide +kernel)
set_option maxRecDepth 20000 in
theorem gX7_count_X7_howManySheets : GoodIn wsX7_count (wsV RX7 227 RX7 yX7_howManySheets wsX7_howManySheets) := goodIn_app (goodIn_of _ (by decide +kernel)) ggX7_count_X7_howManySheets
set_option maxRecDepth 20000 in
theorem ggX7_count_X7_howManyStrikers : GoodIn wsX7_count wsX7_howManyStrikers := goodIn_r _ [16, 1, 17, 18, 19, 20, 21, 22, 23, 24, 25, 26, 27, 28, 36, 37, 38, 39, 40, 41, 42, 43, 44, 58, 59] (by decide +kernel) (by decide +kernel)
set_option maxRecDepth 20000 in
theorem gX7_count_X7_howManyStrikers : GoodIn wsX7_count (wsV RX7 230 RX7 yX7_howManyStrikers wsX7_howManyStrikers) := goodIn_app (goodIn_of _ (by decide +kernel)) ggX7_count_X7_howManyStrikers
set_option maxRecDepth 20000 in
theorem ggX7_count_X4_howManyTeams : GoodIn wsX7_count wsX4_howManyTeams := goodIn_r _ [33, 34, 35, 60, 61, 62, 63, 64, 65, 66, 67] (by decide +kernel) (by decide +kernel)
set_option maxRecDepth 20000 in
theorem gX7_count_X4_howManyTeams : GoodIn wsX7_count (wsV RX7 187 RX4 yX4_howManyTeams wsX4_howManyTeams) := goodIn_app (goodIn_of _ (by decide +kernel)) ggX7_count_X4_howManyTeams
theorem dX7_count_0 : decode cX7_count 0 = .ok (.iload_n 1, 1) := by decide +kernel
theorem dX7_count_1 : decode cX7_count 1 = .ok (.tableswitch 87 0 6 #[43, 48, 53, 59, 65, 71, 79], 43) := by decide +kernel
theorem dX7_count_44 : decode cX7_count 44 = .ok (.aload_n 0, 1) := by decide +kernel
theorem dX7_count_45 : decode cX7_count 45 = .ok (.invokevirtual 227, 3) := by decide +kernel
theorem dX7_count_48 : decode cX7_count 48 = .ok (.ireturn, 1) := by decide +kernel
theorem dX7_count_49 : decode cX7_count 49 = .ok (.aload_n 0, 1) := by decide +kernel
theorem dX7_count_50 : decode cX7_count 50 = .ok (.getfield 23, 3) := by decide +kernel
theorem dX7_count_53 : decode cX7_count 53 = .ok (.ireturn, 1) := by decide +kernel
theorem dX7_count_54 : decode cX7_count 54 = .ok (.aload_n 0, 1) := by decide +kernel
theorem dX7_count_55 : decode cX7_count 55 = .ok (.iconst 1, 1) := by decide +kernel
theorem dX7_count_56 : decode cX7_count 56 = .ok (.invokevirtual 230, 3) := by decide +kernel
theorem dX7_count_59 : decode cX7_count 59 = .ok (.ireturn, 1) := by decide +kernel
theorem dX7_count_60 : decode cX7_count 60 = .ok (.aload_n 0, 1) := by decide +kernel
theorem dX7_count_61 : decode cX7_count 61 = .ok (.iconst 2, 1) := by decide +kernel
theorem dX7_count_62 : decode cX7_count 62 = .ok (.invokevirtual 230, 3) := by decide +kernel
theorem dX7_count_65 : decode cX7_count 65 = .ok (.ireturn, 1) := by decide +kernel
theorem dX7_count_66 : decode cX7_count 66 = .ok (.aload_n 0, 1) := by decide +kernel
theorem dX7_count_67 : decode cX7_count 67 = .ok (.iconst 3, 1) := by decide +kernel
theorem dX7_count_68 : decode cX7_count 68 = .ok (.invokevirtual 230, 3) := by decide +kernel
theorem dX7_count_71 : decode cX7_count 71 = .ok (.ireturn, 1) := by decide +kernel
theorem dX7_count_72 : decode cX7_count 72 = .ok (.aload_n 0, 1) := by decide +kernel
theorem dX7_count_73 : decode cX7_count 73 = .ok (.getfield 39, 3) := by decide +kernel
theorem dX7_count_76 : decode cX7_count 76 = .ok (.getfield 155, 3) := by decide +kernel
theorem dX7_count_79 : decode cX7_count 79 = .ok (.ireturn, 1) := by decide +kernel
theorem dX7_count_80 : decode cX7_count 80 = .ok (.aload_n 0, 1) := by decide +kernel
theorem dX7_count_81 : decode cX7_count 81 = .ok (.getfield 46, 3) := by decide +kernel
theorem dX7_count_84 : decode cX7_count 84 = .ok (.invokevirtual 187, 3) := by decide +kernel
theorem dX7_count_87 : decode cX7_count 87 = .ok (.ireturn, 1) := by decide +kernel
theorem dX7_count_88 : decode cX7_count 88 = .ok (.ldc 77, 2) := by decide +kernel
theorem dX7_count_90 : decode cX7_count 90 = .ok (.ireturn, 1) := by decide +kernel
theorem dX7_status_0 : decode cX7_status 0 = .ok (.aload_n 0, 1) := by decide +kernel
theorem dX7_status_1 : decode cX7_status 1 = .ok (.getfield 66, 3) := by decide +kernel
theorem dX7_status_4 : decode cX7_status 4 = .ok (.ireturn, 1) := by decide +kernel
theorem dX7_within_0 : decode cX7_within 0 = .ok (.iload_n 0, 1) := by decide +kernel
theorem dX7_within_1 : decode cX7_within 1 = .ok (.iload_n 1, 1) := by decide +kernel
theorem dX7_within_2 : decode cX7_within 2 = .ok (.if_icmp .lt 12, 3) := by decide +kernel
theorem dX7_within_5 : decode cX7_within 5 = .ok (.iload_n 0, 1) := by decide +kernel
theorem dX7_within_6 : decode cX7_within 6 = .ok (.iload_n 2, 1) := by decide +kernel
theorem dX7_within_7 : decode cX7_within 7 = .ok (.if_icmp .gt 7, 3) := by decide +kernel
theorem dX7_within_10 : decode cX7_within 10 = .ok (.iconst 1, 1) := by decide +kernel
theorem dX7_within_11 : decode cX7_within 11 = .ok (.goto 4, 3) := by decide +kernel
theorem dX7_within_14 : decode cX7_within 14 = .ok (.iconst 0, 1) := by decide +kernel
theorem dX7_within_15 : decode cX7_within 15 = .ok (.ireturn, 1) := by decide +kernel
set_option maxRecDepth 20000 in
theorem ggX7_isSheet_X7_within : GoodIn wsX7_isSheet wsX7_within := goodIn_r _ [4] (by decide +kernel) (by decide +kernel)
set_option maxRecDepth 20000 in
theorem gX7_isSheet_X7_within : GoodIn wsX7_isSheet (va_wsS RX7 73 yX7_within wsX7_within) := goodIn_app (goodIn_of _ (by decide +kernel)) ggX7_isSheet_X7_within
theorem dX7_isSheet_0 : decode cX7_isSheet 0 = .ok (.iload_n 0, 1) := by decide +kernel
theorem dX7_isSheet_1 : decode cX7_isSheet 1 = .ok (.iconst 0, 1) := by decide +kernel
theorem dX7_isSheet_2 : decode cX7_isSheet 2 = .ok (.bipush 7, 2) := by decide +kernel
theorem dX7_isSheet_4 : decode cX7_isSheet 4 = .ok (.invokestatic 73, 3) := by decide +kernel
theorem dX7_isSheet_7 : decode cX7_isSheet 7 = .ok (.ireturn, 1) := by decide +kernel
set_option maxRecDepth 20000 in
theorem ggX7_isChance_X7_within : GoodIn wsX7_isChance wsX7_within := goodIn_r _ [4] (by decide +kernel) (by decide +kernel)
set_option maxRecDepth 20000 in
theorem gX7_isChance_X7_within : GoodIn wsX7_isChance (va_wsS RX7 73 yX7_within wsX7_within) := goodIn_app (goodIn_of _ (by decide +kernel)) ggX7_isChance_X7_within
theorem dX7_isChance_0 : decode cX7_isChance 0 = .ok (.iload_n 0, 1) := by decide +kernel
theorem dX7_isChance_1 : decode cX7_isChance 1 = .ok (.iconst 0, 1) := by decide +kernel
theorem dX7_isChance_2 : decode cX7_isChance 2 = .ok (.sipush 1000, 3) := by decide +kernel
theorem dX7_isChance_5 : decode cX7_isChance 5 = .ok (.invokestatic 73, 3) := by decide +kernel
theorem dX7_isChance_8 : decode cX7_isChance 8 = .ok (.ireturn, 1) := by decide +kernel
set_option maxRecDepth 20000 in
theorem ggX7_isStriker_X7_within : GoodIn wsX7_isStriker wsX7_within := goodIn_r _ [5] (by decide +kernel) (by decide +kernel)
set_option maxRecDepth 20000 in
theorem gX7_isStriker_X7_within : GoodIn wsX7_isStriker (va_wsS RX7 73 yX7_within wsX7_within) := goodIn_app (goodIn_of _ (by decide +kernel)) ggX7_isStriker_X7_within
theorem dX7_isStriker_0 : decode cX7_isStriker 0 = .ok (.iload_n 1, 1) := by decide +kernel
theorem dX7_isStriker_1 : decode cX7_isStriker 1 = .ok (.iconst 0, 1) := by decide +kernel
theorem dX7_isStriker_2 : decode cX7_isStriker 2 = .ok (.aload_n 0, 1) := by decide +kernel
theorem dX7_isStriker_3 : decode cX7_isStriker 3 = .ok (.getfield 23, 3) := by decide +kernel
theorem dX7_isStriker_6 : decode cX7_isStriker 6 = .ok (.iconst 1, 1) := by decide +kernel
theorem dX7_isStriker_7 : decode cX7_isStriker 7 = .ok (.isub, 1) := by decide +kernel
theorem dX7_isStriker_8 : decode cX7_isStriker 8 = .ok (.invokestatic 73, 3) := by decide +kernel
theorem dX7_isStriker_11 : decode cX7_isStriker 11 = .ok (.ireturn, 1) := by decide +kernel
set_option maxRecDepth 20000 in
theorem ggX7_isPlace_X7_within : GoodIn wsX7_isPlace wsX7_within := goodIn_r _ [6] (by decide +kernel) (by decide +kernel)
set_option maxRecDepth 20000 in
theorem gX7_isPlace_X7_within : GoodIn wsX7_isPlace (va_wsS RX7 73 yX7_within wsX7_within) := goodIn_app (goodIn_of _ (by decide +kernel)) ggX7_isPlace_X7_within
theorem dX7_isPlace_0 : decode cX7_isPlace 0 = .ok (.iload_n 1, 1) := by decide +kernel
theorem dX7_isPlace_1 : decode cX7_isPlace 1 = .ok (.iconst 0, 1) := by decide +kernel
theorem dX7_isPlace_2 : decode cX7_isPlace 2 = .ok (.aload_n 0, 1) := by decide +kernel
theorem dX7_isPlace_3 : decode cX7_isPlace 3 = .ok (.getfield 39, 3) := by decide +kernel
theorem dX7_isPlace_6 : decode cX7_isPlace 6 = .ok (.getfield 155, 3) := by decide +kernel
theorem dX7_isPlace_9 : decode cX7_isPlace 9 = .ok (.iconst 1, 1) := by decide +kernel
theorem dX7_isPlace_10 : decode cX7_isPlace 10 = .ok (.isub, 1) := by decide +kernel
theorem dX7_isPlace_11 : decode cX7_isPlace 11 = .ok (.invokestatic 73, 3) := by decide +kernel
theorem dX7_isPlace_14 : decode cX7_isPlace 14 = .ok (.ireturn, 1) := by decide +kernel
theorem dX7_found_0 : decode cX7_found 0 = .ok (.aload_n 0, 1) := by decide +kernel
theorem dX7_found_1 : decode cX7_found 1 = .ok (.iload_n 1, 1) := by decide +kernel
theorem dX7_found_2 : decode cX7_found 2 = .ok (.putfield 66, 3) := by decide +kernel
theorem dX7_found_5 : decode cX7_found 5 = .ok (.ldc 233, 2) := by decide +kernel
theorem dX7_found_7 : decode cX7_found 7 = .ok (.iload_n 1, 1) := by decide +kernel
theorem dX7_found_8 : decode cX7_found 8 = .ok (.isub, 1) := by decide +kernel
theorem dX7_found_9 : decode cX7_found 9 = .ok (.ireturn, 1) := by decide +kernel
theorem dX7_fine_0 : decode cX7_fine 0 = .ok (.aload_n 0, 1) := by decide +kernel
theorem dX7_fine_1 : decode cX7_fine 1 = .ok (.iconst 0, 1) := by decide +kernel
theorem dX7_fine_2 : decode cX7_fine 2 = .ok (.putfield 66, 3) := by decide +kernel
theorem dX7_fine_5 : decode cX7_fine 5 = .ok (.iload_n 1, 1) := by decide +kernel
theorem dX7_fine_6 : decode cX7_fine 6 = .ok (.ireturn, 1) := by decide +kernel
theorem dX7_admitted_0 : decode cX7_admitted 0 = .ok (.aload_n 0, 1) := by decide +kernel
theorem dX7_admitted_1 : decode cX7_admitted 1 = .ok (.getfield 23, 3) := by decide +kernel
theorem dX7_admitted_4 : decode cX7_admitted 4 = .ok (.istore_n 1, 1) := by decide +kernel
theorem dX7_admitted_5 : decode cX7_admitted 5 = .ok (.aload_n 0, 1) := by decide +kernel
theorem dX7_admitted_6 : decode cX7_admitted 6 = .ok (.dup, 1) := by decide +kernel
theorem dX7_admitted_7 : decode cX7_admitted 7 = .ok (.getfield 23, 3) := by decide +kernel
theorem dX7_admitted_10 : decode cX7_admitted 10 = .ok (.iconst 1, 1) := by decide +kernel
theorem dX7_admitted_11 : decode cX7_admitted 11 = .ok (.iadd, 1) := by decide +kernel
theorem dX7_admitted_12 : decode cX7_admitted 12 = .ok (.putfield 23, 3) := by decide +kernel
theorem dX7_admitted_15 : decode cX7_admitted 15 = .ok (.iload_n 1, 1) := by decide +kernel
theorem dX7_admitted_16 : decode cX7_admitted 16 = .ok (.ireturn, 1) := by decide +kernel
set_option maxRecDepth 20000 in
theorem ggX7_findingOfLog_X5_holds : GoodIn wsX7_findingOfLog wsX5_holds := goodIn_r _ [7, 8, 18, 19, 20, 21] (by decide +kernel) (by decide +kernel)
set_option maxRecDepth 20000 in
theorem gX7_findingOfLog_X5_holds : GoodIn wsX7_findingOfLog (wsV RX7 93 RX5 yX5_holds wsX5_holds) := goodIn_app (goodIn_of _ (by decide +kernel)) ggX7_findingOfLog_X5_holds
theorem dX7_findingOfLog_0 : decode cX7_findingOfLog 0 = .ok (.aload_n 0, 1) := by decide +kernel
theorem dX7_findingOfLog_1 : decode cX7_findingOfLog 1 = .ok (.getfield 11, 3) := by decide +kernel
theorem dX7_findingOfLog_4 : decode cX7_findingOfLog 4 = .ok (.iload_n 1, 1) := by decide +kernel
theorem dX7_findingOfLog_5 : decode cX7_findingOfLog 5 = .ok (.aaload, 1) := by decide +kernel
theorem dX7_findingOfLog_6 : decode cX7_findingOfLog 6 = .ok (.astore 4, 2) := by decide +kernel
theorem dX7_findingOfLog_8 : decode cX7_findingOfLog 8 = .ok (.aload 4, 2) := by decide +kernel
theorem dX7_findingOfLog_10 : decode cX7_findingOfLog 10 = .ok (.getfield 89, 3) := by decide +kernel
theorem dX7_findingOfLog_13 : decode cX7_findingOfLog 13 = .ok (.ifCond .eq 5, 3) := by decide +kernel
theorem dX7_findingOfLog_16 : decode cX7_findingOfLog 16 = .ok (.iconst 1, 1) := by decide +kernel
theorem dX7_findingOfLog_17 : decode cX7_findingOfLog 17 = .ok (.ireturn, 1) := by decide +kernel
theorem dX7_findingOfLog_18 : decode cX7_findingOfLog 18 = .ok (.aload 4, 2) := by decide +kernel
theorem dX7_findingOfLog_20 : decode cX7_findingOfLog 20 = .ok (.iload_n 2, 1) := by decide +kernel
theorem dX7_findingOfLog_21 : decode cX7_findingOfLog 21 = .ok (.iload_n 3, 1) := by decide +kernel
theorem dX7_findingOfLog_22 : decode cX7_findingOfLog 22 = .ok (.iconst 3, 1) := by decide +kernel
theorem dX7_findingOfLog_23 : decode cX7_findingOfLog 23 = .ok (.imul, 1) := by decide +kernel
theorem dX7_findingOfLog_24 : decode cX7_findingOfLog 24 = .ok (.invokevirtual 93, 3) := by decide +kernel
theorem dX7_findingOfLog_27 : decode cX7_findingOfLog 27 = .ok (.ifCond .eq 7, 3) := by decide +kernel
theorem dX7_findingOfLog_30 : decode cX7_findingOfLog 30 = .ok (.iconst 0, 1) := by decide +kernel
theorem dX7_findingOfLog_31 : decode cX7_findingOfLog 31 = .ok (.goto 4, 3) := by decide +kernel
theorem dX7_findingOfLog_34 : decode cX7_findingOfLog 34 = .ok (.iconst 2, 1) := by decide +kernel
theorem dX7_findingOfLog_35 : decode cX7_findingOfLog 35 = .ok (.ireturn, 1) := by decide +kernel
theorem dX7_howManySheets_0 : decode cX7_howManySheets 0 = .ok (.iconst 0, 1) := by decide +kernel
theorem dX7_howManySheets_1 : decode cX7_howManySheets 1 = .ok (.istore_n 1, 1) := by decide +kernel
theorem dX7_howManySheets_2 : decode cX7_howManySheets 2 = .ok (.iconst 0, 1) := by decide +kernel
theorem dX7_howManySheets_3 : decode cX7_howManySheets 3 = .ok (.istore_n 2, 1) := by decide +kernel
theorem dX7_howManySheets_4 : decode cX7_howManySheets 4 = .ok (.iload_n 2, 1) := by decide +kernel
theorem dX7_howManySheets_5 : decode cX7_howManySheets 5 = .ok (.bipush 8, 2) := by decide +kernel
theorem dX7_howManySheets_7 : decode cX7_howManySheets 7 = .ok (.if_icmp .ge 24, 3) := by decide +kernel
theorem dX7_howManySheets_10 : decode cX7_howManySheets 10 = .ok (.aload_n 0, 1) := by decide +kernel
theorem dX7_howManySheets_11 : decode cX7_howManySheets 11 = .ok (.getfield 11, 3) := by decide +kernel
theorem dX7_howManySheets_14 : decode cX7_howManySheets 14 = .ok (.iload_n 2, 1) := by decide +kernel
theorem dX7_howManySheets_15 : decode cX7_howManySheets 15 = .ok (.aaload, 1) := by decide +kernel
theorem dX7_howManySheets_16 : decode cX7_howManySheets 16 = .ok (.getfield 89, 3) := by decide +kernel
theorem dX7_howManySheets_19 : decode cX7_howManySheets 19 = .ok (.ifCond .ne 6, 3) := by decide +kernel
theorem dX7_howManySheets_22 : decode cX7_howManySheets 22 = .ok (.iinc 1 1, 3) := by decide +kernel
theorem dX7_howManySheets_25 : decode cX7_howManySheets 25 = .ok (.iinc 2 1, 3) := by decide +kernel
theorem dX7_howManySheets_28 : decode cX7_howManySheets 28 = .ok (.goto (-24), 3) := by decide +kernel
theorem dX7_howManySheets_31 : decode cX7_howManySheets 31 = .ok (.iload_n 1, 1) := by decide +kernel
theorem dX7_howManySheets_32 : decode cX7_howManySheets 32 = .ok (.ireturn, 1) := by decide +kernel
set_option maxRecDepth 20000 in
theorem ggX7_howManyStrikers_X6_isOne : GoodIn wsX7_howManyStrikers wsX6_isOne := goodIn_r _ [7, 8, 9, 10, 6, 11, 12, 13, 23, 24] (by decide +kernel) (by decide +kernel)
set_option maxRecDepth 20000 in
theorem gX7_howManyStrikers_X6_isOne : GoodIn wsX7_howManyStrikers (wsV RX7 211 RX6 yX6_isOne wsX6_isOne) := goodIn_app (goodIn_of _ (by decide +kernel)) ggX7_howManyStrikers_X6_isOne
theorem dX7_howManyStrikers_0 : decode cX7_howManyStrikers 0 = .ok (.iconst 0, 1) := by decide +kernel
theorem dX7_howManyStrikers_1 : decode cX7_howManyStrikers 1 = .ok (.istore_n 2, 1) := by decide +kernel
theorem dX7_howManyStrikers_2 : decode cX7_howManyStrikers 2 = .ok (.iconst 0, 1) := by decide +kernel
theorem dX7_howManyStrikers_3 : decode cX7_howManyStrikers 3 = .ok (.istore_n 3, 1) := by decide +kernel
theorem dX7_howManyStrikers_4 : decode cX7_howManyStrikers 4 = .ok (.iload_n 3, 1) := by decide +kernel
theorem dX7_howManyStrikers_5 : decode cX7_howManyStrikers 5 = .ok (.aload_n 0, 1) := by decide +kernel
theorem dX7_howManyStrikers_6 : decode cX7_howManyStrikers 6 = .ok (.getfield 23, 3) := by decide +kernel
theorem dX7_howManyStrikers_9 : decode cX7_howManyStrikers 9 = .ok (.if_icmp .ge 25, 3) := by decide +kernel
theorem dX7_howManyStrikers_12 : decode cX7_howManyStrikers 12 = .ok (.aload_n 0, 1) := by decide +kernel
theorem dX7_howManyStrikers_13 : decode cX7_howManyStrikers 13 = .ok (.getfield 18, 3) := by decide +kernel
theorem dX7_howManyStrikers_16 : decode cX7_howManyStrikers 16 = .ok (.iload_n 3, 1) := by decide +kernel
theorem dX7_howManyStrikers_17 : decode cX7_howManyStrikers 17 = .ok (.aaload, 1) := by decide +kernel
theorem dX7_howManyStrikers_18 : decode cX7_howManyStrikers 18 = .ok (.iload_n 1, 1) := by decide +kernel
theorem dX7_howManyStrikers_19 : decode cX7_howManyStrikers 19 = .ok (.invokevirtual 211, 3) := by decide +kernel
theorem dX7_howManyStrikers_22 : decode cX7_howManyStrikers 22 = .ok (.ifCond .eq 6, 3) := by decide +kernel
theorem dX7_howManyStrikers_25 : decode cX7_howManyStrikers 25 = .ok (.iinc 2 1, 3) := by decide +kernel
theorem dX7_howManyStrikers_28 : decode cX7_howManyStrikers 28 = .ok (.iinc 3 1, 3) := by decide +kernel
theorem dX7_howManyStrikers_31 : decode cX7_howManyStrikers 31 = .ok (.goto (-27), 3) := by decide +kernel
theorem dX7_howManyStrikers_34 : decode cX7_howManyStrikers 34 = .ok (.iload_n 2, 1) := by decide +kernel
theorem dX7_howManyStrikers_35 : decode cX7_howManyStrikers 35 = .ok (.ireturn, 1) := by decide +kernel
theorem dX8_init_0 : decode cX8_init 0 = .ok (.aload_n 0, 1) := by decide +kernel
theorem dX8_init_1 : decode cX8_init 1 = .ok (.invokespecial 1, 3) := by decide +kernel
theorem dX8_init_4 : decode cX8_init 4 = .ok (.aload_n 0, 1) := by decide +kernel
theorem dX8_init_5 : decode cX8_init 5 = .ok (.bipush 8, 2) := by decide +kernel
theorem dX8_init_7 : decode cX8_init 7 = .ok (.newarray .int, 2) := by decide +kernel
theorem dX8_init_9 : decode cX8_init 9 = .ok (.dup, 1) := by decide +kernel
theorem dX8_init_10 : decode cX8_init 10 = .ok (.iconst 0, 1) := by decide +kernel
theorem dX8_init_11 : decode cX8_init 11 = .ok (.iconst (-1), 1) := by decide +kernel
theorem dX8_init_12 : decode cX8_init 12 = .ok (.iastore, 1) := by decide +kernel
theorem dX8_init_13 : decode cX8_init 13 = .ok (.dup, 1) := by decide +kernel
theorem dX8_init_14 : decode cX8_init 14 = .ok (.iconst 1, 1) := by decide +kernel
theorem dX8_init_15 : decode cX8_init 15 = .ok (.iconst (-1), 1) := by decide +kernel
theorem dX8_init_16 : decode cX8_init 16 = .ok (.iastore, 1) := by decide +kernel
theorem dX8_init_17 : decode cX8_init 17 = .ok (.dup, 1) := by decide +kernel
theorem dX8_init_18 : decode cX8_init 18 = .ok (.iconst 2, 1) := by decide +kernel
theorem dX8_init_19 : decode cX8_init 19 = .ok (.iconst (-1), 1) := by decide +kernel
theorem dX8_init_20 : decode cX8_init 20 = .ok (.iastore, 1) := by decide +kernel
theorem dX8_init_21 : decode cX8_init 21 = .ok (.dup, 1) := by decide +kernel
theorem dX8_init_22 : decode cX8_init 22 = .ok (.iconst 3, 1) := by decide +kernel
theorem dX8_init_23 : decode cX8_init 23 = .ok (.iconst (-1), 1) := by decide +kernel
theorem dX8_init_24 : decode cX8_init 24 = .ok (.iastore, 1) := by decide +kernel
theorem dX8_init_25 : decode cX8_init 25 = .ok (.dup, 1) := by decide +kernel
theorem dX8_init_26 : decode cX8_init 26 = .ok (.iconst 4, 1) := by decide +kernel
theorem dX8_init_27 : decode cX8_init 27 = .ok (.iconst (-1), 1) := by decide +kernel
theorem dX8_init_28 : decode cX8_init 28 = .ok (.iastore, 1) := by decide +kernel
theorem dX8_init_29 : decode cX8_init 29 = .ok (.dup, 1) := by decide +kernel
theorem dX8_init_30 : decode cX8_init 30 = .ok (.iconst 5, 1) := by decide +kernel
theorem dX8_init_31 : decode cX8_init 31 = .ok (.iconst (-1), 1) := by decide +kernel
theorem dX8_init_32 : decode cX8_init 32 = .ok (.iastore, 1) := by decide +kernel
theorem dX8_init_33 : decode cX8_init 33 = .ok (.dup, 1) := by decide +kernel
theorem dX8_init_34 : decode cX8_init 34 = .ok (.bipush 6, 2) := by decide +kernel
theorem dX8_init_36 : decode cX8_init 36 = .ok (.iconst (-1), 1) := by decide +kernel
theorem dX8_init_37 : decode cX8_init 37 = .ok (.iastore, 1) := by decide +kernel
theorem dX8_init_38 : decode cX8_init 38 = .ok (.dup, 1) := by decide +kernel
theorem dX8_init_39 : decode cX8_init 39 = .ok (.bipush 7, 2) := by decide +kernel
theorem dX8_init_41 : decode cX8_init 41 = .ok (.iconst (-1), 1) := by decide +kernel
theorem dX8_init_42 : decode cX8_init 42 = .ok (.iastore, 1) := by decide +kernel
theorem dX8_init_43 : decode cX8_init 43 = .ok (.putfield 7, 3) := by decide +kernel
theorem dX8_init_46 : decode cX8_init 46 = .ok (.aload_n 0, 1) := by decide +kernel
theorem dX8_init_47 : decode cX8_init 47 = .ok (.bipush 8, 2) := by decide +kernel
theorem dX8_init_49 : decode cX8_init 49 = .ok (.newarray .int, 2) := by decide +kernel
theorem dX8_init_51 : decode cX8_init 51 = .ok (.putfield 13, 3) := by decide +kernel
theorem dX8_init_54 : decode cX8_init 54 = .ok (.aload_n 0, 1) := by decide +kernel
theorem dX8_init_55 : decode cX8_init 55 = .ok (.sipush 480, 3) := by decide +kernel
theorem dX8_init_58 : decode cX8_init 58 = .ok (.newarray .int, 2) := by decide +kernel
theorem dX8_init_60 : decode cX8_init 60 = .ok (.putfield 16, 3) := by decide +kernel
theorem dX8_init_63 : decode cX8_init 63 = .ok (.aload_n 0, 1) := by decide +kernel
theorem dX8_init_64 : decode cX8_init 64 = .ok (.bipush 84, 2) := by decide +kernel
theorem dX8_init_66 : decode cX8_init 66 = .ok (.newarray .int, 2) := by decide +kernel
theorem dX8_init_68 : decode cX8_init 68 = .ok (.putfield 19, 3) := by decide +kernel
theorem dX8_init_71 : decode cX8_init 71 = .ok (.aload_n 0, 1) := by decide +kernel
theorem dX8_init_72 : decode cX8_init 72 = .ok (.bipush 9, 2) := by decide +kernel
theorem dX8_init_74 : decode cX8_init 74 = .ok (.newarray .int, 2) := by decide +kernel
theorem dX8_init_76 : decode cX8_init 76 = .ok (.putfield 22, 3) := by decide +kernel
theorem dX8_init_79 : decode cX8_init 79 = .ok (.aload_n 0, 1) := by decide +kernel
theorem dX8_init_80 : decode cX8_init 80 = .ok (.sipush 6975, 3) := by decide +kernel
theorem dX8_init_83 : decode cX8_init 83 = .ok (.newarray .int, 2) := by decide +kernel
theorem dX8_init_85 : decode cX8_init 85 = .ok (.putfield 25, 3) := by decide +kernel
theorem dX8_init_88 : decode cX8_init 88 = .ok (.aload_n 0, 1) := by decide +kernel
theorem dX8_init_89 : decode cX8_init 89 = .ok (.ldc 28, 2) := by decide +kernel
theorem dX8_init_91 : decode cX8_init 91 = .ok (.newarray .int, 2) := by decide +kernel
theorem dX8_init_93 : decode cX8_init 93 = .ok (.putfield 29, 3) := by decide +kernel
theorem dX8_init_96 : decode cX8_init 96 = .ok (.aload_n 0, 1) := by decide +kernel
theorem dX8_init_97 : decode cX8_init 97 = .ok (.bipush 9, 2) := by decide +kernel
theorem dX8_init_99 : decode cX8_init 99 = .ok (.newarray .int, 2) := by decide +kernel
theorem dX8_init_101 : decode cX8_init 101 = .ok (.putfield 32, 3) := by decide +kernel
theorem dX8_init_104 : decode cX8_init 104 = .ok (.aload_n 0, 1) := by decide +kernel
theorem dX8_init_105 : decode cX8_init 105 = .ok (.iconst 2, 1) := by decide +kernel
theorem dX8_init_106 : decode cX8_init 106 = .ok (.newarray .int, 2) := by decide +kernel
theorem dX8_init_108 : decode cX8_init 108 = .ok (.dup, 1) := by decide +kernel
theorem dX8_init_109 : decode cX8_init 109 = .ok (.iconst 0, 1) := by decide +kernel
theorem dX8_init_110 : decode cX8_init 110 = .ok (.ldc 35, 2) := by decide +kernel
theorem dX8_init_112 : decode cX8_init 112 = .ok (.iastore, 1) := by decide +kernel
theorem dX8_init_113 : decode cX8_init 113 = .ok (.dup, 1) := by decide +kernel
theorem dX8_init_114 : decode cX8_init 114 = .ok (.iconst 1, 1) := by decide +kernel
theorem dX8_init_115 : decode cX8_init 115 = .ok (.ldc 35, 2) := by decide +kernel
theorem dX8_init_117 : decode cX8_init 117 = .ok (.iastore, 1) := by decide +kernel
theorem dX8_init_118 : decode cX8_init 118 = .ok (.putfield 36, 3) := by decide +kernel
theorem dX8_init_121 : decode cX8_init 121 = .ok (.aload_n 0, 1) := by decide +kernel
theorem dX8_init_122 : decode cX8_init 122 = .ok (.ldc 39, 2) := by decide +kernel
theorem dX8_init_124 : decode cX8_init 124 = .ok (.newarray .int, 2) := by decide +kernel
theorem dX8_init_126 : decode cX8_init 126 = .ok (.putfield 40, 3) := by decide +kernel
theorem dX8_init_129 : decode cX8_init 129 = .ok (.aload_n 0, 1) := by decide +kernel
theorem dX8_init_130 : decode cX8_init 130 = .ok (.ldc 39, 2) := by decide +kernel
theorem dX8_init_132 : decode cX8_init 132 = .ok (.newarray .int, 2) := by decide +kernel
theorem dX8_init_134 : decode cX8_init 134 = .ok (.putfield 43, 3) := by decide +kernel
theorem dX8_init_137 : decode cX8_init 137 = .ok (.aload_n 0, 1) := by decide +kernel
theorem dX8_init_138 : decode cX8_init 138 = .ok (.bipush 9, 2) := by decide +kernel
theorem dX8_init_140 : decode cX8_init 140 = .ok (.newarray .int, 2) := by decide +kernel
theorem dX8_init_142 : decode cX8_init 142 = .ok (.putfield 46, 3) := by decide +kernel
theorem dX8_init_145 : decode cX8_init 145 = .ok (.aload_n 0, 1) := by decide +kernel
theorem dX8_init_146 : decode cX8_init 146 = .ok (.bipush 16, 2) := by decide +kernel
theorem dX8_init_148 : decode cX8_init 148 = .ok (.newarray .int, 2) := by decide +kernel
theorem dX8_init_150 : decode cX8_init 150 = .ok (.putfield 49, 3) := by decide +kernel
theorem dX8_init_153 : decode cX8_init 153 = .ok (.return_, 1) := by decide +kernel
theorem dX8_in_0 : decode cX8_in 0 = .ok (.lload_n 0, 1) := by decide +kernel
theorem dX8_in_1 : decode cX8_in 1 = .ok (.lload_n 2, 1) := by decide +kernel
theorem dX8_in_2 : decode cX8_in 2 = .ok (.lcmp, 1) := by decide +kernel
theorem dX8_in_3 : decode cX8_in 3 = .ok (.ifCond .lt 14, 3) := by decide +kernel
theorem dX8_in_6 : decode cX8_in 6 = .ok (.lload_n 0, 1) := by decide +kernel
theorem dX8_in_7 : decode cX8_in 7 = .ok (.lload 4, 2) := by decide +kernel
theorem dX8_in_9 : decode cX8_in 9 = .ok (.lcmp, 1) := by decide +kernel
theorem dX8_in_10 : decode cX8_in 10 = .ok (.ifCond .gt 7, 3) := by decide +kernel
theorem dX8_in_13 : decode cX8_in 13 = .ok (.iconst 1, 1) := by decide +kernel
theorem dX8_in_14 : decode cX8_in 14 = .ok (.goto 4, 3) := by decide +kernel
theorem dX8_in_17 : decode cX8_in 17 = .ok (.iconst 0, 1) := by decide +kernel
theorem dX8_in_18 : decode cX8_in 18 = .ok (.ireturn, 1) := by decide +kernel
theorem dX8_found_0 : decode cX8_found 0 = .ok (.aload_n 0, 1) := by decide +kernel
theorem dX8_found_1 : decode cX8_found 1 = .ok (.iload_n 1, 1) := by decide +kernel
theorem dX8_found_2 : decode cX8_found 2 = .ok (.putfield 56, 3) := by decide +kernel
theorem dX8_found_5 : decode cX8_found 5 = .ok (.ldc 59, 2) := by decide +kernel
theorem dX8_found_7 : decode cX8_found 7 = .ok (.iload_n 1, 1) := by decide +kernel
theorem dX8_found_8 : decode cX8_found 8 = .ok (.isub, 1) := by decide +kernel
theorem dX8_found_9 : decode cX8_found 9 = .ok (.ireturn, 1) := by decide +kernel
set_option maxRecDepth 20000 in
theorem ggX8_isSheet_X8_in : GoodIn wsX8_isSheet wsX8_in := goodIn_r _ [5] (by decide +kernel) (by decide +kernel)
set_option maxRecDepth 20000 in
theorem gX8_isSheet_X8_in : GoodIn wsX8_isSheet (va_wsS RX8 62 yX8_in wsX8_in) := goodIn_app (goodIn_of _ (by decide +kernel)) ggX8_isSheet_X8_in
theorem dX8_isSheet_0 : decode cX8_isSheet 0 = .ok (.iload_n 0, 1) := by decide +kernel
theorem dX8_isSheet_1 : decode cX8_isSheet 1 = .ok (.i2l, 1) := by decide +kernel
theorem dX8_isSheet_2 : decode cX8_isSheet 2 = .ok (.lconst 0, 1) := by decide +kernel
theorem dX8_isSheet_3 : decode cX8_isSheet 3 = .ok (.ldc2_w 60, 3) := by decide +kernel
theorem dX8_isSheet_6 : decode cX8_isSheet 6 = .ok (.invokestatic 62, 3) := by decide +kernel
theorem dX8_isSheet_9 : decode cX8_isSheet 9 = .ok (.ireturn, 1) := by decide +kernel
set_option maxRecDepth 20000 in
theorem ggX8_sheet_X8_isSheet : GoodIn wsX8_sheet wsX8_isSheet := goodIn_r _ [11, 12, 13, 14, 10, 15] (by decide +kernel) (by decide +kernel)
set_option maxRecDepth 20000 in
theorem gX8_sheet_X8_isSheet : GoodIn wsX8_sheet (va_wsS RX8 66 yX8_isSheet wsX8_isSheet) := goodIn_app (goodIn_of _ (by decide +kernel)) ggX8_sheet_X8_isSheet
set_option maxRecDepth 20000 in
theorem ggX8_sheet_X8_in : GoodIn wsX8_sheet wsX8_in := goodIn_r _ [15] (by decide +kernel) (by decide +kernel)
set_option maxRecDepth 20000 in
theorem gX8_sheet_X8_in : GoodIn wsX8_sheet (va_wsS RX8 62 yX8_in wsX8_in) := goodIn_app (goodIn_of _ (by decide +kernel)) ggX8_sheet_X8_in
set_option maxRecDepth 20000 in
theorem ggX8_sheet_X8_found : GoodIn wsX8_sheet wsX8_found := goodIn_r _ [19, 4, 20, 21, 22, 23, 24, 25, 26, 27, 28, 29, 30, 31, 32, 33, 34, 35, 36, 37, 38, 39, 40, 41, 42] (by decide +kernel) (by decide +kernel)
set_option maxRecDepth 20000 in
theorem gX8_sheet_X8_found : GoodIn wsX8_sheet (wsV RX8 73 RX8 yX8_found wsX8_found) := goodIn_app (goodIn_of _ (by decide +kernel)) ggX8_sheet_X8_found
theorem dX8_sheet_0 : decode cX8_sheet 0 = .ok (.aload_n 0, 1) := by decide +kernel
theorem dX8_sheet_1 : decode cX8_sheet 1 = .ok (.iconst 0, 1) := by decide +kernel
theorem dX8_sheet_2 : decode cX8_sheet 2 = .ok (.putfield 52, 3) := by decide +kernel
theorem dX8_sheet_5 : decode cX8_sheet 5 = .ok (.iload_n 1, 1) := by decide +kernel
theorem dX8_sheet_6 : decode cX8_sheet 6 = .ok (.invokestatic 66, 3) := by decide +kernel
theorem dX8_sheet_9 : decode cX8_sheet 9 = .ok (.ifCond .eq 21, 3) := by decide +kernel
theorem dX8_sheet_12 : decode cX8_sheet 12 = .ok (.iload_n 2, 1) := by decide +kernel
theorem dX8_sheet_13 : decode cX8_sheet 13 = .ok (.i2l, 1) := by decide +kernel
theorem dX8_sheet_14 : decode cX8_sheet 14 = .ok (.lconst 0, 1) := by decide +kernel
theorem dX8_sheet_15 : decode cX8_sheet 15 = .ok (.ldc2_w 70, 3) := by decide +kernel
theorem dX8_sheet_18 : decode cX8_sheet 18 = .ok (.invokestatic 62, 3) := by decide +kernel
theorem dX8_sheet_21 : decode cX8_sheet 21 = .ok (.ifCond .eq 9, 3) := by decide +kernel
theorem dX8_sheet_24 : decode cX8_sheet 24 = .ok (.iload_n 3, 1) := by decide +kernel
theorem dX8_sheet_25 : decode cX8_sheet 25 = .ok (.bipush 60, 2) := by decide +kernel
theorem dX8_sheet_27 : decode cX8_sheet 27 = .ok (.if_icmp .le 6, 3) := by decide +kernel
theorem dX8_sheet_30 : decode cX8_sheet 30 = .ok (.ldc 72, 2) := by decide +kernel
theorem dX8_sheet_32 : decode cX8_sheet 32 = .ok (.ireturn, 1) := by decide +kernel
theorem dX8_sheet_33 : decode cX8_sheet 33 = .ok (.aload_n 0, 1) := by decide +kernel
theorem dX8_sheet_34 : decode cX8_sheet 34 = .ok (.iconst 0, 1) := by decide +kernel
theorem dX8_sheet_35 : decode cX8_sheet 35 = .ok (.putfield 56, 3) := by decide +kernel
theorem dX8_sheet_38 : decode cX8_sheet 38 = .ok (.iload_n 3, 1) := by decide +kernel
theorem dX8_sheet_39 : decode cX8_sheet 39 = .ok (.ifCond .ge 9, 3) := by decide +kernel
theorem dX8_sheet_42 : decode cX8_sheet 42 = .ok (.aload_n 0, 1) := by decide +kernel
theorem dX8_sheet_43 : decode cX8_sheet 43 = .ok (.iconst 4, 1) := by decide +kernel
theorem dX8_sheet_44 : decode cX8_sheet 44 = .ok (.invokevirtual 73, 3) := by decide +kernel
theorem dX8_sheet_47 : decode cX8_sheet 47 = .ok (.ireturn, 1) := by decide +kernel
theorem dX8_sheet_48 : decode cX8_sheet 48 = .ok (.aload_n 0, 1) := by decide +kernel
theorem dX8_sheet_49 : decode cX8_sheet 49 = .ok (.getfield 7, 3) := by decide +kernel
theorem dX8_sheet_52 : decode cX8_sheet 52 = .ok (.iload_n 1, 1) := by decide +kernel
theorem dX8_sheet_53 : decode cX8_sheet 53 = .ok (.iload_n 2, 1) := by decide +kernel
theorem dX8_sheet_54 : decode cX8_sheet 54 = .ok (.iastore, 1) := by decide +kernel
theorem dX8_sheet_55 : decode cX8_sheet 55 = .ok (.aload_n 0, 1) := by decide +kernel
theorem dX8_sheet_56 : decode cX8_sheet 56 = .ok (.getfield 13, 3) := by decide +kernel
theorem dX8_sheet_59 : decode cX8_sheet 59 = .ok (.iload_n 1, 1) := by decide +kernel
theorem dX8_sheet_60 : decode cX8_sheet 60 = .ok (.iload_n 3, 1) := by decide +kernel
theorem dX8_sheet_61 : decode cX8_sheet 61 = .ok (.iastore, 1) := by decide +kernel
theorem dX8_sheet_62 : decode cX8_sheet 62 = .ok (.iconst 0, 1) := by decide +kernel
theorem dX8_sheet_63 : decode cX8_sheet 63 = .ok (.istore 4, 2) := by decide +kernel
theorem dX8_sheet_65 : decode cX8_sheet 65 = .ok (.iload 4, 2) := by decide +kernel
theorem dX8_sheet_67 : decode cX8_sheet 67 = .ok (.bipush 60, 2) := by decide +kernel
theorem dX8_sheet_69 : decode cX8_sheet 69 = .ok (.if_icmp .ge 22, 3) := by decide +kernel
theorem dX8_sheet_72 : decode cX8_sheet 72 = .ok (.aload_n 0, 1) := by decide +kernel
theorem dX8_sheet_73 : decode cX8_sheet 73 = .ok (.getfield 16, 3) := by decide +kernel
theorem dX8_sheet_76 : decode cX8_sheet 76 = .ok (.bipush 60, 2) := by decide +kernel
theorem dX8_sheet_78 : decode cX8_sheet 78 = .ok (.iload_n 1, 1) := by decide +kernel
theorem dX8_sheet_79 : decode cX8_sheet 79 = .ok (.imul, 1) := by decide +kernel
theorem dX8_sheet_80 : decode cX8_sheet 80 = .ok (.iload 4, 2) := by decide +kernel
theorem dX8_sheet_82 : decode cX8_sheet 82 = .ok (.iadd, 1) := by decide +kernel
theorem dX8_sheet_83 : decode cX8_sheet 83 = .ok (.iconst 0, 1) := by decide +kernel
theorem dX8_sheet_84 : decode cX8_sheet 84 = .ok (.iastore, 1) := by decide +kernel
theorem dX8_sheet_85 : decode cX8_sheet 85 = .ok (.iinc 4 1, 3) := by decide +kernel
theorem dX8_sheet_88 : decode cX8_sheet 88 = .ok (.goto (-23), 3) := by decide +kernel
theorem dX8_sheet_91 : decode cX8_sheet 91 = .ok (.iload_n 3, 1) := by decide +kernel
theorem dX8_sheet_92 : decode cX8_sheet 92 = .ok (.ireturn, 1) := by decide +kernel
set_option maxRecDepth 20000 in
theorem ggX8_set_X8_isSheet : GoodIn wsX8_set wsX8_isSheet := goodIn_r _ [10, 11, 12, 13, 9, 14] (by decide +kernel) (by decide +kernel)
set_option maxRecDepth 20000 in
theorem gX8_set_X8_isSheet : GoodIn wsX8_set (va_wsS RX8 66 yX8_isSheet wsX8_isSheet) := goodIn_app (goodIn_of _ (by decide +kernel)) ggX8_set_X8_isSheet
set_option maxRecDepth 20000 in
theorem ggX8_set_X8_found : GoodIn wsX8_set wsX8_found := goodIn_r _ [18, 3, 19, 20, 21, 22, 23, 24, 25, 26, 27, 28, 29, 30, 31, 32, 33, 34, 35, 36, 37, 38, 39, 40, 41] (by decide +kernel) (by decide +kernel)
set_option maxRecDepth 20000 in
theorem gX8_set_X8_found : GoodIn wsX8_set (wsV RX8 73 RX8 yX8_found wsX8_found) := goodIn_app (goodIn_of _ (by decide +kernel)) ggX8_set_X8_found
set_option maxRecDepth 20000 in
theorem ggX8_set_X8_in : GoodIn wsX8_set wsX8_in := goodIn_r _ [14] (by decide +kernel) (by decide +kernel)
set_option maxRecDepth 20000 in
theorem gX8_set_X8_in : GoodIn wsX8_set (va_wsS RX8 62 yX8_in wsX8_in) := goodIn_app (goodIn_of _ (by decide +kernel)) ggX8_set_X8_in
theorem dX8_set_0 : decode cX8_set 0 = .ok (.aload_n 0, 1) := by decide +kernel
theorem dX8_set_1 : decode cX8_set 1 = .ok (.iconst 0, 1) := by decide +kernel
theorem dX8_set_2 : decode cX8_set 2 = .ok (.putfield 52, 3) := by decide +kernel
theorem dX8_set_5 : decode cX8_set 5 = .ok (.iload_n 1, 1) := by decide +kernel
theorem dX8_set_6 : decode cX8_set 6 = .ok (.invokestatic 66, 3) := by decide +kernel
theorem dX8_set_9 : decode cX8_set 9 = .ok (.ifCond .ne 6, 3) := by decide +kernel
theorem dX8_set_12 : decode cX8_set 12 = .ok (.ldc 72, 2) := by decide +kernel
theorem dX8_set_14 : decode cX8_set 14 = .ok (.ireturn, 1) := by decide +kernel
theorem dX8_set_15 : decode cX8_set 15 = .ok (.aload_n 0, 1) := by decide +kernel
theorem dX8_set_16 : decode cX8_set 16 = .ok (.iconst 0, 1) := by decide +kernel
theorem dX8_set_17 : decode cX8_set 17 = .ok (.putfield 56, 3) := by decide +kernel
theorem dX8_set_20 : decode cX8_set 20 = .ok (.aload_n 0, 1) := by decide +kernel
theorem dX8_set_21 : decode cX8_set 21 = .ok (.getfield 7, 3) := by decide +kernel
theorem dX8_set_24 : decode cX8_set 24 = .ok (.iload_n 1, 1) := by decide +kernel
theorem dX8_set_25 : decode cX8_set 25 = .ok (.iaload, 1) := by decide +kernel
theorem dX8_set_26 : decode cX8_set 26 = .ok (.ifCond .ge 9, 3) := by decide +kernel
theorem dX8_set_29 : decode cX8_set 29 = .ok (.aload_n 0, 1) := by decide +kernel
theorem dX8_set_30 : decode cX8_set 30 = .ok (.iconst 1, 1) := by decide +kernel
theorem dX8_set_31 : decode cX8_set 31 = .ok (.invokevirtual 73, 3) := by decide +kernel
theorem dX8_set_34 : decode cX8_set 34 = .ok (.ireturn, 1) := by decide +kernel
theorem dX8_set_35 : decode cX8_set 35 = .ok (.iload_n 2, 1) := by decide +kernel
theorem dX8_set_36 : decode cX8_set 36 = .ok (.i2l, 1) := by decide +kernel
theorem dX8_set_37 : decode cX8_set 37 = .ok (.lconst 0, 1) := by decide +kernel
theorem dX8_set_38 : decode cX8_set 38 = .ok (.aload_n 0, 1) := by decide +kernel
theorem dX8_set_39 : decode cX8_set 39 = .ok (.getfield 13, 3) := by decide +kernel
theorem dX8_set_42 : decode cX8_set 42 = .ok (.iload_n 1, 1) := by decide +kernel
theorem dX8_set_43 : decode cX8_set 43 = .ok (.iaload, 1) := by decide +kernel
theorem dX8_set_44 : decode cX8_set 44 = .ok (.iconst 1, 1) := by decide +kernel
theorem dX8_set_45 : decode cX8_set 45 = .ok (.isub, 1) := by decide +kernel
theorem dX8_set_46 : decode cX8_set 46 = .ok (.i2l, 1) := by decide +kernel
theorem dX8_set_47 : decode cX8_set 47 = .ok (.invokestatic 62, 3) := by decide +kernel
theorem dX8_set_50 : decode cX8_set 50 = .ok (.ifCond .ne 9, 3) := by decide +kernel
theorem dX8_set_53 : decode cX8_set 53 = .ok (.aload_n 0, 1) := by decide +kernel
theorem dX8_set_54 : decode cX8_set 54 = .ok (.iconst 2, 1) := by decide +kernel
theorem dX8_set_55 : decode cX8_set 55 = .ok (.invokevirtual 73, 3) := by decide +kernel
theorem dX8_set_58 : decode cX8_set 58 = .ok (.ireturn, 1) := by decide +kernel
theorem dX8_set_59 : decode cX8_set 59 = .ok (.aload_n 0, 1) := by decide +kernel
theorem dX8_set_60 : decode cX8_set 60 = .ok (.getfield 16, 3) := by decide +kernel
theorem dX8_set_63 : decode cX8_set 63 = .ok (.bipush 60, 2) := by decide +kernel
theorem dX8_set_65 : decode cX8_set 65 = .ok (.iload_n 1, 1) := by decide +kernel
theorem dX8_set_66 : decode cX8_set 66 = .ok (.imul, 1) := by decide +kernel
theorem dX8_set_67 : decode cX8_set 67 = .ok (.iload_n 2, 1) := by decide +kernel
theorem dX8_set_68 : decode cX8_set 68 = .ok (.iadd, 1) := by decide +kernel
theorem dX8_set_69 : decode cX8_set 69 = .ok (.aload_n 0, 1) := by decide +kernel
theorem dX8_set_70 : decode cX8_set 70 = .ok (.getfield 7, 3) := by decide +kernel
theorem dX8_set_73 : decode cX8_set 73 = .ok (.iload_n 1, 1) := by decide +kernel
theorem dX8_set_74 : decode cX8_set 74 = .ok (.iaload, 1) := by decide +kernel
theorem dX8_set_75 : decode cX8_set 75 = .ok (.ifCond .ne 8, 3) := by decide +kernel
theorem dX8_set_78 : decode cX8_set 78 = .ok (.iload_n 3, 1) := by decide +kernel
theorem dX8_set_79 : decode cX8_set 79 = .ok (.i2b, 1) := by decide +kernel
theorem dX8_set_80 : decode cX8_set 80 = .ok (.goto 19, 3) := by decide +kernel
theorem dX8_set_83 : decode cX8_set 83 = .ok (.aload_n 0, 1) := by decide +kernel
theorem dX8_set_84 : decode cX8_set 84 = .ok (.getfield 7, 3) := by decide +kernel
theorem dX8_set_87 : decode cX8_set 87 = .ok (.iload_n 1, 1) := by decide +kernel
theorem dX8_set_88 : decode cX8_set 88 = .ok (.iaload, 1) := by decide +kernel
theorem dX8_set_89 : decode cX8_set 89 = .ok (.iconst 1, 1) := by decide +kernel
theorem dX8_set_90 : decode cX8_set 90 = .ok (.if_icmp .ne 8, 3) := by decide +kernel
theorem dX8_set_93 : decode cX8_set 93 = .ok (.iload_n 3, 1) := by decide +kernel
theorem dX8_set_94 : decode cX8_set 94 = .ok (.i2s, 1) := by decide +kernel
theorem dX8_set_95 : decode cX8_set 95 = .ok (.goto 4, 3) := by decide +kernel
theorem dX8_set_98 : decode cX8_set 98 = .ok (.iload_n 3, 1) := by decide +kernel
theorem dX8_set_99 : decode cX8_set 99 = .ok (.iastore, 1) := by decide +kernel
theorem dX8_set_100 : decode cX8_set 100 = .ok (.aload_n 0, 1) := by decide +kernel
theorem dX8_set_101 : decode cX8_set 101 = .ok (.getfield 16, 3) := by decide +kernel
theorem dX8_set_104 : decode cX8_set 104 = .ok (.bipush 60, 2) := by decide +kernel
theorem dX8_set_106 : decode cX8_set 106 = .ok (.iload_n 1, 1) := by decide +kernel
theorem dX8_set_107 : decode cX8_set 107 = .ok (.imul, 1) := by decide +kernel
theorem dX8_set_108 : decode cX8_set 108 = .ok (.iload_n 2, 1) := by decide +kernel
theorem dX8_set_109 : decode cX8_set 109 = .ok (.iadd, 1) := by decide +kernel
theorem dX8_set_110 : decode cX8_set 110 = .ok (.iaload, 1) := by decide +kernel
theorem dX8_set_111 : decode cX8_set 111 = .ok (.ireturn, 1) := by decide +kernel
set_option maxRecDepth 20000 in
theorem ggX8_copy_X8_isSheet : GoodIn wsX8_copy wsX8_isSheet := goodIn_r _ [10, 11, 12, 13, 9, 14] (by decide +kernel) (by decide +kernel)
set_option maxRecDepth 20000 in
theorem gX8_copy_X8_isSheet : GoodIn wsX8_copy (va_wsS RX8 66 yX8_isSheet wsX8_isSheet) := goodIn_app (goodIn_of _ (by decide +kernel)) ggX8_copy_X8_isSheet
set_option maxRecDepth 20000 in
theorem ggX8_copy_X8_found : GoodIn wsX8_copy wsX8_found := goodIn_r _ [18, 3, 19, 20, 21, 22, 23, 24, 25, 26, 27, 28, 29, 30, 31, 32, 33, 34, 35, 36, 37, 38, 39, 40, 41] (by decide +kernel) (by decide +kernel)
set_option maxRecDepth 20000 in
theorem gX8_copy_X8_found : GoodIn wsX8_copy (wsV RX8 73 RX8 yX8_found wsX8_found) := goodIn_app (goodIn_of _ (by decide +kernel)) ggX8_copy_X8_found
theorem dX8_copy_0 : decode cX8_copy 0 = .ok (.aload_n 0, 1) := by decide +kernel
theorem dX8_copy_1 : decode cX8_copy 1 = .ok (.iconst 0, 1) := by decide +kernel
theorem dX8_copy_2 : decode cX8_copy 2 = .ok (.putfield 52, 3) := by decide +kernel
theorem dX8_copy_5 : decode cX8_copy 5 = .ok (.iload_n 1, 1) := by decide +kernel
theorem dX8_copy_6 : decode cX8_copy 6 = .ok (.invokestatic 66, 3) := by decide +kernel
theorem dX8_copy_9 : decode cX8_copy 9 = .ok (.ifCond .eq 10, 3) := by decide +kernel
theorem dX8_copy_12 : decode cX8_copy 12 = .ok (.iload_n 3, 1) := by decide +kernel
theorem dX8_copy_13 : decode cX8_copy 13 = .ok (.invokestatic 66, 3) := by decide +kernel
theorem dX8_copy_16 : decode cX8_copy 16 = .ok (.ifCond .ne 6, 3) := by decide +kernel
theorem dX8_copy_19 : decode cX8_copy 19 = .ok (.ldc 72, 2) := by decide +kernel
theorem dX8_copy_21 : decode cX8_copy 21 = .ok (.ireturn, 1) := by decide +kernel
theorem dX8_copy_22 : decode cX8_copy 22 = .ok (.aload_n 0, 1) := by decide +kernel
theorem dX8_copy_23 : decode cX8_copy 23 = .ok (.iconst 0, 1) := by decide +kernel
theorem dX8_copy_24 : decode cX8_copy 24 = .ok (.putfield 56, 3) := by decide +kernel
theorem dX8_copy_27 : decode cX8_copy 27 = .ok (.aload_n 0, 1) := by decide +kernel
theorem dX8_copy_28 : decode cX8_copy 28 = .ok (.getfield 7, 3) := by decide +kernel
theorem dX8_copy_31 : decode cX8_copy 31 = .ok (.iload_n 1, 1) := by decide +kernel
theorem dX8_copy_32 : decode cX8_copy 32 = .ok (.iaload, 1) := by decide +kernel
theorem dX8_copy_33 : decode cX8_copy 33 = .ok (.ifCond .lt 12, 3) := by decide +kernel
theorem dX8_copy_36 : decode cX8_copy 36 = .ok (.aload_n 0, 1) := by decide +kernel
theorem dX8_copy_37 : decode cX8_copy 37 = .ok (.getfield 7, 3) := by decide +kernel
theorem dX8_copy_40 : decode cX8_copy 40 = .ok (.iload_n 3, 1) := by decide +kernel
theorem dX8_copy_41 : decode cX8_copy 41 = .ok (.iaload, 1) := by decide +kernel
theorem dX8_copy_42 : decode cX8_copy 42 = .ok (.ifCond .ge 9, 3) := by decide +kernel
theorem dX8_copy_45 : decode cX8_copy 45 = .ok (.aload_n 0, 1) := by decide +kernel
theorem dX8_copy_46 : decode cX8_copy 46 = .ok (.iconst 1, 1) := by decide +kernel
theorem dX8_copy_47 : decode cX8_copy 47 = .ok (.invokevirtual 73, 3) := by decide +kernel
theorem dX8_copy_50 : decode cX8_copy 50 = .ok (.ireturn, 1) := by decide +kernel
theorem dX8_copy_51 : decode cX8_copy 51 = .ok (.aload_n 0, 1) := by decide +kernel
theorem dX8_copy_52 : decode cX8_copy 52 = .ok (.getfield 7, 3) := by decide +kernel
theorem dX8_copy_55 : decode cX8_copy 55 = .ok (.iload_n 1, 1) := by decide +kernel
theorem dX8_copy_56 : decode cX8_copy 56 = .ok (.iaload, 1) := by decide +kernel
theorem dX8_copy_57 : decode cX8_copy 57 = .ok (.aload_n 0, 1) := by decide +kernel
theorem dX8_copy_58 : decode cX8_copy 58 = .ok (.getfield 7, 3) := by decide +kernel
theorem dX8_copy_61 : decode cX8_copy 61 = .ok (.iload_n 3, 1) := by decide +kernel
theorem dX8_copy_62 : decode cX8_copy 62 = .ok (.iaload, 1) := by decide +kernel
theorem dX8_copy_63 : decode cX8_copy 63 = .ok (.if_icmp .eq 9, 3) := by decide +kernel
theorem dX8_copy_66 : decode cX8_copy 66 = .ok (.aload_n 0, 1) := by decide +kernel
theorem dX8_copy_67 : decode cX8_copy 67 = .ok (.iconst 5, 1) := by decide +kernel
theorem dX8_copy_68 : decode cX8_copy 68 = .ok (.invokevirtual 73, 3) := by decide +kernel
theorem dX8_copy_71 : decode cX8_copy 71 = .ok (.ireturn, 1) := by decide +kernel
theorem dX8_copy_72 : decode cX8_copy 72 = .ok (.iload_n 2, 1) := by decide +kernel
theorem dX8_copy_73 : decode cX8_copy 73 = .ok (.ifCond .lt 48, 3) := by decide +kernel
theorem dX8_copy_76 : decode cX8_copy 76 = .ok (.iload 4, 2) := by decide +kernel
theorem dX8_copy_78 : decode cX8_copy 78 = .ok (.ifCond .lt 43, 3) := by decide +kernel
theorem dX8_copy_81 : decode cX8_copy 81 = .ok (.iload 5, 2) := by decide +kernel
theorem dX8_copy_83 : decode cX8_copy 83 = .ok (.ifCond .lt 38, 3) := by decide +kernel
theorem dX8_copy_86 : decode cX8_copy 86 = .ok (.iload_n 2, 1) := by decide +kernel
theorem dX8_copy_87 : decode cX8_copy 87 = .ok (.i2l, 1) := by decide +kernel
theorem dX8_copy_88 : decode cX8_copy 88 = .ok (.iload 5, 2) := by decide +kernel
theorem dX8_copy_90 : decode cX8_copy 90 = .ok (.i2l, 1) := by decide +kernel
theorem dX8_copy_91 : decode cX8_copy 91 = .ok (.ladd, 1) := by decide +kernel
theorem dX8_copy_92 : decode cX8_copy 92 = .ok (.aload_n 0, 1) := by decide +kernel
theorem dX8_copy_93 : decode cX8_copy 93 = .ok (.getfield 13, 3) := by decide +kernel
theorem dX8_copy_96 : decode cX8_copy 96 = .ok (.iload_n 1, 1) := by decide +kernel
theorem dX8_copy_97 : decode cX8_copy 97 = .ok (.iaload, 1) := by decide +kernel
theorem dX8_copy_98 : decode cX8_copy 98 = .ok (.i2l, 1) := by decide +kernel
theorem dX8_copy_99 : decode cX8_copy 99 = .ok (.lcmp, 1) := by decide +kernel
theorem dX8_copy_100 : decode cX8_copy 100 = .ok (.ifCond .gt 21, 3) := by decide +kernel
theorem dX8_copy_103 : decode cX8_copy 103 = .ok (.iload 4, 2) := by decide +kernel
theorem dX8_copy_105 : decode cX8_copy 105 = .ok (.i2l, 1) := by decide +kernel
theorem dX8_copy_106 : decode cX8_copy 106 = .ok (.iload 5, 2) := by decide +kernel
theorem dX8_copy_108 : decode cX8_copy 108 = .ok (.i2l, 1) := by decide +kernel
theorem dX8_copy_109 : decode cX8_copy 109 = .ok (.ladd, 1) := by decide +kernel
theorem dX8_copy_110 : decode cX8_copy 110 = .ok (.aload_n 0, 1) := by decide +kernel
theorem dX8_copy_111 : decode cX8_copy 111 = .ok (.getfield 13, 3) := by decide +kernel
theorem dX8_copy_114 : decode cX8_copy 114 = .ok (.iload_n 3, 1) := by decide +kernel
theorem dX8_copy_115 : decode cX8_copy 115 = .ok (.iaload, 1) := by decide +kernel
theorem dX8_copy_116 : decode cX8_copy 116 = .ok (.i2l, 1) := by decide +kernel
theorem dX8_copy_117 : decode cX8_copy 117 = .ok (.lcmp, 1) := by decide +kernel
theorem dX8_copy_118 : decode cX8_copy 118 = .ok (.ifCond .le 9, 3) := by decide +kernel
theorem dX8_copy_121 : decode cX8_copy 121 = .ok (.aload_n 0, 1) := by decide +kernel
theorem dX8_copy_122 : decode cX8_copy 122 = .ok (.iconst 2, 1) := by decide +kernel
theorem dX8_copy_123 : decode cX8_copy 123 = .ok (.invokevirtual 73, 3) := by decide +kernel
theorem dX8_copy_126 : decode cX8_copy 126 = .ok (.ireturn, 1) := by decide +kernel
theorem dX8_copy_127 : decode cX8_copy 127 = .ok (.iload_n 2, 1) := by decide +kernel
theorem dX8_copy_128 : decode cX8_copy 128 = .ok (.iload 4, 2) := by decide +kernel
theorem dX8_copy_130 : decode cX8_copy 130 = .ok (.if_icmp .lt 7, 3) := by decide +kernel
theorem dX8_copy_133 : decode cX8_copy 133 = .ok (.iconst 1, 1) := by decide +kernel
theorem dX8_copy_134 : decode cX8_copy 134 = .ok (.goto 4, 3) := by decide +kernel
theorem dX8_copy_137 : decode cX8_copy 137 = .ok (.iconst 0, 1) := by decide +kernel
theorem dX8_copy_138 : decode cX8_copy 138 = .ok (.istore 6, 2) := by decide +kernel
theorem dX8_copy_140 : decode cX8_copy 140 = .ok (.iconst 0, 1) := by decide +kernel
theorem dX8_copy_141 : decode cX8_copy 141 = .ok (.istore 7, 2) := by decide +kernel
theorem dX8_copy_143 : decode cX8_copy 143 = .ok (.iload 7, 2) := by decide +kernel
theorem dX8_copy_145 : decode cX8_copy 145 = .ok (.iload 5, 2) := by decide +kernel
theorem dX8_copy_147 : decode cX8_copy 147 = .ok (.if_icmp .ge 57, 3) := by decide +kernel
theorem dX8_copy_150 : decode cX8_copy 150 = .ok (.iload 6, 2) := by decide +kernel
theorem dX8_copy_152 : decode cX8_copy 152 = .ok (.ifCond .eq 8, 3) := by decide +kernel
theorem dX8_copy_155 : decode cX8_copy 155 = .ok (.iload 7, 2) := by decide +kernel
theorem dX8_copy_157 : decode cX8_copy 157 = .ok (.goto 10, 3) := by decide +kernel
theorem dX8_copy_160 : decode cX8_copy 160 = .ok (.iload 5, 2) := by decide +kernel
theorem dX8_copy_162 : decode cX8_copy 162 = .ok (.iconst 1, 1) := by decide +kernel
theorem dX8_copy_163 : decode cX8_copy 163 = .ok (.isub, 1) := by decide +kernel
theorem dX8_copy_164 : decode cX8_copy 164 = .ok (.iload 7, 2) := by decide +kernel
theorem dX8_copy_166 : decode cX8_copy 166 = .ok (.isub, 1) := by decide +kernel
theorem dX8_copy_167 : decode cX8_copy 167 = .ok (.istore 8, 2) := by decide +kernel
theorem dX8_copy_169 : decode cX8_copy 169 = .ok (.aload_n 0, 1) := by decide +kernel
theorem dX8_copy_170 : decode cX8_copy 170 = .ok (.getfield 16, 3) := by decide +kernel
theorem dX8_copy_173 : decode cX8_copy 173 = .ok (.bipush 60, 2) := by decide +kernel
theorem dX8_copy_175 : decode cX8_copy 175 = .ok (.iload_n 3, 1) := by decide +kernel
theorem dX8_copy_176 : decode cX8_copy 176 = .ok (.imul, 1) := by decide +kernel
theorem dX8_copy_177 : decode cX8_copy 177 = .ok (.iload 4, 2) := by decide +kernel
theorem dX8_copy_179 : decode cX8_copy 179 = .ok (.iadd, 1) := by decide +kernel
theorem dX8_copy_180 : decode cX8_copy 180 = .ok (.iload 8, 2) := by decide +kernel
theorem dX8_copy_182 : decode cX8_copy 182 = .ok (.iadd, 1) := by decide +kernel
theorem dX8_copy_183 : decode cX8_copy 183 = .ok (.aload_n 0, 1) := by decide +kernel
theorem dX8_copy_184 : decode cX8_copy 184 = .ok (.getfield 16, 3) := by decide +kernel
theorem dX8_copy_187 : decode cX8_copy 187 = .ok (.bipush 60, 2) := by decide +kernel
theorem dX8_copy_189 : decode cX8_copy 189 = .ok (.iload_n 1, 1) := by decide +kernel
theorem dX8_copy_190 : decode cX8_copy 190 = .ok (.imul, 1) := by decide +kernel
theorem dX8_copy_191 : decode cX8_copy 191 = .ok (.iload_n 2, 1) := by decide +kernel
theorem dX8_copy_192 : decode cX8_copy 192 = .ok (.iadd, 1) := by decide +kernel
theorem dX8_copy_193 : decode cX8_copy 193 = .ok (.iload 8, 2) := by decide +kernel
theorem dX8_copy_195 : decode cX8_copy 195 = .ok (.iadd, 1) := by decide +kernel
theorem dX8_copy_196 : decode cX8_copy 196 = .ok (.iaload, 1) := by decide +kernel
theorem dX8_copy_197 : decode cX8_copy 197 = .ok (.iastore, 1) := by decide +kernel
theorem dX8_copy_198 : decode cX8_copy 198 = .ok (.iinc 7 1, 3) := by decide +kernel
theorem dX8_copy_201 : decode cX8_copy 201 = .ok (.goto (-58), 3) := by decide +kernel
theorem dX8_copy_204 : decode cX8_copy 204 = .ok (.iload 5, 2) := by decide +kernel
theorem dX8_copy_206 : decode cX8_copy 206 = .ok (.ireturn, 1) := by decide +kernel
set_option maxRecDepth 20000 in
theorem ggX8_drop_X8_isSheet : GoodIn wsX8_drop wsX8_isSheet := goodIn_r _ [9, 10, 11, 12, 8, 13] (by decide +kernel) (by decide +kernel)
set_option maxRecDepth 20000 in
theorem gX8_drop_X8_isSheet : GoodIn wsX8_drop (va_wsS RX8 66 yX8_isSheet wsX8_isSheet) := goodIn_app (goodIn_of _ (by decide +kernel)) ggX8_drop_X8_isSheet
set_option maxRecDepth 20000 in
theorem ggX8_drop_X8_found : GoodIn wsX8_drop wsX8_found := goodIn_r _ [17, 3, 18, 19, 20, 21, 22, 23, 24, 25, 26, 27, 28, 29, 30, 31, 32, 33, 34, 35, 36, 37, 38, 39, 40] (by decide +kernel) (by decide +kernel)
set_option maxRecDepth 20000 in
theorem gX8_drop_X8_found : GoodIn wsX8_drop (wsV RX8 73 RX8 yX8_found wsX8_found) := goodIn_app (goodIn_of _ (by decide +kernel)) ggX8_drop_X8_found
theorem dX8_drop_0 : decode cX8_drop 0 = .ok (.aload_n 0, 1) := by decide +kernel
theorem dX8_drop_1 : decode cX8_drop 1 = .ok (.iconst 0, 1) := by decide +kernel
theorem dX8_drop_2 : decode cX8_drop 2 = .ok (.putfield 52, 3) := by decide +kernel
theorem dX8_drop_5 : decode cX8_drop 5 = .ok (.iload_n 1, 1) := by decide +kernel
theorem dX8_drop_6 : decode cX8_drop 6 = .ok (.invokestatic 66, 3) := by decide +kernel
theorem dX8_drop_9 : decode cX8_drop 9 = .ok (.ifCond .ne 6, 3) := by decide +kernel
theorem dX8_drop_12 : decode cX8_drop 12 = .ok (.ldc 72, 2) := by decide +kernel
theorem dX8_drop_14 : decode cX8_drop 14 = .ok (.ireturn, 1) := by decide +kernel
theorem dX8_drop_15 : decode cX8_drop 15 = .ok (.aload_n 0, 1) := by decide +kernel
theorem dX8_drop_16 : decode cX8_drop 16 = .ok (.iconst 0, 1) := by decide +kernel
theorem dX8_drop_17 : decode cX8_drop 17 = .ok (.putfield 56, 3) := by decide +kernel
theorem dX8_drop_20 : decode cX8_drop 20 = .ok (.aload_n 0, 1) := by decide +kernel
theorem dX8_drop_21 : decode cX8_drop 21 = .ok (.getfield 7, 3) := by decide +kernel
theorem dX8_drop_24 : decode cX8_drop 24 = .ok (.iload_n 1, 1) := by decide +kernel
theorem dX8_drop_25 : decode cX8_drop 25 = .ok (.iaload, 1) := by decide +kernel
theorem dX8_drop_26 : decode cX8_drop 26 = .ok (.ifCond .ge 9, 3) := by decide +kernel
theorem dX8_drop_29 : decode cX8_drop 29 = .ok (.aload_n 0, 1) := by decide +kernel
theorem dX8_drop_30 : decode cX8_drop 30 = .ok (.iconst 1, 1) := by decide +kernel
theorem dX8_drop_31 : decode cX8_drop 31 = .ok (.invokevirtual 73, 3) := by decide +kernel
theorem dX8_drop_34 : decode cX8_drop 34 = .ok (.ireturn, 1) := by decide +kernel
theorem dX8_drop_35 : decode cX8_drop 35 = .ok (.aload_n 0, 1) := by decide +kernel
theorem dX8_drop_36 : decode cX8_drop 36 = .ok (.getfield 7, 3) := by decide +kernel
theorem dX8_drop_39 : decode cX8_drop 39 = .ok (.iload_n 1, 1) := by decide +kernel
theorem dX8_drop_40 : decode cX8_drop 40 = .ok (.iconst (-1), 1) := by decide +kernel
theorem dX8_drop_41 : decode cX8_drop 41 = .ok (.iastore, 1) := by decide +kernel
theorem dX8_drop_42 : decode cX8_drop 42 = .ok (.aload_n 0, 1) := by decide +kernel
theorem dX8_drop_43 : decode cX8_drop 43 = .ok (.getfield 13, 3) := by decide +kernel
theorem dX8_drop_46 : decode cX8_drop 46 = .ok (.iload_n 1, 1) := by decide +kernel
theorem dX8_drop_47 : decode cX8_drop 47 = .ok (.iaload, 1) := by decide +kernel
theorem dX8_drop_48 : decode cX8_drop 48 = .ok (.ireturn, 1) := by decide +kernel
theorem dX8_mayBe_0 : decode cX8_mayBe 0 = .ok (.iload_n 1, 1) := by decide +kernel
theorem dX8_mayBe_1 : decode cX8_mayBe 1 = .ok (.bipush 7, 2) := by decide +kernel
theorem dX8_mayBe_3 : decode cX8_mayBe 3 = .ok (.if_icmp .lt 10, 3) := by decide +kernel
theorem dX8_mayBe_6 : decode cX8_mayBe 6 = .ok (.iload_n 0, 1) := by decide +kernel
theorem dX8_mayBe_7 : decode cX8_mayBe 7 = .ok (.iconst 3, 1) := by decide +kernel
theorem dX8_mayBe_8 : decode cX8_mayBe 8 = .ok (.iand, 1) := by decide +kernel
theorem dX8_mayBe_9 : decode cX8_mayBe 9 = .ok (.iconst 1, 1) := by decide +kernel
theorem dX8_mayBe_10 : decode cX8_mayBe 10 = .ok (.if_icmp .ne 7, 3) := by decide +kernel
theorem dX8_mayBe_13 : decode cX8_mayBe 13 = .ok (.iconst 1, 1) := by decide +kernel
theorem dX8_mayBe_14 : decode cX8_mayBe 14 = .ok (.goto 4, 3) := by decide +kernel
theorem dX8_mayBe_17 : decode cX8_mayBe 17 = .ok (.iconst 0, 1) := by decide +kernel
theorem dX8_mayBe_18 : decode cX8_mayBe 18 = .ok (.ireturn, 1) := by decide +kernel
theorem dX8_men_0 : decode cX8_men 0 = .ok (.iload_n 0, 1) := by decide +kernel
theorem dX8_men_1 : decode cX8_men 1 = .ok (.iconst 1, 1) := by decide +kernel
theorem dX8_men_2 : decode cX8_men 2 = .ok (.iand, 1) := by decide +kernel
theorem dX8_men_3 : decode cX8_men 3 = .ok (.iload_n 0, 1) := by decide +kernel
theorem dX8_men_4 : decode cX8_men 4 = .ok (.iconst 1, 1) := by decide +kernel
theorem dX8_men_5 : decode cX8_men 5 = .ok (.ishr, 1) := by decide +kernel
theorem dX8_men_6 : decode cX8_men 6 = .ok (.iconst 1, 1) := by decide +kernel
theorem dX8_men_7 : decode cX8_men 7 = .ok (.iand, 1) := by decide +kernel
theorem dX8_men_8 : decode cX8_men 8 = .ok (.iadd, 1) := by decide +kernel
theorem dX8_men_9 : decode cX8_men 9 = .ok (.iload_n 0, 1) := by decide +kernel
theorem dX8_men_10 : decode cX8_men 10 = .ok (.iconst 2, 1) := by decide +kernel
theorem dX8_men_11 : decode cX8_men 11 = .ok (.ishr, 1) := by decide +kernel
theorem dX8_men_12 : decode cX8_men 12 = .ok (.iconst 1, 1) := by decide +kernel
theorem dX8_men_13 : decode cX8_men 13 = .ok (.iand, 1) := by decide +kernel
theorem dX8_men_14 : decode cX8_men 14 = .ok (.iadd, 1) := by decide +kernel
theorem dX8_men_15 : decode cX8_men 15 = .ok (.ireturn, 1) := by decide +kernel
theorem dX8_next_0 : decode cX8_next 0 = .ok (.iload_n 0, 1) := by decide +kernel
theorem dX8_next_1 : decode cX8_next 1 = .ok (.bipush 7, 2) := by decide +kernel
theorem dX8_next_3 : decode cX8_next 3 = .ok (.iand, 1) := by decide +kernel
theorem dX8_next_4 : decode cX8_next 4 = .ok (.istore_n 2, 1) := by decide +kernel
theorem dX8_next_5 : decode cX8_next 5 = .ok (.iload_n 0, 1) := by decide +kernel
theorem dX8_next_6 : decode cX8_next 6 = .ok (.bipush 8, 2) := by decide +kernel
theorem dX8_next_8 : decode cX8_next 8 = .ok (.idiv, 1) := by decide +kernel
theorem dX8_next_9 : decode cX8_next 9 = .ok (.istore_n 3, 1) := by decide +kernel
theorem dX8_next_10 : decode cX8_next 10 = .ok (.iload_n 1, 1) := by decide +kernel
theorem dX8_next_11 : decode cX8_next 11 = .ok (.tableswitch 133 0 7 #[45, 51, 78, 90, 101, 106, 111, 124], 45) := by decide +kernel
theorem dX8_next_56 : decode cX8_next 56 = .ok (.iinc 3 1, 3) := by decide +kernel
theorem dX8_next_59 : decode cX8_next 59 = .ok (.goto 92, 3) := by decide +kernel
theorem dX8_next_62 : decode cX8_next 62 = .ok (.iload_n 2, 1) := by decide +kernel
theorem dX8_next_63 : decode cX8_next 63 = .ok (.iload_n 2, 1) := by decide +kernel
theorem dX8_next_64 : decode cX8_next 64 = .ok (.iconst 1, 1) := by decide +kernel
theorem dX8_next_65 : decode cX8_next 65 = .ok (.iand, 1) := by decide +kernel
theorem dX8_next_66 : decode cX8_next 66 = .ok (.ifCond .ne 7, 3) := by decide +kernel
theorem dX8_next_69 : decode cX8_next 69 = .ok (.iconst 1, 1) := by decide +kernel
theorem dX8_next_70 : decode cX8_next 70 = .ok (.goto 14, 3) := by decide +kernel
theorem dX8_next_73 : decode cX8_next 73 = .ok (.iload_n 2, 1) := by decide +kernel
theorem dX8_next_74 : decode cX8_next 74 = .ok (.iconst 2, 1) := by decide +kernel
theorem dX8_next_75 : decode cX8_next 75 = .ok (.iand, 1) := by decide +kernel
theorem dX8_next_76 : decode cX8_next 76 = .ok (.ifCond .ne 7, 3) := by decide +kernel
theorem dX8_next_79 : decode cX8_next 79 = .ok (.iconst 2, 1) := by decide +kernel
theorem dX8_next_80 : decode cX8_next 80 = .ok (.goto 4, 3) := by decide +kernel
theorem dX8_next_83 : decode cX8_next 83 = .ok (.iconst 4, 1) := by decide +kernel
theorem dX8_next_84 : decode cX8_next 84 = .ok (.ior, 1) := by decide +kernel
theorem dX8_next_85 : decode cX8_next 85 = .ok (.istore_n 2, 1) := by decide +kernel
theorem dX8_next_86 : decode cX8_next 86 = .ok (.goto 65, 3) := by decide +kernel
theorem dX8_next_89 : decode cX8_next 89 = .ok (.iload_n 2, 1) := by decide +kernel
theorem dX8_next_90 : decode cX8_next 90 = .ok (.iconst 1, 1) := by decide +kernel
theorem dX8_next_91 : decode cX8_next 91 = .ok (.ishl, 1) := by decide +kernel
theorem dX8_next_92 : decode cX8_next 92 = .ok (.bipush 7, 2) := by decide +kernel
theorem dX8_next_94 : decode cX8_next 94 = .ok (.iand, 1) := by decide +kernel
theorem dX8_next_95 : decode cX8_next 95 = .ok (.iconst 1, 1) := by decide +kernel
theorem dX8_next_96 : decode cX8_next 96 = .ok (.ior, 1) := by decide +kernel
theorem dX8_next_97 : decode cX8_next 97 = .ok (.istore_n 2, 1) := by decide +kernel
theorem dX8_next_98 : decode cX8_next 98 = .ok (.goto 53, 3) := by decide +kernel
theorem dX8_next_101 : decode cX8_next 101 = .ok (.iconst 2, 1) := by decide +kernel
theorem dX8_next_102 : decode cX8_next 102 = .ok (.iload_n 2, 1) := by decide +kernel
theorem dX8_next_103 : decode cX8_next 103 = .ok (.iconst 1, 1) := by decide +kernel
theorem dX8_next_104 : decode cX8_next 104 = .ok (.iand, 1) := by decide +kernel
theorem dX8_next_105 : decode cX8_next 105 = .ok (.iconst 2, 1) := by decide +kernel
theorem dX8_next_106 : decode cX8_next 106 = .ok (.ishl, 1) := by decide +kernel
theorem dX8_next_107 : decode cX8_next 107 = .ok (.ior, 1) := by decide +kernel
theorem dX8_next_108 : decode cX8_next 108 = .ok (.istore_n 2, 1) := by decide +kernel
theorem dX8_next_109 : decode cX8_next 109 = .ok (.goto 42, 3) := by decide +kernel
theorem dX8_next_112 : decode cX8_next 112 = .ok (.iconst 4, 1) := by decide +kernel
theorem dX8_next_113 : decode cX8_next 113 = .ok (.istore_n 2, 1) := by decide +kernel
theorem dX8_next_114 : decode cX8_next 114 = .ok (.goto 37, 3) := by decide +kernel
theorem dX8_next_117 : decode cX8_next 117 = .ok (.iconst 0, 1) := by decide +kernel
