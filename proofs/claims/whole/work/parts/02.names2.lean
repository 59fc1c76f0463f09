theorem dX0_init_0 : decode cX0_init 0 = .ok (.aload_n 0, 1) := by decide +kernel
theorem dX0_init_1 : decode cX0_init 1 = .ok (.invokespecial 3, 3) := by decide +kernel
theorem dX0_init_4 : decode cX0_init 4 = .ok (.aload_n 0, 1) := by decide +kernel
theorem dX0_init_5 : decode cX0_init 5 = .ok (.bipush 16, 2) := by decide +kernel
theorem dX0_init_7 : decode cX0_init 7 = .ok (.newarray .int, 2) := by decide +kernel
theorem dX0_init_9 : decode cX0_init 9 = .ok (.putfield 11, 3) := by decide +kernel
theorem dX0_init_12 : decode cX0_init 12 = .ok (.return_, 1) := by decide +kernel
set_option maxRecDepth 20000 in
theorem ggX0_sizeOf_X6_toldKind : GoodIn wsX0_sizeOf wsX6_toldKind := goodIn_r _ [5, 6, 7, 56, 57] (by decide +kernel) (by decide +kernel)
set_option maxRecDepth 20000 in
theorem gX0_sizeOf_X6_toldKind : GoodIn wsX0_sizeOf (wsV RX0 15 RX6 yX6_toldKind wsX6_toldKind) := goodIn_app (goodIn_of _ (by decide +kernel)) ggX0_sizeOf_X6_toldKind
set_option maxRecDepth 20000 in
theorem ggX0_sizeOf_X0_sizeOfStrong : GoodIn wsX0_sizeOf wsX0_sizeOfStrong := goodIn_r _ [12, 13, 14, 15, 11, 16, 17, 18, 19, 20, 21, 22, 23, 24, 25, 26, 27, 28, 58, 59, 56, 57] (by decide +kernel) (by decide +kernel)
set_option maxRecDepth 20000 in
theorem gX0_sizeOf_X0_sizeOfStrong : GoodIn wsX0_sizeOf (wsV RX0 21 RX0 yX0_sizeOfStrong wsX0_sizeOfStrong) := goodIn_app (goodIn_of _ (by decide +kernel)) ggX0_sizeOf_X0_sizeOfStrong
set_option maxRecDepth 20000 in
theorem ggX0_sizeOf_X0_sizeOfSafe : GoodIn wsX0_sizeOf wsX0_sizeOfSafe := goodIn_r _ [22, 23, 13, 14, 15, 11, 16, 17, 18, 24, 25, 26, 27, 28, 56, 57, 58, 59] (by decide +kernel) (by decide +kernel)
set_option maxRecDepth 20000 in
theorem gX0_sizeOf_X0_sizeOfSafe : GoodIn wsX0_sizeOf (wsV RX0 25 RX0 yX0_sizeOfSafe wsX0_sizeOfSafe) := goodIn_app (goodIn_of _ (by decide +kernel)) ggX0_sizeOf_X0_sizeOfSafe
set_option maxRecDepth 20000 in
theorem ggX0_sizeOf_X0_sizeOfQuick : GoodIn wsX0_sizeOf wsX0_sizeOfQuick := goodIn_r _ [52, 13, 14, 15, 11, 16, 17, 18, 24, 25, 26, 27, 28, 53, 54, 55, 32, 1, 2, 3, 4, 5, 6, 7, 33, 34, 35, 36, 37, 38, 39, 40, 41, 42, 43, 23, 44, 45, 46, 47, 48, 49, 50, 51, 0, 8, 9, 10, 12, 19, 20, 21, 22, 29, 30, 31, 56, 57, 58, 59] (by decide +kernel) (by decide +kernel)
set_option maxRecDepth 20000 in
theorem gX0_sizeOf_X0_sizeOfQuick : GoodIn wsX0_sizeOf (wsV RX0 28 RX0 yX0_sizeOfQuick wsX0_sizeOfQuick) := goodIn_app (goodIn_of _ (by decide +kernel)) ggX0_sizeOf_X0_sizeOfQuick
set_option maxRecDepth 20000 in
theorem ggX0_sizeOf_X0_sizeLent : GoodIn wsX0_sizeOf wsX0_sizeLent := goodIn_r _ [27, 28, 13, 14, 15, 11, 16, 17, 18, 56, 57, 58, 59] (by decide +kernel) (by decide +kernel)
set_option maxRecDepth 20000 in
theorem gX0_sizeOf_X0_sizeLent : GoodIn wsX0_sizeOf (wsV RX0 32 RX0 yX0_sizeLent wsX0_sizeLent) := goodIn_app (goodIn_of _ (by decide +kernel)) ggX0_sizeOf_X0_sizeLent
theorem dX0_sizeOf_0 : decode cX0_sizeOf 0 = .ok (.iload_n 2, 1) := by decide +kernel
theorem dX0_sizeOf_1 : decode cX0_sizeOf 1 = .ok (.iconst 4, 1) := by decide +kernel
theorem dX0_sizeOf_2 : decode cX0_sizeOf 2 = .ok (.if_icmp .le 5, 3) := by decide +kernel
theorem dX0_sizeOf_5 : decode cX0_sizeOf 5 = .ok (.iconst 0, 1) := by decide +kernel
theorem dX0_sizeOf_6 : decode cX0_sizeOf 6 = .ok (.ireturn, 1) := by decide +kernel
theorem dX0_sizeOf_7 : decode cX0_sizeOf 7 = .ok (.aload_n 1, 1) := by decide +kernel
theorem dX0_sizeOf_8 : decode cX0_sizeOf 8 = .ok (.invokevirtual 15, 3) := by decide +kernel
theorem dX0_sizeOf_11 : decode cX0_sizeOf 11 = .ok (.tableswitch 44 1 3 #[31, 25, 37], 25) := by decide +kernel
theorem dX0_sizeOf_36 : decode cX0_sizeOf 36 = .ok (.aload_n 0, 1) := by decide +kernel
theorem dX0_sizeOf_37 : decode cX0_sizeOf 37 = .ok (.aload_n 1, 1) := by decide +kernel
theorem dX0_sizeOf_38 : decode cX0_sizeOf 38 = .ok (.invokevirtual 21, 3) := by decide +kernel
theorem dX0_sizeOf_41 : decode cX0_sizeOf 41 = .ok (.ireturn, 1) := by decide +kernel
theorem dX0_sizeOf_42 : decode cX0_sizeOf 42 = .ok (.aload_n 0, 1) := by decide +kernel
theorem dX0_sizeOf_43 : decode cX0_sizeOf 43 = .ok (.aload_n 1, 1) := by decide +kernel
theorem dX0_sizeOf_44 : decode cX0_sizeOf 44 = .ok (.invokevirtual 25, 3) := by decide +kernel
theorem dX0_sizeOf_47 : decode cX0_sizeOf 47 = .ok (.ireturn, 1) := by decide +kernel
theorem dX0_sizeOf_48 : decode cX0_sizeOf 48 = .ok (.aload_n 0, 1) := by decide +kernel
theorem dX0_sizeOf_49 : decode cX0_sizeOf 49 = .ok (.aload_n 1, 1) := by decide +kernel
theorem dX0_sizeOf_50 : decode cX0_sizeOf 50 = .ok (.iload_n 2, 1) := by decide +kernel
theorem dX0_sizeOf_51 : decode cX0_sizeOf 51 = .ok (.invokevirtual 28, 3) := by decide +kernel
theorem dX0_sizeOf_54 : decode cX0_sizeOf 54 = .ok (.ireturn, 1) := by decide +kernel
theorem dX0_sizeOf_55 : decode cX0_sizeOf 55 = .ok (.aload_n 0, 1) := by decide +kernel
theorem dX0_sizeOf_56 : decode cX0_sizeOf 56 = .ok (.aload_n 1, 1) := by decide +kernel
theorem dX0_sizeOf_57 : decode cX0_sizeOf 57 = .ok (.invokevirtual 32, 3) := by decide +kernel
theorem dX0_sizeOf_60 : decode cX0_sizeOf 60 = .ok (.ireturn, 1) := by decide +kernel
set_option maxRecDepth 20000 in
theorem ggX0_markOf_X6_toldKind : GoodIn wsX0_markOf wsX6_toldKind := goodIn_r _ [5, 6, 7, 56, 57] (by decide +kernel) (by decide +kernel)
set_option maxRecDepth 20000 in
theorem gX0_markOf_X6_toldKind : GoodIn wsX0_markOf (wsV RX0 15 RX6 yX6_toldKind wsX6_toldKind) := goodIn_app (goodIn_of _ (by decide +kernel)) ggX0_markOf_X6_toldKind
set_option maxRecDepth 20000 in
theorem ggX0_markOf_X0_markOfStrong : GoodIn wsX0_markOf wsX0_markOfStrong := goodIn_r _ [31, 16, 17, 18, 11, 19, 20, 21, 12, 13, 14, 15, 22, 23, 24, 25, 26, 32, 33, 34, 0, 1, 2, 3, 4, 5, 6, 7, 8, 9, 10, 27, 28, 29, 30, 35, 36, 37, 38, 39, 40, 41, 42, 43, 44, 45, 46, 47, 48, 49, 50, 51, 52, 53, 54, 55, 56, 57, 58, 59] (by decide +kernel) (by decide +kernel)
set_option maxRecDepth 20000 in
theorem gX0_markOf_X0_markOfStrong : GoodIn wsX0_markOf (wsV RX0 35 RX0 yX0_markOfStrong wsX0_markOfStrong) := goodIn_app (goodIn_of _ (by decide +kernel)) ggX0_markOf_X0_markOfStrong
set_option maxRecDepth 20000 in
theorem ggX0_markOf_X0_markOfSafe : GoodIn wsX0_markOf wsX0_markOfSafe := goodIn_r _ [15, 16, 17, 18, 11, 19, 20, 21, 22, 23, 24, 25, 26, 58, 59, 56, 57] (by decide +kernel) (by decide +kernel)
set_option maxRecDepth 20000 in
theorem gX0_markOf_X0_markOfSafe : GoodIn wsX0_markOf (wsV RX0 38 RX0 yX0_markOfSafe wsX0_markOfSafe) := goodIn_app (goodIn_of _ (by decide +kernel)) ggX0_markOf_X0_markOfSafe
set_option maxRecDepth 20000 in
theorem ggX0_markOf_X0_markOfQuick : GoodIn wsX0_markOf wsX0_markOfQuick := goodIn_r _ [30, 16, 17, 18, 11, 19, 20, 21, 22, 23, 24, 25, 26, 58, 59, 56, 57] (by decide +kernel) (by decide +kernel)
set_option maxRecDepth 20000 in
theorem gX0_markOf_X0_markOfQuick : GoodIn wsX0_markOf (wsV RX0 41 RX0 yX0_markOfQuick wsX0_markOfQuick) := goodIn_app (goodIn_of _ (by decide +kernel)) ggX0_markOf_X0_markOfQuick
set_option maxRecDepth 20000 in
theorem ggX0_markOf_X0_markLent : GoodIn wsX0_markOf wsX0_markLent := goodIn_r _ [25, 26, 16, 17, 18, 11, 19, 20, 21, 56, 57, 58, 59] (by decide +kernel) (by decide +kernel)
set_option maxRecDepth 20000 in
theorem gX0_markOf_X0_markLent : GoodIn wsX0_markOf (wsV RX0 44 RX0 yX0_markLent wsX0_markLent) := goodIn_app (goodIn_of _ (by decide +kernel)) ggX0_markOf_X0_markLent
theorem dX0_markOf_0 : decode cX0_markOf 0 = .ok (.iload_n 2, 1) := by decide +kernel
theorem dX0_markOf_1 : decode cX0_markOf 1 = .ok (.iconst 4, 1) := by decide +kernel
theorem dX0_markOf_2 : decode cX0_markOf 2 = .ok (.if_icmp .le 5, 3) := by decide +kernel
theorem dX0_markOf_5 : decode cX0_markOf 5 = .ok (.iconst 0, 1) := by decide +kernel
theorem dX0_markOf_6 : decode cX0_markOf 6 = .ok (.ireturn, 1) := by decide +kernel
theorem dX0_markOf_7 : decode cX0_markOf 7 = .ok (.aload_n 1, 1) := by decide +kernel
theorem dX0_markOf_8 : decode cX0_markOf 8 = .ok (.invokevirtual 15, 3) := by decide +kernel
theorem dX0_markOf_11 : decode cX0_markOf 11 = .ok (.tableswitch 44 1 3 #[32, 25, 38], 25) := by decide +kernel
theorem dX0_markOf_36 : decode cX0_markOf 36 = .ok (.aload_n 0, 1) := by decide +kernel
theorem dX0_markOf_37 : decode cX0_markOf 37 = .ok (.aload_n 1, 1) := by decide +kernel
theorem dX0_markOf_38 : decode cX0_markOf 38 = .ok (.iload_n 2, 1) := by decide +kernel
theorem dX0_markOf_39 : decode cX0_markOf 39 = .ok (.invokevirtual 35, 3) := by decide +kernel
theorem dX0_markOf_42 : decode cX0_markOf 42 = .ok (.ireturn, 1) := by decide +kernel
theorem dX0_markOf_43 : decode cX0_markOf 43 = .ok (.aload_n 0, 1) := by decide +kernel
theorem dX0_markOf_44 : decode cX0_markOf 44 = .ok (.aload_n 1, 1) := by decide +kernel
theorem dX0_markOf_45 : decode cX0_markOf 45 = .ok (.invokevirtual 38, 3) := by decide +kernel
theorem dX0_markOf_48 : decode cX0_markOf 48 = .ok (.ireturn, 1) := by decide +kernel
theorem dX0_markOf_49 : decode cX0_markOf 49 = .ok (.aload_n 0, 1) := by decide +kernel
theorem dX0_markOf_50 : decode cX0_markOf 50 = .ok (.aload_n 1, 1) := by decide +kernel
theorem dX0_markOf_51 : decode cX0_markOf 51 = .ok (.invokevirtual 41, 3) := by decide +kernel
theorem dX0_markOf_54 : decode cX0_markOf 54 = .ok (.ireturn, 1) := by decide +kernel
theorem dX0_markOf_55 : decode cX0_markOf 55 = .ok (.aload_n 0, 1) := by decide +kernel
theorem dX0_markOf_56 : decode cX0_markOf 56 = .ok (.aload_n 1, 1) := by decide +kernel
theorem dX0_markOf_57 : decode cX0_markOf 57 = .ok (.invokevirtual 44, 3) := by decide +kernel
theorem dX0_markOf_60 : decode cX0_markOf 60 = .ok (.ireturn, 1) := by decide +kernel
set_option maxRecDepth 20000 in
theorem ggX0_sizeLent_X0_leave : GoodIn wsX0_sizeLent wsX0_leave := goodIn_r _ [6, 7, 8, 11, 12] (by decide +kernel) (by decide +kernel)
set_option maxRecDepth 20000 in
theorem gX0_sizeLent_X0_leave : GoodIn wsX0_sizeLent (wsV RX0 47 RX0 yX0_leave wsX0_leave) := goodIn_app (goodIn_of _ (by decide +kernel)) ggX0_sizeLent_X0_leave
theorem dX0_sizeLent_0 : decode cX0_sizeLent 0 = .ok (.aload_n 0, 1) := by decide +kernel
theorem dX0_sizeLent_1 : decode cX0_sizeLent 1 = .ok (.bipush 10, 2) := by decide +kernel
theorem dX0_sizeLent_3 : decode cX0_sizeLent 3 = .ok (.invokevirtual 47, 3) := by decide +kernel
theorem dX0_sizeLent_6 : decode cX0_sizeLent 6 = .ok (.aload_n 1, 1) := by decide +kernel
theorem dX0_sizeLent_7 : decode cX0_sizeLent 7 = .ok (.getfield 51, 3) := by decide +kernel
theorem dX0_sizeLent_10 : decode cX0_sizeLent 10 = .ok (.ireturn, 1) := by decide +kernel
set_option maxRecDepth 20000 in
theorem ggX0_sizeOfSafe_X0_leave : GoodIn wsX0_sizeOfSafe wsX0_leave := goodIn_r _ [6, 7, 8, 16, 17] (by decide +kernel) (by decide +kernel)
set_option maxRecDepth 20000 in
theorem gX0_sizeOfSafe_X0_leave : GoodIn wsX0_sizeOfSafe (wsV RX0 47 RX0 yX0_leave wsX0_leave) := goodIn_app (goodIn_of _ (by decide +kernel)) ggX0_sizeOfSafe_X0_leave
set_option maxRecDepth 20000 in
theorem ggX0_sizeOfSafe_X0_sizeLent : GoodIn wsX0_sizeOfSafe wsX0_sizeLent := goodIn_r _ [12, 13, 2, 3, 4, 5, 6, 7, 8, 14, 15, 16, 17] (by decide +kernel) (by decide +kernel)
set_option maxRecDepth 20000 in
theorem gX0_sizeOfSafe_X0_sizeLent : GoodIn wsX0_sizeOfSafe (wsV RX0 32 RX0 yX0_sizeLent wsX0_sizeLent) := goodIn_app (goodIn_of _ (by decide +kernel)) ggX0_sizeOfSafe_X0_sizeLent
theorem dX0_sizeOfSafe_0 : decode cX0_sizeOfSafe 0 = .ok (.aload_n 0, 1) := by decide +kernel
theorem dX0_sizeOfSafe_1 : decode cX0_sizeOfSafe 1 = .ok (.bipush 11, 2) := by decide +kernel
theorem dX0_sizeOfSafe_3 : decode cX0_sizeOfSafe 3 = .ok (.invokevirtual 47, 3) := by decide +kernel
theorem dX0_sizeOfSafe_6 : decode cX0_sizeOfSafe 6 = .ok (.aload_n 0, 1) := by decide +kernel
theorem dX0_sizeOfSafe_7 : decode cX0_sizeOfSafe 7 = .ok (.aload_n 1, 1) := by decide +kernel
theorem dX0_sizeOfSafe_8 : decode cX0_sizeOfSafe 8 = .ok (.invokevirtual 32, 3) := by decide +kernel
theorem dX0_sizeOfSafe_11 : decode cX0_sizeOfSafe 11 = .ok (.sipush 1000, 3) := by decide +kernel
theorem dX0_sizeOfSafe_14 : decode cX0_sizeOfSafe 14 = .ok (.iadd, 1) := by decide +kernel
theorem dX0_sizeOfSafe_15 : decode cX0_sizeOfSafe 15 = .ok (.aload_n 1, 1) := by decide +kernel
theorem dX0_sizeOfSafe_16 : decode cX0_sizeOfSafe 16 = .ok (.getfield 55, 3) := by decide +kernel
theorem dX0_sizeOfSafe_19 : decode cX0_sizeOfSafe 19 = .ok (.iconst 0, 1) := by decide +kernel
theorem dX0_sizeOfSafe_20 : decode cX0_sizeOfSafe 20 = .ok (.iaload, 1) := by decide +kernel
theorem dX0_sizeOfSafe_21 : decode cX0_sizeOfSafe 21 = .ok (.isub, 1) := by decide +kernel
theorem dX0_sizeOfSafe_22 : decode cX0_sizeOfSafe 22 = .ok (.ireturn, 1) := by decide +kernel
set_option maxRecDepth 20000 in
theorem ggX0_sizeOfStrong_X0_leave : GoodIn wsX0_sizeOfStrong wsX0_leave := goodIn_r _ [5, 6, 7, 18, 19] (by decide +kernel) (by decide +kernel)
set_option maxRecDepth 20000 in
theorem gX0_sizeOfStrong_X0_leave : GoodIn wsX0_sizeOfStrong (wsV RX0 47 RX0 yX0_leave wsX0_leave) := goodIn_app (goodIn_of _ (by decide +kernel)) ggX0_sizeOfStrong_X0_leave
set_option maxRecDepth 20000 in
theorem ggX0_sizeOfStrong_X0_sizeOfSafe : GoodIn wsX0_sizeOfStrong wsX0_sizeOfSafe := goodIn_r _ [11, 12, 1, 2, 3, 4, 5, 6, 7, 13, 14, 15, 16, 17, 20, 21, 18, 19] (by decide +kernel) (by decide +kernel)
set_option maxRecDepth 20000 in
theorem gX0_sizeOfStrong_X0_sizeOfSafe : GoodIn wsX0_sizeOfStrong (wsV RX0 25 RX0 yX0_sizeOfSafe wsX0_sizeOfSafe) := goodIn_app (goodIn_of _ (by decide +kernel)) ggX0_sizeOfStrong_X0_sizeOfSafe
theorem dX0_sizeOfStrong_0 : decode cX0_sizeOfStrong 0 = .ok (.aload_n 0, 1) := by decide +kernel
theorem dX0_sizeOfStrong_1 : decode cX0_sizeOfStrong 1 = .ok (.bipush 12, 2) := by decide +kernel
theorem dX0_sizeOfStrong_3 : decode cX0_sizeOfStrong 3 = .ok (.invokevirtual 47, 3) := by decide +kernel
theorem dX0_sizeOfStrong_6 : decode cX0_sizeOfStrong 6 = .ok (.aload_n 0, 1) := by decide +kernel
theorem dX0_sizeOfStrong_7 : decode cX0_sizeOfStrong 7 = .ok (.aload_n 1, 1) := by decide +kernel
theorem dX0_sizeOfStrong_8 : decode cX0_sizeOfStrong 8 = .ok (.invokevirtual 25, 3) := by decide +kernel
theorem dX0_sizeOfStrong_11 : decode cX0_sizeOfStrong 11 = .ok (.iconst 2, 1) := by decide +kernel
theorem dX0_sizeOfStrong_12 : decode cX0_sizeOfStrong 12 = .ok (.imul, 1) := by decide +kernel
theorem dX0_sizeOfStrong_13 : decode cX0_sizeOfStrong 13 = .ok (.ireturn, 1) := by decide +kernel
set_option maxRecDepth 20000 in
theorem ggX0_sizeOfQuick_X0_leave : GoodIn wsX0_sizeOfQuick wsX0_leave := goodIn_r _ [5, 6, 7, 58, 59] (by decide +kernel) (by decide +kernel)
set_option maxRecDepth 20000 in
theorem gX0_sizeOfQuick_X0_leave : GoodIn wsX0_sizeOfQuick (wsV RX0 47 RX0 yX0_leave wsX0_leave) := goodIn_app (goodIn_of _ (by decide +kernel)) ggX0_sizeOfQuick_X0_leave
set_option maxRecDepth 20000 in
theorem ggX0_sizeOfQuick_X0_sizeLent : GoodIn wsX0_sizeOfQuick wsX0_sizeLent := goodIn_r _ [11, 12, 1, 2, 3, 4, 5, 6, 7, 56, 57, 58, 59] (by decide +kernel) (by decide +kernel)
set_option maxRecDepth 20000 in
theorem gX0_sizeOfQuick_X0_sizeLent : GoodIn wsX0_sizeOfQuick (wsV RX0 32 RX0 yX0_sizeLent wsX0_sizeLent) := goodIn_app (goodIn_of _ (by decide +kernel)) ggX0_sizeOfQuick_X0_sizeLent
set_option maxRecDepth 20000 in
theorem ggX0_sizeOfQuick_X0_markOf : GoodIn wsX0_sizeOfQuick wsX0_markOf := goodIn_r _ [16, 17, 18, 19, 20, 21, 22, 23, 24, 25, 26, 4, 27, 28, 29, 30, 1, 2, 3, 5, 6, 7, 31, 32, 33, 34, 35, 36, 37, 38, 39, 40, 41, 42, 43, 44, 45, 46, 47, 48, 49, 50, 51, 52, 8, 9, 10, 11, 12, 53, 54, 55, 0, 13, 14, 15, 56, 57, 58, 59] (by decide +kernel) (by decide +kernel)
set_option maxRecDepth 20000 in
theorem gX0_sizeOfQuick_X0_markOf : GoodIn wsX0_sizeOfQuick (wsV RX0 58 RX0 yX0_markOf wsX0_markOf) := goodIn_app (goodIn_of _ (by decide +kernel)) ggX0_sizeOfQuick_X0_markOf
theorem dX0_sizeOfQuick_0 : decode cX0_sizeOfQuick 0 = .ok (.aload_n 0, 1) := by decide +kernel
theorem dX0_sizeOfQuick_1 : decode cX0_sizeOfQuick 1 = .ok (.bipush 13, 2) := by decide +kernel
theorem dX0_sizeOfQuick_3 : decode cX0_sizeOfQuick 3 = .ok (.invokevirtual 47, 3) := by decide +kernel
theorem dX0_sizeOfQuick_6 : decode cX0_sizeOfQuick 6 = .ok (.aload_n 0, 1) := by decide +kernel
theorem dX0_sizeOfQuick_7 : decode cX0_sizeOfQuick 7 = .ok (.aload_n 1, 1) := by decide +kernel
theorem dX0_sizeOfQuick_8 : decode cX0_sizeOfQuick 8 = .ok (.invokevirtual 32, 3) := by decide +kernel
theorem dX0_sizeOfQuick_11 : decode cX0_sizeOfQuick 11 = .ok (.istore_n 3, 1) := by decide +kernel
theorem dX0_sizeOfQuick_12 : decode cX0_sizeOfQuick 12 = .ok (.iload_n 3, 1) := by decide +kernel
theorem dX0_sizeOfQuick_13 : decode cX0_sizeOfQuick 13 = .ok (.aload_n 0, 1) := by decide +kernel
theorem dX0_sizeOfQuick_14 : decode cX0_sizeOfQuick 14 = .ok (.aload_n 1, 1) := by decide +kernel
theorem dX0_sizeOfQuick_15 : decode cX0_sizeOfQuick 15 = .ok (.iload_n 2, 1) := by decide +kernel
theorem dX0_sizeOfQuick_16 : decode cX0_sizeOfQuick 16 = .ok (.iconst 1, 1) := by decide +kernel
theorem dX0_sizeOfQuick_17 : decode cX0_sizeOfQuick 17 = .ok (.iadd, 1) := by decide +kernel
theorem dX0_sizeOfQuick_18 : decode cX0_sizeOfQuick 18 = .ok (.invokevirtual 58, 3) := by decide +kernel
theorem dX0_sizeOfQuick_21 : decode cX0_sizeOfQuick 21 = .ok (.isub, 1) := by decide +kernel
theorem dX0_sizeOfQuick_22 : decode cX0_sizeOfQuick 22 = .ok (.ireturn, 1) := by decide +kernel
set_option maxRecDepth 20000 in
theorem ggX0_markLent_X0_leave : GoodIn wsX0_markLent wsX0_leave := goodIn_r _ [6, 7, 8, 11, 12] (by decide +kernel) (by decide +kernel)
set_option maxRecDepth 20000 in
theorem gX0_markLent_X0_leave : GoodIn wsX0_markLent (wsV RX0 47 RX0 yX0_leave wsX0_leave) := goodIn_app (goodIn_of _ (by decide +kernel)) ggX0_markLent_X0_leave
theorem dX0_markLent_0 : decode cX0_markLent 0 = .ok (.aload_n 0, 1) := by decide +kernel
theorem dX0_markLent_1 : decode cX0_markLent 1 = .ok (.bipush 20, 2) := by decide +kernel
theorem dX0_markLent_3 : decode cX0_markLent 3 = .ok (.invokevirtual 47, 3) := by decide +kernel
theorem dX0_markLent_6 : decode cX0_markLent 6 = .ok (.aload_n 1, 1) := by decide +kernel
theorem dX0_markLent_7 : decode cX0_markLent 7 = .ok (.getfield 55, 3) := by decide +kernel
theorem dX0_markLent_10 : decode cX0_markLent 10 = .ok (.iconst 5, 1) := by decide +kernel
theorem dX0_markLent_11 : decode cX0_markLent 11 = .ok (.iaload, 1) := by decide +kernel
theorem dX0_markLent_12 : decode cX0_markLent 12 = .ok (.ireturn, 1) := by decide +kernel
set_option maxRecDepth 20000 in
theorem ggX0_markOfSafe_X0_leave : GoodIn wsX0_markOfSafe wsX0_leave := goodIn_r _ [5, 6, 7, 13, 14] (by decide +kernel) (by decide +kernel)
set_option maxRecDepth 20000 in
theorem gX0_markOfSafe_X0_leave : GoodIn wsX0_markOfSafe (wsV RX0 47 RX0 yX0_leave wsX0_leave) := goodIn_app (goodIn_of _ (by decide +kernel)) ggX0_markOfSafe_X0_leave
set_option maxRecDepth 20000 in
theorem ggX0_markOfSafe_X0_markLent : GoodIn wsX0_markOfSafe wsX0_markLent := goodIn_r _ [11, 12, 1, 2, 3, 4, 5, 6, 7, 15, 16, 13, 14] (by decide +kernel) (by decide +kernel)
set_option maxRecDepth 20000 in
theorem gX0_markOfSafe_X0_markLent : GoodIn wsX0_markOfSafe (wsV RX0 44 RX0 yX0_markLent wsX0_markLent) := goodIn_app (goodIn_of _ (by decide +kernel)) ggX0_markOfSafe_X0_markLent
theorem dX0_markOfSafe_0 : decode cX0_markOfSafe 0 = .ok (.aload_n 0, 1) := by decide +kernel
theorem dX0_markOfSafe_1 : decode cX0_markOfSafe 1 = .ok (.bipush 21, 2) := by decide +kernel
theorem dX0_markOfSafe_3 : decode cX0_markOfSafe 3 = .ok (.invokevirtual 47, 3) := by decide +kernel
theorem dX0_markOfSafe_6 : decode cX0_markOfSafe 6 = .ok (.aload_n 0, 1) := by decide +kernel
theorem dX0_markOfSafe_7 : decode cX0_markOfSafe 7 = .ok (.aload_n 1, 1) := by decide +kernel
theorem dX0_markOfSafe_8 : decode cX0_markOfSafe 8 = .ok (.invokevirtual 44, 3) := by decide +kernel
theorem dX0_markOfSafe_11 : decode cX0_markOfSafe 11 = .ok (.bipush 100, 2) := by decide +kernel
theorem dX0_markOfSafe_13 : decode cX0_markOfSafe 13 = .ok (.iadd, 1) := by decide +kernel
theorem dX0_markOfSafe_14 : decode cX0_markOfSafe 14 = .ok (.ireturn, 1) := by decide +kernel
set_option maxRecDepth 20000 in
theorem ggX0_markOfStrong_X0_leave : GoodIn wsX0_markOfStrong wsX0_leave := goodIn_r _ [5, 6, 7, 58, 59] (by decide +kernel) (by decide +kernel)
set_option maxRecDepth 20000 in
theorem gX0_markOfStrong_X0_leave : GoodIn wsX0_markOfStrong (wsV RX0 47 RX0 yX0_leave wsX0_leave) := goodIn_app (goodIn_of _ (by decide +kernel)) ggX0_markOfStrong_X0_leave
set_option maxRecDepth 20000 in
theorem ggX0_markOfStrong_X0_markOfSafe : GoodIn wsX0_markOfStrong wsX0_markOfSafe := goodIn_r _ [11, 1, 2, 3, 4, 5, 6, 7, 12, 13, 14, 15, 16, 58, 59, 56, 57] (by decide +kernel) (by decide +kernel)
set_option maxRecDepth 20000 in
theorem gX0_markOfStrong_X0_markOfSafe : GoodIn wsX0_markOfStrong (wsV RX0 38 RX0 yX0_markOfSafe wsX0_markOfSafe) := goodIn_app (goodIn_of _ (by decide +kernel)) ggX0_markOfStrong_X0_markOfSafe
set_option maxRecDepth 20000 in
theorem ggX0_markOfStrong_X0_sizeOf : GoodIn wsX0_markOfStrong wsX0_sizeOf := goodIn_r _ [35, 21, 22, 23, 24, 25, 26, 27, 36, 37, 38, 4, 39, 1, 2, 3, 5, 6, 7, 40, 41, 42, 43, 16, 44, 45, 46, 47, 48, 49, 50, 51, 20, 28, 29, 30, 8, 9, 10, 11, 12, 13, 14, 15, 31, 32, 33, 34, 0, 17, 18, 19, 52, 53, 54, 55, 56, 57, 58, 59] (by decide +kernel) (by decide +kernel)
set_option maxRecDepth 20000 in
theorem gX0_markOfStrong_X0_sizeOf : GoodIn wsX0_markOfStrong (wsV RX0 61 RX0 yX0_sizeOf wsX0_sizeOf) := goodIn_app (goodIn_of _ (by decide +kernel)) ggX0_markOfStrong_X0_sizeOf
theorem dX0_markOfStrong_0 : decode cX0_markOfStrong 0 = .ok (.aload_n 0, 1) := by decide +kernel
theorem dX0_markOfStrong_1 : decode cX0_markOfStrong 1 = .ok (.bipush 22, 2) := by decide +kernel
theorem dX0_markOfStrong_3 : decode cX0_markOfStrong 3 = .ok (.invokevirtual 47, 3) := by decide +kernel
theorem dX0_markOfStrong_6 : decode cX0_markOfStrong 6 = .ok (.aload_n 0, 1) := by decide +kernel
theorem dX0_markOfStrong_7 : decode cX0_markOfStrong 7 = .ok (.aload_n 1, 1) := by decide +kernel
theorem dX0_markOfStrong_8 : decode cX0_markOfStrong 8 = .ok (.invokevirtual 38, 3) := by decide +kernel
theorem dX0_markOfStrong_11 : decode cX0_markOfStrong 11 = .ok (.istore_n 3, 1) := by decide +kernel
theorem dX0_markOfStrong_12 : decode cX0_markOfStrong 12 = .ok (.iload_n 3, 1) := by decide +kernel
theorem dX0_markOfStrong_13 : decode cX0_markOfStrong 13 = .ok (.aload_n 0, 1) := by decide +kernel
theorem dX0_markOfStrong_14 : decode cX0_markOfStrong 14 = .ok (.aload_n 1, 1) := by decide +kernel
theorem dX0_markOfStrong_15 : decode cX0_markOfStrong 15 = .ok (.iload_n 2, 1) := by decide +kernel
theorem dX0_markOfStrong_16 : decode cX0_markOfStrong 16 = .ok (.iconst 1, 1) := by decide +kernel
theorem dX0_markOfStrong_17 : decode cX0_markOfStrong 17 = .ok (.iadd, 1) := by decide +kernel
theorem dX0_markOfStrong_18 : decode cX0_markOfStrong 18 = .ok (.invokevirtual 61, 3) := by decide +kernel
theorem dX0_markOfStrong_21 : decode cX0_markOfStrong 21 = .ok (.iadd, 1) := by decide +kernel
theorem dX0_markOfStrong_22 : decode cX0_markOfStrong 22 = .ok (.ireturn, 1) := by decide +kernel
set_option maxRecDepth 20000 in
theorem ggX0_markOfQuick_X0_leave : GoodIn wsX0_markOfQuick wsX0_leave := goodIn_r _ [5, 6, 7, 13, 14] (by decide +kernel) (by decide +kernel)
set_option maxRecDepth 20000 in
theorem gX0_markOfQuick_X0_leave : GoodIn wsX0_markOfQuick (wsV RX0 47 RX0 yX0_leave wsX0_leave) := goodIn_app (goodIn_of _ (by decide +kernel)) ggX0_markOfQuick_X0_leave
set_option maxRecDepth 20000 in
theorem ggX0_markOfQuick_X0_markLent : GoodIn wsX0_markOfQuick wsX0_markLent := goodIn_r _ [11, 12, 1, 2, 3, 4, 5, 6, 7, 15, 16, 13, 14] (by decide +kernel) (by decide +kernel)
set_option maxRecDepth 20000 in
theorem gX0_markOfQuick_X0_markLent : GoodIn wsX0_markOfQuick (wsV RX0 44 RX0 yX0_markLent wsX0_markLent) := goodIn_app (goodIn_of _ (by decide +kernel)) ggX0_markOfQuick_X0_markLent
theorem dX0_markOfQuick_0 : decode cX0_markOfQuick 0 = .ok (.aload_n 0, 1) := by decide +kernel
theorem dX0_markOfQuick_1 : decode cX0_markOfQuick 1 = .ok (.bipush 23, 2) := by decide +kernel
theorem dX0_markOfQuick_3 : decode cX0_markOfQuick 3 = .ok (.invokevirtual 47, 3) := by decide +kernel
theorem dX0_markOfQuick_6 : decode cX0_markOfQuick 6 = .ok (.aload_n 0, 1) := by decide +kernel
theorem dX0_markOfQuick_7 : decode cX0_markOfQuick 7 = .ok (.aload_n 1, 1) := by decide +kernel
theorem dX0_markOfQuick_8 : decode cX0_markOfQuick 8 = .ok (.invokevirtual 44, 3) := by decide +kernel
theorem dX0_markOfQuick_11 : decode cX0_markOfQuick 11 = .ok (.iconst 2, 1) := by decide +kernel
theorem dX0_markOfQuick_12 : decode cX0_markOfQuick 12 = .ok (.idiv, 1) := by decide +kernel
theorem dX0_markOfQuick_13 : decode cX0_markOfQuick 13 = .ok (.ireturn, 1) := by decide +kernel
theorem dX0_leave_0 : decode cX0_leave 0 = .ok (.aload_n 0, 1) := by decide +kernel
theorem dX0_leave_1 : decode cX0_leave 1 = .ok (.getfield 64, 3) := by decide +kernel
theorem dX0_leave_4 : decode cX0_leave 4 = .ok (.bipush 16, 2) := by decide +kernel
theorem dX0_leave_6 : decode cX0_leave 6 = .ok (.if_icmp .ge 23, 3) := by decide +kernel
theorem dX0_leave_9 : decode cX0_leave 9 = .ok (.aload_n 0, 1) := by decide +kernel
theorem dX0_leave_10 : decode cX0_leave 10 = .ok (.getfield 11, 3) := by decide +kernel
theorem dX0_leave_13 : decode cX0_leave 13 = .ok (.aload_n 0, 1) := by decide +kernel
theorem dX0_leave_14 : decode cX0_leave 14 = .ok (.getfield 64, 3) := by decide +kernel
theorem dX0_leave_17 : decode cX0_leave 17 = .ok (.iload_n 1, 1) := by decide +kernel
theorem dX0_leave_18 : decode cX0_leave 18 = .ok (.iastore, 1) := by decide +kernel
theorem dX0_leave_19 : decode cX0_leave 19 = .ok (.aload_n 0, 1) := by decide +kernel
theorem dX0_leave_20 : decode cX0_leave 20 = .ok (.dup, 1) := by decide +kernel
theorem dX0_leave_21 : decode cX0_leave 21 = .ok (.getfield 64, 3) := by decide +kernel
theorem dX0_leave_24 : decode cX0_leave 24 = .ok (.iconst 1, 1) := by decide +kernel
theorem dX0_leave_25 : decode cX0_leave 25 = .ok (.iadd, 1) := by decide +kernel
theorem dX0_leave_26 : decode cX0_leave 26 = .ok (.putfield 64, 3) := by decide +kernel
theorem dX0_leave_29 : decode cX0_leave 29 = .ok (.return_, 1) := by decide +kernel
set_option maxRecDepth 20000 in
theorem ggX1_init_X1_tell : GoodIn wsX1_init wsX1_tell := goodIn_r _ [11, 5, 12, 6, 13, 14, 10, 15, 16, 17, 18, 19, 20, 21, 22, 23, 24, 25, 26, 27, 28, 29, 30, 31, 32, 33] (by decide +kernel) (by decide +kernel)
set_option maxRecDepth 20000 in
theorem gX1_init_X1_tell : GoodIn wsX1_init (wsV RX1 18 RX1 yX1_tell wsX1_tell) := goodIn_app (goodIn_of _ (by decide +kernel)) ggX1_init_X1_tell
theorem dX1_init_0 : decode cX1_init 0 = .ok (.aload_n 0, 1) := by decide +kernel
theorem dX1_init_1 : decode cX1_init 1 = .ok (.invokespecial 3, 3) := by decide +kernel
theorem dX1_init_4 : decode cX1_init 4 = .ok (.aload_n 0, 1) := by decide +kernel
theorem dX1_init_5 : decode cX1_init 5 = .ok (.sipush 216, 3) := by decide +kernel
theorem dX1_init_8 : decode cX1_init 8 = .ok (.newarray .int, 2) := by decide +kernel
theorem dX1_init_10 : decode cX1_init 10 = .ok (.putfield 9, 3) := by decide +kernel
theorem dX1_init_13 : decode cX1_init 13 = .ok (.aload_n 0, 1) := by decide +kernel
theorem dX1_init_14 : decode cX1_init 14 = .ok (.sipush 216, 3) := by decide +kernel
theorem dX1_init_17 : decode cX1_init 17 = .ok (.newarray .int, 2) := by decide +kernel
theorem dX1_init_19 : decode cX1_init 19 = .ok (.putfield 15, 3) := by decide +kernel
theorem dX1_init_22 : decode cX1_init 22 = .ok (.iconst 0, 1) := by decide +kernel
theorem dX1_init_23 : decode cX1_init 23 = .ok (.istore_n 1, 1) := by decide +kernel
theorem dX1_init_24 : decode cX1_init 24 = .ok (.iload_n 1, 1) := by decide +kernel
theorem dX1_init_25 : decode cX1_init 25 = .ok (.bipush 24, 2) := by decide +kernel
theorem dX1_init_27 : decode cX1_init 27 = .ok (.if_icmp .ge 29, 3) := by decide +kernel
theorem dX1_init_30 : decode cX1_init 30 = .ok (.iconst 0, 1) := by decide +kernel
theorem dX1_init_31 : decode cX1_init 31 = .ok (.istore_n 2, 1) := by decide +kernel
theorem dX1_init_32 : decode cX1_init 32 = .ok (.iload_n 2, 1) := by decide +kernel
theorem dX1_init_33 : decode cX1_init 33 = .ok (.bipush 8, 2) := by decide +kernel
theorem dX1_init_35 : decode cX1_init 35 = .ok (.if_icmp .gt 15, 3) := by decide +kernel
theorem dX1_init_38 : decode cX1_init 38 = .ok (.aload_n 0, 1) := by decide +kernel
theorem dX1_init_39 : decode cX1_init 39 = .ok (.iload_n 1, 1) := by decide +kernel
theorem dX1_init_40 : decode cX1_init 40 = .ok (.iload_n 2, 1) := by decide +kernel
theorem dX1_init_41 : decode cX1_init 41 = .ok (.invokevirtual 18, 3) := by decide +kernel
theorem dX1_init_44 : decode cX1_init 44 = .ok (.iinc 2 1, 3) := by decide +kernel
theorem dX1_init_47 : decode cX1_init 47 = .ok (.goto (-15), 3) := by decide +kernel
theorem dX1_init_50 : decode cX1_init 50 = .ok (.iinc 1 1, 3) := by decide +kernel
theorem dX1_init_53 : decode cX1_init 53 = .ok (.goto (-29), 3) := by decide +kernel
theorem dX1_init_56 : decode cX1_init 56 = .ok (.return_, 1) := by decide +kernel
theorem dX1_standingAfter_0 : decode cX1_standingAfter 0 = .ok (.aload_n 0, 1) := by decide +kernel
theorem dX1_standingAfter_1 : decode cX1_standingAfter 1 = .ok (.getfield 9, 3) := by decide +kernel
theorem dX1_standingAfter_4 : decode cX1_standingAfter 4 = .ok (.iload_n 1, 1) := by decide +kernel
theorem dX1_standingAfter_5 : decode cX1_standingAfter 5 = .ok (.bipush 9, 2) := by decide +kernel
theorem dX1_standingAfter_7 : decode cX1_standingAfter 7 = .ok (.imul, 1) := by decide +kernel
theorem dX1_standingAfter_8 : decode cX1_standingAfter 8 = .ok (.iload_n 2, 1) := by decide +kernel
theorem dX1_standingAfter_9 : decode cX1_standingAfter 9 = .ok (.iadd, 1) := by decide +kernel
theorem dX1_standingAfter_10 : decode cX1_standingAfter 10 = .ok (.iaload, 1) := by decide +kernel
theorem dX1_standingAfter_11 : decode cX1_standingAfter 11 = .ok (.ireturn, 1) := by decide +kernel
theorem dX1_runsOf_0 : decode cX1_runsOf 0 = .ok (.aload_n 0, 1) := by decide +kernel
theorem dX1_runsOf_1 : decode cX1_runsOf 1 = .ok (.getfield 15, 3) := by decide +kernel
theorem dX1_runsOf_4 : decode cX1_runsOf 4 = .ok (.iload_n 1, 1) := by decide +kernel
theorem dX1_runsOf_5 : decode cX1_runsOf 5 = .ok (.bipush 9, 2) := by decide +kernel
theorem dX1_runsOf_7 : decode cX1_runsOf 7 = .ok (.imul, 1) := by decide +kernel
theorem dX1_runsOf_8 : decode cX1_runsOf 8 = .ok (.iload_n 2, 1) := by decide +kernel
theorem dX1_runsOf_9 : decode cX1_runsOf 9 = .ok (.iadd, 1) := by decide +kernel
theorem dX1_runsOf_10 : decode cX1_runsOf 10 = .ok (.iaload, 1) := by decide +kernel
theorem dX1_runsOf_11 : decode cX1_runsOf 11 = .ok (.ireturn, 1) := by decide +kernel
theorem dX1_someoneIsOn_0 : decode cX1_someoneIsOn 0 = .ok (.iload_n 0, 1) := by decide +kernel
theorem dX1_someoneIsOn_1 : decode cX1_someoneIsOn 1 = .ok (.bipush 7, 2) := by decide +kernel
theorem dX1_someoneIsOn_3 : decode cX1_someoneIsOn 3 = .ok (.iand, 1) := by decide +kernel
theorem dX1_someoneIsOn_4 : decode cX1_someoneIsOn 4 = .ok (.ifCond .eq 7, 3) := by decide +kernel
theorem dX1_someoneIsOn_7 : decode cX1_someoneIsOn 7 = .ok (.iconst 1, 1) := by decide +kernel
theorem dX1_someoneIsOn_8 : decode cX1_someoneIsOn 8 = .ok (.goto 4, 3) := by decide +kernel
theorem dX1_someoneIsOn_11 : decode cX1_someoneIsOn 11 = .ok (.iconst 0, 1) := by decide +kernel
theorem dX1_someoneIsOn_12 : decode cX1_someoneIsOn 12 = .ok (.ireturn, 1) := by decide +kernel
theorem dX1_canSteal_0 : decode cX1_canSteal 0 = .ok (.iload_n 0, 1) := by decide +kernel
theorem dX1_canSteal_1 : decode cX1_canSteal 1 = .ok (.iconst 3, 1) := by decide +kernel
theorem dX1_canSteal_2 : decode cX1_canSteal 2 = .ok (.iand, 1) := by decide +kernel
theorem dX1_canSteal_3 : decode cX1_canSteal 3 = .ok (.iconst 1, 1) := by decide +kernel
theorem dX1_canSteal_4 : decode cX1_canSteal 4 = .ok (.if_icmp .ne 7, 3) := by decide +kernel
theorem dX1_canSteal_7 : decode cX1_canSteal 7 = .ok (.iconst 1, 1) := by decide +kernel
theorem dX1_canSteal_8 : decode cX1_canSteal 8 = .ok (.goto 4, 3) := by decide +kernel
theorem dX1_canSteal_11 : decode cX1_canSteal 11 = .ok (.iconst 0, 1) := by decide +kernel
theorem dX1_canSteal_12 : decode cX1_canSteal 12 = .ok (.ireturn, 1) := by decide +kernel
set_option maxRecDepth 20000 in
theorem ggX1_tell_X1_canSteal : GoodIn wsX1_tell wsX1_canSteal := goodIn_r _ [7] (by decide +kernel) (by decide +kernel)
set_option maxRecDepth 20000 in
theorem gX1_tell_X1_canSteal : GoodIn wsX1_tell (va_wsS RX1 22 yX1_canSteal wsX1_canSteal) := goodIn_app (goodIn_of _ (by decide +kernel)) ggX1_tell_X1_canSteal
set_option maxRecDepth 20000 in
theorem ggX1_tell_X1_menAfter : GoodIn wsX1_tell wsX1_menAfter := goodIn_r _ [10, 11, 12, 6, 13] (by decide +kernel) (by decide +kernel)
set_option maxRecDepth 20000 in
theorem gX1_tell_X1_menAfter : GoodIn wsX1_tell (va_wsS RX1 27 yX1_menAfter wsX1_menAfter) := goodIn_app (goodIn_of _ (by decide +kernel)) ggX1_tell_X1_menAfter
set_option maxRecDepth 20000 in
theorem ggX1_tell_X1_menHome : GoodIn wsX1_tell wsX1_menHome := goodIn_r _ [16, 17, 18, 19, 20, 21, 22, 23] (by decide +kernel) (by decide +kernel)
set_option maxRecDepth 20000 in
theorem gX1_tell_X1_menHome : GoodIn wsX1_tell (va_wsS RX1 31 yX1_menHome wsX1_menHome) := goodIn_app (goodIn_of _ (by decide +kernel)) ggX1_tell_X1_menHome
theorem dX1_tell_0 : decode cX1_tell 0 = .ok (.iload_n 1, 1) := by decide +kernel
theorem dX1_tell_1 : decode cX1_tell 1 = .ok (.bipush 9, 2) := by decide +kernel
theorem dX1_tell_3 : decode cX1_tell 3 = .ok (.imul, 1) := by decide +kernel
theorem dX1_tell_4 : decode cX1_tell 4 = .ok (.iload_n 2, 1) := by decide +kernel
theorem dX1_tell_5 : decode cX1_tell 5 = .ok (.iadd, 1) := by decide +kernel
theorem dX1_tell_6 : decode cX1_tell 6 = .ok (.istore_n 3, 1) := by decide +kernel
theorem dX1_tell_7 : decode cX1_tell 7 = .ok (.iload_n 1, 1) := by decide +kernel
theorem dX1_tell_8 : decode cX1_tell 8 = .ok (.bipush 7, 2) := by decide +kernel
theorem dX1_tell_10 : decode cX1_tell 10 = .ok (.iand, 1) := by decide +kernel
theorem dX1_tell_11 : decode cX1_tell 11 = .ok (.istore 4, 2) := by decide +kernel
theorem dX1_tell_13 : decode cX1_tell 13 = .ok (.iload_n 1, 1) := by decide +kernel
theorem dX1_tell_14 : decode cX1_tell 14 = .ok (.iconst 3, 1) := by decide +kernel
theorem dX1_tell_15 : decode cX1_tell 15 = .ok (.ishr, 1) := by decide +kernel
theorem dX1_tell_16 : decode cX1_tell 16 = .ok (.iload_n 2, 1) := by decide +kernel
theorem dX1_tell_17 : decode cX1_tell 17 = .ok (.ifCond .eq 15, 3) := by decide +kernel
theorem dX1_tell_20 : decode cX1_tell 20 = .ok (.iload_n 2, 1) := by decide +kernel
theorem dX1_tell_21 : decode cX1_tell 21 = .ok (.bipush 6, 2) := by decide +kernel
theorem dX1_tell_23 : decode cX1_tell 23 = .ok (.if_icmp .eq 9, 3) := by decide +kernel
theorem dX1_tell_26 : decode cX1_tell 26 = .ok (.iload_n 2, 1) := by decide +kernel
theorem dX1_tell_27 : decode cX1_tell 27 = .ok (.bipush 8, 2) := by decide +kernel
theorem dX1_tell_29 : decode cX1_tell 29 = .ok (.if_icmp .ne 7, 3) := by decide +kernel
theorem dX1_tell_32 : decode cX1_tell 32 = .ok (.iconst 1, 1) := by decide +kernel
theorem dX1_tell_33 : decode cX1_tell 33 = .ok (.goto 4, 3) := by decide +kernel
theorem dX1_tell_36 : decode cX1_tell 36 = .ok (.iconst 0, 1) := by decide +kernel
theorem dX1_tell_37 : decode cX1_tell 37 = .ok (.iadd, 1) := by decide +kernel
theorem dX1_tell_38 : decode cX1_tell 38 = .ok (.istore 5, 2) := by decide +kernel
theorem dX1_tell_40 : decode cX1_tell 40 = .ok (.iload_n 2, 1) := by decide +kernel
theorem dX1_tell_41 : decode cX1_tell 41 = .ok (.bipush 7, 2) := by decide +kernel
theorem dX1_tell_43 : decode cX1_tell 43 = .ok (.if_icmp .lt 29, 3) := by decide +kernel
theorem dX1_tell_46 : decode cX1_tell 46 = .ok (.iload_n 1, 1) := by decide +kernel
theorem dX1_tell_47 : decode cX1_tell 47 = .ok (.invokestatic 22, 3) := by decide +kernel
theorem dX1_tell_50 : decode cX1_tell 50 = .ok (.ifCond .ne 22, 3) := by decide +kernel
theorem dX1_tell_53 : decode cX1_tell 53 = .ok (.aload_n 0, 1) := by decide +kernel
theorem dX1_tell_54 : decode cX1_tell 54 = .ok (.getfield 9, 3) := by decide +kernel
theorem dX1_tell_57 : decode cX1_tell 57 = .ok (.iload_n 3, 1) := by decide +kernel
theorem dX1_tell_58 : decode cX1_tell 58 = .ok (.ldc 26, 2) := by decide +kernel
theorem dX1_tell_60 : decode cX1_tell 60 = .ok (.iastore, 1) := by decide +kernel
theorem dX1_tell_61 : decode cX1_tell 61 = .ok (.aload_n 0, 1) := by decide +kernel
theorem dX1_tell_62 : decode cX1_tell 62 = .ok (.getfield 15, 3) := by decide +kernel
theorem dX1_tell_65 : decode cX1_tell 65 = .ok (.iload_n 3, 1) := by decide +kernel
theorem dX1_tell_66 : decode cX1_tell 66 = .ok (.ldc 26, 2) := by decide +kernel
theorem dX1_tell_68 : decode cX1_tell 68 = .ok (.iastore, 1) := by decide +kernel
theorem dX1_tell_69 : decode cX1_tell 69 = .ok (.goto 57, 3) := by decide +kernel
theorem dX1_tell_72 : decode cX1_tell 72 = .ok (.iload 5, 2) := by decide +kernel
theorem dX1_tell_74 : decode cX1_tell 74 = .ok (.iconst 3, 1) := by decide +kernel
theorem dX1_tell_75 : decode cX1_tell 75 = .ok (.if_icmp .lt 21, 3) := by decide +kernel
theorem dX1_tell_78 : decode cX1_tell 78 = .ok (.aload_n 0, 1) := by decide +kernel
theorem dX1_tell_79 : decode cX1_tell 79 = .ok (.getfield 9, 3) := by decide +kernel
theorem dX1_tell_82 : decode cX1_tell 82 = .ok (.iload_n 3, 1) := by decide +kernel
theorem dX1_tell_83 : decode cX1_tell 83 = .ok (.bipush 24, 2) := by decide +kernel
theorem dX1_tell_85 : decode cX1_tell 85 = .ok (.iastore, 1) := by decide +kernel
theorem dX1_tell_86 : decode cX1_tell 86 = .ok (.aload_n 0, 1) := by decide +kernel
theorem dX1_tell_87 : decode cX1_tell 87 = .ok (.getfield 15, 3) := by decide +kernel
theorem dX1_tell_90 : decode cX1_tell 90 = .ok (.iload_n 3, 1) := by decide +kernel
theorem dX1_tell_91 : decode cX1_tell 91 = .ok (.iconst 0, 1) := by decide +kernel
theorem dX1_tell_92 : decode cX1_tell 92 = .ok (.iastore, 1) := by decide +kernel
theorem dX1_tell_93 : decode cX1_tell 93 = .ok (.goto 33, 3) := by decide +kernel
theorem dX1_tell_96 : decode cX1_tell 96 = .ok (.aload_n 0, 1) := by decide +kernel
theorem dX1_tell_97 : decode cX1_tell 97 = .ok (.getfield 9, 3) := by decide +kernel
theorem dX1_tell_100 : decode cX1_tell 100 = .ok (.iload_n 3, 1) := by decide +kernel
theorem dX1_tell_101 : decode cX1_tell 101 = .ok (.iload 5, 2) := by decide +kernel
theorem dX1_tell_103 : decode cX1_tell 103 = .ok (.bipush 8, 2) := by decide +kernel
theorem dX1_tell_105 : decode cX1_tell 105 = .ok (.imul, 1) := by decide +kernel
theorem dX1_tell_106 : decode cX1_tell 106 = .ok (.iload 4, 2) := by decide +kernel
theorem dX1_tell_108 : decode cX1_tell 108 = .ok (.iload_n 2, 1) := by decide +kernel
theorem dX1_tell_109 : decode cX1_tell 109 = .ok (.invokestatic 27, 3) := by decide +kernel
theorem dX1_tell_112 : decode cX1_tell 112 = .ok (.iadd, 1) := by decide +kernel
theorem dX1_tell_113 : decode cX1_tell 113 = .ok (.iastore, 1) := by decide +kernel
theorem dX1_tell_114 : decode cX1_tell 114 = .ok (.aload_n 0, 1) := by decide +kernel
theorem dX1_tell_115 : decode cX1_tell 115 = .ok (.getfield 15, 3) := by decide +kernel
theorem dX1_tell_118 : decode cX1_tell 118 = .ok (.iload_n 3, 1) := by decide +kernel
theorem dX1_tell_119 : decode cX1_tell 119 = .ok (.iload 4, 2) := by decide +kernel
theorem dX1_tell_121 : decode cX1_tell 121 = .ok (.iload_n 2, 1) := by decide +kernel
theorem dX1_tell_122 : decode cX1_tell 122 = .ok (.invokestatic 31, 3) := by decide +kernel
theorem dX1_tell_125 : decode cX1_tell 125 = .ok (.iastore, 1) := by decide +kernel
theorem dX1_tell_126 : decode cX1_tell 126 = .ok (.return_, 1) := by decide +kernel
set_option maxRecDepth 20000 in
theorem ggX1_menAfter_X1_menAfterWalk : GoodIn wsX1_menAfter wsX1_menAfterWalk := goodIn_r _ [4] (by decide +kernel) (by decide +kernel)
set_option maxRecDepth 20000 in
theorem gX1_menAfter_X1_menAfterWalk : GoodIn wsX1_menAfter (va_wsS RX1 34 yX1_menAfterWalk wsX1_menAfterWalk) := goodIn_app (goodIn_of _ (by decide +kernel)) ggX1_menAfter_X1_menAfterWalk
theorem dX1_menAfter_0 : decode cX1_menAfter 0 = .ok (.iload_n 1, 1) := by decide +kernel
theorem dX1_menAfter_1 : decode cX1_menAfter 1 = .ok (.tableswitch 95 1 8 #[47, 52, 61, 74, 76, 78, 85, 91], 47) := by decide +kernel
theorem dX1_menAfter_48 : decode cX1_menAfter 48 = .ok (.iload_n 0, 1) := by decide +kernel
theorem dX1_menAfter_49 : decode cX1_menAfter 49 = .ok (.invokestatic 34, 3) := by decide +kernel
theorem dX1_menAfter_52 : decode cX1_menAfter 52 = .ok (.ireturn, 1) := by decide +kernel
theorem dX1_menAfter_53 : decode cX1_menAfter 53 = .ok (.iload_n 0, 1) := by decide +kernel
theorem dX1_menAfter_54 : decode cX1_menAfter 54 = .ok (.iconst 1, 1) := by decide +kernel
theorem dX1_menAfter_55 : decode cX1_menAfter 55 = .ok (.ishl, 1) := by decide +kernel
theorem dX1_menAfter_56 : decode cX1_menAfter 56 = .ok (.bipush 7, 2) := by decide +kernel
theorem dX1_menAfter_58 : decode cX1_menAfter 58 = .ok (.iand, 1) := by decide +kernel
theorem dX1_menAfter_59 : decode cX1_menAfter 59 = .ok (.iconst 1, 1) := by decide +kernel
theorem dX1_menAfter_60 : decode cX1_menAfter 60 = .ok (.ior, 1) := by decide +kernel
theorem dX1_menAfter_61 : decode cX1_menAfter 61 = .ok (.ireturn, 1) := by decide +kernel
theorem dX1_menAfter_62 : decode cX1_menAfter 62 = .ok (.iload_n 0, 1) := by decide +kernel
theorem dX1_menAfter_63 : decode cX1_menAfter 63 = .ok (.iconst 1, 1) := by decide +kernel
theorem dX1_menAfter_64 : decode cX1_menAfter 64 = .ok (.iand, 1) := by decide +kernel
theorem dX1_menAfter_65 : decode cX1_menAfter 65 = .ok (.ifCond .eq 8, 3) := by decide +kernel
theorem dX1_menAfter_68 : decode cX1_menAfter 68 = .ok (.bipush 6, 2) := by decide +kernel
theorem dX1_menAfter_70 : decode cX1_menAfter 70 = .ok (.goto 4, 3) := by decide +kernel
theorem dX1_menAfter_73 : decode cX1_menAfter 73 = .ok (.iconst 2, 1) := by decide +kernel
theorem dX1_menAfter_74 : decode cX1_menAfter 74 = .ok (.ireturn, 1) := by decide +kernel
theorem dX1_menAfter_75 : decode cX1_menAfter 75 = .ok (.iconst 4, 1) := by decide +kernel
theorem dX1_menAfter_76 : decode cX1_menAfter 76 = .ok (.ireturn, 1) := by decide +kernel
theorem dX1_menAfter_77 : decode cX1_menAfter 77 = .ok (.iconst 0, 1) := by decide +kernel
theorem dX1_menAfter_78 : decode cX1_menAfter 78 = .ok (.ireturn, 1) := by decide +kernel
theorem dX1_menAfter_79 : decode cX1_menAfter 79 = .ok (.iload_n 0, 1) := by decide +kernel
theorem dX1_menAfter_80 : decode cX1_menAfter 80 = .ok (.iconst 1, 1) := by decide +kernel
theorem dX1_menAfter_81 : decode cX1_menAfter 81 = .ok (.ishl, 1) := by decide +kernel
theorem dX1_menAfter_82 : decode cX1_menAfter 82 = .ok (.bipush 7, 2) := by decide +kernel
theorem dX1_menAfter_84 : decode cX1_menAfter 84 = .ok (.iand, 1) := by decide +kernel
theorem dX1_menAfter_85 : decode cX1_menAfter 85 = .ok (.ireturn, 1) := by decide +kernel
theorem dX1_menAfter_86 : decode cX1_menAfter 86 = .ok (.iload_n 0, 1) := by decide +kernel
theorem dX1_menAfter_87 : decode cX1_menAfter 87 = .ok (.iconst 4, 1) := by decide +kernel
theorem dX1_menAfter_88 : decode cX1_menAfter 88 = .ok (.iand, 1) := by decide +kernel
theorem dX1_menAfter_89 : decode cX1_menAfter 89 = .ok (.iconst 2, 1) := by decide +kernel
theorem dX1_menAfter_90 : decode cX1_menAfter 90 = .ok (.ior, 1) := by decide +kernel
theorem dX1_menAfter_91 : decode cX1_menAfter 91 = .ok (.ireturn, 1) := by decide +kernel
theorem dX1_menAfter_92 : decode cX1_menAfter 92 = .ok (.iload_n 0, 1) := by decide +kernel
theorem dX1_menAfter_93 : decode cX1_menAfter 93 = .ok (.iconst 4, 1) := by decide +kernel
theorem dX1_menAfter_94 : decode cX1_menAfter 94 = .ok (.iand, 1) := by decide +kernel
theorem dX1_menAfter_95 : decode cX1_menAfter 95 = .ok (.ireturn, 1) := by decide +kernel
theorem dX1_menAfter_96 : decode cX1_menAfter 96 = .ok (.iload_n 0, 1) := by decide +kernel
theorem dX1_menAfter_97 : decode cX1_menAfter 97 = .ok (.ireturn, 1) := by decide +kernel
theorem dX1_menAfterWalk_0 : decode cX1_menAfterWalk 0 = .ok (.iload_n 0, 1) := by decide +kernel
theorem dX1_menAfterWalk_1 : decode cX1_menAfterWalk 1 = .ok (.iconst 1, 1) := by decide +kernel
theorem dX1_menAfterWalk_2 : decode cX1_menAfterWalk 2 = .ok (.iand, 1) := by decide +kernel
theorem dX1_menAfterWalk_3 : decode cX1_menAfterWalk 3 = .ok (.ifCond .ne 7, 3) := by decide +kernel
theorem dX1_menAfterWalk_6 : decode cX1_menAfterWalk 6 = .ok (.iload_n 0, 1) := by decide +kernel
theorem dX1_menAfterWalk_7 : decode cX1_menAfterWalk 7 = .ok (.iconst 1, 1) := by decide +kernel
theorem dX1_menAfterWalk_8 : decode cX1_menAfterWalk 8 = .ok (.ior, 1) := by decide +kernel
theorem dX1_menAfterWalk_9 : decode cX1_menAfterWalk 9 = .ok (.ireturn, 1) := by decide +kernel
theorem dX1_menAfterWalk_10 : decode cX1_menAfterWalk 10 = .ok (.iload_n 0, 1) := by decide +kernel
theorem dX1_menAfterWalk_11 : decode cX1_menAfterWalk 11 = .ok (.iconst 2, 1) := by decide +kernel
theorem dX1_menAfterWalk_12 : decode cX1_menAfterWalk 12 = .ok (.iand, 1) := by decide +kernel
theorem dX1_menAfterWalk_13 : decode cX1_menAfterWalk 13 = .ok (.ifCond .ne 9, 3) := by decide +kernel
theorem dX1_menAfterWalk_16 : decode cX1_menAfterWalk 16 = .ok (.iload_n 0, 1) := by decide +kernel
theorem dX1_menAfterWalk_17 : decode cX1_menAfterWalk 17 = .ok (.iconst 2, 1) := by decide +kernel
theorem dX1_menAfterWalk_18 : decode cX1_menAfterWalk 18 = .ok (.ior, 1) := by decide +kernel
theorem dX1_menAfterWalk_19 : decode cX1_menAfterWalk 19 = .ok (.goto 6, 3) := by decide +kernel
theorem dX1_menAfterWalk_22 : decode cX1_menAfterWalk 22 = .ok (.iload_n 0, 1) := by decide +kernel
theorem dX1_menAfterWalk_23 : decode cX1_menAfterWalk 23 = .ok (.iconst 4, 1) := by decide +kernel
theorem dX1_menAfterWalk_24 : decode cX1_menAfterWalk 24 = .ok (.ior, 1) := by decide +kernel
theorem dX1_menAfterWalk_25 : decode cX1_menAfterWalk 25 = .ok (.ireturn, 1) := by decide +kernel
set_option maxRecDepth 20000 in
theorem ggX1_menHome_J6_bitCount_0f7a4 : GoodIn wsX1_menHome wsJ6_bitCount_0f7a4 := goodIn_r _ [4, 5, 6, 7] (by decide +kernel) (by decide +kernel)
set_option maxRecDepth 20000 in
theorem gX1_menHome_J6_bitCount_0f7a4 : GoodIn wsX1_menHome (va_wsS RX1 38 yJ6_bitCount_0f7a4 wsJ6_bitCount_0f7a4) := goodIn_app (goodIn_of _ (by decide +kernel)) ggX1_menHome_J6_bitCount_0f7a4
theorem dX1_menHome_0 : decode cX1_menHome 0 = .ok (.iload_n 1, 1) := by decide +kernel
theorem dX1_menHome_1 : decode cX1_menHome 1 = .ok (.tableswitch 78 1 6 #[39, 51, 58, 66, 71, 51], 39) := by decide +kernel
theorem dX1_menHome_40 : decode cX1_menHome 40 = .ok (.iload_n 0, 1) := by decide +kernel
theorem dX1_menHome_41 : decode cX1_menHome 41 = .ok (.bipush 7, 2) := by decide +kernel
theorem dX1_menHome_43 : decode cX1_menHome 43 = .ok (.if_icmp .ne 7, 3) := by decide +kernel
theorem dX1_menHome_46 : decode cX1_menHome 46 = .ok (.iconst 1, 1) := by decide +kernel
theorem dX1_menHome_47 : decode cX1_menHome 47 = .ok (.goto 4, 3) := by decide +kernel
theorem dX1_menHome_50 : decode cX1_menHome 50 = .ok (.iconst 0, 1) := by decide +kernel
theorem dX1_menHome_51 : decode cX1_menHome 51 = .ok (.ireturn, 1) := by decide +kernel
theorem dX1_menHome_52 : decode cX1_menHome 52 = .ok (.iload_n 0, 1) := by decide +kernel
theorem dX1_menHome_53 : decode cX1_menHome 53 = .ok (.iconst 4, 1) := by decide +kernel
theorem dX1_menHome_54 : decode cX1_menHome 54 = .ok (.iand, 1) := by decide +kernel
theorem dX1_menHome_55 : decode cX1_menHome 55 = .ok (.invokestatic 38, 3) := by decide +kernel
theorem dX1_menHome_58 : decode cX1_menHome 58 = .ok (.ireturn, 1) := by decide +kernel
theorem dX1_menHome_59 : decode cX1_menHome 59 = .ok (.iload_n 0, 1) := by decide +kernel
theorem dX1_menHome_60 : decode cX1_menHome 60 = .ok (.bipush 6, 2) := by decide +kernel
theorem dX1_menHome_62 : decode cX1_menHome 62 = .ok (.iand, 1) := by decide +kernel
theorem dX1_menHome_63 : decode cX1_menHome 63 = .ok (.invokestatic 38, 3) := by decide +kernel
theorem dX1_menHome_66 : decode cX1_menHome 66 = .ok (.ireturn, 1) := by decide +kernel
theorem dX1_menHome_67 : decode cX1_menHome 67 = .ok (.iload_n 0, 1) := by decide +kernel
theorem dX1_menHome_68 : decode cX1_menHome 68 = .ok (.invokestatic 38, 3) := by decide +kernel
theorem dX1_menHome_71 : decode cX1_menHome 71 = .ok (.ireturn, 1) := by decide +kernel
theorem dX1_menHome_72 : decode cX1_menHome 72 = .ok (.iload_n 0, 1) := by decide +kernel
theorem dX1_menHome_73 : decode cX1_menHome 73 = .ok (.invokestatic 38, 3) := by decide +kernel
theorem dX1_menHome_76 : decode cX1_menHome 76 = .ok (.iconst 1, 1) := by decide +kernel
theorem dX1_menHome_77 : decode cX1_menHome 77 = .ok (.iadd, 1) := by decide +kernel
theorem dX1_menHome_78 : decode cX1_menHome 78 = .ok (.ireturn, 1) := by decide +kernel
theorem dX1_menHome_79 : decode cX1_menHome 79 = .ok (.iconst 0, 1) := by decide +kernel
theorem dX1_menHome_80 : decode cX1_menHome 80 = .ok (.ireturn, 1) := by decide +kernel
theorem dX2_init_0 : decode cX2_init 0 = .ok (.aload_n 0, 1) := by decide +kernel
theorem dX2_init_1 : decode cX2_init 1 = .ok (.invokespecial 3, 3) := by decide +kernel
theorem dX2_init_4 : decode cX2_init 4 = .ok (.aload_n 0, 1) := by decide +kernel
theorem dX2_init_5 : decode cX2_init 5 = .ok (.bipush 9, 2) := by decide +kernel
theorem dX2_init_7 : decode cX2_init 7 = .ok (.newarray .int, 2) := by decide +kernel
theorem dX2_init_9 : decode cX2_init 9 = .ok (.putfield 9, 3) := by decide +kernel
theorem dX2_init_12 : decode cX2_init 12 = .ok (.aload_n 0, 1) := by decide +kernel
theorem dX2_init_13 : decode cX2_init 13 = .ok (.bipush 9, 2) := by decide +kernel
theorem dX2_init_15 : decode cX2_init 15 = .ok (.newarray .int, 2) := by decide +kernel
theorem dX2_init_17 : decode cX2_init 17 = .ok (.putfield 15, 3) := by decide +kernel
theorem dX2_init_20 : decode cX2_init 20 = .ok (.aload_n 0, 1) := by decide +kernel
theorem dX2_init_21 : decode cX2_init 21 = .ok (.bipush 25, 2) := by decide +kernel
theorem dX2_init_23 : decode cX2_init 23 = .ok (.newarray .long, 2) := by decide +kernel
theorem dX2_init_25 : decode cX2_init 25 = .ok (.putfield 18, 3) := by decide +kernel
theorem dX2_init_28 : decode cX2_init 28 = .ok (.aload_n 0, 1) := by decide +kernel
theorem dX2_init_29 : decode cX2_init 29 = .ok (.bipush 25, 2) := by decide +kernel
theorem dX2_init_31 : decode cX2_init 31 = .ok (.newarray .long, 2) := by decide +kernel
theorem dX2_init_33 : decode cX2_init 33 = .ok (.putfield 22, 3) := by decide +kernel
theorem dX2_init_36 : decode cX2_init 36 = .ok (.aload_n 0, 1) := by decide +kernel
theorem dX2_init_37 : decode cX2_init 37 = .ok (.sipush 250, 3) := by decide +kernel
theorem dX2_init_40 : decode cX2_init 40 = .ok (.newarray .int, 2) := by decide +kernel
theorem dX2_init_42 : decode cX2_init 42 = .ok (.putfield 25, 3) := by decide +kernel
theorem dX2_init_45 : decode cX2_init 45 = .ok (.aload_n 0, 1) := by decide +kernel
theorem dX2_init_46 : decode cX2_init 46 = .ok (.sipush 250, 3) := by decide +kernel
theorem dX2_init_49 : decode cX2_init 49 = .ok (.newarray .int, 2) := by decide +kernel
theorem dX2_init_51 : decode cX2_init 51 = .ok (.putfield 28, 3) := by decide +kernel
theorem dX2_init_54 : decode cX2_init 54 = .ok (.aload_n 0, 1) := by decide +kernel
theorem dX2_init_55 : decode cX2_init 55 = .ok (.aload_n 1, 1) := by decide +kernel
theorem dX2_init_56 : decode cX2_init 56 = .ok (.putfield 31, 3) := by decide +kernel
theorem dX2_init_59 : decode cX2_init 59 = .ok (.aload_n 0, 1) := by decide +kernel
theorem dX2_init_60 : decode cX2_init 60 = .ok (.aload_n 2, 1) := by decide +kernel
theorem dX2_init_61 : decode cX2_init 61 = .ok (.putfield 35, 3) := by decide +kernel
theorem dX2_init_64 : decode cX2_init 64 = .ok (.return_, 1) := by decide +kernel
theorem dX2_take_0 : decode cX2_take 0 = .ok (.aload_n 1, 1) := by decide +kernel
theorem dX2_take_1 : decode cX2_take 1 = .ok (.iload_n 2, 1) := by decide +kernel
theorem dX2_take_2 : decode cX2_take 2 = .ok (.aload_n 0, 1) := by decide +kernel
theorem dX2_take_3 : decode cX2_take 3 = .ok (.getfield 9, 3) := by decide +kernel
theorem dX2_take_6 : decode cX2_take 6 = .ok (.iconst 0, 1) := by decide +kernel
theorem dX2_take_7 : decode cX2_take 7 = .ok (.iload_n 3, 1) := by decide +kernel
theorem dX2_take_8 : decode cX2_take 8 = .ok (.invokestatic 39, 3) := by decide +kernel
theorem dX2_take_11 : decode cX2_take 11 = .ok (.aload_n 0, 1) := by decide +kernel
theorem dX2_take_12 : decode cX2_take 12 = .ok (.iload_n 3, 1) := by decide +kernel
theorem dX2_take_13 : decode cX2_take 13 = .ok (.putfield 45, 3) := by decide +kernel
theorem dX2_take_16 : decode cX2_take 16 = .ok (.return_, 1) := by decide +kernel
set_option maxRecDepth 20000 in
theorem ggX2_meanFrom_X2_fillMeans : GoodIn wsX2_meanFrom wsX2_fillMeans := goodIn_r _ [6, 1, 7, 8, 9, 10, 11, 12, 13, 14, 5, 15, 16, 17, 18, 19, 20, 21, 22, 23, 24, 25, 26, 27, 28, 29, 30, 31, 32, 33, 34, 35, 36, 37, 38, 39, 40, 41] (by decide +kernel) (by decide +kernel)
set_option maxRecDepth 20000 in
theorem gX2_meanFrom_X2_fillMeans : GoodIn wsX2_meanFrom (wsV RX2 49 RX2 yX2_fillMeans wsX2_fillMeans) := goodIn_app (goodIn_of _ (by decide +kernel)) ggX2_meanFrom_X2_fillMeans
theorem dX2_meanFrom_0 : decode cX2_meanFrom 0 = .ok (.aload_n 0, 1) := by decide +kernel
theorem dX2_meanFrom_1 : decode cX2_meanFrom 1 = .ok (.iload_n 2, 1) := by decide +kernel
theorem dX2_meanFrom_2 : decode cX2_meanFrom 2 = .ok (.iload_n 3, 1) := by decide +kernel
theorem dX2_meanFrom_3 : decode cX2_meanFrom 3 = .ok (.invokevirtual 49, 3) := by decide +kernel
theorem dX2_meanFrom_6 : decode cX2_meanFrom 6 = .ok (.aload_n 0, 1) := by decide +kernel
theorem dX2_meanFrom_7 : decode cX2_meanFrom 7 = .ok (.getfield 18, 3) := by decide +kernel
theorem dX2_meanFrom_10 : decode cX2_meanFrom 10 = .ok (.iload_n 1, 1) := by decide +kernel
theorem dX2_meanFrom_11 : decode cX2_meanFrom 11 = .ok (.laload, 1) := by decide +kernel
theorem dX2_meanFrom_12 : decode cX2_meanFrom 12 = .ok (.l2i, 1) := by decide +kernel
theorem dX2_meanFrom_13 : decode cX2_meanFrom 13 = .ok (.ireturn, 1) := by decide +kernel
set_option maxRecDepth 20000 in
theorem ggX2_worthOf_X2_fillMeans : GoodIn wsX2_worthOf wsX2_fillMeans := goodIn_r _ [9, 4, 1, 10, 11, 12, 13, 14, 15, 16, 8, 17, 18, 19, 20, 21, 22, 23, 24, 25, 2, 26, 27, 3, 28, 40, 41, 42, 43, 44, 45, 46, 47, 48, 49, 50, 51, 52] (by decide +kernel) (by decide +kernel)
set_option maxRecDepth 20000 in
theorem gX2_worthOf_X2_fillMeans : GoodIn wsX2_worthOf (wsV RX2 49 RX2 yX2_fillMeans wsX2_fillMeans) := goodIn_app (goodIn_of _ (by decide +kernel)) ggX2_worthOf_X2_fillMeans
set_option maxRecDepth 20000 in
theorem ggX2_worthOf_X1_standingAfter : GoodIn wsX2_worthOf wsX1_standingAfter := goodIn_r _ [33, 34, 51, 52] (by decide +kernel) (by decide +kernel)
set_option maxRecDepth 20000 in
theorem gX2_worthOf_X1_standingAfter : GoodIn wsX2_worthOf (wsV RX2 53 RX1 yX1_standingAfter wsX1_standingAfter) := goodIn_app (goodIn_of _ (by decide +kernel)) ggX2_worthOf_X1_standingAfter
set_option maxRecDepth 20000 in
theorem ggX2_worthOf_X1_runsOf : GoodIn wsX2_worthOf wsX1_runsOf := goodIn_r _ [38, 39, 51, 52] (by decide +kernel) (by decide +kernel)
set_option maxRecDepth 20000 in
theorem gX2_worthOf_X1_runsOf : GoodIn wsX2_worthOf (wsV RX2 59 RX1 yX1_runsOf wsX1_runsOf) := goodIn_app (goodIn_of _ (by decide +kernel)) ggX2_worthOf_X1_runsOf
theorem dX2_worthOf_0 : decode cX2_worthOf 0 = .ok (.aload_n 0, 1) := by decide +kernel
theorem dX2_worthOf_1 : decode cX2_worthOf 1 = .ok (.iload_n 3, 1) := by decide +kernel
theorem dX2_worthOf_2 : decode cX2_worthOf 2 = .ok (.iload 4, 2) := by decide +kernel
theorem dX2_worthOf_4 : decode cX2_worthOf 4 = .ok (.invokevirtual 49, 3) := by decide +kernel
theorem dX2_worthOf_7 : decode cX2_worthOf 7 = .ok (.aload_n 0, 1) := by decide +kernel
theorem dX2_worthOf_8 : decode cX2_worthOf 8 = .ok (.getfield 22, 3) := by decide +kernel
theorem dX2_worthOf_11 : decode cX2_worthOf 11 = .ok (.aload_n 0, 1) := by decide +kernel
theorem dX2_worthOf_12 : decode cX2_worthOf 12 = .ok (.getfield 31, 3) := by decide +kernel
theorem dX2_worthOf_15 : decode cX2_worthOf 15 = .ok (.iload_n 1, 1) := by decide +kernel
theorem dX2_worthOf_16 : decode cX2_worthOf 16 = .ok (.iload_n 2, 1) := by decide +kernel
theorem dX2_worthOf_17 : decode cX2_worthOf 17 = .ok (.invokevirtual 53, 3) := by decide +kernel
theorem dX2_worthOf_20 : decode cX2_worthOf 20 = .ok (.laload, 1) := by decide +kernel
theorem dX2_worthOf_21 : decode cX2_worthOf 21 = .ok (.lstore 5, 2) := by decide +kernel
theorem dX2_worthOf_23 : decode cX2_worthOf 23 = .ok (.aload_n 0, 1) := by decide +kernel
theorem dX2_worthOf_24 : decode cX2_worthOf 24 = .ok (.getfield 31, 3) := by decide +kernel
theorem dX2_worthOf_27 : decode cX2_worthOf 27 = .ok (.iload_n 1, 1) := by decide +kernel
theorem dX2_worthOf_28 : decode cX2_worthOf 28 = .ok (.iload_n 2, 1) := by decide +kernel
theorem dX2_worthOf_29 : decode cX2_worthOf 29 = .ok (.invokevirtual 59, 3) := by decide +kernel
theorem dX2_worthOf_32 : decode cX2_worthOf 32 = .ok (.i2l, 1) := by decide +kernel
theorem dX2_worthOf_33 : decode cX2_worthOf 33 = .ok (.ldc2_w 62, 3) := by decide +kernel
theorem dX2_worthOf_36 : decode cX2_worthOf 36 = .ok (.lmul, 1) := by decide +kernel
theorem dX2_worthOf_37 : decode cX2_worthOf 37 = .ok (.lload 5, 2) := by decide +kernel
theorem dX2_worthOf_39 : decode cX2_worthOf 39 = .ok (.ladd, 1) := by decide +kernel
theorem dX2_worthOf_40 : decode cX2_worthOf 40 = .ok (.aload_n 0, 1) := by decide +kernel
theorem dX2_worthOf_41 : decode cX2_worthOf 41 = .ok (.getfield 18, 3) := by decide +kernel
theorem dX2_worthOf_44 : decode cX2_worthOf 44 = .ok (.iload_n 1, 1) := by decide +kernel
theorem dX2_worthOf_45 : decode cX2_worthOf 45 = .ok (.laload, 1) := by decide +kernel
theorem dX2_worthOf_46 : decode cX2_worthOf 46 = .ok (.lsub, 1) := by decide +kernel
theorem dX2_worthOf_47 : decode cX2_worthOf 47 = .ok (.l2i, 1) := by decide +kernel
theorem dX2_worthOf_48 : decode cX2_worthOf 48 = .ok (.ireturn, 1) := by decide +kernel
set_option maxRecDepth 20000 in
theorem ggX2_rateNow_X2_meanFrom : GoodIn wsX2_rateNow wsX2_meanFrom := goodIn_r _ [6, 7, 8, 9, 10, 5, 11, 12, 13, 14, 15, 16, 17, 18, 19, 20, 21, 22, 1, 23, 24, 25, 26, 27, 28, 29, 30, 31, 32, 33, 34, 35, 36, 37, 38, 39, 40, 41, 42, 43, 44, 45] (by decide +kernel) (by decide +kernel)
set_option maxRecDepth 20000 in
theorem gX2_rateNow_X2_meanFrom : GoodIn wsX2_rateNow (wsV RX2 64 RX2 yX2_meanFrom wsX2_meanFrom) := goodIn_app (goodIn_of _ (by decide +kernel)) ggX2_rateNow_X2_meanFrom
theorem dX2_rateNow_0 : decode cX2_rateNow 0 = .ok (.aload_n 0, 1) := by decide +kernel
theorem dX2_rateNow_1 : decode cX2_rateNow 1 = .ok (.iconst 0, 1) := by decide +kernel
theorem dX2_rateNow_2 : decode cX2_rateNow 2 = .ok (.iconst 0, 1) := by decide +kernel
theorem dX2_rateNow_3 : decode cX2_rateNow 3 = .ok (.bipush 30, 2) := by decide +kernel
theorem dX2_rateNow_5 : decode cX2_rateNow 5 = .ok (.invokevirtual 64, 3) := by decide +kernel
theorem dX2_rateNow_8 : decode cX2_rateNow 8 = .ok (.aload_n 0, 1) := by decide +kernel
theorem dX2_rateNow_9 : decode cX2_rateNow 9 = .ok (.iconst 0, 1) := by decide +kernel
theorem dX2_rateNow_10 : decode cX2_rateNow 10 = .ok (.aload_n 0, 1) := by decide +kernel
theorem dX2_rateNow_11 : decode cX2_rateNow 11 = .ok (.getfield 45, 3) := by decide +kernel
theorem dX2_rateNow_14 : decode cX2_rateNow 14 = .ok (.iconst 2, 1) := by decide +kernel
theorem dX2_rateNow_15 : decode cX2_rateNow 15 = .ok (.idiv, 1) := by decide +kernel
theorem dX2_rateNow_16 : decode cX2_rateNow 16 = .ok (.bipush 30, 2) := by decide +kernel
theorem dX2_rateNow_18 : decode cX2_rateNow 18 = .ok (.invokevirtual 64, 3) := by decide +kernel
theorem dX2_rateNow_21 : decode cX2_rateNow 21 = .ok (.iadd, 1) := by decide +kernel
theorem dX2_rateNow_22 : decode cX2_rateNow 22 = .ok (.ireturn, 1) := by decide +kernel
set_option maxRecDepth 20000 in
theorem ggX2_fillMeans_J7_fill_d0a16 : GoodIn wsX2_fillMeans wsJ7_fill_d0a16 := goodIn_r _ [6] (by decide +kernel) (by decide +kernel)
set_option maxRecDepth 20000 in
theorem gX2_fillMeans_J7_fill_d0a16 : GoodIn wsX2_fillMeans (va_wsS RX2 68 yJ7_fill_d0a16 wsJ7_fill_d0a16) := goodIn_app (goodIn_of _ (by decide +kernel)) ggX2_fillMeans_J7_fill_d0a16
set_option maxRecDepth 20000 in
theorem ggX2_fillMeans_X2_chancesAt : GoodIn wsX2_fillMeans wsX2_chancesAt := goodIn_r _ [11, 12, 13, 14, 15, 25, 26, 27, 28, 29, 30, 31, 32, 33, 34, 35] (by decide +kernel) (by decide +kernel)
set_option maxRecDepth 20000 in
theorem gX2_fillMeans_X2_chancesAt : GoodIn wsX2_fillMeans (wsV RX2 74 RX2 yX2_chancesAt wsX2_chancesAt) := goodIn_app (goodIn_of _ (by decide +kernel)) ggX2_fillMeans_X2_chancesAt
set_option maxRecDepth 20000 in
theorem ggX2_fillMeans_X2_fillMeansOf : GoodIn wsX2_fillMeans wsX2_fillMeansOf := goodIn_r _ [19, 2, 20, 21, 22, 23, 1, 24, 25, 26, 27, 28, 29, 30, 31, 32, 33, 36, 37] (by decide +kernel) (by decide +kernel)
set_option maxRecDepth 20000 in
theorem gX2_fillMeans_X2_fillMeansOf : GoodIn wsX2_fillMeans (wsV RX2 78 RX2 yX2_fillMeansOf wsX2_fillMeansOf) := goodIn_app (goodIn_of _ (by decide +kernel)) ggX2_fillMeans_X2_fillMeansOf
theorem dX2_fillMeans_0 : decode cX2_fillMeans 0 = .ok (.aload_n 0, 1) := by decide +kernel
theorem dX2_fillMeans_1 : decode cX2_fillMeans 1 = .ok (.getfield 18, 3) := by decide +kernel
theorem dX2_fillMeans_4 : decode cX2_fillMeans 4 = .ok (.lconst 0, 1) := by decide +kernel
theorem dX2_fillMeans_5 : decode cX2_fillMeans 5 = .ok (.invokestatic 68, 3) := by decide +kernel
theorem dX2_fillMeans_8 : decode cX2_fillMeans 8 = .ok (.aload_n 0, 1) := by decide +kernel
theorem dX2_fillMeans_9 : decode cX2_fillMeans 9 = .ok (.getfield 22, 3) := by decide +kernel
theorem dX2_fillMeans_12 : decode cX2_fillMeans 12 = .ok (.lconst 0, 1) := by decide +kernel
theorem dX2_fillMeans_13 : decode cX2_fillMeans 13 = .ok (.invokestatic 68, 3) := by decide +kernel
theorem dX2_fillMeans_16 : decode cX2_fillMeans 16 = .ok (.iconst 1, 1) := by decide +kernel
theorem dX2_fillMeans_17 : decode cX2_fillMeans 17 = .ok (.istore_n 3, 1) := by decide +kernel
theorem dX2_fillMeans_18 : decode cX2_fillMeans 18 = .ok (.iload_n 3, 1) := by decide +kernel
theorem dX2_fillMeans_19 : decode cX2_fillMeans 19 = .ok (.iload_n 2, 1) := by decide +kernel
theorem dX2_fillMeans_20 : decode cX2_fillMeans 20 = .ok (.if_icmp .gt 42, 3) := by decide +kernel
theorem dX2_fillMeans_23 : decode cX2_fillMeans 23 = .ok (.aload_n 0, 1) := by decide +kernel
theorem dX2_fillMeans_24 : decode cX2_fillMeans 24 = .ok (.getfield 22, 3) := by decide +kernel
theorem dX2_fillMeans_27 : decode cX2_fillMeans 27 = .ok (.astore 4, 2) := by decide +kernel
theorem dX2_fillMeans_29 : decode cX2_fillMeans 29 = .ok (.aload_n 0, 1) := by decide +kernel
theorem dX2_fillMeans_30 : decode cX2_fillMeans 30 = .ok (.aload_n 0, 1) := by decide +kernel
theorem dX2_fillMeans_31 : decode cX2_fillMeans 31 = .ok (.getfield 18, 3) := by decide +kernel
theorem dX2_fillMeans_34 : decode cX2_fillMeans 34 = .ok (.putfield 22, 3) := by decide +kernel
theorem dX2_fillMeans_37 : decode cX2_fillMeans 37 = .ok (.aload_n 0, 1) := by decide +kernel
theorem dX2_fillMeans_38 : decode cX2_fillMeans 38 = .ok (.aload 4, 2) := by decide +kernel
theorem dX2_fillMeans_40 : decode cX2_fillMeans 40 = .ok (.putfield 18, 3) := by decide +kernel
theorem dX2_fillMeans_43 : decode cX2_fillMeans 43 = .ok (.aload_n 0, 1) := by decide +kernel
theorem dX2_fillMeans_44 : decode cX2_fillMeans 44 = .ok (.aload_n 0, 1) := by decide +kernel
theorem dX2_fillMeans_45 : decode cX2_fillMeans 45 = .ok (.iload_n 1, 1) := by decide +kernel
theorem dX2_fillMeans_46 : decode cX2_fillMeans 46 = .ok (.iload_n 2, 1) := by decide +kernel
theorem dX2_fillMeans_47 : decode cX2_fillMeans 47 = .ok (.iadd, 1) := by decide +kernel
theorem dX2_fillMeans_48 : decode cX2_fillMeans 48 = .ok (.iload_n 3, 1) := by decide +kernel
theorem dX2_fillMeans_49 : decode cX2_fillMeans 49 = .ok (.isub, 1) := by decide +kernel
theorem dX2_fillMeans_50 : decode cX2_fillMeans 50 = .ok (.invokevirtual 74, 3) := by decide +kernel
theorem dX2_fillMeans_53 : decode cX2_fillMeans 53 = .ok (.invokevirtual 78, 3) := by decide +kernel
theorem dX2_fillMeans_56 : decode cX2_fillMeans 56 = .ok (.iinc 3 1, 3) := by decide +kernel
theorem dX2_fillMeans_59 : decode cX2_fillMeans 59 = .ok (.goto (-41), 3) := by decide +kernel
theorem dX2_fillMeans_62 : decode cX2_fillMeans 62 = .ok (.return_, 1) := by decide +kernel
theorem dX2_fillMeansOf_0 : decode cX2_fillMeansOf 0 = .ok (.aload_n 0, 1) := by decide +kernel
theorem dX2_fillMeansOf_1 : decode cX2_fillMeansOf 1 = .ok (.getfield 22, 3) := by decide +kernel
theorem dX2_fillMeansOf_4 : decode cX2_fillMeansOf 4 = .ok (.astore_n 2, 1) := by decide +kernel
theorem dX2_fillMeansOf_5 : decode cX2_fillMeansOf 5 = .ok (.aload_n 0, 1) := by decide +kernel
theorem dX2_fillMeansOf_6 : decode cX2_fillMeansOf 6 = .ok (.getfield 31, 3) := by decide +kernel
theorem dX2_fillMeansOf_9 : decode cX2_fillMeansOf 9 = .ok (.getfield 82, 3) := by decide +kernel
theorem dX2_fillMeansOf_12 : decode cX2_fillMeansOf 12 = .ok (.astore_n 3, 1) := by decide +kernel
theorem dX2_fillMeansOf_13 : decode cX2_fillMeansOf 13 = .ok (.aload_n 0, 1) := by decide +kernel
theorem dX2_fillMeansOf_14 : decode cX2_fillMeansOf 14 = .ok (.getfield 31, 3) := by decide +kernel
theorem dX2_fillMeansOf_17 : decode cX2_fillMeansOf 17 = .ok (.getfield 85, 3) := by decide +kernel
theorem dX2_fillMeansOf_20 : decode cX2_fillMeansOf 20 = .ok (.astore 4, 2) := by decide +kernel
theorem dX2_fillMeansOf_22 : decode cX2_fillMeansOf 22 = .ok (.iconst 0, 1) := by decide +kernel
theorem dX2_fillMeansOf_23 : decode cX2_fillMeansOf 23 = .ok (.istore 5, 2) := by decide +kernel
theorem dX2_fillMeansOf_25 : decode cX2_fillMeansOf 25 = .ok (.iload 5, 2) := by decide +kernel
theorem dX2_fillMeansOf_27 : decode cX2_fillMeansOf 27 = .ok (.bipush 24, 2) := by decide +kernel
theorem dX2_fillMeansOf_29 : decode cX2_fillMeansOf 29 = .ok (.if_icmp .ge 87, 3) := by decide +kernel
theorem dX2_fillMeansOf_32 : decode cX2_fillMeansOf 32 = .ok (.lconst 0, 1) := by decide +kernel
theorem dX2_fillMeansOf_33 : decode cX2_fillMeansOf 33 = .ok (.lstore 6, 2) := by decide +kernel
theorem dX2_fillMeansOf_35 : decode cX2_fillMeansOf 35 = .ok (.iload 5, 2) := by decide +kernel
theorem dX2_fillMeansOf_37 : decode cX2_fillMeansOf 37 = .ok (.bipush 9, 2) := by decide +kernel
theorem dX2_fillMeansOf_39 : decode cX2_fillMeansOf 39 = .ok (.imul, 1) := by decide +kernel
theorem dX2_fillMeansOf_40 : decode cX2_fillMeansOf 40 = .ok (.istore 8, 2) := by decide +kernel
theorem dX2_fillMeansOf_42 : decode cX2_fillMeansOf 42 = .ok (.iconst 0, 1) := by decide +kernel
theorem dX2_fillMeansOf_43 : decode cX2_fillMeansOf 43 = .ok (.istore 9, 2) := by decide +kernel
theorem dX2_fillMeansOf_45 : decode cX2_fillMeansOf 45 = .ok (.iload 9, 2) := by decide +kernel
theorem dX2_fillMeansOf_47 : decode cX2_fillMeansOf 47 = .ok (.iconst 5, 1) := by decide +kernel
theorem dX2_fillMeansOf_48 : decode cX2_fillMeansOf 48 = .ok (.if_icmp .gt 49, 3) := by decide +kernel
theorem dX2_fillMeansOf_51 : decode cX2_fillMeansOf 51 = .ok (.aload_n 1, 1) := by decide +kernel
theorem dX2_fillMeansOf_52 : decode cX2_fillMeansOf 52 = .ok (.iload 9, 2) := by decide +kernel
theorem dX2_fillMeansOf_54 : decode cX2_fillMeansOf 54 = .ok (.iaload, 1) := by decide +kernel
theorem dX2_fillMeansOf_55 : decode cX2_fillMeansOf 55 = .ok (.istore 10, 2) := by decide +kernel
theorem dX2_fillMeansOf_57 : decode cX2_fillMeansOf 57 = .ok (.iload 10, 2) := by decide +kernel
theorem dX2_fillMeansOf_59 : decode cX2_fillMeansOf 59 = .ok (.ifCond .le 29, 3) := by decide +kernel
theorem dX2_fillMeansOf_62 : decode cX2_fillMeansOf 62 = .ok (.lload 6, 2) := by decide +kernel
theorem dX2_fillMeansOf_64 : decode cX2_fillMeansOf 64 = .ok (.iload 10, 2) := by decide +kernel
theorem dX2_fillMeansOf_66 : decode cX2_fillMeansOf 66 = .ok (.i2l, 1) := by decide +kernel
theorem dX2_fillMeansOf_67 : decode cX2_fillMeansOf 67 = .ok (.aload 4, 2) := by decide +kernel
theorem dX2_fillMeansOf_69 : decode cX2_fillMeansOf 69 = .ok (.iload 8, 2) := by decide +kernel
theorem dX2_fillMeansOf_71 : decode cX2_fillMeansOf 71 = .ok (.iaload, 1) := by decide +kernel
theorem dX2_fillMeansOf_72 : decode cX2_fillMeansOf 72 = .ok (.i2l, 1) := by decide +kernel
theorem dX2_fillMeansOf_73 : decode cX2_fillMeansOf 73 = .ok (.ldc2_w 62, 3) := by decide +kernel
theorem dX2_fillMeansOf_76 : decode cX2_fillMeansOf 76 = .ok (.lmul, 1) := by decide +kernel
theorem dX2_fillMeansOf_77 : decode cX2_fillMeansOf 77 = .ok (.aload_n 2, 1) := by decide +kernel
theorem dX2_fillMeansOf_78 : decode cX2_fillMeansOf 78 = .ok (.aload_n 3, 1) := by decide +kernel
theorem dX2_fillMeansOf_79 : decode cX2_fillMeansOf 79 = .ok (.iload 8, 2) := by decide +kernel
theorem dX2_fillMeansOf_81 : decode cX2_fillMeansOf 81 = .ok (.iaload, 1) := by decide +kernel
theorem dX2_fillMeansOf_82 : decode cX2_fillMeansOf 82 = .ok (.laload, 1) := by decide +kernel
theorem dX2_fillMeansOf_83 : decode cX2_fillMeansOf 83 = .ok (.ladd, 1) := by decide +kernel
theorem dX2_fillMeansOf_84 : decode cX2_fillMeansOf 84 = .ok (.lmul, 1) := by decide +kernel
theorem dX2_fillMeansOf_85 : decode cX2_fillMeansOf 85 = .ok (.ladd, 1) := by decide +kernel
theorem dX2_fillMeansOf_86 : decode cX2_fillMeansOf 86 = .ok (.lstore 6, 2) := by decide +kernel
theorem dX2_fillMeansOf_88 : decode cX2_fillMeansOf 88 = .ok (.iinc 8 1, 3) := by decide +kernel
theorem dX2_fillMeansOf_91 : decode cX2_fillMeansOf 91 = .ok (.iinc 9 1, 3) := by decide +kernel
theorem dX2_fillMeansOf_94 : decode cX2_fillMeansOf 94 = .ok (.goto (-49), 3) := by decide +kernel
theorem dX2_fillMeansOf_97 : decode cX2_fillMeansOf 97 = .ok (.aload_n 0, 1) := by decide +kernel
theorem dX2_fillMeansOf_98 : decode cX2_fillMeansOf 98 = .ok (.getfield 18, 3) := by decide +kernel
theorem dX2_fillMeansOf_101 : decode cX2_fillMeansOf 101 = .ok (.iload 5, 2) := by decide +kernel
theorem dX2_fillMeansOf_103 : decode cX2_fillMeansOf 103 = .ok (.lload 6, 2) := by decide +kernel
theorem dX2_fillMeansOf_105 : decode cX2_fillMeansOf 105 = .ok (.ldc2_w 88, 3) := by decide +kernel
theorem dX2_fillMeansOf_108 : decode cX2_fillMeansOf 108 = .ok (.ldiv, 1) := by decide +kernel
theorem dX2_fillMeansOf_109 : decode cX2_fillMeansOf 109 = .ok (.lastore, 1) := by decide +kernel
theorem dX2_fillMeansOf_110 : decode cX2_fillMeansOf 110 = .ok (.iinc 5 1, 3) := by decide +kernel
theorem dX2_fillMeansOf_113 : decode cX2_fillMeansOf 113 = .ok (.goto (-88), 3) := by decide +kernel
theorem dX2_fillMeansOf_116 : decode cX2_fillMeansOf 116 = .ok (.return_, 1) := by decide +kernel
theorem dX2_chancesAt_0 : decode cX2_chancesAt 0 = .ok (.aload_n 0, 1) := by decide +kernel
theorem dX2_chancesAt_1 : decode cX2_chancesAt 1 = .ok (.getfield 35, 3) := by decide +kernel
theorem dX2_chancesAt_4 : decode cX2_chancesAt 4 = .ok (.aload_n 0, 1) := by decide +kernel
theorem dX2_chancesAt_5 : decode cX2_chancesAt 5 = .ok (.getfield 9, 3) := by decide +kernel
theorem dX2_chancesAt_8 : decode cX2_chancesAt 8 = .ok (.aload_n 0, 1) := by decide +kernel
theorem dX2_chancesAt_9 : decode cX2_chancesAt 9 = .ok (.getfield 45, 3) := by decide +kernel
theorem dX2_chancesAt_12 : decode cX2_chancesAt 12 = .ok (.ifCond .le 12, 3) := by decide +kernel
theorem dX2_chancesAt_15 : decode cX2_chancesAt 15 = .ok (.iload_n 1, 1) := by decide +kernel
theorem dX2_chancesAt_16 : decode cX2_chancesAt 16 = .ok (.aload_n 0, 1) := by decide +kernel
theorem dX2_chancesAt_17 : decode cX2_chancesAt 17 = .ok (.getfield 45, 3) := by decide +kernel
theorem dX2_chancesAt_20 : decode cX2_chancesAt 20 = .ok (.irem, 1) := by decide +kernel
theorem dX2_chancesAt_21 : decode cX2_chancesAt 21 = .ok (.goto 4, 3) := by decide +kernel
theorem dX2_chancesAt_24 : decode cX2_chancesAt 24 = .ok (.iconst 0, 1) := by decide +kernel
theorem dX2_chancesAt_25 : decode cX2_chancesAt 25 = .ok (.iaload, 1) := by decide +kernel
theorem dX2_chancesAt_26 : decode cX2_chancesAt 26 = .ok (.aaload, 1) := by decide +kernel
theorem dX2_chancesAt_27 : decode cX2_chancesAt 27 = .ok (.getfield 90, 3) := by decide +kernel
theorem dX2_chancesAt_30 : decode cX2_chancesAt 30 = .ok (.areturn, 1) := by decide +kernel
set_option maxRecDepth 20000 in
theorem ggX2_likelyFrom_X2_beginLikelies : GoodIn wsX2_likelyFrom wsX2_beginLikelies := goodIn_r _ [7, 1, 8, 9, 10, 11] (by decide +kernel) (by decide +kernel)
set_option maxRecDepth 20000 in
theorem gX2_likelyFrom_X2_beginLikelies : GoodIn wsX2_likelyFrom (va_wsS RX2 96 yX2_beginLikelies wsX2_beginLikelies) := goodIn_app (goodIn_of _ (by decide +kernel)) ggX2_likelyFrom_X2_beginLikelies
set_option maxRecDepth 20000 in
theorem ggX2_likelyFrom_X2_chancesAt : GoodIn wsX2_likelyFrom wsX2_chancesAt := goodIn_r _ [15, 16, 17, 18, 19, 37, 38, 39, 40, 41, 42, 43, 44, 45, 46, 47] (by decide +kernel) (by decide +kernel)
set_option maxRecDepth 20000 in
theorem gX2_likelyFrom_X2_chancesAt : GoodIn wsX2_likelyFrom (wsV RX2 74 RX2 yX2_chancesAt wsX2_chancesAt) := goodIn_app (goodIn_of _ (by decide +kernel)) ggX2_likelyFrom_X2_chancesAt
set_option maxRecDepth 20000 in
theorem ggX2_likelyFrom_X2_fillLikeliesOf : GoodIn wsX2_likelyFrom wsX2_fillLikeliesOf := goodIn_r _ [23, 24, 3, 2, 25, 26, 27, 28, 29, 30, 31, 32, 33, 34, 35, 36, 37, 38, 39, 40, 41, 42, 43, 44, 45, 48, 49] (by decide +kernel) (by decide +kernel)
set_option maxRecDepth 20000 in
theorem gX2_likelyFrom_X2_fillLikeliesOf : GoodIn wsX2_likelyFrom (wsV RX2 99 RX2 yX2_fillLikeliesOf wsX2_fillLikeliesOf) := goodIn_app (goodIn_of _ (by decide +kernel)) ggX2_likelyFrom_X2_fillLikeliesOf
theorem dX2_likelyFrom_0 : decode cX2_likelyFrom 0 = .ok (.iload 4, 2) := by decide +kernel
theorem dX2_likelyFrom_2 : decode cX2_likelyFrom 2 = .ok (.bipush 9, 2) := by decide +kernel
theorem dX2_likelyFrom_4 : decode cX2_likelyFrom 4 = .ok (.if_icmp .ne 8, 3) := by decide +kernel
theorem dX2_likelyFrom_7 : decode cX2_likelyFrom 7 = .ok (.ldc 95, 2) := by decide +kernel
theorem dX2_likelyFrom_9 : decode cX2_likelyFrom 9 = .ok (.goto 4, 3) := by decide +kernel
theorem dX2_likelyFrom_12 : decode cX2_likelyFrom 12 = .ok (.iconst 0, 1) := by decide +kernel
theorem dX2_likelyFrom_13 : decode cX2_likelyFrom 13 = .ok (.istore 5, 2) := by decide +kernel
theorem dX2_likelyFrom_15 : decode cX2_likelyFrom 15 = .ok (.aload_n 0, 1) := by decide +kernel
theorem dX2_likelyFrom_16 : decode cX2_likelyFrom 16 = .ok (.getfield 25, 3) := by decide +kernel
theorem dX2_likelyFrom_19 : decode cX2_likelyFrom 19 = .ok (.invokestatic 96, 3) := by decide +kernel
theorem dX2_likelyFrom_22 : decode cX2_likelyFrom 22 = .ok (.aload_n 0, 1) := by decide +kernel
theorem dX2_likelyFrom_23 : decode cX2_likelyFrom 23 = .ok (.getfield 28, 3) := by decide +kernel
theorem dX2_likelyFrom_26 : decode cX2_likelyFrom 26 = .ok (.invokestatic 96, 3) := by decide +kernel
theorem dX2_likelyFrom_29 : decode cX2_likelyFrom 29 = .ok (.iconst 1, 1) := by decide +kernel
theorem dX2_likelyFrom_30 : decode cX2_likelyFrom 30 = .ok (.istore 6, 2) := by decide +kernel
theorem dX2_likelyFrom_32 : decode cX2_likelyFrom 32 = .ok (.iload 6, 2) := by decide +kernel
theorem dX2_likelyFrom_34 : decode cX2_likelyFrom 34 = .ok (.iload_n 3, 1) := by decide +kernel
theorem dX2_likelyFrom_35 : decode cX2_likelyFrom 35 = .ok (.if_icmp .gt 47, 3) := by decide +kernel
theorem dX2_likelyFrom_38 : decode cX2_likelyFrom 38 = .ok (.aload_n 0, 1) := by decide +kernel
theorem dX2_likelyFrom_39 : decode cX2_likelyFrom 39 = .ok (.getfield 28, 3) := by decide +kernel
theorem dX2_likelyFrom_42 : decode cX2_likelyFrom 42 = .ok (.astore 7, 2) := by decide +kernel
theorem dX2_likelyFrom_44 : decode cX2_likelyFrom 44 = .ok (.aload_n 0, 1) := by decide +kernel
theorem dX2_likelyFrom_45 : decode cX2_likelyFrom 45 = .ok (.aload_n 0, 1) := by decide +kernel
theorem dX2_likelyFrom_46 : decode cX2_likelyFrom 46 = .ok (.getfield 25, 3) := by decide +kernel
theorem dX2_likelyFrom_49 : decode cX2_likelyFrom 49 = .ok (.putfield 28, 3) := by decide +kernel
theorem dX2_likelyFrom_52 : decode cX2_likelyFrom 52 = .ok (.aload_n 0, 1) := by decide +kernel
theorem dX2_likelyFrom_53 : decode cX2_likelyFrom 53 = .ok (.aload 7, 2) := by decide +kernel
theorem dX2_likelyFrom_55 : decode cX2_likelyFrom 55 = .ok (.putfield 25, 3) := by decide +kernel
theorem dX2_likelyFrom_58 : decode cX2_likelyFrom 58 = .ok (.aload_n 0, 1) := by decide +kernel
theorem dX2_likelyFrom_59 : decode cX2_likelyFrom 59 = .ok (.aload_n 0, 1) := by decide +kernel
theorem dX2_likelyFrom_60 : decode cX2_likelyFrom 60 = .ok (.iload_n 2, 1) := by decide +kernel
theorem dX2_likelyFrom_61 : decode cX2_likelyFrom 61 = .ok (.iload_n 3, 1) := by decide +kernel
theorem dX2_likelyFrom_62 : decode cX2_likelyFrom 62 = .ok (.iadd, 1) := by decide +kernel
theorem dX2_likelyFrom_63 : decode cX2_likelyFrom 63 = .ok (.iload 6, 2) := by decide +kernel
theorem dX2_likelyFrom_65 : decode cX2_likelyFrom 65 = .ok (.isub, 1) := by decide +kernel
theorem dX2_likelyFrom_66 : decode cX2_likelyFrom 66 = .ok (.invokevirtual 74, 3) := by decide +kernel
theorem dX2_likelyFrom_69 : decode cX2_likelyFrom 69 = .ok (.iload 4, 2) := by decide +kernel
theorem dX2_likelyFrom_71 : decode cX2_likelyFrom 71 = .ok (.iload 5, 2) := by decide +kernel
theorem dX2_likelyFrom_73 : decode cX2_likelyFrom 73 = .ok (.invokevirtual 99, 3) := by decide +kernel
theorem dX2_likelyFrom_76 : decode cX2_likelyFrom 76 = .ok (.iinc 6 1, 3) := by decide +kernel
theorem dX2_likelyFrom_79 : decode cX2_likelyFrom 79 = .ok (.goto (-47), 3) := by decide +kernel
theorem dX2_likelyFrom_82 : decode cX2_likelyFrom 82 = .ok (.aload_n 0, 1) := by decide +kernel
theorem dX2_likelyFrom_83 : decode cX2_likelyFrom 83 = .ok (.getfield 25, 3) := by decide +kernel
theorem dX2_likelyFrom_86 : decode cX2_likelyFrom 86 = .ok (.iload_n 1, 1) := by decide +kernel
theorem dX2_likelyFrom_87 : decode cX2_likelyFrom 87 = .ok (.bipush 10, 2) := by decide +kernel
theorem dX2_likelyFrom_89 : decode cX2_likelyFrom 89 = .ok (.imul, 1) := by decide +kernel
theorem dX2_likelyFrom_90 : decode cX2_likelyFrom 90 = .ok (.iload 4, 2) := by decide +kernel
theorem dX2_likelyFrom_92 : decode cX2_likelyFrom 92 = .ok (.iadd, 1) := by decide +kernel
theorem dX2_likelyFrom_93 : decode cX2_likelyFrom 93 = .ok (.iaload, 1) := by decide +kernel
theorem dX2_likelyFrom_94 : decode cX2_likelyFrom 94 = .ok (.ireturn, 1) := by decide +kernel
set_option maxRecDepth 20000 in
theorem ggX2_beginLikelies_J7_fill_53178 : GoodIn wsX2_beginLikelies wsJ7_fill_53178 := goodIn_r _ [5] (by decide +kernel) (by decide +kernel)
set_option maxRecDepth 20000 in
theorem gX2_beginLikelies_J7_fill_53178 : GoodIn wsX2_beginLikelies (va_wsS RX2 103 yJ7_fill_53178 wsJ7_fill_53178) := goodIn_app (goodIn_of _ (by decide +kernel)) ggX2_beginLikelies_J7_fill_53178
theorem dX2_beginLikelies_0 : decode cX2_beginLikelies 0 = .ok (.aload_n 0, 1) := by decide +kernel
theorem dX2_beginLikelies_1 : decode cX2_beginLikelies 1 = .ok (.iconst 0, 1) := by decide +kernel
theorem dX2_beginLikelies_2 : decode cX2_beginLikelies 2 = .ok (.invokestatic 103, 3) := by decide +kernel
theorem dX2_beginLikelies_5 : decode cX2_beginLikelies 5 = .ok (.iconst 0, 1) := by decide +kernel
theorem dX2_beginLikelies_6 : decode cX2_beginLikelies 6 = .ok (.istore_n 1, 1) := by decide +kernel
theorem dX2_beginLikelies_7 : decode cX2_beginLikelies 7 = .ok (.iload_n 1, 1) := by decide +kernel
theorem dX2_beginLikelies_8 : decode cX2_beginLikelies 8 = .ok (.bipush 25, 2) := by decide +kernel
theorem dX2_beginLikelies_10 : decode cX2_beginLikelies 10 = .ok (.if_icmp .ge 17, 3) := by decide +kernel
theorem dX2_beginLikelies_13 : decode cX2_beginLikelies 13 = .ok (.aload_n 0, 1) := by decide +kernel
theorem dX2_beginLikelies_14 : decode cX2_beginLikelies 14 = .ok (.iload_n 1, 1) := by decide +kernel
theorem dX2_beginLikelies_15 : decode cX2_beginLikelies 15 = .ok (.bipush 10, 2) := by decide +kernel
theorem dX2_beginLikelies_17 : decode cX2_beginLikelies 17 = .ok (.imul, 1) := by decide +kernel
theorem dX2_beginLikelies_18 : decode cX2_beginLikelies 18 = .ok (.ldc 95, 2) := by decide +kernel
theorem dX2_beginLikelies_20 : decode cX2_beginLikelies 20 = .ok (.iastore, 1) := by decide +kernel
theorem dX2_beginLikelies_21 : decode cX2_beginLikelies 21 = .ok (.iinc 1 1, 3) := by decide +kernel
theorem dX2_beginLikelies_24 : decode cX2_beginLikelies 24 = .ok (.goto (-17), 3) := by decide +kernel
theorem dX2_beginLikelies_27 : decode cX2_beginLikelies 27 = .ok (.return_, 1) := by decide +kernel
set_option maxRecDepth 20000 in
theorem ggX2_fillLikeliesOf_X1_runsOf : GoodIn wsX2_fillLikeliesOf wsX1_runsOf := goodIn_r _ [9, 10, 25, 26] (by decide +kernel) (by decide +kernel)
set_option maxRecDepth 20000 in
theorem gX2_fillLikeliesOf_X1_runsOf : GoodIn wsX2_fillLikeliesOf (wsV RX2 59 RX1 yX1_runsOf wsX1_runsOf) := goodIn_app (goodIn_of _ (by decide +kernel)) ggX2_fillLikeliesOf_X1_runsOf
set_option maxRecDepth 20000 in
theorem ggX2_fillLikeliesOf_X1_standingAfter : GoodIn wsX2_fillLikeliesOf wsX1_standingAfter := goodIn_r _ [14, 15, 25, 26] (by decide +kernel) (by decide +kernel)
set_option maxRecDepth 20000 in
theorem gX2_fillLikeliesOf_X1_standingAfter : GoodIn wsX2_fillLikeliesOf (wsV RX2 53 RX1 yX1_standingAfter wsX1_standingAfter) := goodIn_app (goodIn_of _ (by decide +kernel)) ggX2_fillLikeliesOf_X1_standingAfter
theorem dX2_fillLikeliesOf_0 : decode cX2_fillLikeliesOf 0 = .ok (.iconst 0, 1) := by decide +kernel
theorem dX2_fillLikeliesOf_1 : decode cX2_fillLikeliesOf 1 = .ok (.istore 4, 2) := by decide +kernel
theorem dX2_fillLikeliesOf_3 : decode cX2_fillLikeliesOf 3 = .ok (.iload 4, 2) := by decide +kernel
theorem dX2_fillLikeliesOf_5 : decode cX2_fillLikeliesOf 5 = .ok (.bipush 24, 2) := by decide +kernel
theorem dX2_fillLikeliesOf_7 : decode cX2_fillLikeliesOf 7 = .ok (.if_icmp .ge 125, 3) := by decide +kernel
theorem dX2_fillLikeliesOf_10 : decode cX2_fillLikeliesOf 10 = .ok (.iconst 0, 1) := by decide +kernel
theorem dX2_fillLikeliesOf_11 : decode cX2_fillLikeliesOf 11 = .ok (.istore 5, 2) := by decide +kernel
theorem dX2_fillLikeliesOf_13 : decode cX2_fillLikeliesOf 13 = .ok (.iload 5, 2) := by decide +kernel
theorem dX2_fillLikeliesOf_15 : decode cX2_fillLikeliesOf 15 = .ok (.iload_n 2, 1) := by decide +kernel
theorem dX2_fillLikeliesOf_16 : decode cX2_fillLikeliesOf 16 = .ok (.if_icmp .gt 110, 3) := by decide +kernel
theorem dX2_fillLikeliesOf_19 : decode cX2_fillLikeliesOf 19 = .ok (.lconst 0, 1) := by decide +kernel
theorem dX2_fillLikeliesOf_20 : decode cX2_fillLikeliesOf 20 = .ok (.lstore 6, 2) := by decide +kernel
theorem dX2_fillLikeliesOf_22 : decode cX2_fillLikeliesOf 22 = .ok (.iconst 0, 1) := by decide +kernel
theorem dX2_fillLikeliesOf_23 : decode cX2_fillLikeliesOf 23 = .ok (.istore 8, 2) := by decide +kernel
theorem dX2_fillLikeliesOf_25 : decode cX2_fillLikeliesOf 25 = .ok (.iload 8, 2) := by decide +kernel
theorem dX2_fillLikeliesOf_27 : decode cX2_fillLikeliesOf 27 = .ok (.iconst 5, 1) := by decide +kernel
theorem dX2_fillLikeliesOf_28 : decode cX2_fillLikeliesOf 28 = .ok (.if_icmp .gt 72, 3) := by decide +kernel
theorem dX2_fillLikeliesOf_31 : decode cX2_fillLikeliesOf 31 = .ok (.iload 5, 2) := by decide +kernel
theorem dX2_fillLikeliesOf_33 : decode cX2_fillLikeliesOf 33 = .ok (.aload_n 0, 1) := by decide +kernel
theorem dX2_fillLikeliesOf_34 : decode cX2_fillLikeliesOf 34 = .ok (.getfield 31, 3) := by decide +kernel
theorem dX2_fillLikeliesOf_37 : decode cX2_fillLikeliesOf 37 = .ok (.iload 4, 2) := by decide +kernel
theorem dX2_fillLikeliesOf_39 : decode cX2_fillLikeliesOf 39 = .ok (.iload 8, 2) := by decide +kernel
theorem dX2_fillLikeliesOf_41 : decode cX2_fillLikeliesOf 41 = .ok (.invokevirtual 59, 3) := by decide +kernel
theorem dX2_fillLikeliesOf_44 : decode cX2_fillLikeliesOf 44 = .ok (.isub, 1) := by decide +kernel
theorem dX2_fillLikeliesOf_45 : decode cX2_fillLikeliesOf 45 = .ok (.istore 9, 2) := by decide +kernel
theorem dX2_fillLikeliesOf_47 : decode cX2_fillLikeliesOf 47 = .ok (.aload_n 0, 1) := by decide +kernel
theorem dX2_fillLikeliesOf_48 : decode cX2_fillLikeliesOf 48 = .ok (.getfield 31, 3) := by decide +kernel
theorem dX2_fillLikeliesOf_51 : decode cX2_fillLikeliesOf 51 = .ok (.iload 4, 2) := by decide +kernel
theorem dX2_fillLikeliesOf_53 : decode cX2_fillLikeliesOf 53 = .ok (.iload 8, 2) := by decide +kernel
theorem dX2_fillLikeliesOf_55 : decode cX2_fillLikeliesOf 55 = .ok (.invokevirtual 53, 3) := by decide +kernel
theorem dX2_fillLikeliesOf_58 : decode cX2_fillLikeliesOf 58 = .ok (.bipush 10, 2) := by decide +kernel
theorem dX2_fillLikeliesOf_60 : decode cX2_fillLikeliesOf 60 = .ok (.imul, 1) := by decide +kernel
theorem dX2_fillLikeliesOf_61 : decode cX2_fillLikeliesOf 61 = .ok (.iload 9, 2) := by decide +kernel
theorem dX2_fillLikeliesOf_63 : decode cX2_fillLikeliesOf 63 = .ok (.iadd, 1) := by decide +kernel
theorem dX2_fillLikeliesOf_64 : decode cX2_fillLikeliesOf 64 = .ok (.istore 10, 2) := by decide +kernel
theorem dX2_fillLikeliesOf_66 : decode cX2_fillLikeliesOf 66 = .ok (.lload 6, 2) := by decide +kernel
theorem dX2_fillLikeliesOf_68 : decode cX2_fillLikeliesOf 68 = .ok (.aload_n 1, 1) := by decide +kernel
theorem dX2_fillLikeliesOf_69 : decode cX2_fillLikeliesOf 69 = .ok (.iload 8, 2) := by decide +kernel
theorem dX2_fillLikeliesOf_71 : decode cX2_fillLikeliesOf 71 = .ok (.iaload, 1) := by decide +kernel
theorem dX2_fillLikeliesOf_72 : decode cX2_fillLikeliesOf 72 = .ok (.i2l, 1) := by decide +kernel
theorem dX2_fillLikeliesOf_73 : decode cX2_fillLikeliesOf 73 = .ok (.iload 9, 2) := by decide +kernel
theorem dX2_fillLikeliesOf_75 : decode cX2_fillLikeliesOf 75 = .ok (.ifCond .ge 7, 3) := by decide +kernel
theorem dX2_fillLikeliesOf_78 : decode cX2_fillLikeliesOf 78 = .ok (.iload_n 3, 1) := by decide +kernel
theorem dX2_fillLikeliesOf_79 : decode cX2_fillLikeliesOf 79 = .ok (.goto 10, 3) := by decide +kernel
theorem dX2_fillLikeliesOf_82 : decode cX2_fillLikeliesOf 82 = .ok (.aload_n 0, 1) := by decide +kernel
theorem dX2_fillLikeliesOf_83 : decode cX2_fillLikeliesOf 83 = .ok (.getfield 28, 3) := by decide +kernel
theorem dX2_fillLikeliesOf_86 : decode cX2_fillLikeliesOf 86 = .ok (.iload 10, 2) := by decide +kernel
theorem dX2_fillLikeliesOf_88 : decode cX2_fillLikeliesOf 88 = .ok (.iaload, 1) := by decide +kernel
theorem dX2_fillLikeliesOf_89 : decode cX2_fillLikeliesOf 89 = .ok (.i2l, 1) := by decide +kernel
theorem dX2_fillLikeliesOf_90 : decode cX2_fillLikeliesOf 90 = .ok (.lmul, 1) := by decide +kernel
theorem dX2_fillLikeliesOf_91 : decode cX2_fillLikeliesOf 91 = .ok (.ladd, 1) := by decide +kernel
theorem dX2_fillLikeliesOf_92 : decode cX2_fillLikeliesOf 92 = .ok (.lstore 6, 2) := by decide +kernel
theorem dX2_fillLikeliesOf_94 : decode cX2_fillLikeliesOf 94 = .ok (.iinc 8 1, 3) := by decide +kernel
theorem dX2_fillLikeliesOf_97 : decode cX2_fillLikeliesOf 97 = .ok (.goto (-72), 3) := by decide +kernel
theorem dX2_fillLikeliesOf_100 : decode cX2_fillLikeliesOf 100 = .ok (.aload_n 0, 1) := by decide +kernel
theorem dX2_fillLikeliesOf_101 : decode cX2_fillLikeliesOf 101 = .ok (.getfield 25, 3) := by decide +kernel
theorem dX2_fillLikeliesOf_104 : decode cX2_fillLikeliesOf 104 = .ok (.iload 4, 2) := by decide +kernel
theorem dX2_fillLikeliesOf_106 : decode cX2_fillLikeliesOf 106 = .ok (.bipush 10, 2) := by decide +kernel
theorem dX2_fillLikeliesOf_108 : decode cX2_fillLikeliesOf 108 = .ok (.imul, 1) := by decide +kernel
theorem dX2_fillLikeliesOf_109 : decode cX2_fillLikeliesOf 109 = .ok (.iload 5, 2) := by decide +kernel
theorem dX2_fillLikeliesOf_111 : decode cX2_fillLikeliesOf 111 = .ok (.iadd, 1) := by decide +kernel
theorem dX2_fillLikeliesOf_112 : decode cX2_fillLikeliesOf 112 = .ok (.lload 6, 2) := by decide +kernel
theorem dX2_fillLikeliesOf_114 : decode cX2_fillLikeliesOf 114 = .ok (.ldc2_w 88, 3) := by decide +kernel
theorem dX2_fillLikeliesOf_117 : decode cX2_fillLikeliesOf 117 = .ok (.ldiv, 1) := by decide +kernel
theorem dX2_fillLikeliesOf_118 : decode cX2_fillLikeliesOf 118 = .ok (.l2i, 1) := by decide +kernel
theorem dX2_fillLikeliesOf_119 : decode cX2_fillLikeliesOf 119 = .ok (.iastore, 1) := by decide +kernel
theorem dX2_fillLikeliesOf_120 : decode cX2_fillLikeliesOf 120 = .ok (.iinc 5 1, 3) := by decide +kernel
theorem dX2_fillLikeliesOf_123 : decode cX2_fillLikeliesOf 123 = .ok (.goto (-110), 3) := by decide +kernel
theorem dX2_fillLikeliesOf_126 : decode cX2_fillLikeliesOf 126 = .ok (.iinc 4 1, 3) := by decide +kernel
theorem dX2_fillLikeliesOf_129 : decode cX2_fillLikeliesOf 129 = .ok (.goto (-126), 3) := by decide +kernel
theorem dX2_fillLikeliesOf_132 : decode cX2_fillLikeliesOf 132 = .ok (.return_, 1) := by decide +kernel
set_option maxRecDepth 20000 in
theorem ggX2_exchangeWhileBetter_X2_exchangeFirstBetter : GoodIn wsX2_exchangeWhileBetter wsX2_exchangeFirstBetter := goodIn_r _ [5, 6, 7, 8, 9, 10, 4, 11, 12, 13, 14, 15, 16, 17, 18, 19, 20, 21, 22, 23, 24, 25, 26, 27, 28, 29, 30, 31, 32, 33, 34, 35, 36, 37, 38, 39, 40, 41, 42, 43, 44, 45, 46, 47, 48, 49, 50, 51, 52, 53, 54, 55, 56, 57] (by decide +kernel) (by decide +kernel)
set_option maxRecDepth 20000 in
theorem gX2_exchangeWhileBetter_X2_exchangeFirstBetter : GoodIn wsX2_exchangeWhileBetter (wsV RX2 106 RX2 yX2_exchangeFirstBetter wsX2_exchangeFirstBetter) := goodIn_app (goodIn_of _ (by decide +kernel)) ggX2_exchangeWhileBetter_X2_exchangeFirstBetter
theorem dX2_exchangeWhileBetter_0 : decode cX2_exchangeWhileBetter 0 = .ok (.iconst 0, 1) := by decide +kernel
theorem dX2_exchangeWhileBetter_1 : decode cX2_exchangeWhileBetter 1 = .ok (.istore_n 1, 1) := by decide +kernel
theorem dX2_exchangeWhileBetter_2 : decode cX2_exchangeWhileBetter 2 = .ok (.iload_n 1, 1) := by decide +kernel
theorem dX2_exchangeWhileBetter_3 : decode cX2_exchangeWhileBetter 3 = .ok (.bipush 40, 2) := by decide +kernel
theorem dX2_exchangeWhileBetter_5 : decode cX2_exchangeWhileBetter 5 = .ok (.if_icmp .ge 16, 3) := by decide +kernel
theorem dX2_exchangeWhileBetter_8 : decode cX2_exchangeWhileBetter 8 = .ok (.aload_n 0, 1) := by decide +kernel
theorem dX2_exchangeWhileBetter_9 : decode cX2_exchangeWhileBetter 9 = .ok (.invokevirtual 106, 3) := by decide +kernel
theorem dX2_exchangeWhileBetter_12 : decode cX2_exchangeWhileBetter 12 = .ok (.ifCond .eq 9, 3) := by decide +kernel
theorem dX2_exchangeWhileBetter_15 : decode cX2_exchangeWhileBetter 15 = .ok (.iinc 1 1, 3) := by decide +kernel
theorem dX2_exchangeWhileBetter_18 : decode cX2_exchangeWhileBetter 18 = .ok (.goto (-16), 3) := by decide +kernel
theorem dX2_exchangeWhileBetter_21 : decode cX2_exchangeWhileBetter 21 = .ok (.iload_n 1, 1) := by decide +kernel
theorem dX2_exchangeWhileBetter_22 : decode cX2_exchangeWhileBetter 22 = .ok (.ireturn, 1) := by decide +kernel
set_option maxRecDepth 20000 in
theorem ggX2_exchangeFirstBetter_X2_rateNow : GoodIn wsX2_exchangeFirstBetter wsX2_rateNow := goodIn_r _ [7, 1, 8, 9, 10, 6, 11, 12, 13, 14, 15, 16, 17, 18, 19, 20, 21, 22, 23, 24, 25, 26, 2, 27, 28, 29, 30, 31, 32, 33, 34, 35, 36, 41, 42, 43, 44, 45, 46, 47, 48, 49, 50, 51, 52, 53] (by decide +kernel) (by decide +kernel)
set_option maxRecDepth 20000 in
theorem gX2_exchangeFirstBetter_X2_rateNow : GoodIn wsX2_exchangeFirstBetter (wsV RX2 110 RX2 yX2_rateNow wsX2_rateNow) := goodIn_app (goodIn_of _ (by decide +kernel)) ggX2_exchangeFirstBetter_X2_rateNow
set_option maxRecDepth 20000 in
theorem ggX2_exchangeFirstBetter_X2_exchange : GoodIn wsX2_exchangeFirstBetter wsX2_exchange := goodIn_r _ [40, 2, 41, 42, 43, 44, 45, 46, 47, 48, 49] (by decide +kernel) (by decide +kernel)
set_option maxRecDepth 20000 in
theorem gX2_exchangeFirstBetter_X2_exchange : GoodIn wsX2_exchangeFirstBetter (wsV RX2 114 RX2 yX2_exchange wsX2_exchange) := goodIn_app (goodIn_of _ (by decide +kernel)) ggX2_exchangeFirstBetter_X2_exchange
theorem dX2_exchangeFirstBetter_0 : decode cX2_exchangeFirstBetter 0 = .ok (.aload_n 0, 1) := by decide +kernel
theorem dX2_exchangeFirstBetter_1 : decode cX2_exchangeFirstBetter 1 = .ok (.invokevirtual 110, 3) := by decide +kernel
theorem dX2_exchangeFirstBetter_4 : decode cX2_exchangeFirstBetter 4 = .ok (.istore_n 1, 1) := by decide +kernel
theorem dX2_exchangeFirstBetter_5 : decode cX2_exchangeFirstBetter 5 = .ok (.iconst 0, 1) := by decide +kernel
theorem dX2_exchangeFirstBetter_6 : decode cX2_exchangeFirstBetter 6 = .ok (.istore_n 2, 1) := by decide +kernel
theorem dX2_exchangeFirstBetter_7 : decode cX2_exchangeFirstBetter 7 = .ok (.iload_n 2, 1) := by decide +kernel
theorem dX2_exchangeFirstBetter_8 : decode cX2_exchangeFirstBetter 8 = .ok (.aload_n 0, 1) := by decide +kernel
theorem dX2_exchangeFirstBetter_9 : decode cX2_exchangeFirstBetter 9 = .ok (.getfield 45, 3) := by decide +kernel
theorem dX2_exchangeFirstBetter_12 : decode cX2_exchangeFirstBetter 12 = .ok (.iconst 1, 1) := by decide +kernel
theorem dX2_exchangeFirstBetter_13 : decode cX2_exchangeFirstBetter 13 = .ok (.isub, 1) := by decide +kernel
theorem dX2_exchangeFirstBetter_14 : decode cX2_exchangeFirstBetter 14 = .ok (.if_icmp .ge 67, 3) := by decide +kernel
theorem dX2_exchangeFirstBetter_17 : decode cX2_exchangeFirstBetter 17 = .ok (.iload_n 2, 1) := by decide +kernel
theorem dX2_exchangeFirstBetter_18 : decode cX2_exchangeFirstBetter 18 = .ok (.iconst 1, 1) := by decide +kernel
theorem dX2_exchangeFirstBetter_19 : decode cX2_exchangeFirstBetter 19 = .ok (.iadd, 1) := by decide +kernel
theorem dX2_exchangeFirstBetter_20 : decode cX2_exchangeFirstBetter 20 = .ok (.istore_n 3, 1) := by decide +kernel
theorem dX2_exchangeFirstBetter_21 : decode cX2_exchangeFirstBetter 21 = .ok (.iload_n 3, 1) := by decide +kernel
theorem dX2_exchangeFirstBetter_22 : decode cX2_exchangeFirstBetter 22 = .ok (.aload_n 0, 1) := by decide +kernel
theorem dX2_exchangeFirstBetter_23 : decode cX2_exchangeFirstBetter 23 = .ok (.getfield 45, 3) := by decide +kernel
theorem dX2_exchangeFirstBetter_26 : decode cX2_exchangeFirstBetter 26 = .ok (.if_icmp .ge 49, 3) := by decide +kernel
theorem dX2_exchangeFirstBetter_29 : decode cX2_exchangeFirstBetter 29 = .ok (.aload_n 0, 1) := by decide +kernel
theorem dX2_exchangeFirstBetter_30 : decode cX2_exchangeFirstBetter 30 = .ok (.getfield 9, 3) := by decide +kernel
theorem dX2_exchangeFirstBetter_33 : decode cX2_exchangeFirstBetter 33 = .ok (.iload_n 2, 1) := by decide +kernel
theorem dX2_exchangeFirstBetter_34 : decode cX2_exchangeFirstBetter 34 = .ok (.iaload, 1) := by decide +kernel
theorem dX2_exchangeFirstBetter_35 : decode cX2_exchangeFirstBetter 35 = .ok (.aload_n 0, 1) := by decide +kernel
theorem dX2_exchangeFirstBetter_36 : decode cX2_exchangeFirstBetter 36 = .ok (.getfield 9, 3) := by decide +kernel
theorem dX2_exchangeFirstBetter_39 : decode cX2_exchangeFirstBetter 39 = .ok (.iload_n 3, 1) := by decide +kernel
theorem dX2_exchangeFirstBetter_40 : decode cX2_exchangeFirstBetter 40 = .ok (.iaload, 1) := by decide +kernel
theorem dX2_exchangeFirstBetter_41 : decode cX2_exchangeFirstBetter 41 = .ok (.if_icmp .ne 6, 3) := by decide +kernel
theorem dX2_exchangeFirstBetter_44 : decode cX2_exchangeFirstBetter 44 = .ok (.goto 25, 3) := by decide +kernel
theorem dX2_exchangeFirstBetter_47 : decode cX2_exchangeFirstBetter 47 = .ok (.aload_n 0, 1) := by decide +kernel
theorem dX2_exchangeFirstBetter_48 : decode cX2_exchangeFirstBetter 48 = .ok (.iload_n 2, 1) := by decide +kernel
theorem dX2_exchangeFirstBetter_49 : decode cX2_exchangeFirstBetter 49 = .ok (.iload_n 3, 1) := by decide +kernel
theorem dX2_exchangeFirstBetter_50 : decode cX2_exchangeFirstBetter 50 = .ok (.invokevirtual 114, 3) := by decide +kernel
theorem dX2_exchangeFirstBetter_53 : decode cX2_exchangeFirstBetter 53 = .ok (.aload_n 0, 1) := by decide +kernel
theorem dX2_exchangeFirstBetter_54 : decode cX2_exchangeFirstBetter 54 = .ok (.invokevirtual 110, 3) := by decide +kernel
theorem dX2_exchangeFirstBetter_57 : decode cX2_exchangeFirstBetter 57 = .ok (.iload_n 1, 1) := by decide +kernel
theorem dX2_exchangeFirstBetter_58 : decode cX2_exchangeFirstBetter 58 = .ok (.if_icmp .le 5, 3) := by decide +kernel
theorem dX2_exchangeFirstBetter_61 : decode cX2_exchangeFirstBetter 61 = .ok (.iconst 1, 1) := by decide +kernel
theorem dX2_exchangeFirstBetter_62 : decode cX2_exchangeFirstBetter 62 = .ok (.ireturn, 1) := by decide +kernel
theorem dX2_exchangeFirstBetter_63 : decode cX2_exchangeFirstBetter 63 = .ok (.aload_n 0, 1) := by decide +kernel
theorem dX2_exchangeFirstBetter_64 : decode cX2_exchangeFirstBetter 64 = .ok (.iload_n 2, 1) := by decide +kernel
theorem dX2_exchangeFirstBetter_65 : decode cX2_exchangeFirstBetter 65 = .ok (.iload_n 3, 1) := by decide +kernel
theorem dX2_exchangeFirstBetter_66 : decode cX2_exchangeFirstBetter 66 = .ok (.invokevirtual 114, 3) := by decide +kernel
theorem dX2_exchangeFirstBetter_69 : decode cX2_exchangeFirstBetter 69 = .ok (.iinc 3 1, 3) := by decide +kernel
theorem dX2_exchangeFirstBetter_72 : decode cX2_exchangeFirstBetter 72 = .ok (.goto (-51), 3) := by decide +kernel
theorem dX2_exchangeFirstBetter_75 : decode cX2_exchangeFirstBetter 75 = .ok (.iinc 2 1, 3) := by decide +kernel
theorem dX2_exchangeFirstBetter_78 : decode cX2_exchangeFirstBetter 78 = .ok (.goto (-71), 3) := by decide +kernel
theorem dX2_exchangeFirstBetter_81 : decode cX2_exchangeFirstBetter 81 = .ok (.iconst 0, 1) := by decide +kernel
theorem dX2_exchangeFirstBetter_82 : decode cX2_exchangeFirstBetter 82 = .ok (.ireturn, 1) := by decide +kernel
theorem dX2_exchange_0 : decode cX2_exchange 0 = .ok (.aload_n 0, 1) := by decide +kernel
theorem dX2_exchange_1 : decode cX2_exchange 1 = .ok (.getfield 9, 3) := by decide +kernel
theorem dX2_exchange_4 : decode cX2_exchange 4 = .ok (.iload_n 1, 1) := by decide +kernel
theorem dX2_exchange_5 : decode cX2_exchange 5 = .ok (.iaload, 1) := by decide +kernel
theorem dX2_exchange_6 : decode cX2_exchange 6 = .ok (.istore_n 3, 1) := by decide +kernel
theorem dX2_exchange_7 : decode cX2_exchange 7 = .ok (.aload_n 0, 1) := by decide +kernel
theorem dX2_exchange_8 : decode cX2_exchange 8 = .ok (.getfield 9, 3) := by decide +kernel
theorem dX2_exchange_11 : decode cX2_exchange 11 = .ok (.iload_n 1, 1) := by decide +kernel
theorem dX2_exchange_12 : decode cX2_exchange 12 = .ok (.aload_n 0, 1) := by decide +kernel
theorem dX2_exchange_13 : decode cX2_exchange 13 = .ok (.getfield 9, 3) := by decide +kernel
theorem dX2_exchange_16 : decode cX2_exchange 16 = .ok (.iload_n 2, 1) := by decide +kernel
theorem dX2_exchange_17 : decode cX2_exchange 17 = .ok (.iaload, 1) := by decide +kernel
theorem dX2_exchange_18 : decode cX2_exchange 18 = .ok (.iastore, 1) := by decide +kernel
theorem dX2_exchange_19 : decode cX2_exchange 19 = .ok (.aload_n 0, 1) := by decide +kernel
theorem dX2_exchange_20 : decode cX2_exchange 20 = .ok (.getfield 9, 3) := by decide +kernel
theorem dX2_exchange_23 : decode cX2_exchange 23 = .ok (.iload_n 2, 1) := by decide +kernel
theorem dX2_exchange_24 : decode cX2_exchange 24 = .ok (.iload_n 3, 1) := by decide +kernel
theorem dX2_exchange_25 : decode cX2_exchange 25 = .ok (.iastore, 1) := by decide +kernel
theorem dX2_exchange_26 : decode cX2_exchange 26 = .ok (.return_, 1) := by decide +kernel
set_option maxRecDepth 20000 in
theorem ggX2_becomeBest_X2_sortRow : GoodIn wsX2_becomeBest wsX2_sortRow := goodIn_r _ [12, 3, 1, 13, 14, 15, 11, 16, 58, 59, 60, 61, 62, 63, 64, 65, 66] (by decide +kernel) (by decide +kernel)
set_option maxRecDepth 20000 in
theorem gX2_becomeBest_X2_sortRow : GoodIn wsX2_becomeBest (wsV RX2 117 RX2 yX2_sortRow wsX2_sortRow) := goodIn_app (goodIn_of _ (by decide +kernel)) ggX2_becomeBest_X2_sortRow
set_option maxRecDepth 20000 in
theorem ggX2_becomeBest_X2_halvesWereMetExchanged : GoodIn wsX2_becomeBest wsX2_halvesWereMetExchanged := goodIn_r _ [20, 3, 1, 58, 59, 60, 61, 62, 63, 64, 65, 66] (by decide +kernel) (by decide +kernel)
set_option maxRecDepth 20000 in
theorem gX2_becomeBest_X2_halvesWereMetExchanged : GoodIn wsX2_becomeBest (wsV RX2 120 RX2 yX2_halvesWereMetExchanged wsX2_halvesWereMetExchanged) := goodIn_app (goodIn_of _ (by decide +kernel)) ggX2_becomeBest_X2_halvesWereMetExchanged
set_option maxRecDepth 20000 in
theorem ggX2_becomeBest_X2_rateNow : GoodIn wsX2_becomeBest wsX2_rateNow := goodIn_r _ [24, 3, 25, 26, 27, 11, 28, 29, 30, 31, 32, 33, 34, 35, 36, 37, 38, 39, 40, 41, 42, 43, 1, 44, 45, 46, 47, 48, 49, 50, 51, 52, 53, 58, 59, 60, 61, 62, 63, 64, 65, 66, 67, 68, 69, 70] (by decide +kernel) (by decide +kernel)
set_option maxRecDepth 20000 in
theorem gX2_becomeBest_X2_rateNow : GoodIn wsX2_becomeBest (wsV RX2 110 RX2 yX2_rateNow wsX2_rateNow) := goodIn_app (goodIn_of _ (by decide +kernel)) ggX2_becomeBest_X2_rateNow
set_option maxRecDepth 20000 in
theorem ggX2_becomeBest_X2_nextRow : GoodIn wsX2_becomeBest wsX2_nextRow := goodIn_r _ [57, 3, 1, 13, 14, 15, 11, 16, 58, 59, 60, 61, 62, 63, 64, 65, 66] (by decide +kernel) (by decide +kernel)
set_option maxRecDepth 20000 in
theorem gX2_becomeBest_X2_nextRow : GoodIn wsX2_becomeBest (wsV RX2 123 RX2 yX2_nextRow wsX2_nextRow) := goodIn_app (goodIn_of _ (by decide +kernel)) ggX2_becomeBest_X2_nextRow
theorem dX2_becomeBest_0 : decode cX2_becomeBest 0 = .ok (.aload_n 0, 1) := by decide +kernel
theorem dX2_becomeBest_1 : decode cX2_becomeBest 1 = .ok (.invokevirtual 117, 3) := by decide +kernel
theorem dX2_becomeBest_4 : decode cX2_becomeBest 4 = .ok (.iconst (-1), 1) := by decide +kernel
theorem dX2_becomeBest_5 : decode cX2_becomeBest 5 = .ok (.istore_n 1, 1) := by decide +kernel
theorem dX2_becomeBest_6 : decode cX2_becomeBest 6 = .ok (.iconst 0, 1) := by decide +kernel
theorem dX2_becomeBest_7 : decode cX2_becomeBest 7 = .ok (.istore_n 2, 1) := by decide +kernel
theorem dX2_becomeBest_8 : decode cX2_becomeBest 8 = .ok (.iload_n 2, 1) := by decide +kernel
theorem dX2_becomeBest_9 : decode cX2_becomeBest 9 = .ok (.sipush 720, 3) := by decide +kernel
theorem dX2_becomeBest_12 : decode cX2_becomeBest 12 = .ok (.if_icmp .ge 55, 3) := by decide +kernel
theorem dX2_becomeBest_15 : decode cX2_becomeBest 15 = .ok (.aload_n 0, 1) := by decide +kernel
theorem dX2_becomeBest_16 : decode cX2_becomeBest 16 = .ok (.invokevirtual 120, 3) := by decide +kernel
theorem dX2_becomeBest_19 : decode cX2_becomeBest 19 = .ok (.ifCond .ne 32, 3) := by decide +kernel
theorem dX2_becomeBest_22 : decode cX2_becomeBest 22 = .ok (.aload_n 0, 1) := by decide +kernel
theorem dX2_becomeBest_23 : decode cX2_becomeBest 23 = .ok (.invokevirtual 110, 3) := by decide +kernel
theorem dX2_becomeBest_26 : decode cX2_becomeBest 26 = .ok (.istore_n 3, 1) := by decide +kernel
theorem dX2_becomeBest_27 : decode cX2_becomeBest 27 = .ok (.iload_n 3, 1) := by decide +kernel
theorem dX2_becomeBest_28 : decode cX2_becomeBest 28 = .ok (.iload_n 1, 1) := by decide +kernel
theorem dX2_becomeBest_29 : decode cX2_becomeBest 29 = .ok (.if_icmp .le 22, 3) := by decide +kernel
theorem dX2_becomeBest_32 : decode cX2_becomeBest 32 = .ok (.iload_n 3, 1) := by decide +kernel
theorem dX2_becomeBest_33 : decode cX2_becomeBest 33 = .ok (.istore_n 1, 1) := by decide +kernel
theorem dX2_becomeBest_34 : decode cX2_becomeBest 34 = .ok (.aload_n 0, 1) := by decide +kernel
theorem dX2_becomeBest_35 : decode cX2_becomeBest 35 = .ok (.getfield 9, 3) := by decide +kernel
theorem dX2_becomeBest_38 : decode cX2_becomeBest 38 = .ok (.iconst 0, 1) := by decide +kernel
theorem dX2_becomeBest_39 : decode cX2_becomeBest 39 = .ok (.aload_n 0, 1) := by decide +kernel
theorem dX2_becomeBest_40 : decode cX2_becomeBest 40 = .ok (.getfield 15, 3) := by decide +kernel
theorem dX2_becomeBest_43 : decode cX2_becomeBest 43 = .ok (.iconst 0, 1) := by decide +kernel
theorem dX2_becomeBest_44 : decode cX2_becomeBest 44 = .ok (.aload_n 0, 1) := by decide +kernel
theorem dX2_becomeBest_45 : decode cX2_becomeBest 45 = .ok (.getfield 45, 3) := by decide +kernel
theorem dX2_becomeBest_48 : decode cX2_becomeBest 48 = .ok (.invokestatic 39, 3) := by decide +kernel
theorem dX2_becomeBest_51 : decode cX2_becomeBest 51 = .ok (.aload_n 0, 1) := by decide +kernel
theorem dX2_becomeBest_52 : decode cX2_becomeBest 52 = .ok (.invokevirtual 123, 3) := by decide +kernel
theorem dX2_becomeBest_55 : decode cX2_becomeBest 55 = .ok (.ifCond .ne 6, 3) := by decide +kernel
theorem dX2_becomeBest_58 : decode cX2_becomeBest 58 = .ok (.goto 9, 3) := by decide +kernel
theorem dX2_becomeBest_61 : decode cX2_becomeBest 61 = .ok (.iinc 2 1, 3) := by decide +kernel
theorem dX2_becomeBest_64 : decode cX2_becomeBest 64 = .ok (.goto (-56), 3) := by decide +kernel
theorem dX2_becomeBest_67 : decode cX2_becomeBest 67 = .ok (.aload_n 0, 1) := by decide +kernel
theorem dX2_becomeBest_68 : decode cX2_becomeBest 68 = .ok (.getfield 15, 3) := by decide +kernel
theorem dX2_becomeBest_71 : decode cX2_becomeBest 71 = .ok (.iconst 0, 1) := by decide +kernel
theorem dX2_becomeBest_72 : decode cX2_becomeBest 72 = .ok (.aload_n 0, 1) := by decide +kernel
theorem dX2_becomeBest_73 : decode cX2_becomeBest 73 = .ok (.getfield 9, 3) := by decide +kernel
theorem dX2_becomeBest_76 : decode cX2_becomeBest 76 = .ok (.iconst 0, 1) := by decide +kernel
theorem dX2_becomeBest_77 : decode cX2_becomeBest 77 = .ok (.aload_n 0, 1) := by decide +kernel
theorem dX2_becomeBest_78 : decode cX2_becomeBest 78 = .ok (.getfield 45, 3) := by decide +kernel
theorem dX2_becomeBest_81 : decode cX2_becomeBest 81 = .ok (.invokestatic 39, 3) := by decide +kernel
theorem dX2_becomeBest_84 : decode cX2_becomeBest 84 = .ok (.iload_n 1, 1) := by decide +kernel
theorem dX2_becomeBest_85 : decode cX2_becomeBest 85 = .ok (.ireturn, 1) := by decide +kernel
theorem dX2_halvesWereMetExchanged_0 : decode cX2_halvesWereMetExchanged 0 = .ok (.aload_n 0, 1) := by decide +kernel
theorem dX2_halvesWereMetExchanged_1 : decode cX2_halvesWereMetExchanged 1 = .ok (.getfield 45, 3) := by decide +kernel
theorem dX2_halvesWereMetExchanged_4 : decode cX2_halvesWereMetExchanged 4 = .ok (.iconst 2, 1) := by decide +kernel
theorem dX2_halvesWereMetExchanged_5 : decode cX2_halvesWereMetExchanged 5 = .ok (.idiv, 1) := by decide +kernel
theorem dX2_halvesWereMetExchanged_6 : decode cX2_halvesWereMetExchanged 6 = .ok (.istore_n 1, 1) := by decide +kernel
theorem dX2_halvesWereMetExchanged_7 : decode cX2_halvesWereMetExchanged 7 = .ok (.iload_n 1, 1) := by decide +kernel
theorem dX2_halvesWereMetExchanged_8 : decode cX2_halvesWereMetExchanged 8 = .ok (.iconst 2, 1) := by decide +kernel
theorem dX2_halvesWereMetExchanged_9 : decode cX2_halvesWereMetExchanged 9 = .ok (.imul, 1) := by decide +kernel
theorem dX2_halvesWereMetExchanged_10 : decode cX2_halvesWereMetExchanged 10 = .ok (.aload_n 0, 1) := by decide +kernel
theorem dX2_halvesWereMetExchanged_11 : decode cX2_halvesWereMetExchanged 11 = .ok (.getfield 45, 3) := by decide +kernel
theorem dX2_halvesWereMetExchanged_14 : decode cX2_halvesWereMetExchanged 14 = .ok (.if_icmp .eq 5, 3) := by decide +kernel
theorem dX2_halvesWereMetExchanged_17 : decode cX2_halvesWereMetExchanged 17 = .ok (.iconst 0, 1) := by decide +kernel
theorem dX2_halvesWereMetExchanged_18 : decode cX2_halvesWereMetExchanged 18 = .ok (.ireturn, 1) := by decide +kernel
theorem dX2_halvesWereMetExchanged_19 : decode cX2_halvesWereMetExchanged 19 = .ok (.iconst 0, 1) := by decide +kernel
theorem dX2_halvesWereMetExchanged_20 : decode cX2_halvesWereMetExchanged 20 = .ok (.istore_n 2, 1) := by decide +kernel
theorem dX2_halvesWereMetExchanged_21 : decode cX2_halvesWereMetExchanged 21 = .ok (.iload_n 2, 1) := by decide +kernel
theorem dX2_halvesWereMetExchanged_22 : decode cX2_halvesWereMetExchanged 22 = .ok (.iload_n 1, 1) := by decide +kernel
theorem dX2_halvesWereMetExchanged_23 : decode cX2_halvesWereMetExchanged 23 = .ok (.if_icmp .ge 49, 3) := by decide +kernel
theorem dX2_halvesWereMetExchanged_26 : decode cX2_halvesWereMetExchanged 26 = .ok (.aload_n 0, 1) := by decide +kernel
theorem dX2_halvesWereMetExchanged_27 : decode cX2_halvesWereMetExchanged 27 = .ok (.getfield 9, 3) := by decide +kernel
theorem dX2_halvesWereMetExchanged_30 : decode cX2_halvesWereMetExchanged 30 = .ok (.iload_n 2, 1) := by decide +kernel
theorem dX2_halvesWereMetExchanged_31 : decode cX2_halvesWereMetExchanged 31 = .ok (.iaload, 1) := by decide +kernel
theorem dX2_halvesWereMetExchanged_32 : decode cX2_halvesWereMetExchanged 32 = .ok (.aload_n 0, 1) := by decide +kernel
theorem dX2_halvesWereMetExchanged_33 : decode cX2_halvesWereMetExchanged 33 = .ok (.getfield 9, 3) := by decide +kernel
theorem dX2_halvesWereMetExchanged_36 : decode cX2_halvesWereMetExchanged 36 = .ok (.iload_n 2, 1) := by decide +kernel
theorem dX2_halvesWereMetExchanged_37 : decode cX2_halvesWereMetExchanged 37 = .ok (.iload_n 1, 1) := by decide +kernel
theorem dX2_halvesWereMetExchanged_38 : decode cX2_halvesWereMetExchanged 38 = .ok (.iadd, 1) := by decide +kernel
theorem dX2_halvesWereMetExchanged_39 : decode cX2_halvesWereMetExchanged 39 = .ok (.iaload, 1) := by decide +kernel
theorem dX2_halvesWereMetExchanged_40 : decode cX2_halvesWereMetExchanged 40 = .ok (.if_icmp .eq 26, 3) := by decide +kernel
theorem dX2_halvesWereMetExchanged_43 : decode cX2_halvesWereMetExchanged 43 = .ok (.aload_n 0, 1) := by decide +kernel
theorem dX2_halvesWereMetExchanged_44 : decode cX2_halvesWereMetExchanged 44 = .ok (.getfield 9, 3) := by decide +kernel
theorem dX2_halvesWereMetExchanged_47 : decode cX2_halvesWereMetExchanged 47 = .ok (.iload_n 2, 1) := by decide +kernel
theorem dX2_halvesWereMetExchanged_48 : decode cX2_halvesWereMetExchanged 48 = .ok (.iload_n 1, 1) := by decide +kernel
theorem dX2_halvesWereMetExchanged_49 : decode cX2_halvesWereMetExchanged 49 = .ok (.iadd, 1) := by decide +kernel
theorem dX2_halvesWereMetExchanged_50 : decode cX2_halvesWereMetExchanged 50 = .ok (.iaload, 1) := by decide +kernel
theorem dX2_halvesWereMetExchanged_51 : decode cX2_halvesWereMetExchanged 51 = .ok (.aload_n 0, 1) := by decide +kernel
theorem dX2_halvesWereMetExchanged_52 : decode cX2_halvesWereMetExchanged 52 = .ok (.getfield 9, 3) := by decide +kernel
theorem dX2_halvesWereMetExchanged_55 : decode cX2_halvesWereMetExchanged 55 = .ok (.iload_n 2, 1) := by decide +kernel
theorem dX2_halvesWereMetExchanged_56 : decode cX2_halvesWereMetExchanged 56 = .ok (.iaload, 1) := by decide +kernel
theorem dX2_halvesWereMetExchanged_57 : decode cX2_halvesWereMetExchanged 57 = .ok (.if_icmp .ge 7, 3) := by decide +kernel
theorem dX2_halvesWereMetExchanged_60 : decode cX2_halvesWereMetExchanged 60 = .ok (.iconst 1, 1) := by decide +kernel
theorem dX2_halvesWereMetExchanged_61 : decode cX2_halvesWereMetExchanged 61 = .ok (.goto 4, 3) := by decide +kernel
theorem dX2_halvesWereMetExchanged_64 : decode cX2_halvesWereMetExchanged 64 = .ok (.iconst 0, 1) := by decide +kernel
theorem dX2_halvesWereMetExchanged_65 : decode cX2_halvesWereMetExchanged 65 = .ok (.ireturn, 1) := by decide +kernel
theorem dX2_halvesWereMetExchanged_66 : decode cX2_halvesWereMetExchanged 66 = .ok (.iinc 2 1, 3) := by decide +kernel
theorem dX2_halvesWereMetExchanged_69 : decode cX2_halvesWereMetExchanged 69 = .ok (.goto (-48), 3) := by decide +kernel
theorem dX2_halvesWereMetExchanged_72 : decode cX2_halvesWereMetExchanged 72 = .ok (.iconst 0, 1) := by decide +kernel
theorem dX2_halvesWereMetExchanged_73 : decode cX2_halvesWereMetExchanged 73 = .ok (.ireturn, 1) := by decide +kernel
set_option maxRecDepth 20000 in
theorem ggX2_sortRow_X2_exchange : GoodIn wsX2_sortRow wsX2_exchange := goodIn_r _ [7, 2, 8, 9, 10, 11, 12, 13, 14, 15, 16] (by decide +kernel) (by decide +kernel)
set_option maxRecDepth 20000 in
theorem gX2_sortRow_X2_exchange : GoodIn wsX2_sortRow (wsV RX2 114 RX2 yX2_exchange wsX2_exchange) := goodIn_app (goodIn_of _ (by decide +kernel)) ggX2_sortRow_X2_exchange
theorem dX2_sortRow_0 : decode cX2_sortRow 0 = .ok (.iconst 0, 1) := by decide +kernel
theorem dX2_sortRow_1 : decode cX2_sortRow 1 = .ok (.istore_n 1, 1) := by decide +kernel
theorem dX2_sortRow_2 : decode cX2_sortRow 2 = .ok (.iload_n 1, 1) := by decide +kernel
theorem dX2_sortRow_3 : decode cX2_sortRow 3 = .ok (.aload_n 0, 1) := by decide +kernel
theorem dX2_sortRow_4 : decode cX2_sortRow 4 = .ok (.getfield 45, 3) := by decide +kernel
theorem dX2_sortRow_7 : decode cX2_sortRow 7 = .ok (.iconst 1, 1) := by decide +kernel
theorem dX2_sortRow_8 : decode cX2_sortRow 8 = .ok (.isub, 1) := by decide +kernel
theorem dX2_sortRow_9 : decode cX2_sortRow 9 = .ok (.if_icmp .ge 48, 3) := by decide +kernel
theorem dX2_sortRow_12 : decode cX2_sortRow 12 = .ok (.iload_n 1, 1) := by decide +kernel
theorem dX2_sortRow_13 : decode cX2_sortRow 13 = .ok (.iconst 1, 1) := by decide +kernel
theorem dX2_sortRow_14 : decode cX2_sortRow 14 = .ok (.iadd, 1) := by decide +kernel
theorem dX2_sortRow_15 : decode cX2_sortRow 15 = .ok (.istore_n 2, 1) := by decide +kernel
theorem dX2_sortRow_16 : decode cX2_sortRow 16 = .ok (.iload_n 2, 1) := by decide +kernel
theorem dX2_sortRow_17 : decode cX2_sortRow 17 = .ok (.aload_n 0, 1) := by decide +kernel
theorem dX2_sortRow_18 : decode cX2_sortRow 18 = .ok (.getfield 45, 3) := by decide +kernel
theorem dX2_sortRow_21 : decode cX2_sortRow 21 = .ok (.if_icmp .ge 30, 3) := by decide +kernel
theorem dX2_sortRow_24 : decode cX2_sortRow 24 = .ok (.aload_n 0, 1) := by decide +kernel
theorem dX2_sortRow_25 : decode cX2_sortRow 25 = .ok (.getfield 9, 3) := by decide +kernel
theorem dX2_sortRow_28 : decode cX2_sortRow 28 = .ok (.iload_n 2, 1) := by decide +kernel
theorem dX2_sortRow_29 : decode cX2_sortRow 29 = .ok (.iaload, 1) := by decide +kernel
theorem dX2_sortRow_30 : decode cX2_sortRow 30 = .ok (.aload_n 0, 1) := by decide +kernel
theorem dX2_sortRow_31 : decode cX2_sortRow 31 = .ok (.getfield 9, 3) := by decide +kernel
theorem dX2_sortRow_34 : decode cX2_sortRow 34 = .ok (.iload_n 1, 1) := by decide +kernel
theorem dX2_sortRow_35 : decode cX2_sortRow 35 = .ok (.iaload, 1) := by decide +kernel
theorem dX2_sortRow_36 : decode cX2_sortRow 36 = .ok (.if_icmp .ge 9, 3) := by decide +kernel
theorem dX2_sortRow_39 : decode cX2_sortRow 39 = .ok (.aload_n 0, 1) := by decide +kernel
theorem dX2_sortRow_40 : decode cX2_sortRow 40 = .ok (.iload_n 1, 1) := by decide +kernel
theorem dX2_sortRow_41 : decode cX2_sortRow 41 = .ok (.iload_n 2, 1) := by decide +kernel
theorem dX2_sortRow_42 : decode cX2_sortRow 42 = .ok (.invokevirtual 114, 3) := by decide +kernel
theorem dX2_sortRow_45 : decode cX2_sortRow 45 = .ok (.iinc 2 1, 3) := by decide +kernel
theorem dX2_sortRow_48 : decode cX2_sortRow 48 = .ok (.goto (-32), 3) := by decide +kernel
theorem dX2_sortRow_51 : decode cX2_sortRow 51 = .ok (.iinc 1 1, 3) := by decide +kernel
theorem dX2_sortRow_54 : decode cX2_sortRow 54 = .ok (.goto (-52), 3) := by decide +kernel
theorem dX2_sortRow_57 : decode cX2_sortRow 57 = .ok (.return_, 1) := by decide +kernel
set_option maxRecDepth 20000 in
theorem ggX2_nextRow_X2_exchange : GoodIn wsX2_nextRow wsX2_exchange := goodIn_r _ [7, 2, 8, 9, 10, 11, 12, 13, 14, 15, 16] (by decide +kernel) (by decide +kernel)
set_option maxRecDepth 20000 in
theorem gX2_nextRow_X2_exchange : GoodIn wsX2_nextRow (wsV RX2 114 RX2 yX2_exchange wsX2_exchange) := goodIn_app (goodIn_of _ (by decide +kernel)) ggX2_nextRow_X2_exchange
theorem dX2_nextRow_0 : decode cX2_nextRow 0 = .ok (.aload_n 0, 1) := by decide +kernel
theorem dX2_nextRow_1 : decode cX2_nextRow 1 = .ok (.getfield 45, 3) := by decide +kernel
theorem dX2_nextRow_4 : decode cX2_nextRow 4 = .ok (.iconst 2, 1) := by decide +kernel
theorem dX2_nextRow_5 : decode cX2_nextRow 5 = .ok (.isub, 1) := by decide +kernel
theorem dX2_nextRow_6 : decode cX2_nextRow 6 = .ok (.istore_n 1, 1) := by decide +kernel
theorem dX2_nextRow_7 : decode cX2_nextRow 7 = .ok (.iload_n 1, 1) := by decide +kernel
theorem dX2_nextRow_8 : decode cX2_nextRow 8 = .ok (.ifCond .lt 26, 3) := by decide +kernel
theorem dX2_nextRow_11 : decode cX2_nextRow 11 = .ok (.aload_n 0, 1) := by decide +kernel
theorem dX2_nextRow_12 : decode cX2_nextRow 12 = .ok (.getfield 9, 3) := by decide +kernel
theorem dX2_nextRow_15 : decode cX2_nextRow 15 = .ok (.iload_n 1, 1) := by decide +kernel
theorem dX2_nextRow_16 : decode cX2_nextRow 16 = .ok (.iaload, 1) := by decide +kernel
theorem dX2_nextRow_17 : decode cX2_nextRow 17 = .ok (.aload_n 0, 1) := by decide +kernel
theorem dX2_nextRow_18 : decode cX2_nextRow 18 = .ok (.getfield 9, 3) := by decide +kernel
theorem dX2_nextRow_21 : decode cX2_nextRow 21 = .ok (.iload_n 1, 1) := by decide +kernel
theorem dX2_nextRow_22 : decode cX2_nextRow 22 = .ok (.iconst 1, 1) := by decide +kernel
theorem dX2_nextRow_23 : decode cX2_nextRow 23 = .ok (.iadd, 1) := by decide +kernel
theorem dX2_nextRow_24 : decode cX2_nextRow 24 = .ok (.iaload, 1) := by decide +kernel
theorem dX2_nextRow_25 : decode cX2_nextRow 25 = .ok (.if_icmp .lt 9, 3) := by decide +kernel
theorem dX2_nextRow_28 : decode cX2_nextRow 28 = .ok (.iinc 1 (-1), 3) := by decide +kernel
theorem dX2_nextRow_31 : decode cX2_nextRow 31 = .ok (.goto (-24), 3) := by decide +kernel
theorem dX2_nextRow_34 : decode cX2_nextRow 34 = .ok (.iload_n 1, 1) := by decide +kernel
theorem dX2_nextRow_35 : decode cX2_nextRow 35 = .ok (.ifCond .ge 5, 3) := by decide +kernel
theorem dX2_nextRow_38 : decode cX2_nextRow 38 = .ok (.iconst 0, 1) := by decide +kernel
theorem dX2_nextRow_39 : decode cX2_nextRow 39 = .ok (.ireturn, 1) := by decide +kernel
theorem dX2_nextRow_40 : decode cX2_nextRow 40 = .ok (.aload_n 0, 1) := by decide +kernel
theorem dX2_nextRow_41 : decode cX2_nextRow 41 = .ok (.getfield 45, 3) := by decide +kernel
theorem dX2_nextRow_44 : decode cX2_nextRow 44 = .ok (.iconst 1, 1) := by decide +kernel
theorem dX2_nextRow_45 : decode cX2_nextRow 45 = .ok (.isub, 1) := by decide +kernel
theorem dX2_nextRow_46 : decode cX2_nextRow 46 = .ok (.istore_n 2, 1) := by decide +kernel
theorem dX2_nextRow_47 : decode cX2_nextRow 47 = .ok (.iload_n 2, 1) := by decide +kernel
theorem dX2_nextRow_48 : decode cX2_nextRow 48 = .ok (.iload_n 1, 1) := by decide +kernel
theorem dX2_nextRow_49 : decode cX2_nextRow 49 = .ok (.if_icmp .le 24, 3) := by decide +kernel
theorem dX2_nextRow_52 : decode cX2_nextRow 52 = .ok (.aload_n 0, 1) := by decide +kernel
theorem dX2_nextRow_53 : decode cX2_nextRow 53 = .ok (.getfield 9, 3) := by decide +kernel
theorem dX2_nextRow_56 : decode cX2_nextRow 56 = .ok (.iload_n 2, 1) := by decide +kernel
theorem dX2_nextRow_57 : decode cX2_nextRow 57 = .ok (.iaload, 1) := by decide +kernel
theorem dX2_nextRow_58 : decode cX2_nextRow 58 = .ok (.aload_n 0, 1) := by decide +kernel
theorem dX2_nextRow_59 : decode cX2_nextRow 59 = .ok (.getfield 9, 3) := by decide +kernel
theorem dX2_nextRow_62 : decode cX2_nextRow 62 = .ok (.iload_n 1, 1) := by decide +kernel
theorem dX2_nextRow_63 : decode cX2_nextRow 63 = .ok (.iaload, 1) := by decide +kernel
theorem dX2_nextRow_64 : decode cX2_nextRow 64 = .ok (.if_icmp .gt 9, 3) := by decide +kernel
theorem dX2_nextRow_67 : decode cX2_nextRow 67 = .ok (.iinc 2 (-1), 3) := by decide +kernel
theorem dX2_nextRow_70 : decode cX2_nextRow 70 = .ok (.goto (-23), 3) := by decide +kernel
theorem dX2_nextRow_73 : decode cX2_nextRow 73 = .ok (.aload_n 0, 1) := by decide +kernel
theorem dX2_nextRow_74 : decode cX2_nextRow 74 = .ok (.iload_n 1, 1) := by decide +kernel
theorem dX2_nextRow_75 : decode cX2_nextRow 75 = .ok (.iload_n 2, 1) := by decide +kernel
theorem dX2_nextRow_76 : decode cX2_nextRow 76 = .ok (.invokevirtual 114, 3) := by decide +kernel
theorem dX2_nextRow_79 : decode cX2_nextRow 79 = .ok (.iload_n 1, 1) := by decide +kernel
theorem dX2_nextRow_80 : decode cX2_nextRow 80 = .ok (.iconst 1, 1) := by decide +kernel
theorem dX2_nextRow_81 : decode cX2_nextRow 81 = .ok (.iadd, 1) := by decide +kernel
theorem dX2_nextRow_82 : decode cX2_nextRow 82 = .ok (.istore_n 3, 1) := by decide +kernel
theorem dX2_nextRow_83 : decode cX2_nextRow 83 = .ok (.aload_n 0, 1) := by decide +kernel
theorem dX2_nextRow_84 : decode cX2_nextRow 84 = .ok (.getfield 45, 3) := by decide +kernel
theorem dX2_nextRow_87 : decode cX2_nextRow 87 = .ok (.iconst 1, 1) := by decide +kernel
theorem dX2_nextRow_88 : decode cX2_nextRow 88 = .ok (.isub, 1) := by decide +kernel
theorem dX2_nextRow_89 : decode cX2_nextRow 89 = .ok (.istore 4, 2) := by decide +kernel
theorem dX2_nextRow_91 : decode cX2_nextRow 91 = .ok (.iload_n 3, 1) := by decide +kernel
theorem dX2_nextRow_92 : decode cX2_nextRow 92 = .ok (.iload 4, 2) := by decide +kernel
theorem dX2_nextRow_94 : decode cX2_nextRow 94 = .ok (.if_icmp .ge 19, 3) := by decide +kernel
theorem dX2_nextRow_97 : decode cX2_nextRow 97 = .ok (.aload_n 0, 1) := by decide +kernel
theorem dX2_nextRow_98 : decode cX2_nextRow 98 = .ok (.iload_n 3, 1) := by decide +kernel
theorem dX2_nextRow_99 : decode cX2_nextRow 99 = .ok (.iload 4, 2) := by decide +kernel
theorem dX2_nextRow_101 : decode cX2_nextRow 101 = .ok (.invokevirtual 114, 3) := by decide +kernel
theorem dX2_nextRow_104 : decode cX2_nextRow 104 = .ok (.iinc 3 1, 3) := by decide +kernel
theorem dX2_nextRow_107 : decode cX2_nextRow 107 = .ok (.iinc 4 (-1), 3) := by decide +kernel
theorem dX2_nextRow_110 : decode cX2_nextRow 110 = .ok (.goto (-19), 3) := by decide +kernel
theorem dX2_nextRow_113 : decode cX2_nextRow 113 = .ok (.iconst 1, 1) := by decide +kernel
theorem dX2_nextRow_114 : decode cX2_nextRow 114 = .ok (.ireturn, 1) := by decide +kernel
theorem dX3_init_0 : decode cX3_init 0 = .ok (.aload_n 0, 1) := by decide +kernel
theorem dX3_init_1 : decode cX3_init 1 = .ok (.invokespecial 3, 3) := by decide +kernel
theorem dX3_init_4 : decode cX3_init 4 = .ok (.aload_n 0, 1) := by decide +kernel
theorem dX3_init_5 : decode cX3_init 5 = .ok (.bipush 9, 2) := by decide +kernel
theorem dX3_init_7 : decode cX3_init 7 = .ok (.newarray .int, 2) := by decide +kernel
theorem dX3_init_9 : decode cX3_init 9 = .ok (.putfield 9, 3) := by decide +kernel
theorem dX3_init_12 : decode cX3_init 12 = .ok (.aload_n 0, 1) := by decide +kernel
theorem dX3_init_13 : decode cX3_init 13 = .ok (.aload_n 1, 1) := by decide +kernel
theorem dX3_init_14 : decode cX3_init 14 = .ok (.putfield 15, 3) := by decide +kernel
theorem dX3_init_17 : decode cX3_init 17 = .ok (.return_, 1) := by decide +kernel
set_option maxRecDepth 20000 in
theorem ggX3_read_J7_fill_53178 : GoodIn wsX3_read wsJ7_fill_53178 := goodIn_r _ [10] (by decide +kernel) (by decide +kernel)
set_option maxRecDepth 20000 in
theorem gX3_read_J7_fill_53178 : GoodIn wsX3_read (va_wsS RX3 19 yJ7_fill_53178 wsJ7_fill_53178) := goodIn_app (goodIn_of _ (by decide +kernel)) ggX3_read_J7_fill_53178
set_option maxRecDepth 20000 in
theorem ggX3_read_X3_fits : GoodIn wsX3_read wsX3_fits := goodIn_r _ [15, 6, 16, 2, 1, 4, 5, 17, 18, 19, 20, 21, 22, 23, 24, 25, 26, 27, 28, 29, 30, 31, 32, 33, 34, 35, 36, 37, 38] (by decide +kernel) (by decide +kernel)
set_option maxRecDepth 20000 in
theorem gX3_read_X3_fits : GoodIn wsX3_read (wsV RX3 39 RX3 yX3_fits wsX3_fits) := goodIn_app (goodIn_of _ (by decide +kernel)) ggX3_read_X3_fits
theorem dX3_read_0 : decode cX3_read 0 = .ok (.aload_n 0, 1) := by decide +kernel
theorem dX3_read_1 : decode cX3_read 1 = .ok (.getfield 9, 3) := by decide +kernel
theorem dX3_read_4 : decode cX3_read 4 = .ok (.iconst 0, 1) := by decide +kernel
theorem dX3_read_5 : decode cX3_read 5 = .ok (.invokestatic 19, 3) := by decide +kernel
theorem dX3_read_8 : decode cX3_read 8 = .ok (.aload_n 0, 1) := by decide +kernel
theorem dX3_read_9 : decode cX3_read 9 = .ok (.ldc 25, 2) := by decide +kernel
theorem dX3_read_11 : decode cX3_read 11 = .ok (.putfield 26, 3) := by decide +kernel
theorem dX3_read_14 : decode cX3_read 14 = .ok (.aload_n 0, 1) := by decide +kernel
theorem dX3_read_15 : decode cX3_read 15 = .ok (.iconst 0, 1) := by decide +kernel
theorem dX3_read_16 : decode cX3_read 16 = .ok (.putfield 30, 3) := by decide +kernel
theorem dX3_read_19 : decode cX3_read 19 = .ok (.aload_n 0, 1) := by decide +kernel
theorem dX3_read_20 : decode cX3_read 20 = .ok (.iconst 0, 1) := by decide +kernel
theorem dX3_read_21 : decode cX3_read 21 = .ok (.putfield 33, 3) := by decide +kernel
theorem dX3_read_24 : decode cX3_read 24 = .ok (.aload_n 0, 1) := by decide +kernel
theorem dX3_read_25 : decode cX3_read 25 = .ok (.iconst 0, 1) := by decide +kernel
theorem dX3_read_26 : decode cX3_read 26 = .ok (.putfield 36, 3) := by decide +kernel
theorem dX3_read_29 : decode cX3_read 29 = .ok (.iconst 0, 1) := by decide +kernel
theorem dX3_read_30 : decode cX3_read 30 = .ok (.istore 4, 2) := by decide +kernel
theorem dX3_read_32 : decode cX3_read 32 = .ok (.iload 4, 2) := by decide +kernel
theorem dX3_read_34 : decode cX3_read 34 = .ok (.iload_n 3, 1) := by decide +kernel
theorem dX3_read_35 : decode cX3_read 35 = .ok (.if_icmp .ge 55, 3) := by decide +kernel
theorem dX3_read_38 : decode cX3_read 38 = .ok (.aload_n 0, 1) := by decide +kernel
theorem dX3_read_39 : decode cX3_read 39 = .ok (.getfield 26, 3) := by decide +kernel
theorem dX3_read_42 : decode cX3_read 42 = .ok (.ldc 25, 2) := by decide +kernel
theorem dX3_read_44 : decode cX3_read 44 = .ok (.if_icmp .ne 46, 3) := by decide +kernel
theorem dX3_read_47 : decode cX3_read 47 = .ok (.iload_n 2, 1) := by decide +kernel
theorem dX3_read_48 : decode cX3_read 48 = .ok (.iload 4, 2) := by decide +kernel
theorem dX3_read_50 : decode cX3_read 50 = .ok (.iconst 3, 1) := by decide +kernel
theorem dX3_read_51 : decode cX3_read 51 = .ok (.imul, 1) := by decide +kernel
theorem dX3_read_52 : decode cX3_read 52 = .ok (.iadd, 1) := by decide +kernel
theorem dX3_read_53 : decode cX3_read 53 = .ok (.istore 5, 2) := by decide +kernel
theorem dX3_read_55 : decode cX3_read 55 = .ok (.aload_n 0, 1) := by decide +kernel
theorem dX3_read_56 : decode cX3_read 56 = .ok (.aload_n 1, 1) := by decide +kernel
theorem dX3_read_57 : decode cX3_read 57 = .ok (.iload 5, 2) := by decide +kernel
theorem dX3_read_59 : decode cX3_read 59 = .ok (.iaload, 1) := by decide +kernel
theorem dX3_read_60 : decode cX3_read 60 = .ok (.aload_n 1, 1) := by decide +kernel
theorem dX3_read_61 : decode cX3_read 61 = .ok (.iload 5, 2) := by decide +kernel
theorem dX3_read_63 : decode cX3_read 63 = .ok (.iconst 1, 1) := by decide +kernel
theorem dX3_read_64 : decode cX3_read 64 = .ok (.iadd, 1) := by decide +kernel
theorem dX3_read_65 : decode cX3_read 65 = .ok (.iaload, 1) := by decide +kernel
theorem dX3_read_66 : decode cX3_read 66 = .ok (.aload_n 1, 1) := by decide +kernel
theorem dX3_read_67 : decode cX3_read 67 = .ok (.iload 5, 2) := by decide +kernel
theorem dX3_read_69 : decode cX3_read 69 = .ok (.iconst 2, 1) := by decide +kernel
theorem dX3_read_70 : decode cX3_read 70 = .ok (.iadd, 1) := by decide +kernel
theorem dX3_read_71 : decode cX3_read 71 = .ok (.iaload, 1) := by decide +kernel
theorem dX3_read_72 : decode cX3_read 72 = .ok (.invokevirtual 39, 3) := by decide +kernel
theorem dX3_read_75 : decode cX3_read 75 = .ok (.ifCond .ne 9, 3) := by decide +kernel
theorem dX3_read_78 : decode cX3_read 78 = .ok (.aload_n 0, 1) := by decide +kernel
theorem dX3_read_79 : decode cX3_read 79 = .ok (.iload 4, 2) := by decide +kernel
theorem dX3_read_81 : decode cX3_read 81 = .ok (.putfield 26, 3) := by decide +kernel
theorem dX3_read_84 : decode cX3_read 84 = .ok (.iinc 4 1, 3) := by decide +kernel
theorem dX3_read_87 : decode cX3_read 87 = .ok (.goto (-55), 3) := by decide +kernel
theorem dX3_read_90 : decode cX3_read 90 = .ok (.return_, 1) := by decide +kernel
set_option maxRecDepth 20000 in
theorem ggX3_fits_X7_within : GoodIn wsX3_fits wsX7_within := goodIn_r _ [9] (by decide +kernel) (by decide +kernel)
set_option maxRecDepth 20000 in
theorem gX3_fits_X7_within_n43 : GoodIn wsX3_fits (wsX7_within) := ggX3_fits_X7_within
set_option maxRecDepth 20000 in
theorem ggX3_fits_X1_standingAfter : GoodIn wsX3_fits wsX1_standingAfter := goodIn_r _ [14, 15, 27, 28] (by decide +kernel) (by decide +kernel)
set_option maxRecDepth 20000 in
theorem gX3_fits_X1_standingAfter : GoodIn wsX3_fits (wsV RX3 46 RX1 yX1_standingAfter wsX1_standingAfter) := goodIn_app (goodIn_of _ (by decide +kernel)) ggX3_fits_X1_standingAfter
set_option maxRecDepth 20000 in
theorem ggX3_fits_X1_runsOf : GoodIn wsX3_fits wsX1_runsOf := goodIn_r _ [19, 20, 27, 28] (by decide +kernel) (by decide +kernel)
set_option maxRecDepth 20000 in
theorem gX3_fits_X1_runsOf : GoodIn wsX3_fits (wsV RX3 52 RX1 yX1_runsOf wsX1_runsOf) := goodIn_app (goodIn_of _ (by decide +kernel)) ggX3_fits_X1_runsOf
theorem dX3_fits_0 : decode cX3_fits 0 = .ok (.aload_n 0, 1) := by decide +kernel
theorem dX3_fits_1 : decode cX3_fits 1 = .ok (.getfield 36, 3) := by decide +kernel
theorem dX3_fits_4 : decode cX3_fits 4 = .ok (.bipush 24, 2) := by decide +kernel
theorem dX3_fits_6 : decode cX3_fits 6 = .ok (.if_icmp .ne 7, 3) := by decide +kernel
theorem dX3_fits_9 : decode cX3_fits 9 = .ok (.iconst 0, 1) := by decide +kernel
theorem dX3_fits_10 : decode cX3_fits 10 = .ok (.goto 7, 3) := by decide +kernel
theorem dX3_fits_13 : decode cX3_fits 13 = .ok (.aload_n 0, 1) := by decide +kernel
theorem dX3_fits_14 : decode cX3_fits 14 = .ok (.getfield 36, 3) := by decide +kernel
theorem dX3_fits_17 : decode cX3_fits 17 = .ok (.istore 4, 2) := by decide +kernel
theorem dX3_fits_19 : decode cX3_fits 19 = .ok (.iload_n 1, 1) := by decide +kernel
theorem dX3_fits_20 : decode cX3_fits 20 = .ok (.iconst 0, 1) := by decide +kernel
theorem dX3_fits_21 : decode cX3_fits 21 = .ok (.bipush 8, 2) := by decide +kernel
theorem dX3_fits_23 : decode cX3_fits 23 = .ok (.invokestatic 43, 3) := by decide +kernel
theorem dX3_fits_26 : decode cX3_fits 26 = .ok (.ifCond .eq 46, 3) := by decide +kernel
theorem dX3_fits_29 : decode cX3_fits 29 = .ok (.aload_n 0, 1) := by decide +kernel
theorem dX3_fits_30 : decode cX3_fits 30 = .ok (.getfield 15, 3) := by decide +kernel
theorem dX3_fits_33 : decode cX3_fits 33 = .ok (.iload 4, 2) := by decide +kernel
theorem dX3_fits_35 : decode cX3_fits 35 = .ok (.iload_n 1, 1) := by decide +kernel
theorem dX3_fits_36 : decode cX3_fits 36 = .ok (.invokevirtual 46, 3) := by decide +kernel
theorem dX3_fits_39 : decode cX3_fits 39 = .ok (.ldc 25, 2) := by decide +kernel
theorem dX3_fits_41 : decode cX3_fits 41 = .ok (.if_icmp .eq 31, 3) := by decide +kernel
theorem dX3_fits_44 : decode cX3_fits 44 = .ok (.aload_n 0, 1) := by decide +kernel
theorem dX3_fits_45 : decode cX3_fits 45 = .ok (.getfield 15, 3) := by decide +kernel
theorem dX3_fits_48 : decode cX3_fits 48 = .ok (.iload 4, 2) := by decide +kernel
theorem dX3_fits_50 : decode cX3_fits 50 = .ok (.iload_n 1, 1) := by decide +kernel
theorem dX3_fits_51 : decode cX3_fits 51 = .ok (.invokevirtual 46, 3) := by decide +kernel
theorem dX3_fits_54 : decode cX3_fits 54 = .ok (.iload_n 2, 1) := by decide +kernel
theorem dX3_fits_55 : decode cX3_fits 55 = .ok (.if_icmp .ne 17, 3) := by decide +kernel
theorem dX3_fits_58 : decode cX3_fits 58 = .ok (.aload_n 0, 1) := by decide +kernel
theorem dX3_fits_59 : decode cX3_fits 59 = .ok (.getfield 15, 3) := by decide +kernel
theorem dX3_fits_62 : decode cX3_fits 62 = .ok (.iload 4, 2) := by decide +kernel
theorem dX3_fits_64 : decode cX3_fits 64 = .ok (.iload_n 1, 1) := by decide +kernel
theorem dX3_fits_65 : decode cX3_fits 65 = .ok (.invokevirtual 52, 3) := by decide +kernel
theorem dX3_fits_68 : decode cX3_fits 68 = .ok (.iload_n 3, 1) := by decide +kernel
theorem dX3_fits_69 : decode cX3_fits 69 = .ok (.if_icmp .eq 5, 3) := by decide +kernel
theorem dX3_fits_72 : decode cX3_fits 72 = .ok (.iconst 0, 1) := by decide +kernel
theorem dX3_fits_73 : decode cX3_fits 73 = .ok (.ireturn, 1) := by decide +kernel
theorem dX3_fits_74 : decode cX3_fits 74 = .ok (.aload_n 0, 1) := by decide +kernel
theorem dX3_fits_75 : decode cX3_fits 75 = .ok (.getfield 9, 3) := by decide +kernel
theorem dX3_fits_78 : decode cX3_fits 78 = .ok (.iload_n 1, 1) := by decide +kernel
theorem dX3_fits_79 : decode cX3_fits 79 = .ok (.dup2, 1) := by decide +kernel
theorem dX3_fits_80 : decode cX3_fits 80 = .ok (.iaload, 1) := by decide +kernel
theorem dX3_fits_81 : decode cX3_fits 81 = .ok (.iconst 1, 1) := by decide +kernel
theorem dX3_fits_82 : decode cX3_fits 82 = .ok (.iadd, 1) := by decide +kernel
theorem dX3_fits_83 : decode cX3_fits 83 = .ok (.iastore, 1) := by decide +kernel
theorem dX3_fits_84 : decode cX3_fits 84 = .ok (.aload_n 0, 1) := by decide +kernel
theorem dX3_fits_85 : decode cX3_fits 85 = .ok (.dup, 1) := by decide +kernel
theorem dX3_fits_86 : decode cX3_fits 86 = .ok (.getfield 30, 3) := by decide +kernel
theorem dX3_fits_89 : decode cX3_fits 89 = .ok (.iload_n 3, 1) := by decide +kernel
theorem dX3_fits_90 : decode cX3_fits 90 = .ok (.iadd, 1) := by decide +kernel
theorem dX3_fits_91 : decode cX3_fits 91 = .ok (.putfield 30, 3) := by decide +kernel
theorem dX3_fits_94 : decode cX3_fits 94 = .ok (.aload_n 0, 1) := by decide +kernel
theorem dX3_fits_95 : decode cX3_fits 95 = .ok (.iload_n 2, 1) := by decide +kernel
theorem dX3_fits_96 : decode cX3_fits 96 = .ok (.putfield 36, 3) := by decide +kernel
theorem dX3_fits_99 : decode cX3_fits 99 = .ok (.iload_n 2, 1) := by decide +kernel
theorem dX3_fits_100 : decode cX3_fits 100 = .ok (.bipush 24, 2) := by decide +kernel
theorem dX3_fits_102 : decode cX3_fits 102 = .ok (.if_icmp .ne 13, 3) := by decide +kernel
theorem dX3_fits_105 : decode cX3_fits 105 = .ok (.aload_n 0, 1) := by decide +kernel
theorem dX3_fits_106 : decode cX3_fits 106 = .ok (.dup, 1) := by decide +kernel
theorem dX3_fits_107 : decode cX3_fits 107 = .ok (.getfield 33, 3) := by decide +kernel
theorem dX3_fits_110 : decode cX3_fits 110 = .ok (.iconst 1, 1) := by decide +kernel
theorem dX3_fits_111 : decode cX3_fits 111 = .ok (.iadd, 1) := by decide +kernel
theorem dX3_fits_112 : decode cX3_fits 112 = .ok (.putfield 33, 3) := by decide +kernel
theorem dX3_fits_115 : decode cX3_fits 115 = .ok (.iconst 1, 1) := by decide +kernel
theorem dX3_fits_116 : decode cX3_fits 116 = .ok (.ireturn, 1) := by decide +kernel
theorem dX3_howManyStrikes_0 : decode cX3_howManyStrikes 0 = .ok (.iconst 0, 1) := by decide +kernel
theorem dX3_howManyStrikes_1 : decode cX3_howManyStrikes 1 = .ok (.istore_n 1, 1) := by decide +kernel
theorem dX3_howManyStrikes_2 : decode cX3_howManyStrikes 2 = .ok (.iconst 0, 1) := by decide +kernel
theorem dX3_howManyStrikes_3 : decode cX3_howManyStrikes 3 = .ok (.istore_n 2, 1) := by decide +kernel
theorem dX3_howManyStrikes_4 : decode cX3_howManyStrikes 4 = .ok (.iload_n 2, 1) := by decide +kernel
