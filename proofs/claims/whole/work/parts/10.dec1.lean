set_option maxRecDepth 20000 in
theorem ggX0_init_X7_init : GoodIn wsX0_init wsX7_init := goodIn_r _ [14, 15, 2, 3, 16, 17, 18, 19, 32, 33, 34] (by decide +kernel) (by decide +kernel)
set_option maxRecDepth 20000 in
theorem gX0_init_X7_init_n19 : GoodIn wsX0_init (wsX7_init) := ggX0_init_X7_init
set_option maxRecDepth 20000 in
theorem ggX0_init_X4_init : GoodIn wsX0_init wsX4_init := goodIn_r _ [22, 23, 2, 3, 24, 7, 8, 25, 26, 27, 28, 13, 14, 15, 16, 17, 18, 19, 32, 33, 34, 35, 36, 37, 38] (by decide +kernel) (by decide +kernel)
set_option maxRecDepth 20000 in
theorem gX0_init_X4_init : GoodIn wsX0_init (wsX4_init) := ggX0_init_X4_init
theorem dX0_init_0 : decode cX0_init 0 = .ok (.aload_n 0, 1) := by decide +kernel
theorem dX0_init_1 : decode cX0_init 1 = .ok (.invokespecial 3, 3) := by decide +kernel
theorem dX0_init_4 : decode cX0_init 4 = .ok (.aload_n 0, 1) := by decide +kernel
theorem dX0_init_5 : decode cX0_init 5 = .ok (.bipush 16, 2) := by decide +kernel
theorem dX0_init_7 : decode cX0_init 7 = .ok (.anewarray 9, 3) := by decide +kernel
theorem dX0_init_10 : decode cX0_init 10 = .ok (.putfield 11, 3) := by decide +kernel
theorem dX0_init_13 : decode cX0_init 13 = .ok (.aload_n 0, 1) := by decide +kernel
theorem dX0_init_14 : decode cX0_init 14 = .ok (.new 17, 3) := by decide +kernel
theorem dX0_init_17 : decode cX0_init 17 = .ok (.dup, 1) := by decide +kernel
theorem dX0_init_18 : decode cX0_init 18 = .ok (.invokespecial 19, 3) := by decide +kernel
theorem dX0_init_21 : decode cX0_init 21 = .ok (.putfield 20, 3) := by decide +kernel
theorem dX0_init_24 : decode cX0_init 24 = .ok (.aload_n 0, 1) := by decide +kernel
theorem dX0_init_25 : decode cX0_init 25 = .ok (.new 17, 3) := by decide +kernel
theorem dX0_init_28 : decode cX0_init 28 = .ok (.dup, 1) := by decide +kernel
theorem dX0_init_29 : decode cX0_init 29 = .ok (.invokespecial 19, 3) := by decide +kernel
theorem dX0_init_32 : decode cX0_init 32 = .ok (.putfield 24, 3) := by decide +kernel
theorem dX0_init_35 : decode cX0_init 35 = .ok (.iconst 0, 1) := by decide +kernel
theorem dX0_init_36 : decode cX0_init 36 = .ok (.istore_n 1, 1) := by decide +kernel
theorem dX0_init_37 : decode cX0_init 37 = .ok (.iload_n 1, 1) := by decide +kernel
theorem dX0_init_38 : decode cX0_init 38 = .ok (.bipush 16, 2) := by decide +kernel
theorem dX0_init_40 : decode cX0_init 40 = .ok (.if_icmp .ge 22, 3) := by decide +kernel
theorem dX0_init_43 : decode cX0_init 43 = .ok (.aload_n 0, 1) := by decide +kernel
theorem dX0_init_44 : decode cX0_init 44 = .ok (.getfield 11, 3) := by decide +kernel
theorem dX0_init_47 : decode cX0_init 47 = .ok (.iload_n 1, 1) := by decide +kernel
theorem dX0_init_48 : decode cX0_init 48 = .ok (.new 9, 3) := by decide +kernel
theorem dX0_init_51 : decode cX0_init 51 = .ok (.dup, 1) := by decide +kernel
theorem dX0_init_52 : decode cX0_init 52 = .ok (.invokespecial 27, 3) := by decide +kernel
theorem dX0_init_55 : decode cX0_init 55 = .ok (.aastore, 1) := by decide +kernel
theorem dX0_init_56 : decode cX0_init 56 = .ok (.iinc 1 1, 3) := by decide +kernel
theorem dX0_init_59 : decode cX0_init 59 = .ok (.goto (-22), 3) := by decide +kernel
theorem dX0_init_62 : decode cX0_init 62 = .ok (.return_, 1) := by decide +kernel
set_option maxRecDepth 20000 in
theorem ggX0_forget_X4_makeNone : GoodIn wsX0_forget wsX4_makeNone := goodIn_r _ [6, 7, 8, 9, 10, 11, 15, 16, 17, 18, 19, 20, 21] (by decide +kernel) (by decide +kernel)
set_option maxRecDepth 20000 in
theorem gX0_forget_X4_makeNone : GoodIn wsX0_forget (wsV RX0 28 RX4 yX4_makeNone wsX4_makeNone) := goodIn_app (goodIn_of _ (by decide +kernel)) ggX0_forget_X4_makeNone
theorem dX0_forget_0 : decode cX0_forget 0 = .ok (.iconst 0, 1) := by decide +kernel
theorem dX0_forget_1 : decode cX0_forget 1 = .ok (.istore_n 1, 1) := by decide +kernel
theorem dX0_forget_2 : decode cX0_forget 2 = .ok (.iload_n 1, 1) := by decide +kernel
theorem dX0_forget_3 : decode cX0_forget 3 = .ok (.bipush 16, 2) := by decide +kernel
theorem dX0_forget_5 : decode cX0_forget 5 = .ok (.if_icmp .ge 18, 3) := by decide +kernel
theorem dX0_forget_8 : decode cX0_forget 8 = .ok (.aload_n 0, 1) := by decide +kernel
theorem dX0_forget_9 : decode cX0_forget 9 = .ok (.getfield 11, 3) := by decide +kernel
theorem dX0_forget_12 : decode cX0_forget 12 = .ok (.iload_n 1, 1) := by decide +kernel
theorem dX0_forget_13 : decode cX0_forget 13 = .ok (.aaload, 1) := by decide +kernel
theorem dX0_forget_14 : decode cX0_forget 14 = .ok (.invokevirtual 28, 3) := by decide +kernel
theorem dX0_forget_17 : decode cX0_forget 17 = .ok (.iinc 1 1, 3) := by decide +kernel
theorem dX0_forget_20 : decode cX0_forget 20 = .ok (.goto (-18), 3) := by decide +kernel
theorem dX0_forget_23 : decode cX0_forget 23 = .ok (.return_, 1) := by decide +kernel
set_option maxRecDepth 20000 in
theorem ggX0_makeRounds_X0_lookAt : GoodIn wsX0_makeRounds wsX0_lookAt := goodIn_r _ [7, 8, 9, 10, 11, 12, 13, 14, 15, 16, 17, 18, 6, 19, 20, 2, 21, 22, 23, 24, 25, 26, 27, 28, 29, 30, 31, 32, 33, 34, 35, 36, 37, 38, 39, 40, 41, 42, 43, 44, 45, 46, 47, 48, 49, 50, 51, 52, 53, 54, 55, 56, 57, 58, 59, 60, 61, 62, 63, 64, 65, 66, 67, 68, 69, 70, 71, 72, 73, 74, 75, 76, 77, 78, 79, 80, 81, 82, 83, 84, 85, 86, 87, 88, 89, 90, 91, 92, 93, 94, 95, 96, 97, 98, 99, 100, 101, 102, 103, 104, 105, 106, 107, 108, 109, 110, 111, 112, 113, 114, 115, 116, 117, 118, 119, 120, 121, 122, 123, 124, 125, 126, 127, 128, 129, 130, 131, 132, 133, 134, 135, 136, 137, 138, 139, 140, 141, 142, 143, 144, 145, 146, 147, 148, 149, 150, 151, 152, 156, 157, 158, 159, 160, 161, 162, 163, 164, 165, 166, 167, 168, 169, 153, 154, 155, 170, 171, 172, 173, 174, 175, 176, 177, 178, 179] (by decide +kernel) (by decide +kernel)
set_option maxRecDepth 20000 in
theorem gX0_makeRounds_X0_lookAt : GoodIn wsX0_makeRounds (wsV RX0 38 RX0 yX0_lookAt wsX0_lookAt) := goodIn_app (goodIn_of _ (by decide +kernel)) ggX0_makeRounds_X0_lookAt
theorem dX0_makeRounds_0 : decode cX0_makeRounds 0 = .ok (.iconst 1, 1) := by decide +kernel
theorem dX0_makeRounds_1 : decode cX0_makeRounds 1 = .ok (.istore_n 3, 1) := by decide +kernel
theorem dX0_makeRounds_2 : decode cX0_makeRounds 2 = .ok (.iconst 0, 1) := by decide +kernel
theorem dX0_makeRounds_3 : decode cX0_makeRounds 3 = .ok (.istore 4, 2) := by decide +kernel
theorem dX0_makeRounds_5 : decode cX0_makeRounds 5 = .ok (.iload_n 3, 1) := by decide +kernel
theorem dX0_makeRounds_6 : decode cX0_makeRounds 6 = .ok (.ifCond .eq 49, 3) := by decide +kernel
theorem dX0_makeRounds_9 : decode cX0_makeRounds 9 = .ok (.iload 4, 2) := by decide +kernel
theorem dX0_makeRounds_11 : decode cX0_makeRounds 11 = .ok (.ldc 31, 2) := by decide +kernel
theorem dX0_makeRounds_13 : decode cX0_makeRounds 13 = .ok (.if_icmp .ge 42, 3) := by decide +kernel
theorem dX0_makeRounds_16 : decode cX0_makeRounds 16 = .ok (.iinc 4 1, 3) := by decide +kernel
theorem dX0_makeRounds_19 : decode cX0_makeRounds 19 = .ok (.iconst 0, 1) := by decide +kernel
theorem dX0_makeRounds_20 : decode cX0_makeRounds 20 = .ok (.istore_n 3, 1) := by decide +kernel
theorem dX0_makeRounds_21 : decode cX0_makeRounds 21 = .ok (.iconst 0, 1) := by decide +kernel
theorem dX0_makeRounds_22 : decode cX0_makeRounds 22 = .ok (.istore 5, 2) := by decide +kernel
theorem dX0_makeRounds_24 : decode cX0_makeRounds 24 = .ok (.iload 5, 2) := by decide +kernel
theorem dX0_makeRounds_26 : decode cX0_makeRounds 26 = .ok (.aload_n 1, 1) := by decide +kernel
theorem dX0_makeRounds_27 : decode cX0_makeRounds 27 = .ok (.getfield 32, 3) := by decide +kernel
theorem dX0_makeRounds_30 : decode cX0_makeRounds 30 = .ok (.if_icmp .ge 22, 3) := by decide +kernel
theorem dX0_makeRounds_33 : decode cX0_makeRounds 33 = .ok (.aload_n 0, 1) := by decide +kernel
theorem dX0_makeRounds_34 : decode cX0_makeRounds 34 = .ok (.aload_n 1, 1) := by decide +kernel
theorem dX0_makeRounds_35 : decode cX0_makeRounds 35 = .ok (.aload_n 2, 1) := by decide +kernel
theorem dX0_makeRounds_36 : decode cX0_makeRounds 36 = .ok (.iload 5, 2) := by decide +kernel
theorem dX0_makeRounds_38 : decode cX0_makeRounds 38 = .ok (.invokevirtual 38, 3) := by decide +kernel
theorem dX0_makeRounds_41 : decode cX0_makeRounds 41 = .ok (.ifCond .eq 5, 3) := by decide +kernel
theorem dX0_makeRounds_44 : decode cX0_makeRounds 44 = .ok (.iconst 1, 1) := by decide +kernel
theorem dX0_makeRounds_45 : decode cX0_makeRounds 45 = .ok (.istore_n 3, 1) := by decide +kernel
theorem dX0_makeRounds_46 : decode cX0_makeRounds 46 = .ok (.iinc 5 1, 3) := by decide +kernel
theorem dX0_makeRounds_49 : decode cX0_makeRounds 49 = .ok (.goto (-25), 3) := by decide +kernel
theorem dX0_makeRounds_52 : decode cX0_makeRounds 52 = .ok (.goto (-47), 3) := by decide +kernel
theorem dX0_makeRounds_55 : decode cX0_makeRounds 55 = .ok (.iload 4, 2) := by decide +kernel
theorem dX0_makeRounds_57 : decode cX0_makeRounds 57 = .ok (.ireturn, 1) := by decide +kernel
set_option maxRecDepth 20000 in
theorem ggX0_makeNarrowings_X0_narrow : GoodIn wsX0_makeNarrowings wsX0_narrow := goodIn_r _ [6, 7, 8, 9, 10, 11, 12, 13, 14, 5, 15, 16, 1, 17, 18, 19, 20, 21, 22, 23, 24, 25, 26, 27, 28, 29, 30, 31, 32, 33, 34, 35, 36, 37, 38, 39, 40, 41, 42, 43, 44, 45, 46, 47, 48, 49, 50, 51, 52, 53, 54, 55, 56, 57, 58, 59, 60, 61, 62, 63, 64, 65, 66, 67, 68, 69, 70, 71, 72, 73, 74, 75, 76, 77, 78, 79, 80, 81, 82, 83, 84, 85, 86, 87, 88, 89, 90, 91, 92, 93, 94, 95, 96, 97, 98, 99, 100, 101, 102, 103, 104, 105, 106, 107, 108, 109, 110, 111, 112, 113, 114, 115, 116, 117, 118, 119, 120, 121, 122, 123, 124, 125, 126, 127, 128, 132, 133, 134, 135, 136, 137, 138, 139, 140, 141, 129, 130, 131, 142, 143, 144, 145, 146, 147, 148, 149, 150, 151] (by decide +kernel) (by decide +kernel)
set_option maxRecDepth 20000 in
theorem gX0_makeNarrowings_X0_narrow : GoodIn wsX0_makeNarrowings (wsV RX0 42 RX0 yX0_narrow wsX0_narrow) := goodIn_app (goodIn_of _ (by decide +kernel)) ggX0_makeNarrowings_X0_narrow
theorem dX0_makeNarrowings_0 : decode cX0_makeNarrowings 0 = .ok (.iconst 0, 1) := by decide +kernel
theorem dX0_makeNarrowings_1 : decode cX0_makeNarrowings 1 = .ok (.istore_n 3, 1) := by decide +kernel
theorem dX0_makeNarrowings_2 : decode cX0_makeNarrowings 2 = .ok (.iload_n 3, 1) := by decide +kernel
theorem dX0_makeNarrowings_3 : decode cX0_makeNarrowings 3 = .ok (.iload_n 2, 1) := by decide +kernel
theorem dX0_makeNarrowings_4 : decode cX0_makeNarrowings 4 = .ok (.if_icmp .ge 34, 3) := by decide +kernel
theorem dX0_makeNarrowings_7 : decode cX0_makeNarrowings 7 = .ok (.iconst 0, 1) := by decide +kernel
theorem dX0_makeNarrowings_8 : decode cX0_makeNarrowings 8 = .ok (.istore 4, 2) := by decide +kernel
theorem dX0_makeNarrowings_10 : decode cX0_makeNarrowings 10 = .ok (.iload 4, 2) := by decide +kernel
theorem dX0_makeNarrowings_12 : decode cX0_makeNarrowings 12 = .ok (.aload_n 1, 1) := by decide +kernel
theorem dX0_makeNarrowings_13 : decode cX0_makeNarrowings 13 = .ok (.getfield 32, 3) := by decide +kernel
theorem dX0_makeNarrowings_16 : decode cX0_makeNarrowings 16 = .ok (.if_icmp .ge 16, 3) := by decide +kernel
theorem dX0_makeNarrowings_19 : decode cX0_makeNarrowings 19 = .ok (.aload_n 0, 1) := by decide +kernel
theorem dX0_makeNarrowings_20 : decode cX0_makeNarrowings 20 = .ok (.aload_n 1, 1) := by decide +kernel
theorem dX0_makeNarrowings_21 : decode cX0_makeNarrowings 21 = .ok (.iload 4, 2) := by decide +kernel
theorem dX0_makeNarrowings_23 : decode cX0_makeNarrowings 23 = .ok (.invokevirtual 42, 3) := by decide +kernel
theorem dX0_makeNarrowings_26 : decode cX0_makeNarrowings 26 = .ok (.iinc 4 1, 3) := by decide +kernel
theorem dX0_makeNarrowings_29 : decode cX0_makeNarrowings 29 = .ok (.goto (-19), 3) := by decide +kernel
theorem dX0_makeNarrowings_32 : decode cX0_makeNarrowings 32 = .ok (.iinc 3 1, 3) := by decide +kernel
theorem dX0_makeNarrowings_35 : decode cX0_makeNarrowings 35 = .ok (.goto (-33), 3) := by decide +kernel
theorem dX0_makeNarrowings_38 : decode cX0_makeNarrowings 38 = .ok (.return_, 1) := by decide +kernel
set_option maxRecDepth 20000 in
theorem ggX0_lookAt_X0_gatherIncoming : GoodIn wsX0_lookAt wsX0_gatherIncoming := goodIn_r _ [13, 1, 2, 14, 15, 8, 16, 17, 3, 18, 19, 20, 21, 22, 23, 24, 25, 26, 27, 28, 29, 30, 31, 32, 33, 34, 35, 36, 37, 38, 39, 40, 41, 148, 149, 150, 151, 152, 153, 162, 163, 164, 165, 166, 167, 168, 169, 170, 171, 172, 173, 174, 154, 155, 156, 157] (by decide +kernel) (by decide +kernel)
set_option maxRecDepth 20000 in
theorem gX0_lookAt_X0_gatherIncoming : GoodIn wsX0_lookAt (wsV RX0 46 RX0 yX0_gatherIncoming wsX0_gatherIncoming) := goodIn_app (goodIn_of _ (by decide +kernel)) ggX0_lookAt_X0_gatherIncoming
set_option maxRecDepth 20000 in
theorem ggX0_lookAt_X7_become : GoodIn wsX0_lookAt wsX7_become := goodIn_r _ [37, 24, 25, 38, 39, 40, 41, 30, 151, 152, 153] (by decide +kernel) (by decide +kernel)
set_option maxRecDepth 20000 in
theorem gX0_lookAt_X7_become : GoodIn wsX0_lookAt (wsV RX0 56 RX7 yX7_become wsX7_become) := goodIn_app (goodIn_of _ (by decide +kernel)) ggX0_lookAt_X7_become
set_option maxRecDepth 20000 in
theorem ggX0_lookAt_X7_join : GoodIn wsX0_lookAt wsX7_join := goodIn_r _ [23, 24, 25, 26, 27, 28, 29, 30, 31, 32, 33, 34, 35, 36, 22, 37, 38, 39, 40, 41, 151, 152, 153] (by decide +kernel) (by decide +kernel)
set_option maxRecDepth 20000 in
theorem gX0_lookAt_X7_join : GoodIn wsX0_lookAt (wsV RX0 60 RX7 yX7_join wsX7_join) := goodIn_app (goodIn_of _ (by decide +kernel)) ggX0_lookAt_X7_join
set_option maxRecDepth 20000 in
theorem ggX0_lookAt_X6_widen : GoodIn wsX0_lookAt wsX6_widen := goodIn_r _ [47, 48, 49, 50, 51, 52, 46, 53, 54, 55, 56, 57, 58, 59, 60, 61, 151, 152, 153, 158, 159, 160, 161] (by decide +kernel) (by decide +kernel)
set_option maxRecDepth 20000 in
theorem gX0_lookAt_X6_widen : GoodIn wsX0_lookAt (wsV RX0 71 RX6 yX6_widen wsX6_widen) := goodIn_app (goodIn_of _ (by decide +kernel)) ggX0_lookAt_X6_widen
set_option maxRecDepth 20000 in
theorem ggX0_lookAt_X7_differsFrom : GoodIn wsX0_lookAt wsX7_differsFrom := goodIn_r _ [65, 24, 25, 30, 151, 152, 153] (by decide +kernel) (by decide +kernel)
set_option maxRecDepth 20000 in
theorem gX0_lookAt_X7_differsFrom : GoodIn wsX0_lookAt (wsV RX0 75 RX7 yX7_differsFrom wsX7_differsFrom) := goodIn_app (goodIn_of _ (by decide +kernel)) ggX0_lookAt_X7_differsFrom
set_option maxRecDepth 20000 in
theorem ggX0_lookAt_X4_makeAnew : GoodIn wsX0_lookAt wsX4_makeAnew := goodIn_r _ [70, 71, 72, 73, 74, 75, 35, 36, 22, 37, 24, 25, 38, 39, 40, 41, 30, 76, 77, 78, 79, 80, 81, 82, 83, 84, 85, 86, 87, 88, 89, 90, 91, 92, 93, 94, 26, 27, 28, 29, 31, 32, 33, 95, 96, 97, 98, 99, 100, 101, 102, 103, 104, 105, 106, 107, 108, 109, 110, 111, 112, 113, 114, 115, 116, 117, 118, 119, 120, 121, 122, 123, 124, 125, 126, 127, 128, 129, 130, 131, 132, 133, 134, 135, 136, 137, 138, 139, 140, 141, 142, 143, 144, 145, 146, 147, 154, 155, 156, 157, 165, 166, 167, 168, 169, 170, 171, 172, 173, 174, 151, 152, 153] (by decide +kernel) (by decide +kernel)
set_option maxRecDepth 20000 in
theorem gX0_lookAt_X4_makeAnew : GoodIn wsX0_lookAt (wsV RX0 83 RX4 yX4_makeAnew wsX4_makeAnew) := goodIn_app (goodIn_of _ (by decide +kernel)) ggX0_lookAt_X4_makeAnew
theorem dX0_lookAt_0 : decode cX0_lookAt 0 = .ok (.aload_n 0, 1) := by decide +kernel
theorem dX0_lookAt_1 : decode cX0_lookAt 1 = .ok (.aload_n 1, 1) := by decide +kernel
theorem dX0_lookAt_2 : decode cX0_lookAt 2 = .ok (.iload_n 3, 1) := by decide +kernel
theorem dX0_lookAt_3 : decode cX0_lookAt 3 = .ok (.invokevirtual 46, 3) := by decide +kernel
theorem dX0_lookAt_6 : decode cX0_lookAt 6 = .ok (.aload_n 0, 1) := by decide +kernel
theorem dX0_lookAt_7 : decode cX0_lookAt 7 = .ok (.getfield 20, 3) := by decide +kernel
theorem dX0_lookAt_10 : decode cX0_lookAt 10 = .ok (.getfield 49, 3) := by decide +kernel
theorem dX0_lookAt_13 : decode cX0_lookAt 13 = .ok (.ifCond .eq 5, 3) := by decide +kernel
theorem dX0_lookAt_16 : decode cX0_lookAt 16 = .ok (.iconst 0, 1) := by decide +kernel
theorem dX0_lookAt_17 : decode cX0_lookAt 17 = .ok (.ireturn, 1) := by decide +kernel
theorem dX0_lookAt_18 : decode cX0_lookAt 18 = .ok (.aload_n 0, 1) := by decide +kernel
theorem dX0_lookAt_19 : decode cX0_lookAt 19 = .ok (.getfield 11, 3) := by decide +kernel
theorem dX0_lookAt_22 : decode cX0_lookAt 22 = .ok (.iload_n 3, 1) := by decide +kernel
theorem dX0_lookAt_23 : decode cX0_lookAt 23 = .ok (.aaload, 1) := by decide +kernel
theorem dX0_lookAt_24 : decode cX0_lookAt 24 = .ok (.astore 4, 2) := by decide +kernel
theorem dX0_lookAt_26 : decode cX0_lookAt 26 = .ok (.aload_n 0, 1) := by decide +kernel
theorem dX0_lookAt_27 : decode cX0_lookAt 27 = .ok (.getfield 24, 3) := by decide +kernel
theorem dX0_lookAt_30 : decode cX0_lookAt 30 = .ok (.aload 4, 2) := by decide +kernel
theorem dX0_lookAt_32 : decode cX0_lookAt 32 = .ok (.getfield 53, 3) := by decide +kernel
theorem dX0_lookAt_35 : decode cX0_lookAt 35 = .ok (.invokevirtual 56, 3) := by decide +kernel
theorem dX0_lookAt_38 : decode cX0_lookAt 38 = .ok (.aload_n 0, 1) := by decide +kernel
theorem dX0_lookAt_39 : decode cX0_lookAt 39 = .ok (.getfield 24, 3) := by decide +kernel
theorem dX0_lookAt_42 : decode cX0_lookAt 42 = .ok (.aload_n 0, 1) := by decide +kernel
theorem dX0_lookAt_43 : decode cX0_lookAt 43 = .ok (.getfield 20, 3) := by decide +kernel
theorem dX0_lookAt_46 : decode cX0_lookAt 46 = .ok (.invokevirtual 60, 3) := by decide +kernel
theorem dX0_lookAt_49 : decode cX0_lookAt 49 = .ok (.aload 4, 2) := by decide +kernel
theorem dX0_lookAt_51 : decode cX0_lookAt 51 = .ok (.getfield 53, 3) := by decide +kernel
theorem dX0_lookAt_54 : decode cX0_lookAt 54 = .ok (.getfield 49, 3) := by decide +kernel
theorem dX0_lookAt_57 : decode cX0_lookAt 57 = .ok (.ifCond .ne 28, 3) := by decide +kernel
theorem dX0_lookAt_60 : decode cX0_lookAt 60 = .ok (.aload 4, 2) := by decide +kernel
theorem dX0_lookAt_62 : decode cX0_lookAt 62 = .ok (.getfield 63, 3) := by decide +kernel
theorem dX0_lookAt_65 : decode cX0_lookAt 65 = .ok (.aload_n 2, 1) := by decide +kernel
theorem dX0_lookAt_66 : decode cX0_lookAt 66 = .ok (.getfield 66, 3) := by decide +kernel
theorem dX0_lookAt_69 : decode cX0_lookAt 69 = .ok (.if_icmp .lt 16, 3) := by decide +kernel
theorem dX0_lookAt_72 : decode cX0_lookAt 72 = .ok (.aload_n 2, 1) := by decide +kernel
theorem dX0_lookAt_73 : decode cX0_lookAt 73 = .ok (.aload_n 0, 1) := by decide +kernel
theorem dX0_lookAt_74 : decode cX0_lookAt 74 = .ok (.getfield 24, 3) := by decide +kernel
theorem dX0_lookAt_77 : decode cX0_lookAt 77 = .ok (.aload 4, 2) := by decide +kernel
theorem dX0_lookAt_79 : decode cX0_lookAt 79 = .ok (.getfield 53, 3) := by decide +kernel
theorem dX0_lookAt_82 : decode cX0_lookAt 82 = .ok (.invokevirtual 71, 3) := by decide +kernel
theorem dX0_lookAt_85 : decode cX0_lookAt 85 = .ok (.aload_n 0, 1) := by decide +kernel
theorem dX0_lookAt_86 : decode cX0_lookAt 86 = .ok (.getfield 24, 3) := by decide +kernel
theorem dX0_lookAt_89 : decode cX0_lookAt 89 = .ok (.aload 4, 2) := by decide +kernel
theorem dX0_lookAt_91 : decode cX0_lookAt 91 = .ok (.getfield 53, 3) := by decide +kernel
theorem dX0_lookAt_94 : decode cX0_lookAt 94 = .ok (.invokevirtual 75, 3) := by decide +kernel
theorem dX0_lookAt_97 : decode cX0_lookAt 97 = .ok (.ifCond .ne 5, 3) := by decide +kernel
theorem dX0_lookAt_100 : decode cX0_lookAt 100 = .ok (.iconst 0, 1) := by decide +kernel
theorem dX0_lookAt_101 : decode cX0_lookAt 101 = .ok (.ireturn, 1) := by decide +kernel
theorem dX0_lookAt_102 : decode cX0_lookAt 102 = .ok (.aload 4, 2) := by decide +kernel
theorem dX0_lookAt_104 : decode cX0_lookAt 104 = .ok (.getfield 53, 3) := by decide +kernel
theorem dX0_lookAt_107 : decode cX0_lookAt 107 = .ok (.aload_n 0, 1) := by decide +kernel
theorem dX0_lookAt_108 : decode cX0_lookAt 108 = .ok (.getfield 24, 3) := by decide +kernel
theorem dX0_lookAt_111 : decode cX0_lookAt 111 = .ok (.invokevirtual 56, 3) := by decide +kernel
theorem dX0_lookAt_114 : decode cX0_lookAt 114 = .ok (.aload 4, 2) := by decide +kernel
theorem dX0_lookAt_116 : decode cX0_lookAt 116 = .ok (.dup, 1) := by decide +kernel
theorem dX0_lookAt_117 : decode cX0_lookAt 117 = .ok (.getfield 63, 3) := by decide +kernel
theorem dX0_lookAt_120 : decode cX0_lookAt 120 = .ok (.iconst 1, 1) := by decide +kernel
theorem dX0_lookAt_121 : decode cX0_lookAt 121 = .ok (.iadd, 1) := by decide +kernel
theorem dX0_lookAt_122 : decode cX0_lookAt 122 = .ok (.putfield 63, 3) := by decide +kernel
theorem dX0_lookAt_125 : decode cX0_lookAt 125 = .ok (.aload 4, 2) := by decide +kernel
theorem dX0_lookAt_127 : decode cX0_lookAt 127 = .ok (.aload_n 1, 1) := by decide +kernel
theorem dX0_lookAt_128 : decode cX0_lookAt 128 = .ok (.getfield 79, 3) := by decide +kernel
theorem dX0_lookAt_131 : decode cX0_lookAt 131 = .ok (.iload_n 3, 1) := by decide +kernel
theorem dX0_lookAt_132 : decode cX0_lookAt 132 = .ok (.aaload, 1) := by decide +kernel
theorem dX0_lookAt_133 : decode cX0_lookAt 133 = .ok (.invokevirtual 83, 3) := by decide +kernel
theorem dX0_lookAt_136 : decode cX0_lookAt 136 = .ok (.iconst 1, 1) := by decide +kernel
theorem dX0_lookAt_137 : decode cX0_lookAt 137 = .ok (.ireturn, 1) := by decide +kernel
set_option maxRecDepth 20000 in
theorem ggX0_narrow_X0_gatherIncoming : GoodIn wsX0_narrow wsX0_gatherIncoming := goodIn_r _ [10, 4, 3, 11, 12, 5, 13, 14, 1, 15, 16, 17, 18, 19, 20, 21, 22, 23, 24, 25, 26, 27, 28, 29, 30, 31, 32, 33, 34, 35, 36, 37, 38, 125, 126, 127, 132, 133, 134, 135, 136, 137, 138, 139, 140, 141, 142, 143, 144, 145, 146, 147, 128, 129, 130, 131] (by decide +kernel) (by decide +kernel)
set_option maxRecDepth 20000 in
theorem gX0_narrow_X0_gatherIncoming : GoodIn wsX0_narrow (wsV RX0 46 RX0 yX0_gatherIncoming wsX0_gatherIncoming) := goodIn_app (goodIn_of _ (by decide +kernel)) ggX0_narrow_X0_gatherIncoming
set_option maxRecDepth 20000 in
theorem ggX0_narrow_X7_narrowTo : GoodIn wsX0_narrow wsX7_narrowTo := goodIn_r _ [42, 21, 22, 28, 29, 25, 30, 27, 23, 24, 26, 132, 133, 134] (by decide +kernel) (by decide +kernel)
set_option maxRecDepth 20000 in
theorem gX0_narrow_X7_narrowTo : GoodIn wsX0_narrow (wsV RX0 87 RX7 yX7_narrowTo wsX7_narrowTo) := goodIn_app (goodIn_of _ (by decide +kernel)) ggX0_narrow_X7_narrowTo
set_option maxRecDepth 20000 in
theorem ggX0_narrow_X4_makeAnew : GoodIn wsX0_narrow wsX4_makeAnew := goodIn_r _ [47, 48, 49, 50, 51, 52, 32, 33, 19, 34, 21, 22, 35, 36, 37, 38, 27, 53, 54, 55, 56, 57, 58, 59, 60, 61, 62, 63, 64, 65, 66, 67, 68, 69, 70, 71, 23, 24, 25, 26, 28, 29, 30, 72, 73, 74, 75, 76, 77, 78, 79, 80, 81, 82, 83, 84, 85, 86, 87, 88, 89, 90, 91, 92, 93, 94, 95, 96, 97, 98, 99, 100, 101, 102, 103, 104, 105, 106, 107, 108, 109, 110, 111, 112, 113, 114, 115, 116, 117, 118, 119, 120, 121, 122, 123, 124, 128, 129, 130, 131, 138, 139, 140, 141, 142, 143, 144, 145, 146, 147, 132, 133, 134] (by decide +kernel) (by decide +kernel)
set_option maxRecDepth 20000 in
theorem gX0_narrow_X4_makeAnew : GoodIn wsX0_narrow (wsV RX0 83 RX4 yX4_makeAnew wsX4_makeAnew) := goodIn_app (goodIn_of _ (by decide +kernel)) ggX0_narrow_X4_makeAnew
theorem dX0_narrow_0 : decode cX0_narrow 0 = .ok (.aload_n 0, 1) := by decide +kernel
theorem dX0_narrow_1 : decode cX0_narrow 1 = .ok (.getfield 11, 3) := by decide +kernel
theorem dX0_narrow_4 : decode cX0_narrow 4 = .ok (.iload_n 2, 1) := by decide +kernel
theorem dX0_narrow_5 : decode cX0_narrow 5 = .ok (.aaload, 1) := by decide +kernel
theorem dX0_narrow_6 : decode cX0_narrow 6 = .ok (.astore_n 3, 1) := by decide +kernel
theorem dX0_narrow_7 : decode cX0_narrow 7 = .ok (.aload_n 3, 1) := by decide +kernel
theorem dX0_narrow_8 : decode cX0_narrow 8 = .ok (.getfield 53, 3) := by decide +kernel
theorem dX0_narrow_11 : decode cX0_narrow 11 = .ok (.getfield 49, 3) := by decide +kernel
theorem dX0_narrow_14 : decode cX0_narrow 14 = .ok (.ifCond .eq 4, 3) := by decide +kernel
theorem dX0_narrow_17 : decode cX0_narrow 17 = .ok (.return_, 1) := by decide +kernel
theorem dX0_narrow_18 : decode cX0_narrow 18 = .ok (.aload_n 0, 1) := by decide +kernel
theorem dX0_narrow_19 : decode cX0_narrow 19 = .ok (.aload_n 1, 1) := by decide +kernel
theorem dX0_narrow_20 : decode cX0_narrow 20 = .ok (.iload_n 2, 1) := by decide +kernel
theorem dX0_narrow_21 : decode cX0_narrow 21 = .ok (.invokevirtual 46, 3) := by decide +kernel
theorem dX0_narrow_24 : decode cX0_narrow 24 = .ok (.aload_n 3, 1) := by decide +kernel
theorem dX0_narrow_25 : decode cX0_narrow 25 = .ok (.getfield 53, 3) := by decide +kernel
theorem dX0_narrow_28 : decode cX0_narrow 28 = .ok (.aload_n 0, 1) := by decide +kernel
theorem dX0_narrow_29 : decode cX0_narrow 29 = .ok (.getfield 20, 3) := by decide +kernel
theorem dX0_narrow_32 : decode cX0_narrow 32 = .ok (.invokevirtual 87, 3) := by decide +kernel
theorem dX0_narrow_35 : decode cX0_narrow 35 = .ok (.aload_n 3, 1) := by decide +kernel
theorem dX0_narrow_36 : decode cX0_narrow 36 = .ok (.aload_n 1, 1) := by decide +kernel
theorem dX0_narrow_37 : decode cX0_narrow 37 = .ok (.getfield 79, 3) := by decide +kernel
theorem dX0_narrow_40 : decode cX0_narrow 40 = .ok (.iload_n 2, 1) := by decide +kernel
theorem dX0_narrow_41 : decode cX0_narrow 41 = .ok (.aaload, 1) := by decide +kernel
theorem dX0_narrow_42 : decode cX0_narrow 42 = .ok (.invokevirtual 83, 3) := by decide +kernel
theorem dX0_narrow_45 : decode cX0_narrow 45 = .ok (.return_, 1) := by decide +kernel
set_option maxRecDepth 20000 in
theorem ggX0_gatherIncoming_X7_join : GoodIn wsX0_gatherIncoming wsX7_join := goodIn_r _ [14, 15, 16, 17, 18, 19, 20, 21, 22, 23, 24, 25, 26, 27, 13, 28, 29, 30, 31, 32, 36, 37, 38] (by decide +kernel) (by decide +kernel)
set_option maxRecDepth 20000 in
theorem gX0_gatherIncoming_X7_join : GoodIn wsX0_gatherIncoming (wsV RX0 60 RX7 yX7_join wsX7_join) := goodIn_app (goodIn_of _ (by decide +kernel)) ggX0_gatherIncoming_X7_join
theorem dX0_gatherIncoming_0 : decode cX0_gatherIncoming 0 = .ok (.aload_n 0, 1) := by decide +kernel
theorem dX0_gatherIncoming_1 : decode cX0_gatherIncoming 1 = .ok (.getfield 20, 3) := by decide +kernel
theorem dX0_gatherIncoming_4 : decode cX0_gatherIncoming 4 = .ok (.iconst 1, 1) := by decide +kernel
theorem dX0_gatherIncoming_5 : decode cX0_gatherIncoming 5 = .ok (.putfield 49, 3) := by decide +kernel
theorem dX0_gatherIncoming_8 : decode cX0_gatherIncoming 8 = .ok (.iload_n 2, 1) := by decide +kernel
theorem dX0_gatherIncoming_9 : decode cX0_gatherIncoming 9 = .ok (.ifCond .ne 14, 3) := by decide +kernel
theorem dX0_gatherIncoming_12 : decode cX0_gatherIncoming 12 = .ok (.aload_n 0, 1) := by decide +kernel
theorem dX0_gatherIncoming_13 : decode cX0_gatherIncoming 13 = .ok (.getfield 20, 3) := by decide +kernel
theorem dX0_gatherIncoming_16 : decode cX0_gatherIncoming 16 = .ok (.aload_n 1, 1) := by decide +kernel
theorem dX0_gatherIncoming_17 : decode cX0_gatherIncoming 17 = .ok (.getfield 90, 3) := by decide +kernel
theorem dX0_gatherIncoming_20 : decode cX0_gatherIncoming 20 = .ok (.invokevirtual 60, 3) := by decide +kernel
theorem dX0_gatherIncoming_23 : decode cX0_gatherIncoming 23 = .ok (.iconst 0, 1) := by decide +kernel
theorem dX0_gatherIncoming_24 : decode cX0_gatherIncoming 24 = .ok (.istore_n 3, 1) := by decide +kernel
theorem dX0_gatherIncoming_25 : decode cX0_gatherIncoming 25 = .ok (.iload_n 3, 1) := by decide +kernel
theorem dX0_gatherIncoming_26 : decode cX0_gatherIncoming 26 = .ok (.aload_n 1, 1) := by decide +kernel
theorem dX0_gatherIncoming_27 : decode cX0_gatherIncoming 27 = .ok (.getfield 32, 3) := by decide +kernel
theorem dX0_gatherIncoming_30 : decode cX0_gatherIncoming 30 = .ok (.if_icmp .ge 67, 3) := by decide +kernel
theorem dX0_gatherIncoming_33 : decode cX0_gatherIncoming 33 = .ok (.aload_n 1, 1) := by decide +kernel
theorem dX0_gatherIncoming_34 : decode cX0_gatherIncoming 34 = .ok (.getfield 79, 3) := by decide +kernel
theorem dX0_gatherIncoming_37 : decode cX0_gatherIncoming 37 = .ok (.iload_n 3, 1) := by decide +kernel
theorem dX0_gatherIncoming_38 : decode cX0_gatherIncoming 38 = .ok (.aaload, 1) := by decide +kernel
theorem dX0_gatherIncoming_39 : decode cX0_gatherIncoming 39 = .ok (.astore 4, 2) := by decide +kernel
theorem dX0_gatherIncoming_41 : decode cX0_gatherIncoming 41 = .ok (.iconst 0, 1) := by decide +kernel
theorem dX0_gatherIncoming_42 : decode cX0_gatherIncoming 42 = .ok (.istore 5, 2) := by decide +kernel
theorem dX0_gatherIncoming_44 : decode cX0_gatherIncoming 44 = .ok (.iload 5, 2) := by decide +kernel
theorem dX0_gatherIncoming_46 : decode cX0_gatherIncoming 46 = .ok (.aload 4, 2) := by decide +kernel
theorem dX0_gatherIncoming_48 : decode cX0_gatherIncoming 48 = .ok (.getfield 93, 3) := by decide +kernel
theorem dX0_gatherIncoming_51 : decode cX0_gatherIncoming 51 = .ok (.if_icmp .ge 40, 3) := by decide +kernel
theorem dX0_gatherIncoming_54 : decode cX0_gatherIncoming 54 = .ok (.aload 4, 2) := by decide +kernel
theorem dX0_gatherIncoming_56 : decode cX0_gatherIncoming 56 = .ok (.getfield 98, 3) := by decide +kernel
theorem dX0_gatherIncoming_59 : decode cX0_gatherIncoming 59 = .ok (.iload 5, 2) := by decide +kernel
theorem dX0_gatherIncoming_61 : decode cX0_gatherIncoming 61 = .ok (.iaload, 1) := by decide +kernel
theorem dX0_gatherIncoming_62 : decode cX0_gatherIncoming 62 = .ok (.iload_n 2, 1) := by decide +kernel
theorem dX0_gatherIncoming_63 : decode cX0_gatherIncoming 63 = .ok (.if_icmp .ne 22, 3) := by decide +kernel
theorem dX0_gatherIncoming_66 : decode cX0_gatherIncoming 66 = .ok (.aload_n 0, 1) := by decide +kernel
theorem dX0_gatherIncoming_67 : decode cX0_gatherIncoming 67 = .ok (.getfield 20, 3) := by decide +kernel
theorem dX0_gatherIncoming_70 : decode cX0_gatherIncoming 70 = .ok (.aload_n 0, 1) := by decide +kernel
theorem dX0_gatherIncoming_71 : decode cX0_gatherIncoming 71 = .ok (.getfield 11, 3) := by decide +kernel
theorem dX0_gatherIncoming_74 : decode cX0_gatherIncoming 74 = .ok (.iload_n 3, 1) := by decide +kernel
theorem dX0_gatherIncoming_75 : decode cX0_gatherIncoming 75 = .ok (.aaload, 1) := by decide +kernel
theorem dX0_gatherIncoming_76 : decode cX0_gatherIncoming 76 = .ok (.getfield 102, 3) := by decide +kernel
theorem dX0_gatherIncoming_79 : decode cX0_gatherIncoming 79 = .ok (.iload 5, 2) := by decide +kernel
theorem dX0_gatherIncoming_81 : decode cX0_gatherIncoming 81 = .ok (.aaload, 1) := by decide +kernel
theorem dX0_gatherIncoming_82 : decode cX0_gatherIncoming 82 = .ok (.invokevirtual 60, 3) := by decide +kernel
theorem dX0_gatherIncoming_85 : decode cX0_gatherIncoming 85 = .ok (.iinc 5 1, 3) := by decide +kernel
theorem dX0_gatherIncoming_88 : decode cX0_gatherIncoming 88 = .ok (.goto (-44), 3) := by decide +kernel
theorem dX0_gatherIncoming_91 : decode cX0_gatherIncoming 91 = .ok (.iinc 3 1, 3) := by decide +kernel
theorem dX0_gatherIncoming_94 : decode cX0_gatherIncoming 94 = .ok (.goto (-69), 3) := by decide +kernel
theorem dX0_gatherIncoming_97 : decode cX0_gatherIncoming 97 = .ok (.return_, 1) := by decide +kernel
theorem dX1_outcome_0 : decode cX1_outcome 0 = .ok (.iload_n 0, 1) := by decide +kernel
theorem dX1_outcome_1 : decode cX1_outcome 1 = .ok (.tableswitch 82 1 5 #[35, 44, 53, 62, 72], 35) := by decide +kernel
theorem dX1_outcome_36 : decode cX1_outcome 36 = .ok (.iload_n 1, 1) := by decide +kernel
theorem dX1_outcome_37 : decode cX1_outcome 37 = .ok (.i2l, 1) := by decide +kernel
theorem dX1_outcome_38 : decode cX1_outcome 38 = .ok (.iload_n 2, 1) := by decide +kernel
theorem dX1_outcome_39 : decode cX1_outcome 39 = .ok (.i2l, 1) := by decide +kernel
theorem dX1_outcome_40 : decode cX1_outcome 40 = .ok (.ladd, 1) := by decide +kernel
theorem dX1_outcome_41 : decode cX1_outcome 41 = .ok (.lstore_n 3, 1) := by decide +kernel
theorem dX1_outcome_42 : decode cX1_outcome 42 = .ok (.goto 44, 3) := by decide +kernel
theorem dX1_outcome_45 : decode cX1_outcome 45 = .ok (.iload_n 1, 1) := by decide +kernel
theorem dX1_outcome_46 : decode cX1_outcome 46 = .ok (.i2l, 1) := by decide +kernel
theorem dX1_outcome_47 : decode cX1_outcome 47 = .ok (.iload_n 2, 1) := by decide +kernel
theorem dX1_outcome_48 : decode cX1_outcome 48 = .ok (.i2l, 1) := by decide +kernel
theorem dX1_outcome_49 : decode cX1_outcome 49 = .ok (.lsub, 1) := by decide +kernel
theorem dX1_outcome_50 : decode cX1_outcome 50 = .ok (.lstore_n 3, 1) := by decide +kernel
theorem dX1_outcome_51 : decode cX1_outcome 51 = .ok (.goto 35, 3) := by decide +kernel
theorem dX1_outcome_54 : decode cX1_outcome 54 = .ok (.iload_n 1, 1) := by decide +kernel
theorem dX1_outcome_55 : decode cX1_outcome 55 = .ok (.i2l, 1) := by decide +kernel
theorem dX1_outcome_56 : decode cX1_outcome 56 = .ok (.iload_n 2, 1) := by decide +kernel
theorem dX1_outcome_57 : decode cX1_outcome 57 = .ok (.i2l, 1) := by decide +kernel
theorem dX1_outcome_58 : decode cX1_outcome 58 = .ok (.lmul, 1) := by decide +kernel
theorem dX1_outcome_59 : decode cX1_outcome 59 = .ok (.lstore_n 3, 1) := by decide +kernel
theorem dX1_outcome_60 : decode cX1_outcome 60 = .ok (.goto 26, 3) := by decide +kernel
theorem dX1_outcome_63 : decode cX1_outcome 63 = .ok (.iload_n 1, 1) := by decide +kernel
theorem dX1_outcome_64 : decode cX1_outcome 64 = .ok (.iload_n 2, 1) := by decide +kernel
theorem dX1_outcome_65 : decode cX1_outcome 65 = .ok (.invokestatic 9, 3) := by decide +kernel
theorem dX1_outcome_68 : decode cX1_outcome 68 = .ok (.i2l, 1) := by decide +kernel
theorem dX1_outcome_69 : decode cX1_outcome 69 = .ok (.lstore_n 3, 1) := by decide +kernel
theorem dX1_outcome_70 : decode cX1_outcome 70 = .ok (.goto 16, 3) := by decide +kernel
theorem dX1_outcome_73 : decode cX1_outcome 73 = .ok (.iload_n 1, 1) := by decide +kernel
theorem dX1_outcome_74 : decode cX1_outcome 74 = .ok (.iload_n 2, 1) := by decide +kernel
theorem dX1_outcome_75 : decode cX1_outcome 75 = .ok (.invokestatic 15, 3) := by decide +kernel
theorem dX1_outcome_78 : decode cX1_outcome 78 = .ok (.i2l, 1) := by decide +kernel
theorem dX1_outcome_79 : decode cX1_outcome 79 = .ok (.lstore_n 3, 1) := by decide +kernel
theorem dX1_outcome_80 : decode cX1_outcome 80 = .ok (.goto 6, 3) := by decide +kernel
theorem dX1_outcome_83 : decode cX1_outcome 83 = .ok (.iload_n 1, 1) := by decide +kernel
theorem dX1_outcome_84 : decode cX1_outcome 84 = .ok (.i2l, 1) := by decide +kernel
theorem dX1_outcome_85 : decode cX1_outcome 85 = .ok (.lstore_n 3, 1) := by decide +kernel
theorem dX1_outcome_86 : decode cX1_outcome 86 = .ok (.ldc2_w 18, 3) := by decide +kernel
theorem dX1_outcome_89 : decode cX1_outcome 89 = .ok (.ldc2_w 20, 3) := by decide +kernel
theorem dX1_outcome_92 : decode cX1_outcome 92 = .ok (.lload_n 3, 1) := by decide +kernel
theorem dX1_outcome_93 : decode cX1_outcome 93 = .ok (.invokestatic 22, 3) := by decide +kernel
theorem dX1_outcome_96 : decode cX1_outcome 96 = .ok (.invokestatic 25, 3) := by decide +kernel
theorem dX1_outcome_99 : decode cX1_outcome 99 = .ok (.l2i, 1) := by decide +kernel
theorem dX1_outcome_100 : decode cX1_outcome 100 = .ok (.ireturn, 1) := by decide +kernel
theorem dX1_isTrue_0 : decode cX1_isTrue 0 = .ok (.iload_n 1, 1) := by decide +kernel
theorem dX1_isTrue_1 : decode cX1_isTrue 1 = .ok (.tableswitch 60 0 2 #[27, 38, 49], 27) := by decide +kernel
theorem dX1_isTrue_28 : decode cX1_isTrue 28 = .ok (.iload_n 0, 1) := by decide +kernel
theorem dX1_isTrue_29 : decode cX1_isTrue 29 = .ok (.iload_n 2, 1) := by decide +kernel
theorem dX1_isTrue_30 : decode cX1_isTrue 30 = .ok (.if_icmp .ge 7, 3) := by decide +kernel
theorem dX1_isTrue_33 : decode cX1_isTrue 33 = .ok (.iconst 1, 1) := by decide +kernel
theorem dX1_isTrue_34 : decode cX1_isTrue 34 = .ok (.goto 4, 3) := by decide +kernel
theorem dX1_isTrue_37 : decode cX1_isTrue 37 = .ok (.iconst 0, 1) := by decide +kernel
theorem dX1_isTrue_38 : decode cX1_isTrue 38 = .ok (.ireturn, 1) := by decide +kernel
theorem dX1_isTrue_39 : decode cX1_isTrue 39 = .ok (.iload_n 0, 1) := by decide +kernel
theorem dX1_isTrue_40 : decode cX1_isTrue 40 = .ok (.iload_n 2, 1) := by decide +kernel
theorem dX1_isTrue_41 : decode cX1_isTrue 41 = .ok (.if_icmp .gt 7, 3) := by decide +kernel
theorem dX1_isTrue_44 : decode cX1_isTrue 44 = .ok (.iconst 1, 1) := by decide +kernel
theorem dX1_isTrue_45 : decode cX1_isTrue 45 = .ok (.goto 4, 3) := by decide +kernel
theorem dX1_isTrue_48 : decode cX1_isTrue 48 = .ok (.iconst 0, 1) := by decide +kernel
theorem dX1_isTrue_49 : decode cX1_isTrue 49 = .ok (.ireturn, 1) := by decide +kernel
theorem dX1_isTrue_50 : decode cX1_isTrue 50 = .ok (.iload_n 0, 1) := by decide +kernel
theorem dX1_isTrue_51 : decode cX1_isTrue 51 = .ok (.iload_n 2, 1) := by decide +kernel
theorem dX1_isTrue_52 : decode cX1_isTrue 52 = .ok (.if_icmp .ne 7, 3) := by decide +kernel
theorem dX1_isTrue_55 : decode cX1_isTrue 55 = .ok (.iconst 1, 1) := by decide +kernel
theorem dX1_isTrue_56 : decode cX1_isTrue 56 = .ok (.goto 4, 3) := by decide +kernel
theorem dX1_isTrue_59 : decode cX1_isTrue 59 = .ok (.iconst 0, 1) := by decide +kernel
theorem dX1_isTrue_60 : decode cX1_isTrue 60 = .ok (.ireturn, 1) := by decide +kernel
theorem dX1_isTrue_61 : decode cX1_isTrue 61 = .ok (.iload_n 0, 1) := by decide +kernel
theorem dX1_isTrue_62 : decode cX1_isTrue 62 = .ok (.iload_n 2, 1) := by decide +kernel
theorem dX1_isTrue_63 : decode cX1_isTrue 63 = .ok (.if_icmp .eq 7, 3) := by decide +kernel
theorem dX1_isTrue_66 : decode cX1_isTrue 66 = .ok (.iconst 1, 1) := by decide +kernel
theorem dX1_isTrue_67 : decode cX1_isTrue 67 = .ok (.goto 4, 3) := by decide +kernel
theorem dX1_isTrue_70 : decode cX1_isTrue 70 = .ok (.iconst 0, 1) := by decide +kernel
theorem dX1_isTrue_71 : decode cX1_isTrue 71 = .ok (.ireturn, 1) := by decide +kernel
theorem dX1_oppositeOfSwapped_0 : decode cX1_oppositeOfSwapped 0 = .ok (.iload_n 0, 1) := by decide +kernel
theorem dX1_oppositeOfSwapped_1 : decode cX1_oppositeOfSwapped 1 = .ok (.tableswitch 33 0 2 #[27, 29, 31], 27) := by decide +kernel
theorem dX1_oppositeOfSwapped_28 : decode cX1_oppositeOfSwapped 28 = .ok (.iconst 1, 1) := by decide +kernel
theorem dX1_oppositeOfSwapped_29 : decode cX1_oppositeOfSwapped 29 = .ok (.ireturn, 1) := by decide +kernel
theorem dX1_oppositeOfSwapped_30 : decode cX1_oppositeOfSwapped 30 = .ok (.iconst 0, 1) := by decide +kernel
theorem dX1_oppositeOfSwapped_31 : decode cX1_oppositeOfSwapped 31 = .ok (.ireturn, 1) := by decide +kernel
theorem dX1_oppositeOfSwapped_32 : decode cX1_oppositeOfSwapped 32 = .ok (.iconst 3, 1) := by decide +kernel
theorem dX1_oppositeOfSwapped_33 : decode cX1_oppositeOfSwapped 33 = .ok (.ireturn, 1) := by decide +kernel
theorem dX1_oppositeOfSwapped_34 : decode cX1_oppositeOfSwapped 34 = .ok (.iconst 2, 1) := by decide +kernel
theorem dX1_oppositeOfSwapped_35 : decode cX1_oppositeOfSwapped 35 = .ok (.ireturn, 1) := by decide +kernel
theorem dX2_init_0 : decode cX2_init 0 = .ok (.aload_n 0, 1) := by decide +kernel
theorem dX2_init_1 : decode cX2_init 1 = .ok (.invokespecial 3, 3) := by decide +kernel
theorem dX2_init_4 : decode cX2_init 4 = .ok (.aload_n 0, 1) := by decide +kernel
theorem dX2_init_5 : decode cX2_init 5 = .ok (.iconst 0, 1) := by decide +kernel
theorem dX2_init_6 : decode cX2_init 6 = .ok (.putfield 9, 3) := by decide +kernel
theorem dX2_init_9 : decode cX2_init 9 = .ok (.aload_n 0, 1) := by decide +kernel
theorem dX2_init_10 : decode cX2_init 10 = .ok (.bipush 8, 2) := by decide +kernel
theorem dX2_init_12 : decode cX2_init 12 = .ok (.newarray .int, 2) := by decide +kernel
theorem dX2_init_14 : decode cX2_init 14 = .ok (.putfield 15, 3) := by decide +kernel
theorem dX2_init_17 : decode cX2_init 17 = .ok (.aload_n 0, 1) := by decide +kernel
theorem dX2_init_18 : decode cX2_init 18 = .ok (.bipush 8, 2) := by decide +kernel
theorem dX2_init_20 : decode cX2_init 20 = .ok (.newarray .int, 2) := by decide +kernel
theorem dX2_init_22 : decode cX2_init 22 = .ok (.putfield 19, 3) := by decide +kernel
theorem dX2_init_25 : decode cX2_init 25 = .ok (.aload_n 0, 1) := by decide +kernel
theorem dX2_init_26 : decode cX2_init 26 = .ok (.bipush 8, 2) := by decide +kernel
theorem dX2_init_28 : decode cX2_init 28 = .ok (.newarray .int, 2) := by decide +kernel
theorem dX2_init_30 : decode cX2_init 30 = .ok (.putfield 22, 3) := by decide +kernel
theorem dX2_init_33 : decode cX2_init 33 = .ok (.aload_n 0, 1) := by decide +kernel
theorem dX2_init_34 : decode cX2_init 34 = .ok (.bipush 8, 2) := by decide +kernel
theorem dX2_init_36 : decode cX2_init 36 = .ok (.newarray .int, 2) := by decide +kernel
theorem dX2_init_38 : decode cX2_init 38 = .ok (.putfield 25, 3) := by decide +kernel
theorem dX2_init_41 : decode cX2_init 41 = .ok (.aload_n 0, 1) := by decide +kernel
theorem dX2_init_42 : decode cX2_init 42 = .ok (.iconst 0, 1) := by decide +kernel
theorem dX2_init_43 : decode cX2_init 43 = .ok (.putfield 28, 3) := by decide +kernel
theorem dX2_init_46 : decode cX2_init 46 = .ok (.aload_n 0, 1) := by decide +kernel
theorem dX2_init_47 : decode cX2_init 47 = .ok (.iconst 2, 1) := by decide +kernel
theorem dX2_init_48 : decode cX2_init 48 = .ok (.newarray .int, 2) := by decide +kernel
theorem dX2_init_50 : decode cX2_init 50 = .ok (.putfield 31, 3) := by decide +kernel
theorem dX2_init_53 : decode cX2_init 53 = .ok (.aload_n 0, 1) := by decide +kernel
theorem dX2_init_54 : decode cX2_init 54 = .ok (.iconst 0, 1) := by decide +kernel
theorem dX2_init_55 : decode cX2_init 55 = .ok (.putfield 34, 3) := by decide +kernel
theorem dX2_init_58 : decode cX2_init 58 = .ok (.aload_n 0, 1) := by decide +kernel
theorem dX2_init_59 : decode cX2_init 59 = .ok (.iconst 0, 1) := by decide +kernel
theorem dX2_init_60 : decode cX2_init 60 = .ok (.putfield 37, 3) := by decide +kernel
theorem dX2_init_63 : decode cX2_init 63 = .ok (.aload_n 0, 1) := by decide +kernel
theorem dX2_init_64 : decode cX2_init 64 = .ok (.iconst 0, 1) := by decide +kernel
theorem dX2_init_65 : decode cX2_init 65 = .ok (.putfield 40, 3) := by decide +kernel
theorem dX2_init_68 : decode cX2_init 68 = .ok (.return_, 1) := by decide +kernel
theorem dX2_append_0 : decode cX2_append 0 = .ok (.aload_n 0, 1) := by decide +kernel
theorem dX2_append_1 : decode cX2_append 1 = .ok (.getfield 9, 3) := by decide +kernel
theorem dX2_append_4 : decode cX2_append 4 = .ok (.istore 5, 2) := by decide +kernel
theorem dX2_append_6 : decode cX2_append 6 = .ok (.iload 5, 2) := by decide +kernel
theorem dX2_append_8 : decode cX2_append 8 = .ok (.bipush 8, 2) := by decide +kernel
theorem dX2_append_10 : decode cX2_append 10 = .ok (.if_icmp .ge 44, 3) := by decide +kernel
theorem dX2_append_13 : decode cX2_append 13 = .ok (.aload_n 0, 1) := by decide +kernel
theorem dX2_append_14 : decode cX2_append 14 = .ok (.getfield 15, 3) := by decide +kernel
theorem dX2_append_17 : decode cX2_append 17 = .ok (.iload 5, 2) := by decide +kernel
theorem dX2_append_19 : decode cX2_append 19 = .ok (.iload_n 1, 1) := by decide +kernel
theorem dX2_append_20 : decode cX2_append 20 = .ok (.iastore, 1) := by decide +kernel
theorem dX2_append_21 : decode cX2_append 21 = .ok (.aload_n 0, 1) := by decide +kernel
theorem dX2_append_22 : decode cX2_append 22 = .ok (.getfield 19, 3) := by decide +kernel
theorem dX2_append_25 : decode cX2_append 25 = .ok (.iload 5, 2) := by decide +kernel
theorem dX2_append_27 : decode cX2_append 27 = .ok (.iload_n 2, 1) := by decide +kernel
theorem dX2_append_28 : decode cX2_append 28 = .ok (.iastore, 1) := by decide +kernel
theorem dX2_append_29 : decode cX2_append 29 = .ok (.aload_n 0, 1) := by decide +kernel
theorem dX2_append_30 : decode cX2_append 30 = .ok (.getfield 22, 3) := by decide +kernel
theorem dX2_append_33 : decode cX2_append 33 = .ok (.iload 5, 2) := by decide +kernel
theorem dX2_append_35 : decode cX2_append 35 = .ok (.iload_n 3, 1) := by decide +kernel
theorem dX2_append_36 : decode cX2_append 36 = .ok (.iastore, 1) := by decide +kernel
theorem dX2_append_37 : decode cX2_append 37 = .ok (.aload_n 0, 1) := by decide +kernel
theorem dX2_append_38 : decode cX2_append 38 = .ok (.getfield 25, 3) := by decide +kernel
theorem dX2_append_41 : decode cX2_append 41 = .ok (.iload 5, 2) := by decide +kernel
theorem dX2_append_43 : decode cX2_append 43 = .ok (.iload 4, 2) := by decide +kernel
theorem dX2_append_45 : decode cX2_append 45 = .ok (.iastore, 1) := by decide +kernel
theorem dX2_append_46 : decode cX2_append 46 = .ok (.aload_n 0, 1) := by decide +kernel
theorem dX2_append_47 : decode cX2_append 47 = .ok (.iload 5, 2) := by decide +kernel
theorem dX2_append_49 : decode cX2_append 49 = .ok (.iconst 1, 1) := by decide +kernel
theorem dX2_append_50 : decode cX2_append 50 = .ok (.iadd, 1) := by decide +kernel
theorem dX2_append_51 : decode cX2_append 51 = .ok (.putfield 9, 3) := by decide +kernel
theorem dX2_append_54 : decode cX2_append 54 = .ok (.aload_n 0, 1) := by decide +kernel
theorem dX2_append_55 : decode cX2_append 55 = .ok (.getfield 9, 3) := by decide +kernel
theorem dX2_append_58 : decode cX2_append 58 = .ok (.ireturn, 1) := by decide +kernel
theorem dX2_endWithJump_0 : decode cX2_endWithJump 0 = .ok (.aload_n 0, 1) := by decide +kernel
theorem dX2_endWithJump_1 : decode cX2_endWithJump 1 = .ok (.iconst 1, 1) := by decide +kernel
theorem dX2_endWithJump_2 : decode cX2_endWithJump 2 = .ok (.putfield 28, 3) := by decide +kernel
theorem dX2_endWithJump_5 : decode cX2_endWithJump 5 = .ok (.aload_n 0, 1) := by decide +kernel
theorem dX2_endWithJump_6 : decode cX2_endWithJump 6 = .ok (.getfield 31, 3) := by decide +kernel
theorem dX2_endWithJump_9 : decode cX2_endWithJump 9 = .ok (.iconst 0, 1) := by decide +kernel
theorem dX2_endWithJump_10 : decode cX2_endWithJump 10 = .ok (.iload_n 1, 1) := by decide +kernel
theorem dX2_endWithJump_11 : decode cX2_endWithJump 11 = .ok (.iastore, 1) := by decide +kernel
theorem dX2_endWithJump_12 : decode cX2_endWithJump 12 = .ok (.return_, 1) := by decide +kernel
theorem dX2_endWithBranch_0 : decode cX2_endWithBranch 0 = .ok (.aload_n 0, 1) := by decide +kernel
theorem dX2_endWithBranch_1 : decode cX2_endWithBranch 1 = .ok (.iconst 2, 1) := by decide +kernel
theorem dX2_endWithBranch_2 : decode cX2_endWithBranch 2 = .ok (.putfield 28, 3) := by decide +kernel
theorem dX2_endWithBranch_5 : decode cX2_endWithBranch 5 = .ok (.aload_n 0, 1) := by decide +kernel
theorem dX2_endWithBranch_6 : decode cX2_endWithBranch 6 = .ok (.iload_n 1, 1) := by decide +kernel
theorem dX2_endWithBranch_7 : decode cX2_endWithBranch 7 = .ok (.putfield 34, 3) := by decide +kernel
theorem dX2_endWithBranch_10 : decode cX2_endWithBranch 10 = .ok (.aload_n 0, 1) := by decide +kernel
theorem dX2_endWithBranch_11 : decode cX2_endWithBranch 11 = .ok (.iload_n 2, 1) := by decide +kernel
theorem dX2_endWithBranch_12 : decode cX2_endWithBranch 12 = .ok (.putfield 40, 3) := by decide +kernel
theorem dX2_endWithBranch_15 : decode cX2_endWithBranch 15 = .ok (.aload_n 0, 1) := by decide +kernel
theorem dX2_endWithBranch_16 : decode cX2_endWithBranch 16 = .ok (.iload_n 3, 1) := by decide +kernel
theorem dX2_endWithBranch_17 : decode cX2_endWithBranch 17 = .ok (.putfield 37, 3) := by decide +kernel
theorem dX2_endWithBranch_20 : decode cX2_endWithBranch 20 = .ok (.aload_n 0, 1) := by decide +kernel
theorem dX2_endWithBranch_21 : decode cX2_endWithBranch 21 = .ok (.getfield 31, 3) := by decide +kernel
theorem dX2_endWithBranch_24 : decode cX2_endWithBranch 24 = .ok (.iconst 0, 1) := by decide +kernel
theorem dX2_endWithBranch_25 : decode cX2_endWithBranch 25 = .ok (.iload 4, 2) := by decide +kernel
theorem dX2_endWithBranch_27 : decode cX2_endWithBranch 27 = .ok (.iastore, 1) := by decide +kernel
theorem dX2_endWithBranch_28 : decode cX2_endWithBranch 28 = .ok (.aload_n 0, 1) := by decide +kernel
theorem dX2_endWithBranch_29 : decode cX2_endWithBranch 29 = .ok (.getfield 31, 3) := by decide +kernel
theorem dX2_endWithBranch_32 : decode cX2_endWithBranch 32 = .ok (.iconst 1, 1) := by decide +kernel
theorem dX2_endWithBranch_33 : decode cX2_endWithBranch 33 = .ok (.iload 5, 2) := by decide +kernel
theorem dX2_endWithBranch_35 : decode cX2_endWithBranch 35 = .ok (.iastore, 1) := by decide +kernel
theorem dX2_endWithBranch_36 : decode cX2_endWithBranch 36 = .ok (.return_, 1) := by decide +kernel
theorem dX2_makeEmpty_0 : decode cX2_makeEmpty 0 = .ok (.aload_n 0, 1) := by decide +kernel
theorem dX2_makeEmpty_1 : decode cX2_makeEmpty 1 = .ok (.iconst 0, 1) := by decide +kernel
theorem dX2_makeEmpty_2 : decode cX2_makeEmpty 2 = .ok (.putfield 9, 3) := by decide +kernel
theorem dX2_makeEmpty_5 : decode cX2_makeEmpty 5 = .ok (.aload_n 0, 1) := by decide +kernel
theorem dX2_makeEmpty_6 : decode cX2_makeEmpty 6 = .ok (.iconst 0, 1) := by decide +kernel
theorem dX2_makeEmpty_7 : decode cX2_makeEmpty 7 = .ok (.putfield 28, 3) := by decide +kernel
theorem dX2_makeEmpty_10 : decode cX2_makeEmpty 10 = .ok (.return_, 1) := by decide +kernel
set_option maxRecDepth 20000 in
theorem ggX2_applyTo_X7_setRange : GoodIn wsX2_applyTo wsX7_setRange := goodIn_r _ [11, 12, 13, 39, 40, 41] (by decide +kernel) (by decide +kernel)
set_option maxRecDepth 20000 in
theorem gX2_applyTo_X7_setRange : GoodIn wsX2_applyTo (wsV RX2 49 RX7 yX7_setRange wsX7_setRange) := goodIn_app (goodIn_of _ (by decide +kernel)) ggX2_applyTo_X7_setRange
set_option maxRecDepth 20000 in
theorem ggX2_applyTo_X7_assign : GoodIn wsX2_applyTo wsX7_assign := goodIn_r _ [17, 12, 13, 18, 19, 20, 21, 22, 23, 24, 25, 26, 27, 28, 29, 30, 31, 32, 33, 34, 35, 36, 37, 38, 39, 40, 41] (by decide +kernel) (by decide +kernel)
set_option maxRecDepth 20000 in
theorem gX2_applyTo_X7_assign : GoodIn wsX2_applyTo (wsV RX2 53 RX7 yX7_assign wsX7_assign) := goodIn_app (goodIn_of _ (by decide +kernel)) ggX2_applyTo_X7_assign
theorem dX2_applyTo_0 : decode cX2_applyTo 0 = .ok (.aload_n 1, 1) := by decide +kernel
theorem dX2_applyTo_1 : decode cX2_applyTo 1 = .ok (.getfield 43, 3) := by decide +kernel
theorem dX2_applyTo_4 : decode cX2_applyTo 4 = .ok (.ifCond .eq 4, 3) := by decide +kernel
theorem dX2_applyTo_7 : decode cX2_applyTo 7 = .ok (.return_, 1) := by decide +kernel
theorem dX2_applyTo_8 : decode cX2_applyTo 8 = .ok (.iconst 0, 1) := by decide +kernel
theorem dX2_applyTo_9 : decode cX2_applyTo 9 = .ok (.istore_n 2, 1) := by decide +kernel
theorem dX2_applyTo_10 : decode cX2_applyTo 10 = .ok (.iload_n 2, 1) := by decide +kernel
theorem dX2_applyTo_11 : decode cX2_applyTo 11 = .ok (.aload_n 0, 1) := by decide +kernel
theorem dX2_applyTo_12 : decode cX2_applyTo 12 = .ok (.getfield 9, 3) := by decide +kernel
theorem dX2_applyTo_15 : decode cX2_applyTo 15 = .ok (.if_icmp .ge 84, 3) := by decide +kernel
theorem dX2_applyTo_18 : decode cX2_applyTo 18 = .ok (.aload_n 0, 1) := by decide +kernel
theorem dX2_applyTo_19 : decode cX2_applyTo 19 = .ok (.getfield 15, 3) := by decide +kernel
theorem dX2_applyTo_22 : decode cX2_applyTo 22 = .ok (.iload_n 2, 1) := by decide +kernel
theorem dX2_applyTo_23 : decode cX2_applyTo 23 = .ok (.iaload, 1) := by decide +kernel
theorem dX2_applyTo_24 : decode cX2_applyTo 24 = .ok (.bipush 6, 2) := by decide +kernel
theorem dX2_applyTo_26 : decode cX2_applyTo 26 = .ok (.if_icmp .eq 14, 3) := by decide +kernel
theorem dX2_applyTo_29 : decode cX2_applyTo 29 = .ok (.aload_n 0, 1) := by decide +kernel
theorem dX2_applyTo_30 : decode cX2_applyTo 30 = .ok (.getfield 15, 3) := by decide +kernel
theorem dX2_applyTo_33 : decode cX2_applyTo 33 = .ok (.iload_n 2, 1) := by decide +kernel
theorem dX2_applyTo_34 : decode cX2_applyTo 34 = .ok (.iaload, 1) := by decide +kernel
theorem dX2_applyTo_35 : decode cX2_applyTo 35 = .ok (.bipush 7, 2) := by decide +kernel
theorem dX2_applyTo_37 : decode cX2_applyTo 37 = .ok (.if_icmp .ne 28, 3) := by decide +kernel
theorem dX2_applyTo_40 : decode cX2_applyTo 40 = .ok (.aload_n 1, 1) := by decide +kernel
theorem dX2_applyTo_41 : decode cX2_applyTo 41 = .ok (.aload_n 0, 1) := by decide +kernel
theorem dX2_applyTo_42 : decode cX2_applyTo 42 = .ok (.getfield 19, 3) := by decide +kernel
theorem dX2_applyTo_45 : decode cX2_applyTo 45 = .ok (.iload_n 2, 1) := by decide +kernel
theorem dX2_applyTo_46 : decode cX2_applyTo 46 = .ok (.iaload, 1) := by decide +kernel
theorem dX2_applyTo_47 : decode cX2_applyTo 47 = .ok (.aload_n 0, 1) := by decide +kernel
theorem dX2_applyTo_48 : decode cX2_applyTo 48 = .ok (.getfield 22, 3) := by decide +kernel
theorem dX2_applyTo_51 : decode cX2_applyTo 51 = .ok (.iload_n 2, 1) := by decide +kernel
theorem dX2_applyTo_52 : decode cX2_applyTo 52 = .ok (.iaload, 1) := by decide +kernel
theorem dX2_applyTo_53 : decode cX2_applyTo 53 = .ok (.aload_n 0, 1) := by decide +kernel
theorem dX2_applyTo_54 : decode cX2_applyTo 54 = .ok (.getfield 25, 3) := by decide +kernel
theorem dX2_applyTo_57 : decode cX2_applyTo 57 = .ok (.iload_n 2, 1) := by decide +kernel
theorem dX2_applyTo_58 : decode cX2_applyTo 58 = .ok (.iaload, 1) := by decide +kernel
theorem dX2_applyTo_59 : decode cX2_applyTo 59 = .ok (.invokevirtual 49, 3) := by decide +kernel
theorem dX2_applyTo_62 : decode cX2_applyTo 62 = .ok (.goto 31, 3) := by decide +kernel
theorem dX2_applyTo_65 : decode cX2_applyTo 65 = .ok (.aload_n 1, 1) := by decide +kernel
theorem dX2_applyTo_66 : decode cX2_applyTo 66 = .ok (.aload_n 0, 1) := by decide +kernel
theorem dX2_applyTo_67 : decode cX2_applyTo 67 = .ok (.getfield 15, 3) := by decide +kernel
theorem dX2_applyTo_70 : decode cX2_applyTo 70 = .ok (.iload_n 2, 1) := by decide +kernel
theorem dX2_applyTo_71 : decode cX2_applyTo 71 = .ok (.iaload, 1) := by decide +kernel
theorem dX2_applyTo_72 : decode cX2_applyTo 72 = .ok (.aload_n 0, 1) := by decide +kernel
theorem dX2_applyTo_73 : decode cX2_applyTo 73 = .ok (.getfield 19, 3) := by decide +kernel
theorem dX2_applyTo_76 : decode cX2_applyTo 76 = .ok (.iload_n 2, 1) := by decide +kernel
theorem dX2_applyTo_77 : decode cX2_applyTo 77 = .ok (.iaload, 1) := by decide +kernel
theorem dX2_applyTo_78 : decode cX2_applyTo 78 = .ok (.aload_n 0, 1) := by decide +kernel
theorem dX2_applyTo_79 : decode cX2_applyTo 79 = .ok (.getfield 22, 3) := by decide +kernel
theorem dX2_applyTo_82 : decode cX2_applyTo 82 = .ok (.iload_n 2, 1) := by decide +kernel
theorem dX2_applyTo_83 : decode cX2_applyTo 83 = .ok (.iaload, 1) := by decide +kernel
theorem dX2_applyTo_84 : decode cX2_applyTo 84 = .ok (.aload_n 0, 1) := by decide +kernel
theorem dX2_applyTo_85 : decode cX2_applyTo 85 = .ok (.getfield 25, 3) := by decide +kernel
theorem dX2_applyTo_88 : decode cX2_applyTo 88 = .ok (.iload_n 2, 1) := by decide +kernel
theorem dX2_applyTo_89 : decode cX2_applyTo 89 = .ok (.iaload, 1) := by decide +kernel
theorem dX2_applyTo_90 : decode cX2_applyTo 90 = .ok (.invokevirtual 53, 3) := by decide +kernel
theorem dX2_applyTo_93 : decode cX2_applyTo 93 = .ok (.iinc 2 1, 3) := by decide +kernel
theorem dX2_applyTo_96 : decode cX2_applyTo 96 = .ok (.goto (-86), 3) := by decide +kernel
theorem dX2_applyTo_99 : decode cX2_applyTo 99 = .ok (.return_, 1) := by decide +kernel
set_option maxRecDepth 20000 in
theorem ggX2_refineForEdge_X7_refine : GoodIn wsX2_refineForEdge wsX7_refine := goodIn_r _ [10, 11, 12, 13, 14, 15, 16, 17, 18, 9, 19, 20, 21, 22, 23, 24, 25, 26, 27, 28, 29, 30, 31, 32, 33, 34, 35, 36, 37, 38, 39, 40, 41, 42, 43, 44, 45, 46, 47, 48, 52, 53, 54] (by decide +kernel) (by decide +kernel)
set_option maxRecDepth 20000 in
theorem gX2_refineForEdge_X7_refine : GoodIn wsX2_refineForEdge (wsV RX2 57 RX7 yX7_refine wsX7_refine) := goodIn_app (goodIn_of _ (by decide +kernel)) ggX2_refineForEdge_X7_refine
set_option maxRecDepth 20000 in
theorem ggX2_refineForEdge_X1_oppositeOfSwapped : GoodIn wsX2_refineForEdge wsX1_oppositeOfSwapped := goodIn_r _ [51] (by decide +kernel) (by decide +kernel)
set_option maxRecDepth 20000 in
theorem gX2_refineForEdge_X1_oppositeOfSwapped : GoodIn wsX2_refineForEdge (va_wsS RX2 60 yX1_oppositeOfSwapped wsX1_oppositeOfSwapped) := goodIn_app (goodIn_of _ (by decide +kernel)) ggX2_refineForEdge_X1_oppositeOfSwapped
theorem dX2_refineForEdge_0 : decode cX2_refineForEdge 0 = .ok (.aload_n 1, 1) := by decide +kernel
theorem dX2_refineForEdge_1 : decode cX2_refineForEdge 1 = .ok (.getfield 43, 3) := by decide +kernel
theorem dX2_refineForEdge_4 : decode cX2_refineForEdge 4 = .ok (.ifCond .ne 11, 3) := by decide +kernel
theorem dX2_refineForEdge_7 : decode cX2_refineForEdge 7 = .ok (.aload_n 0, 1) := by decide +kernel
theorem dX2_refineForEdge_8 : decode cX2_refineForEdge 8 = .ok (.getfield 28, 3) := by decide +kernel
theorem dX2_refineForEdge_11 : decode cX2_refineForEdge 11 = .ok (.iconst 2, 1) := by decide +kernel
theorem dX2_refineForEdge_12 : decode cX2_refineForEdge 12 = .ok (.if_icmp .ge 4, 3) := by decide +kernel
theorem dX2_refineForEdge_15 : decode cX2_refineForEdge 15 = .ok (.return_, 1) := by decide +kernel
theorem dX2_refineForEdge_16 : decode cX2_refineForEdge 16 = .ok (.iload_n 2, 1) := by decide +kernel
theorem dX2_refineForEdge_17 : decode cX2_refineForEdge 17 = .ok (.ifCond .ne 22, 3) := by decide +kernel
theorem dX2_refineForEdge_20 : decode cX2_refineForEdge 20 = .ok (.aload_n 1, 1) := by decide +kernel
theorem dX2_refineForEdge_21 : decode cX2_refineForEdge 21 = .ok (.aload_n 0, 1) := by decide +kernel
theorem dX2_refineForEdge_22 : decode cX2_refineForEdge 22 = .ok (.getfield 34, 3) := by decide +kernel
theorem dX2_refineForEdge_25 : decode cX2_refineForEdge 25 = .ok (.aload_n 0, 1) := by decide +kernel
theorem dX2_refineForEdge_26 : decode cX2_refineForEdge 26 = .ok (.getfield 40, 3) := by decide +kernel
theorem dX2_refineForEdge_29 : decode cX2_refineForEdge 29 = .ok (.aload_n 0, 1) := by decide +kernel
theorem dX2_refineForEdge_30 : decode cX2_refineForEdge 30 = .ok (.getfield 37, 3) := by decide +kernel
theorem dX2_refineForEdge_33 : decode cX2_refineForEdge 33 = .ok (.invokevirtual 57, 3) := by decide +kernel
theorem dX2_refineForEdge_36 : decode cX2_refineForEdge 36 = .ok (.goto 22, 3) := by decide +kernel
theorem dX2_refineForEdge_39 : decode cX2_refineForEdge 39 = .ok (.aload_n 1, 1) := by decide +kernel
theorem dX2_refineForEdge_40 : decode cX2_refineForEdge 40 = .ok (.aload_n 0, 1) := by decide +kernel
theorem dX2_refineForEdge_41 : decode cX2_refineForEdge 41 = .ok (.getfield 37, 3) := by decide +kernel
theorem dX2_refineForEdge_44 : decode cX2_refineForEdge 44 = .ok (.aload_n 0, 1) := by decide +kernel
theorem dX2_refineForEdge_45 : decode cX2_refineForEdge 45 = .ok (.getfield 40, 3) := by decide +kernel
theorem dX2_refineForEdge_48 : decode cX2_refineForEdge 48 = .ok (.invokestatic 60, 3) := by decide +kernel
theorem dX2_refineForEdge_51 : decode cX2_refineForEdge 51 = .ok (.aload_n 0, 1) := by decide +kernel
theorem dX2_refineForEdge_52 : decode cX2_refineForEdge 52 = .ok (.getfield 34, 3) := by decide +kernel
theorem dX2_refineForEdge_55 : decode cX2_refineForEdge 55 = .ok (.invokevirtual 57, 3) := by decide +kernel
theorem dX2_refineForEdge_58 : decode cX2_refineForEdge 58 = .ok (.return_, 1) := by decide +kernel
theorem dX3_init_0 : decode cX3_init 0 = .ok (.aload_n 0, 1) := by decide +kernel
theorem dX3_init_1 : decode cX3_init 1 = .ok (.invokespecial 3, 3) := by decide +kernel
theorem dX3_init_4 : decode cX3_init 4 = .ok (.aload_n 0, 1) := by decide +kernel
theorem dX3_init_5 : decode cX3_init 5 = .ok (.bipush 6, 2) := by decide +kernel
theorem dX3_init_7 : decode cX3_init 7 = .ok (.newarray .int, 2) := by decide +kernel
theorem dX3_init_9 : decode cX3_init 9 = .ok (.putfield 9, 3) := by decide +kernel
theorem dX3_init_12 : decode cX3_init 12 = .ok (.aload_n 0, 1) := by decide +kernel
theorem dX3_init_13 : decode cX3_init 13 = .ok (.sipush 300, 3) := by decide +kernel
theorem dX3_init_16 : decode cX3_init 16 = .ok (.newarray .int, 2) := by decide +kernel
theorem dX3_init_18 : decode cX3_init 18 = .ok (.putfield 15, 3) := by decide +kernel
theorem dX3_init_21 : decode cX3_init 21 = .ok (.aload_n 0, 1) := by decide +kernel
theorem dX3_init_22 : decode cX3_init 22 = .ok (.sipush 1800, 3) := by decide +kernel
theorem dX3_init_25 : decode cX3_init 25 = .ok (.newarray .int, 2) := by decide +kernel
theorem dX3_init_27 : decode cX3_init 27 = .ok (.putfield 18, 3) := by decide +kernel
theorem dX3_init_30 : decode cX3_init 30 = .ok (.aload_n 0, 1) := by decide +kernel
theorem dX3_init_31 : decode cX3_init 31 = .ok (.iconst 0, 1) := by decide +kernel
theorem dX3_init_32 : decode cX3_init 32 = .ok (.putfield 21, 3) := by decide +kernel
theorem dX3_init_35 : decode cX3_init 35 = .ok (.aload_n 0, 1) := by decide +kernel
theorem dX3_init_36 : decode cX3_init 36 = .ok (.lconst 0, 1) := by decide +kernel
theorem dX3_init_37 : decode cX3_init 37 = .ok (.putfield 25, 3) := by decide +kernel
theorem dX3_init_40 : decode cX3_init 40 = .ok (.return_, 1) := by decide +kernel
set_option maxRecDepth 20000 in
theorem ggX3_execute_X3_choose : GoodIn wsX3_execute wsX3_choose := goodIn_r _ [13, 1, 14, 15, 16, 17, 18, 19, 73, 74, 75, 76, 77] (by decide +kernel) (by decide +kernel)
set_option maxRecDepth 20000 in
theorem gX3_execute_X3_choose : GoodIn wsX3_execute (wsV RX3 43 RX3 yX3_choose wsX3_choose) := goodIn_app (goodIn_of _ (by decide +kernel)) ggX3_execute_X3_choose
set_option maxRecDepth 20000 in
theorem ggX3_execute_X3_noteStep : GoodIn wsX3_execute wsX3_noteStep := goodIn_r _ [23, 24, 3, 25, 26, 27, 28, 29, 6, 73, 74, 75, 76, 77] (by decide +kernel) (by decide +kernel)
set_option maxRecDepth 20000 in
theorem gX3_execute_X3_noteStep : GoodIn wsX3_execute (wsV RX3 51 RX3 yX3_noteStep wsX3_noteStep) := goodIn_app (goodIn_of _ (by decide +kernel)) ggX3_execute_X3_noteStep
set_option maxRecDepth 20000 in
theorem ggX3_execute_X3_perform : GoodIn wsX3_execute wsX3_perform := goodIn_r _ [33, 34, 3, 35, 36, 37, 38, 39, 40, 41, 12, 42, 9, 10, 11, 13, 1, 14, 15, 16, 17, 18, 19, 43, 44, 45, 46, 47, 48, 49, 50, 51, 52, 53, 54, 55, 56, 57, 58, 59, 60, 61, 84, 85, 86, 87, 88, 89, 90, 91, 92, 93, 73, 74, 75, 76, 77] (by decide +kernel) (by decide +kernel)
set_option maxRecDepth 20000 in
theorem gX3_execute_X3_perform : GoodIn wsX3_execute (wsV RX3 55 RX3 yX3_perform wsX3_perform) := goodIn_app (goodIn_of _ (by decide +kernel)) ggX3_execute_X3_perform
set_option maxRecDepth 20000 in
theorem ggX3_execute_X3_follower : GoodIn wsX3_execute wsX3_follower := goodIn_r _ [65, 8, 66, 3, 67, 68, 69, 70, 71, 45, 72, 84, 85, 86, 87, 88, 89, 90, 91, 92, 93, 73, 74, 75, 76, 77] (by decide +kernel) (by decide +kernel)
set_option maxRecDepth 20000 in
theorem gX3_execute_X3_follower : GoodIn wsX3_execute (wsV RX3 64 RX3 yX3_follower wsX3_follower) := goodIn_app (goodIn_of _ (by decide +kernel)) ggX3_execute_X3_follower
theorem dX3_execute_0 : decode cX3_execute 0 = .ok (.aload_n 0, 1) := by decide +kernel
theorem dX3_execute_1 : decode cX3_execute 1 = .ok (.lload_n 2, 1) := by decide +kernel
theorem dX3_execute_2 : decode cX3_execute 2 = .ok (.putfield 25, 3) := by decide +kernel
theorem dX3_execute_5 : decode cX3_execute 5 = .ok (.aload_n 1, 1) := by decide +kernel
theorem dX3_execute_6 : decode cX3_execute 6 = .ok (.getfield 29, 3) := by decide +kernel
theorem dX3_execute_9 : decode cX3_execute 9 = .ok (.astore 5, 2) := by decide +kernel
theorem dX3_execute_11 : decode cX3_execute 11 = .ok (.iconst 0, 1) := by decide +kernel
theorem dX3_execute_12 : decode cX3_execute 12 = .ok (.istore 6, 2) := by decide +kernel
theorem dX3_execute_14 : decode cX3_execute 14 = .ok (.iload 6, 2) := by decide +kernel
theorem dX3_execute_16 : decode cX3_execute 16 = .ok (.bipush 6, 2) := by decide +kernel
theorem dX3_execute_18 : decode cX3_execute 18 = .ok (.if_icmp .ge 36, 3) := by decide +kernel
theorem dX3_execute_21 : decode cX3_execute 21 = .ok (.aload_n 0, 1) := by decide +kernel
theorem dX3_execute_22 : decode cX3_execute 22 = .ok (.getfield 9, 3) := by decide +kernel
theorem dX3_execute_25 : decode cX3_execute 25 = .ok (.iload 6, 2) := by decide +kernel
theorem dX3_execute_27 : decode cX3_execute 27 = .ok (.aload_n 0, 1) := by decide +kernel
theorem dX3_execute_28 : decode cX3_execute 28 = .ok (.aload 5, 2) := by decide +kernel
theorem dX3_execute_30 : decode cX3_execute 30 = .ok (.getfield 35, 3) := by decide +kernel
theorem dX3_execute_33 : decode cX3_execute 33 = .ok (.iload 6, 2) := by decide +kernel
theorem dX3_execute_35 : decode cX3_execute 35 = .ok (.iaload, 1) := by decide +kernel
theorem dX3_execute_36 : decode cX3_execute 36 = .ok (.aload 5, 2) := by decide +kernel
theorem dX3_execute_38 : decode cX3_execute 38 = .ok (.getfield 40, 3) := by decide +kernel
theorem dX3_execute_41 : decode cX3_execute 41 = .ok (.iload 6, 2) := by decide +kernel
theorem dX3_execute_43 : decode cX3_execute 43 = .ok (.iaload, 1) := by decide +kernel
theorem dX3_execute_44 : decode cX3_execute 44 = .ok (.invokevirtual 43, 3) := by decide +kernel
theorem dX3_execute_47 : decode cX3_execute 47 = .ok (.iastore, 1) := by decide +kernel
theorem dX3_execute_48 : decode cX3_execute 48 = .ok (.iinc 6 1, 3) := by decide +kernel
theorem dX3_execute_51 : decode cX3_execute 51 = .ok (.goto (-37), 3) := by decide +kernel
theorem dX3_execute_54 : decode cX3_execute 54 = .ok (.aload_n 0, 1) := by decide +kernel
theorem dX3_execute_55 : decode cX3_execute 55 = .ok (.iconst 0, 1) := by decide +kernel
theorem dX3_execute_56 : decode cX3_execute 56 = .ok (.putfield 21, 3) := by decide +kernel
theorem dX3_execute_59 : decode cX3_execute 59 = .ok (.iconst 0, 1) := by decide +kernel
theorem dX3_execute_60 : decode cX3_execute 60 = .ok (.istore 6, 2) := by decide +kernel
theorem dX3_execute_62 : decode cX3_execute 62 = .ok (.iconst 0, 1) := by decide +kernel
theorem dX3_execute_63 : decode cX3_execute 63 = .ok (.istore 7, 2) := by decide +kernel
theorem dX3_execute_65 : decode cX3_execute 65 = .ok (.iload 7, 2) := by decide +kernel
theorem dX3_execute_67 : decode cX3_execute 67 = .ok (.iload 4, 2) := by decide +kernel
theorem dX3_execute_69 : decode cX3_execute 69 = .ok (.if_icmp .ge 57, 3) := by decide +kernel
theorem dX3_execute_72 : decode cX3_execute 72 = .ok (.iload 7, 2) := by decide +kernel
theorem dX3_execute_74 : decode cX3_execute 74 = .ok (.sipush 300, 3) := by decide +kernel
theorem dX3_execute_77 : decode cX3_execute 77 = .ok (.if_icmp .ge 49, 3) := by decide +kernel
theorem dX3_execute_80 : decode cX3_execute 80 = .ok (.aload_n 1, 1) := by decide +kernel
theorem dX3_execute_81 : decode cX3_execute 81 = .ok (.getfield 47, 3) := by decide +kernel
theorem dX3_execute_84 : decode cX3_execute 84 = .ok (.iload 6, 2) := by decide +kernel
theorem dX3_execute_86 : decode cX3_execute 86 = .ok (.aaload, 1) := by decide +kernel
theorem dX3_execute_87 : decode cX3_execute 87 = .ok (.astore 8, 2) := by decide +kernel
theorem dX3_execute_89 : decode cX3_execute 89 = .ok (.aload_n 0, 1) := by decide +kernel
theorem dX3_execute_90 : decode cX3_execute 90 = .ok (.iload 7, 2) := by decide +kernel
theorem dX3_execute_92 : decode cX3_execute 92 = .ok (.iload 6, 2) := by decide +kernel
theorem dX3_execute_94 : decode cX3_execute 94 = .ok (.invokevirtual 51, 3) := by decide +kernel
theorem dX3_execute_97 : decode cX3_execute 97 = .ok (.aload_n 0, 1) := by decide +kernel
theorem dX3_execute_98 : decode cX3_execute 98 = .ok (.aload 8, 2) := by decide +kernel
theorem dX3_execute_100 : decode cX3_execute 100 = .ok (.invokevirtual 55, 3) := by decide +kernel
theorem dX3_execute_103 : decode cX3_execute 103 = .ok (.aload 8, 2) := by decide +kernel
theorem dX3_execute_105 : decode cX3_execute 105 = .ok (.getfield 59, 3) := by decide +kernel
theorem dX3_execute_108 : decode cX3_execute 108 = .ok (.ifCond .ne 4, 3) := by decide +kernel
theorem dX3_execute_111 : decode cX3_execute 111 = .ok (.return_, 1) := by decide +kernel
theorem dX3_execute_112 : decode cX3_execute 112 = .ok (.aload_n 0, 1) := by decide +kernel
theorem dX3_execute_113 : decode cX3_execute 113 = .ok (.aload 8, 2) := by decide +kernel
theorem dX3_execute_115 : decode cX3_execute 115 = .ok (.invokevirtual 64, 3) := by decide +kernel
theorem dX3_execute_118 : decode cX3_execute 118 = .ok (.istore 6, 2) := by decide +kernel
theorem dX3_execute_120 : decode cX3_execute 120 = .ok (.iinc 7 1, 3) := by decide +kernel
theorem dX3_execute_123 : decode cX3_execute 123 = .ok (.goto (-58), 3) := by decide +kernel
theorem dX3_execute_126 : decode cX3_execute 126 = .ok (.return_, 1) := by decide +kernel
theorem dX3_noteStep_0 : decode cX3_noteStep 0 = .ok (.aload_n 0, 1) := by decide +kernel
theorem dX3_noteStep_1 : decode cX3_noteStep 1 = .ok (.getfield 15, 3) := by decide +kernel
theorem dX3_noteStep_4 : decode cX3_noteStep 4 = .ok (.iload_n 1, 1) := by decide +kernel
theorem dX3_noteStep_5 : decode cX3_noteStep 5 = .ok (.iload_n 2, 1) := by decide +kernel
theorem dX3_noteStep_6 : decode cX3_noteStep 6 = .ok (.iastore, 1) := by decide +kernel
theorem dX3_noteStep_7 : decode cX3_noteStep 7 = .ok (.aload_n 0, 1) := by decide +kernel
theorem dX3_noteStep_8 : decode cX3_noteStep 8 = .ok (.getfield 9, 3) := by decide +kernel
theorem dX3_noteStep_11 : decode cX3_noteStep 11 = .ok (.iconst 0, 1) := by decide +kernel
theorem dX3_noteStep_12 : decode cX3_noteStep 12 = .ok (.aload_n 0, 1) := by decide +kernel
theorem dX3_noteStep_13 : decode cX3_noteStep 13 = .ok (.getfield 18, 3) := by decide +kernel
theorem dX3_noteStep_16 : decode cX3_noteStep 16 = .ok (.iload_n 1, 1) := by decide +kernel
theorem dX3_noteStep_17 : decode cX3_noteStep 17 = .ok (.bipush 6, 2) := by decide +kernel
theorem dX3_noteStep_19 : decode cX3_noteStep 19 = .ok (.imul, 1) := by decide +kernel
theorem dX3_noteStep_20 : decode cX3_noteStep 20 = .ok (.bipush 6, 2) := by decide +kernel
theorem dX3_noteStep_22 : decode cX3_noteStep 22 = .ok (.invokestatic 68, 3) := by decide +kernel
theorem dX3_noteStep_25 : decode cX3_noteStep 25 = .ok (.aload_n 0, 1) := by decide +kernel
theorem dX3_noteStep_26 : decode cX3_noteStep 26 = .ok (.iload_n 1, 1) := by decide +kernel
theorem dX3_noteStep_27 : decode cX3_noteStep 27 = .ok (.iconst 1, 1) := by decide +kernel
theorem dX3_noteStep_28 : decode cX3_noteStep 28 = .ok (.iadd, 1) := by decide +kernel
theorem dX3_noteStep_29 : decode cX3_noteStep 29 = .ok (.putfield 21, 3) := by decide +kernel
theorem dX3_noteStep_32 : decode cX3_noteStep 32 = .ok (.return_, 1) := by decide +kernel
set_option maxRecDepth 20000 in
theorem ggX3_perform_X3_outcomeOf : GoodIn wsX3_perform wsX3_outcomeOf := goodIn_r _ [11, 2, 12, 13, 14, 10, 15, 16, 17, 18, 19, 20, 21, 22, 23, 24, 25, 26, 27, 28, 29, 30, 31, 32, 33, 34, 35, 36, 37, 38, 39, 40, 41, 52, 53, 54, 55, 56] (by decide +kernel) (by decide +kernel)
set_option maxRecDepth 20000 in
theorem gX3_perform_X3_outcomeOf : GoodIn wsX3_perform (wsV RX3 89 RX3 yX3_outcomeOf wsX3_outcomeOf) := goodIn_app (goodIn_of _ (by decide +kernel)) ggX3_perform_X3_outcomeOf
theorem dX3_perform_0 : decode cX3_perform 0 = .ok (.iconst 0, 1) := by decide +kernel
theorem dX3_perform_1 : decode cX3_perform 1 = .ok (.istore_n 2, 1) := by decide +kernel
theorem dX3_perform_2 : decode cX3_perform 2 = .ok (.iload_n 2, 1) := by decide +kernel
theorem dX3_perform_3 : decode cX3_perform 3 = .ok (.aload_n 1, 1) := by decide +kernel
theorem dX3_perform_4 : decode cX3_perform 4 = .ok (.getfield 74, 3) := by decide +kernel
theorem dX3_perform_7 : decode cX3_perform 7 = .ok (.if_icmp .ge 42, 3) := by decide +kernel
theorem dX3_perform_10 : decode cX3_perform 10 = .ok (.aload_n 0, 1) := by decide +kernel
theorem dX3_perform_11 : decode cX3_perform 11 = .ok (.getfield 9, 3) := by decide +kernel
theorem dX3_perform_14 : decode cX3_perform 14 = .ok (.aload_n 1, 1) := by decide +kernel
theorem dX3_perform_15 : decode cX3_perform 15 = .ok (.getfield 77, 3) := by decide +kernel
theorem dX3_perform_18 : decode cX3_perform 18 = .ok (.iload_n 2, 1) := by decide +kernel
theorem dX3_perform_19 : decode cX3_perform 19 = .ok (.iaload, 1) := by decide +kernel
theorem dX3_perform_20 : decode cX3_perform 20 = .ok (.aload_n 0, 1) := by decide +kernel
theorem dX3_perform_21 : decode cX3_perform 21 = .ok (.aload_n 1, 1) := by decide +kernel
theorem dX3_perform_22 : decode cX3_perform 22 = .ok (.getfield 80, 3) := by decide +kernel
theorem dX3_perform_25 : decode cX3_perform 25 = .ok (.iload_n 2, 1) := by decide +kernel
theorem dX3_perform_26 : decode cX3_perform 26 = .ok (.iaload, 1) := by decide +kernel
theorem dX3_perform_27 : decode cX3_perform 27 = .ok (.aload_n 1, 1) := by decide +kernel
theorem dX3_perform_28 : decode cX3_perform 28 = .ok (.getfield 83, 3) := by decide +kernel
theorem dX3_perform_31 : decode cX3_perform 31 = .ok (.iload_n 2, 1) := by decide +kernel
theorem dX3_perform_32 : decode cX3_perform 32 = .ok (.iaload, 1) := by decide +kernel
theorem dX3_perform_33 : decode cX3_perform 33 = .ok (.aload_n 1, 1) := by decide +kernel
theorem dX3_perform_34 : decode cX3_perform 34 = .ok (.getfield 86, 3) := by decide +kernel
theorem dX3_perform_37 : decode cX3_perform 37 = .ok (.iload_n 2, 1) := by decide +kernel
theorem dX3_perform_38 : decode cX3_perform 38 = .ok (.iaload, 1) := by decide +kernel
theorem dX3_perform_39 : decode cX3_perform 39 = .ok (.invokevirtual 89, 3) := by decide +kernel
theorem dX3_perform_42 : decode cX3_perform 42 = .ok (.iastore, 1) := by decide +kernel
theorem dX3_perform_43 : decode cX3_perform 43 = .ok (.iinc 2 1, 3) := by decide +kernel
theorem dX3_perform_46 : decode cX3_perform 46 = .ok (.goto (-44), 3) := by decide +kernel
theorem dX3_perform_49 : decode cX3_perform 49 = .ok (.return_, 1) := by decide +kernel
set_option maxRecDepth 20000 in
theorem ggX3_outcomeOf_X3_choose : GoodIn wsX3_outcomeOf wsX3_choose := goodIn_r _ [6, 7, 8, 9, 10, 11, 12, 13, 33, 34, 35, 36, 37] (by decide +kernel) (by decide +kernel)
set_option maxRecDepth 20000 in
theorem gX3_outcomeOf_X3_choose : GoodIn wsX3_outcomeOf (wsV RX3 43 RX3 yX3_choose wsX3_choose) := goodIn_app (goodIn_of _ (by decide +kernel)) ggX3_outcomeOf_X3_choose
set_option maxRecDepth 20000 in
theorem ggX3_outcomeOf_X1_outcome : GoodIn wsX3_outcomeOf wsX1_outcome := goodIn_r _ [17, 18, 19, 20, 21, 22, 23, 24, 25, 26, 27, 28, 29, 30, 31, 32] (by decide +kernel) (by decide +kernel)
set_option maxRecDepth 20000 in
theorem gX3_outcomeOf_X1_outcome : GoodIn wsX3_outcomeOf (va_wsS RX3 93 yX1_outcome wsX1_outcome) := goodIn_app (goodIn_of _ (by decide +kernel)) ggX3_outcomeOf_X1_outcome
theorem dX3_outcomeOf_0 : decode cX3_outcomeOf 0 = .ok (.iload_n 1, 1) := by decide +kernel
theorem dX3_outcomeOf_1 : decode cX3_outcomeOf 1 = .ok (.bipush 7, 2) := by decide +kernel
theorem dX3_outcomeOf_3 : decode cX3_outcomeOf 3 = .ok (.if_icmp .ne 5, 3) := by decide +kernel
theorem dX3_outcomeOf_6 : decode cX3_outcomeOf 6 = .ok (.iload_n 2, 1) := by decide +kernel
theorem dX3_outcomeOf_7 : decode cX3_outcomeOf 7 = .ok (.ireturn, 1) := by decide +kernel
theorem dX3_outcomeOf_8 : decode cX3_outcomeOf 8 = .ok (.iload_n 1, 1) := by decide +kernel
theorem dX3_outcomeOf_9 : decode cX3_outcomeOf 9 = .ok (.bipush 6, 2) := by decide +kernel
theorem dX3_outcomeOf_11 : decode cX3_outcomeOf 11 = .ok (.if_icmp .ne 10, 3) := by decide +kernel
theorem dX3_outcomeOf_14 : decode cX3_outcomeOf 14 = .ok (.aload_n 0, 1) := by decide +kernel
theorem dX3_outcomeOf_15 : decode cX3_outcomeOf 15 = .ok (.iload_n 2, 1) := by decide +kernel
theorem dX3_outcomeOf_16 : decode cX3_outcomeOf 16 = .ok (.iload_n 3, 1) := by decide +kernel
theorem dX3_outcomeOf_17 : decode cX3_outcomeOf 17 = .ok (.invokevirtual 43, 3) := by decide +kernel
theorem dX3_outcomeOf_20 : decode cX3_outcomeOf 20 = .ok (.ireturn, 1) := by decide +kernel
theorem dX3_outcomeOf_21 : decode cX3_outcomeOf 21 = .ok (.iload_n 1, 1) := by decide +kernel
theorem dX3_outcomeOf_22 : decode cX3_outcomeOf 22 = .ok (.aload_n 0, 1) := by decide +kernel
theorem dX3_outcomeOf_23 : decode cX3_outcomeOf 23 = .ok (.getfield 9, 3) := by decide +kernel
theorem dX3_outcomeOf_26 : decode cX3_outcomeOf 26 = .ok (.iload_n 2, 1) := by decide +kernel
theorem dX3_outcomeOf_27 : decode cX3_outcomeOf 27 = .ok (.iaload, 1) := by decide +kernel
theorem dX3_outcomeOf_28 : decode cX3_outcomeOf 28 = .ok (.aload_n 0, 1) := by decide +kernel
theorem dX3_outcomeOf_29 : decode cX3_outcomeOf 29 = .ok (.getfield 9, 3) := by decide +kernel
theorem dX3_outcomeOf_32 : decode cX3_outcomeOf 32 = .ok (.iload_n 3, 1) := by decide +kernel
theorem dX3_outcomeOf_33 : decode cX3_outcomeOf 33 = .ok (.iaload, 1) := by decide +kernel
theorem dX3_outcomeOf_34 : decode cX3_outcomeOf 34 = .ok (.invokestatic 93, 3) := by decide +kernel
theorem dX3_outcomeOf_37 : decode cX3_outcomeOf 37 = .ok (.ireturn, 1) := by decide +kernel
set_option maxRecDepth 20000 in
theorem ggX3_follower_X1_isTrue : GoodIn wsX3_follower wsX1_isTrue := goodIn_r _ [10] (by decide +kernel) (by decide +kernel)
set_option maxRecDepth 20000 in
theorem gX3_follower_X1_isTrue : GoodIn wsX3_follower (va_wsS RX3 110 yX1_isTrue wsX1_isTrue) := goodIn_app (goodIn_of _ (by decide +kernel)) ggX3_follower_X1_isTrue
theorem dX3_follower_0 : decode cX3_follower 0 = .ok (.aload_n 1, 1) := by decide +kernel
theorem dX3_follower_1 : decode cX3_follower 1 = .ok (.getfield 59, 3) := by decide +kernel
theorem dX3_follower_4 : decode cX3_follower 4 = .ok (.iconst 2, 1) := by decide +kernel
theorem dX3_follower_5 : decode cX3_follower 5 = .ok (.if_icmp .ge 10, 3) := by decide +kernel
theorem dX3_follower_8 : decode cX3_follower 8 = .ok (.aload_n 1, 1) := by decide +kernel
theorem dX3_follower_9 : decode cX3_follower 9 = .ok (.getfield 98, 3) := by decide +kernel
theorem dX3_follower_12 : decode cX3_follower 12 = .ok (.iconst 0, 1) := by decide +kernel
theorem dX3_follower_13 : decode cX3_follower 13 = .ok (.iaload, 1) := by decide +kernel
theorem dX3_follower_14 : decode cX3_follower 14 = .ok (.ireturn, 1) := by decide +kernel
theorem dX3_follower_15 : decode cX3_follower 15 = .ok (.aload_n 0, 1) := by decide +kernel
theorem dX3_follower_16 : decode cX3_follower 16 = .ok (.getfield 9, 3) := by decide +kernel
theorem dX3_follower_19 : decode cX3_follower 19 = .ok (.aload_n 1, 1) := by decide +kernel
theorem dX3_follower_20 : decode cX3_follower 20 = .ok (.getfield 101, 3) := by decide +kernel
theorem dX3_follower_23 : decode cX3_follower 23 = .ok (.iaload, 1) := by decide +kernel
theorem dX3_follower_24 : decode cX3_follower 24 = .ok (.aload_n 1, 1) := by decide +kernel
theorem dX3_follower_25 : decode cX3_follower 25 = .ok (.getfield 104, 3) := by decide +kernel
theorem dX3_follower_28 : decode cX3_follower 28 = .ok (.aload_n 0, 1) := by decide +kernel
theorem dX3_follower_29 : decode cX3_follower 29 = .ok (.getfield 9, 3) := by decide +kernel
theorem dX3_follower_32 : decode cX3_follower 32 = .ok (.aload_n 1, 1) := by decide +kernel
theorem dX3_follower_33 : decode cX3_follower 33 = .ok (.getfield 107, 3) := by decide +kernel
theorem dX3_follower_36 : decode cX3_follower 36 = .ok (.iaload, 1) := by decide +kernel
theorem dX3_follower_37 : decode cX3_follower 37 = .ok (.invokestatic 110, 3) := by decide +kernel
theorem dX3_follower_40 : decode cX3_follower 40 = .ok (.istore_n 2, 1) := by decide +kernel
theorem dX3_follower_41 : decode cX3_follower 41 = .ok (.iload_n 2, 1) := by decide +kernel
theorem dX3_follower_42 : decode cX3_follower 42 = .ok (.ifCond .eq 12, 3) := by decide +kernel
theorem dX3_follower_45 : decode cX3_follower 45 = .ok (.aload_n 1, 1) := by decide +kernel
theorem dX3_follower_46 : decode cX3_follower 46 = .ok (.getfield 98, 3) := by decide +kernel
theorem dX3_follower_49 : decode cX3_follower 49 = .ok (.iconst 0, 1) := by decide +kernel
theorem dX3_follower_50 : decode cX3_follower 50 = .ok (.iaload, 1) := by decide +kernel
theorem dX3_follower_51 : decode cX3_follower 51 = .ok (.goto 9, 3) := by decide +kernel
theorem dX3_follower_54 : decode cX3_follower 54 = .ok (.aload_n 1, 1) := by decide +kernel
theorem dX3_follower_55 : decode cX3_follower 55 = .ok (.getfield 98, 3) := by decide +kernel
theorem dX3_follower_58 : decode cX3_follower 58 = .ok (.iconst 1, 1) := by decide +kernel
theorem dX3_follower_59 : decode cX3_follower 59 = .ok (.iaload, 1) := by decide +kernel
theorem dX3_follower_60 : decode cX3_follower 60 = .ok (.ireturn, 1) := by decide +kernel
set_option maxRecDepth 20000 in
theorem ggX3_choose_J9_floorMod_f86c9 : GoodIn wsX3_choose wsJ9_floorMod_f86c9 := goodIn_r _ [7] (by decide +kernel) (by decide +kernel)
set_option maxRecDepth 20000 in
theorem gX3_choose_J9_floorMod_f86c9 : GoodIn wsX3_choose (va_wsS RX3 114 yJ9_floorMod_f86c9 wsJ9_floorMod_f86c9) := goodIn_app (goodIn_of _ (by decide +kernel)) ggX3_choose_J9_floorMod_f86c9
theorem dX3_choose_0 : decode cX3_choose 0 = .ok (.iload_n 2, 1) := by decide +kernel
theorem dX3_choose_1 : decode cX3_choose 1 = .ok (.i2l, 1) := by decide +kernel
theorem dX3_choose_2 : decode cX3_choose 2 = .ok (.iload_n 1, 1) := by decide +kernel
theorem dX3_choose_3 : decode cX3_choose 3 = .ok (.i2l, 1) := by decide +kernel
theorem dX3_choose_4 : decode cX3_choose 4 = .ok (.lsub, 1) := by decide +kernel
theorem dX3_choose_5 : decode cX3_choose 5 = .ok (.lconst 1, 1) := by decide +kernel
theorem dX3_choose_6 : decode cX3_choose 6 = .ok (.ladd, 1) := by decide +kernel
theorem dX3_choose_7 : decode cX3_choose 7 = .ok (.lstore_n 3, 1) := by decide +kernel
theorem dX3_choose_8 : decode cX3_choose 8 = .ok (.lload_n 3, 1) := by decide +kernel
theorem dX3_choose_9 : decode cX3_choose 9 = .ok (.lconst 0, 1) := by decide +kernel
theorem dX3_choose_10 : decode cX3_choose 10 = .ok (.lcmp, 1) := by decide +kernel
theorem dX3_choose_11 : decode cX3_choose 11 = .ok (.ifCond .le 14, 3) := by decide +kernel
theorem dX3_choose_14 : decode cX3_choose 14 = .ok (.aload_n 0, 1) := by decide +kernel
theorem dX3_choose_15 : decode cX3_choose 15 = .ok (.getfield 25, 3) := by decide +kernel
theorem dX3_choose_18 : decode cX3_choose 18 = .ok (.lload_n 3, 1) := by decide +kernel
theorem dX3_choose_19 : decode cX3_choose 19 = .ok (.invokestatic 114, 3) := by decide +kernel
theorem dX3_choose_22 : decode cX3_choose 22 = .ok (.goto 4, 3) := by decide +kernel
theorem dX3_choose_25 : decode cX3_choose 25 = .ok (.lconst 0, 1) := by decide +kernel
theorem dX3_choose_26 : decode cX3_choose 26 = .ok (.lstore 5, 2) := by decide +kernel
theorem dX3_choose_28 : decode cX3_choose 28 = .ok (.aload_n 0, 1) := by decide +kernel
theorem dX3_choose_29 : decode cX3_choose 29 = .ok (.aload_n 0, 1) := by decide +kernel
theorem dX3_choose_30 : decode cX3_choose 30 = .ok (.getfield 25, 3) := by decide +kernel
theorem dX3_choose_33 : decode cX3_choose 33 = .ok (.ldc2_w 120, 3) := by decide +kernel
theorem dX3_choose_36 : decode cX3_choose 36 = .ok (.lmul, 1) := by decide +kernel
theorem dX3_choose_37 : decode cX3_choose 37 = .ok (.ldc2_w 122, 3) := by decide +kernel
theorem dX3_choose_40 : decode cX3_choose 40 = .ok (.ladd, 1) := by decide +kernel
theorem dX3_choose_41 : decode cX3_choose 41 = .ok (.putfield 25, 3) := by decide +kernel
theorem dX3_choose_44 : decode cX3_choose 44 = .ok (.iload_n 1, 1) := by decide +kernel
theorem dX3_choose_45 : decode cX3_choose 45 = .ok (.i2l, 1) := by decide +kernel
theorem dX3_choose_46 : decode cX3_choose 46 = .ok (.lload 5, 2) := by decide +kernel
theorem dX3_choose_48 : decode cX3_choose 48 = .ok (.ladd, 1) := by decide +kernel
theorem dX3_choose_49 : decode cX3_choose 49 = .ok (.l2i, 1) := by decide +kernel
theorem dX3_choose_50 : decode cX3_choose 50 = .ok (.ireturn, 1) := by decide +kernel
set_option maxRecDepth 20000 in
theorem ggX4_init_X7_init : GoodIn wsX4_init wsX7_init := goodIn_r _ [12, 13, 2, 3, 14, 15, 16, 17, 18, 19, 20] (by decide +kernel) (by decide +kernel)
set_option maxRecDepth 20000 in
theorem gX4_init_X7_init_n11 : GoodIn wsX4_init (wsX7_init) := ggX4_init_X7_init
theorem dX4_init_0 : decode cX4_init 0 = .ok (.aload_n 0, 1) := by decide +kernel
theorem dX4_init_1 : decode cX4_init 1 = .ok (.invokespecial 3, 3) := by decide +kernel
theorem dX4_init_4 : decode cX4_init 4 = .ok (.aload_n 0, 1) := by decide +kernel
theorem dX4_init_5 : decode cX4_init 5 = .ok (.new 9, 3) := by decide +kernel
theorem dX4_init_8 : decode cX4_init 8 = .ok (.dup, 1) := by decide +kernel
theorem dX4_init_9 : decode cX4_init 9 = .ok (.invokespecial 11, 3) := by decide +kernel
theorem dX4_init_12 : decode cX4_init 12 = .ok (.putfield 12, 3) := by decide +kernel
theorem dX4_init_15 : decode cX4_init 15 = .ok (.aload_n 0, 1) := by decide +kernel
theorem dX4_init_16 : decode cX4_init 16 = .ok (.new 9, 3) := by decide +kernel
theorem dX4_init_19 : decode cX4_init 19 = .ok (.dup, 1) := by decide +kernel
theorem dX4_init_20 : decode cX4_init 20 = .ok (.invokespecial 11, 3) := by decide +kernel
theorem dX4_init_23 : decode cX4_init 23 = .ok (.putfield 18, 3) := by decide +kernel
theorem dX4_init_26 : decode cX4_init 26 = .ok (.aload_n 0, 1) := by decide +kernel
theorem dX4_init_27 : decode cX4_init 27 = .ok (.iconst 2, 1) := by decide +kernel
theorem dX4_init_28 : decode cX4_init 28 = .ok (.anewarray 9, 3) := by decide +kernel
theorem dX4_init_31 : decode cX4_init 31 = .ok (.putfield 21, 3) := by decide +kernel
theorem dX4_init_34 : decode cX4_init 34 = .ok (.aload_n 0, 1) := by decide +kernel
theorem dX4_init_35 : decode cX4_init 35 = .ok (.iconst 0, 1) := by decide +kernel
theorem dX4_init_36 : decode cX4_init 36 = .ok (.putfield 25, 3) := by decide +kernel
theorem dX4_init_39 : decode cX4_init 39 = .ok (.iconst 0, 1) := by decide +kernel
theorem dX4_init_40 : decode cX4_init 40 = .ok (.istore_n 1, 1) := by decide +kernel
theorem dX4_init_41 : decode cX4_init 41 = .ok (.iload_n 1, 1) := by decide +kernel
theorem dX4_init_42 : decode cX4_init 42 = .ok (.iconst 2, 1) := by decide +kernel
theorem dX4_init_43 : decode cX4_init 43 = .ok (.if_icmp .ge 22, 3) := by decide +kernel
theorem dX4_init_46 : decode cX4_init 46 = .ok (.aload_n 0, 1) := by decide +kernel
theorem dX4_init_47 : decode cX4_init 47 = .ok (.getfield 21, 3) := by decide +kernel
theorem dX4_init_50 : decode cX4_init 50 = .ok (.iload_n 1, 1) := by decide +kernel
theorem dX4_init_51 : decode cX4_init 51 = .ok (.new 9, 3) := by decide +kernel
theorem dX4_init_54 : decode cX4_init 54 = .ok (.dup, 1) := by decide +kernel
theorem dX4_init_55 : decode cX4_init 55 = .ok (.invokespecial 11, 3) := by decide +kernel
theorem dX4_init_58 : decode cX4_init 58 = .ok (.aastore, 1) := by decide +kernel
theorem dX4_init_59 : decode cX4_init 59 = .ok (.iinc 1 1, 3) := by decide +kernel
theorem dX4_init_62 : decode cX4_init 62 = .ok (.goto (-21), 3) := by decide +kernel
theorem dX4_init_65 : decode cX4_init 65 = .ok (.return_, 1) := by decide +kernel
theorem dX4_makeNone_0 : decode cX4_makeNone 0 = .ok (.aload_n 0, 1) := by decide +kernel
theorem dX4_makeNone_1 : decode cX4_makeNone 1 = .ok (.iconst 0, 1) := by decide +kernel
theorem dX4_makeNone_2 : decode cX4_makeNone 2 = .ok (.putfield 25, 3) := by decide +kernel
theorem dX4_makeNone_5 : decode cX4_makeNone 5 = .ok (.aload_n 0, 1) := by decide +kernel
theorem dX4_makeNone_6 : decode cX4_makeNone 6 = .ok (.getfield 12, 3) := by decide +kernel
theorem dX4_makeNone_9 : decode cX4_makeNone 9 = .ok (.iconst 1, 1) := by decide +kernel
theorem dX4_makeNone_10 : decode cX4_makeNone 10 = .ok (.putfield 29, 3) := by decide +kernel
theorem dX4_makeNone_13 : decode cX4_makeNone 13 = .ok (.aload_n 0, 1) := by decide +kernel
theorem dX4_makeNone_14 : decode cX4_makeNone 14 = .ok (.getfield 18, 3) := by decide +kernel
theorem dX4_makeNone_17 : decode cX4_makeNone 17 = .ok (.iconst 1, 1) := by decide +kernel
theorem dX4_makeNone_18 : decode cX4_makeNone 18 = .ok (.putfield 29, 3) := by decide +kernel
theorem dX4_makeNone_21 : decode cX4_makeNone 21 = .ok (.iconst 0, 1) := by decide +kernel
theorem dX4_makeNone_22 : decode cX4_makeNone 22 = .ok (.istore_n 1, 1) := by decide +kernel
theorem dX4_makeNone_23 : decode cX4_makeNone 23 = .ok (.iload_n 1, 1) := by decide +kernel
theorem dX4_makeNone_24 : decode cX4_makeNone 24 = .ok (.iconst 2, 1) := by decide +kernel
theorem dX4_makeNone_25 : decode cX4_makeNone 25 = .ok (.if_icmp .ge 19, 3) := by decide +kernel
theorem dX4_makeNone_28 : decode cX4_makeNone 28 = .ok (.aload_n 0, 1) := by decide +kernel
theorem dX4_makeNone_29 : decode cX4_makeNone 29 = .ok (.getfield 21, 3) := by decide +kernel
theorem dX4_makeNone_32 : decode cX4_makeNone 32 = .ok (.iload_n 1, 1) := by decide +kernel
theorem dX4_makeNone_33 : decode cX4_makeNone 33 = .ok (.aaload, 1) := by decide +kernel
theorem dX4_makeNone_34 : decode cX4_makeNone 34 = .ok (.iconst 1, 1) := by decide +kernel
theorem dX4_makeNone_35 : decode cX4_makeNone 35 = .ok (.putfield 29, 3) := by decide +kernel
theorem dX4_makeNone_38 : decode cX4_makeNone 38 = .ok (.iinc 1 1, 3) := by decide +kernel
theorem dX4_makeNone_41 : decode cX4_makeNone 41 = .ok (.goto (-18), 3) := by decide +kernel
theorem dX4_makeNone_44 : decode cX4_makeNone 44 = .ok (.return_, 1) := by decide +kernel
set_option maxRecDepth 20000 in
theorem ggX4_makeAnew_X7_become : GoodIn wsX4_makeAnew wsX7_become := goodIn_r _ [9, 10, 11, 12, 13, 14, 15, 16, 110, 111, 112] (by decide +kernel) (by decide +kernel)
set_option maxRecDepth 20000 in
theorem gX4_makeAnew_X7_become : GoodIn wsX4_makeAnew (wsV RX4 33 RX7 yX7_become wsX7_become) := goodIn_app (goodIn_of _ (by decide +kernel)) ggX4_makeAnew_X7_become
set_option maxRecDepth 20000 in
theorem ggX4_makeAnew_X2_applyTo : GoodIn wsX4_makeAnew wsX2_applyTo := goodIn_r _ [21, 22, 23, 24, 25, 26, 27, 28, 29, 30, 8, 31, 11, 16, 32, 33, 34, 35, 36, 37, 38, 39, 40, 41, 42, 43, 44, 45, 46, 47, 48, 49, 50, 51, 52, 53, 54, 55, 56, 110, 111, 112, 100, 101, 102, 103, 104, 105, 106, 107, 108, 109] (by decide +kernel) (by decide +kernel)
set_option maxRecDepth 20000 in
theorem gX4_makeAnew_X2_applyTo : GoodIn wsX4_makeAnew (wsV RX4 37 RX2 yX2_applyTo wsX2_applyTo) := goodIn_app (goodIn_of _ (by decide +kernel)) ggX4_makeAnew_X2_applyTo
set_option maxRecDepth 20000 in
theorem ggX4_makeAnew_X2_refineForEdge : GoodIn wsX4_makeAnew wsX2_refineForEdge := goodIn_r _ [60, 22, 61, 62, 63, 64, 65, 66, 67, 8, 68, 10, 69, 70, 45, 71, 72, 73, 74, 75, 11, 16, 36, 37, 38, 39, 40, 41, 42, 76, 77, 78, 79, 80, 29, 30, 31, 81, 82, 83, 84, 85, 86, 87, 88, 89, 90, 91, 92, 93, 94, 95, 110, 111, 112, 100, 101, 102, 103, 104, 105, 106, 107, 108, 109] (by decide +kernel) (by decide +kernel)
set_option maxRecDepth 20000 in
theorem gX4_makeAnew_X2_refineForEdge : GoodIn wsX4_makeAnew (wsV RX4 45 RX2 yX2_refineForEdge wsX2_refineForEdge) := goodIn_app (goodIn_of _ (by decide +kernel)) ggX4_makeAnew_X2_refineForEdge
theorem dX4_makeAnew_0 : decode cX4_makeAnew 0 = .ok (.aload_n 0, 1) := by decide +kernel
theorem dX4_makeAnew_1 : decode cX4_makeAnew 1 = .ok (.getfield 18, 3) := by decide +kernel
theorem dX4_makeAnew_4 : decode cX4_makeAnew 4 = .ok (.aload_n 0, 1) := by decide +kernel
theorem dX4_makeAnew_5 : decode cX4_makeAnew 5 = .ok (.getfield 12, 3) := by decide +kernel
theorem dX4_makeAnew_8 : decode cX4_makeAnew 8 = .ok (.invokevirtual 33, 3) := by decide +kernel
theorem dX4_makeAnew_11 : decode cX4_makeAnew 11 = .ok (.aload_n 1, 1) := by decide +kernel
theorem dX4_makeAnew_12 : decode cX4_makeAnew 12 = .ok (.aload_n 0, 1) := by decide +kernel
theorem dX4_makeAnew_13 : decode cX4_makeAnew 13 = .ok (.getfield 18, 3) := by decide +kernel
theorem dX4_makeAnew_16 : decode cX4_makeAnew 16 = .ok (.invokevirtual 37, 3) := by decide +kernel
theorem dX4_makeAnew_19 : decode cX4_makeAnew 19 = .ok (.iconst 0, 1) := by decide +kernel
theorem dX4_makeAnew_20 : decode cX4_makeAnew 20 = .ok (.istore_n 2, 1) := by decide +kernel
theorem dX4_makeAnew_21 : decode cX4_makeAnew 21 = .ok (.iload_n 2, 1) := by decide +kernel
theorem dX4_makeAnew_22 : decode cX4_makeAnew 22 = .ok (.aload_n 1, 1) := by decide +kernel
theorem dX4_makeAnew_23 : decode cX4_makeAnew 23 = .ok (.getfield 42, 3) := by decide +kernel
theorem dX4_makeAnew_26 : decode cX4_makeAnew 26 = .ok (.if_icmp .ge 33, 3) := by decide +kernel
theorem dX4_makeAnew_29 : decode cX4_makeAnew 29 = .ok (.aload_n 0, 1) := by decide +kernel
theorem dX4_makeAnew_30 : decode cX4_makeAnew 30 = .ok (.getfield 21, 3) := by decide +kernel
theorem dX4_makeAnew_33 : decode cX4_makeAnew 33 = .ok (.iload_n 2, 1) := by decide +kernel
theorem dX4_makeAnew_34 : decode cX4_makeAnew 34 = .ok (.aaload, 1) := by decide +kernel
theorem dX4_makeAnew_35 : decode cX4_makeAnew 35 = .ok (.aload_n 0, 1) := by decide +kernel
theorem dX4_makeAnew_36 : decode cX4_makeAnew 36 = .ok (.getfield 18, 3) := by decide +kernel
theorem dX4_makeAnew_39 : decode cX4_makeAnew 39 = .ok (.invokevirtual 33, 3) := by decide +kernel
theorem dX4_makeAnew_42 : decode cX4_makeAnew 42 = .ok (.aload_n 1, 1) := by decide +kernel
theorem dX4_makeAnew_43 : decode cX4_makeAnew 43 = .ok (.aload_n 0, 1) := by decide +kernel
theorem dX4_makeAnew_44 : decode cX4_makeAnew 44 = .ok (.getfield 21, 3) := by decide +kernel
theorem dX4_makeAnew_47 : decode cX4_makeAnew 47 = .ok (.iload_n 2, 1) := by decide +kernel
theorem dX4_makeAnew_48 : decode cX4_makeAnew 48 = .ok (.aaload, 1) := by decide +kernel
theorem dX4_makeAnew_49 : decode cX4_makeAnew 49 = .ok (.iload_n 2, 1) := by decide +kernel
theorem dX4_makeAnew_50 : decode cX4_makeAnew 50 = .ok (.invokevirtual 45, 3) := by decide +kernel
theorem dX4_makeAnew_53 : decode cX4_makeAnew 53 = .ok (.iinc 2 1, 3) := by decide +kernel
theorem dX4_makeAnew_56 : decode cX4_makeAnew 56 = .ok (.goto (-35), 3) := by decide +kernel
theorem dX4_makeAnew_59 : decode cX4_makeAnew 59 = .ok (.return_, 1) := by decide +kernel
theorem dX4_countDeadEdges_0 : decode cX4_countDeadEdges 0 = .ok (.iconst 0, 1) := by decide +kernel
theorem dX4_countDeadEdges_1 : decode cX4_countDeadEdges 1 = .ok (.istore_n 2, 1) := by decide +kernel
theorem dX4_countDeadEdges_2 : decode cX4_countDeadEdges 2 = .ok (.iconst 0, 1) := by decide +kernel
theorem dX4_countDeadEdges_3 : decode cX4_countDeadEdges 3 = .ok (.istore_n 3, 1) := by decide +kernel
theorem dX4_countDeadEdges_4 : decode cX4_countDeadEdges 4 = .ok (.aload_n 0, 1) := by decide +kernel
theorem dX4_countDeadEdges_5 : decode cX4_countDeadEdges 5 = .ok (.getfield 12, 3) := by decide +kernel
theorem dX4_countDeadEdges_8 : decode cX4_countDeadEdges 8 = .ok (.getfield 29, 3) := by decide +kernel
theorem dX4_countDeadEdges_11 : decode cX4_countDeadEdges 11 = .ok (.ifCond .ne 29, 3) := by decide +kernel
theorem dX4_countDeadEdges_14 : decode cX4_countDeadEdges 14 = .ok (.iload_n 3, 1) := by decide +kernel
theorem dX4_countDeadEdges_15 : decode cX4_countDeadEdges 15 = .ok (.iload_n 1, 1) := by decide +kernel
theorem dX4_countDeadEdges_16 : decode cX4_countDeadEdges 16 = .ok (.if_icmp .ge 24, 3) := by decide +kernel
theorem dX4_countDeadEdges_19 : decode cX4_countDeadEdges 19 = .ok (.aload_n 0, 1) := by decide +kernel
theorem dX4_countDeadEdges_20 : decode cX4_countDeadEdges 20 = .ok (.getfield 21, 3) := by decide +kernel
theorem dX4_countDeadEdges_23 : decode cX4_countDeadEdges 23 = .ok (.iload_n 3, 1) := by decide +kernel
theorem dX4_countDeadEdges_24 : decode cX4_countDeadEdges 24 = .ok (.aaload, 1) := by decide +kernel
theorem dX4_countDeadEdges_25 : decode cX4_countDeadEdges 25 = .ok (.getfield 29, 3) := by decide +kernel
theorem dX4_countDeadEdges_28 : decode cX4_countDeadEdges 28 = .ok (.ifCond .eq 6, 3) := by decide +kernel
theorem dX4_countDeadEdges_31 : decode cX4_countDeadEdges 31 = .ok (.iinc 2 1, 3) := by decide +kernel
theorem dX4_countDeadEdges_34 : decode cX4_countDeadEdges 34 = .ok (.iinc 3 1, 3) := by decide +kernel
theorem dX4_countDeadEdges_37 : decode cX4_countDeadEdges 37 = .ok (.goto (-33), 3) := by decide +kernel
theorem dX4_countDeadEdges_40 : decode cX4_countDeadEdges 40 = .ok (.iload_n 2, 1) := by decide +kernel
theorem dX4_countDeadEdges_41 : decode cX4_countDeadEdges 41 = .ok (.ireturn, 1) := by decide +kernel
set_option maxRecDepth 20000 in
theorem ggX5_init_X7_init : GoodIn wsX5_init wsX7_init := goodIn_r _ [15, 16, 2, 3, 17, 18, 19, 20, 37, 38, 39] (by decide +kernel) (by decide +kernel)
set_option maxRecDepth 20000 in
theorem gX5_init_X7_init_n19 : GoodIn wsX5_init (wsX7_init) := ggX5_init_X7_init
set_option maxRecDepth 20000 in
theorem ggX5_init_X2_init : GoodIn wsX5_init wsX2_init := goodIn_r _ [22, 23, 2, 3, 24, 18, 25, 26, 27, 28, 29, 30, 31, 32, 33, 40, 41, 42, 43, 44, 45, 46, 47, 48, 49] (by decide +kernel) (by decide +kernel)
set_option maxRecDepth 20000 in
theorem gX5_init_X2_init_n28 : GoodIn wsX5_init (wsX2_init) := ggX5_init_X2_init
theorem dX5_init_0 : decode cX5_init 0 = .ok (.aload_n 0, 1) := by decide +kernel
theorem dX5_init_1 : decode cX5_init 1 = .ok (.invokespecial 3, 3) := by decide +kernel
theorem dX5_init_4 : decode cX5_init 4 = .ok (.aload_n 0, 1) := by decide +kernel
theorem dX5_init_5 : decode cX5_init 5 = .ok (.bipush 16, 2) := by decide +kernel
theorem dX5_init_7 : decode cX5_init 7 = .ok (.anewarray 9, 3) := by decide +kernel
theorem dX5_init_10 : decode cX5_init 10 = .ok (.putfield 11, 3) := by decide +kernel
theorem dX5_init_13 : decode cX5_init 13 = .ok (.aload_n 0, 1) := by decide +kernel
theorem dX5_init_14 : decode cX5_init 14 = .ok (.new 17, 3) := by decide +kernel
theorem dX5_init_17 : decode cX5_init 17 = .ok (.dup, 1) := by decide +kernel
theorem dX5_init_18 : decode cX5_init 18 = .ok (.invokespecial 19, 3) := by decide +kernel
theorem dX5_init_21 : decode cX5_init 21 = .ok (.putfield 20, 3) := by decide +kernel
theorem dX5_init_24 : decode cX5_init 24 = .ok (.aload_n 0, 1) := by decide +kernel
theorem dX5_init_25 : decode cX5_init 25 = .ok (.iconst 1, 1) := by decide +kernel
theorem dX5_init_26 : decode cX5_init 26 = .ok (.putfield 24, 3) := by decide +kernel
theorem dX5_init_29 : decode cX5_init 29 = .ok (.iconst 0, 1) := by decide +kernel
theorem dX5_init_30 : decode cX5_init 30 = .ok (.istore_n 1, 1) := by decide +kernel
theorem dX5_init_31 : decode cX5_init 31 = .ok (.iload_n 1, 1) := by decide +kernel
theorem dX5_init_32 : decode cX5_init 32 = .ok (.bipush 16, 2) := by decide +kernel
theorem dX5_init_34 : decode cX5_init 34 = .ok (.if_icmp .ge 22, 3) := by decide +kernel
theorem dX5_init_37 : decode cX5_init 37 = .ok (.aload_n 0, 1) := by decide +kernel
theorem dX5_init_38 : decode cX5_init 38 = .ok (.getfield 11, 3) := by decide +kernel
theorem dX5_init_41 : decode cX5_init 41 = .ok (.iload_n 1, 1) := by decide +kernel
theorem dX5_init_42 : decode cX5_init 42 = .ok (.new 9, 3) := by decide +kernel
theorem dX5_init_45 : decode cX5_init 45 = .ok (.dup, 1) := by decide +kernel
theorem dX5_init_46 : decode cX5_init 46 = .ok (.invokespecial 28, 3) := by decide +kernel
theorem dX5_init_49 : decode cX5_init 49 = .ok (.aastore, 1) := by decide +kernel
theorem dX5_init_50 : decode cX5_init 50 = .ok (.iinc 1 1, 3) := by decide +kernel
theorem dX5_init_53 : decode cX5_init 53 = .ok (.goto (-22), 3) := by decide +kernel
theorem dX5_init_56 : decode cX5_init 56 = .ok (.aload_n 0, 1) := by decide +kernel
theorem dX5_init_57 : decode cX5_init 57 = .ok (.getfield 20, 3) := by decide +kernel
theorem dX5_init_60 : decode cX5_init 60 = .ok (.iconst 0, 1) := by decide +kernel
theorem dX5_init_61 : decode cX5_init 61 = .ok (.putfield 29, 3) := by decide +kernel
theorem dX5_init_64 : decode cX5_init 64 = .ok (.return_, 1) := by decide +kernel
theorem dX6_init_0 : decode cX6_init 0 = .ok (.aload_n 0, 1) := by decide +kernel
theorem dX6_init_1 : decode cX6_init 1 = .ok (.invokespecial 3, 3) := by decide +kernel
theorem dX6_init_4 : decode cX6_init 4 = .ok (.aload_n 0, 1) := by decide +kernel
theorem dX6_init_5 : decode cX6_init 5 = .ok (.iconst 2, 1) := by decide +kernel
theorem dX6_init_6 : decode cX6_init 6 = .ok (.putfield 9, 3) := by decide +kernel
theorem dX6_init_9 : decode cX6_init 9 = .ok (.aload_n 0, 1) := by decide +kernel
theorem dX6_init_10 : decode cX6_init 10 = .ok (.iconst 1, 1) := by decide +kernel
theorem dX6_init_11 : decode cX6_init 11 = .ok (.putfield 15, 3) := by decide +kernel
theorem dX6_init_14 : decode cX6_init 14 = .ok (.aload_n 0, 1) := by decide +kernel
theorem dX6_init_15 : decode cX6_init 15 = .ok (.iconst 0, 1) := by decide +kernel
theorem dX6_init_16 : decode cX6_init 16 = .ok (.putfield 18, 3) := by decide +kernel
theorem dX6_init_19 : decode cX6_init 19 = .ok (.aload_n 0, 1) := by decide +kernel
theorem dX6_init_20 : decode cX6_init 20 = .ok (.bipush 8, 2) := by decide +kernel
theorem dX6_init_22 : decode cX6_init 22 = .ok (.newarray .int, 2) := by decide +kernel
theorem dX6_init_24 : decode cX6_init 24 = .ok (.putfield 21, 3) := by decide +kernel
theorem dX6_init_27 : decode cX6_init 27 = .ok (.return_, 1) := by decide +kernel
theorem dX6_keepThreshold_0 : decode cX6_keepThreshold 0 = .ok (.iconst 0, 1) := by decide +kernel
theorem dX6_keepThreshold_1 : decode cX6_keepThreshold 1 = .ok (.istore_n 2, 1) := by decide +kernel
theorem dX6_keepThreshold_2 : decode cX6_keepThreshold 2 = .ok (.iload_n 2, 1) := by decide +kernel
theorem dX6_keepThreshold_3 : decode cX6_keepThreshold 3 = .ok (.aload_n 0, 1) := by decide +kernel
theorem dX6_keepThreshold_4 : decode cX6_keepThreshold 4 = .ok (.getfield 18, 3) := by decide +kernel
theorem dX6_keepThreshold_7 : decode cX6_keepThreshold 7 = .ok (.if_icmp .ge 20, 3) := by decide +kernel
theorem dX6_keepThreshold_10 : decode cX6_keepThreshold 10 = .ok (.aload_n 0, 1) := by decide +kernel
theorem dX6_keepThreshold_11 : decode cX6_keepThreshold 11 = .ok (.getfield 21, 3) := by decide +kernel
theorem dX6_keepThreshold_14 : decode cX6_keepThreshold 14 = .ok (.iload_n 2, 1) := by decide +kernel
theorem dX6_keepThreshold_15 : decode cX6_keepThreshold 15 = .ok (.iaload, 1) := by decide +kernel
theorem dX6_keepThreshold_16 : decode cX6_keepThreshold 16 = .ok (.iload_n 1, 1) := by decide +kernel
theorem dX6_keepThreshold_17 : decode cX6_keepThreshold 17 = .ok (.if_icmp .ne 4, 3) := by decide +kernel
theorem dX6_keepThreshold_20 : decode cX6_keepThreshold 20 = .ok (.return_, 1) := by decide +kernel
theorem dX6_keepThreshold_21 : decode cX6_keepThreshold 21 = .ok (.iinc 2 1, 3) := by decide +kernel
theorem dX6_keepThreshold_24 : decode cX6_keepThreshold 24 = .ok (.goto (-22), 3) := by decide +kernel
theorem dX6_keepThreshold_27 : decode cX6_keepThreshold 27 = .ok (.aload_n 0, 1) := by decide +kernel
theorem dX6_keepThreshold_28 : decode cX6_keepThreshold 28 = .ok (.getfield 18, 3) := by decide +kernel
theorem dX6_keepThreshold_31 : decode cX6_keepThreshold 31 = .ok (.bipush 8, 2) := by decide +kernel
theorem dX6_keepThreshold_33 : decode cX6_keepThreshold 33 = .ok (.if_icmp .ge 23, 3) := by decide +kernel
theorem dX6_keepThreshold_36 : decode cX6_keepThreshold 36 = .ok (.aload_n 0, 1) := by decide +kernel
theorem dX6_keepThreshold_37 : decode cX6_keepThreshold 37 = .ok (.getfield 21, 3) := by decide +kernel
theorem dX6_keepThreshold_40 : decode cX6_keepThreshold 40 = .ok (.aload_n 0, 1) := by decide +kernel
theorem dX6_keepThreshold_41 : decode cX6_keepThreshold 41 = .ok (.getfield 18, 3) := by decide +kernel
theorem dX6_keepThreshold_44 : decode cX6_keepThreshold 44 = .ok (.iload_n 1, 1) := by decide +kernel
theorem dX6_keepThreshold_45 : decode cX6_keepThreshold 45 = .ok (.iastore, 1) := by decide +kernel
theorem dX6_keepThreshold_46 : decode cX6_keepThreshold 46 = .ok (.aload_n 0, 1) := by decide +kernel
theorem dX6_keepThreshold_47 : decode cX6_keepThreshold 47 = .ok (.dup, 1) := by decide +kernel
theorem dX6_keepThreshold_48 : decode cX6_keepThreshold 48 = .ok (.getfield 18, 3) := by decide +kernel
theorem dX6_keepThreshold_51 : decode cX6_keepThreshold 51 = .ok (.iconst 1, 1) := by decide +kernel
theorem dX6_keepThreshold_52 : decode cX6_keepThreshold 52 = .ok (.iadd, 1) := by decide +kernel
theorem dX6_keepThreshold_53 : decode cX6_keepThreshold 53 = .ok (.putfield 18, 3) := by decide +kernel
theorem dX6_keepThreshold_56 : decode cX6_keepThreshold 56 = .ok (.return_, 1) := by decide +kernel
set_option maxRecDepth 20000 in
theorem ggX6_widen_X6_greatestUpTo : GoodIn wsX6_widen wsX6_greatestUpTo := goodIn_r _ [7, 8, 9, 10, 19, 20, 21, 22] (by decide +kernel) (by decide +kernel)
set_option maxRecDepth 20000 in
theorem gX6_widen_X6_greatestUpTo : GoodIn wsX6_widen (wsV RX6 30 RX6 yX6_greatestUpTo wsX6_greatestUpTo) := goodIn_app (goodIn_of _ (by decide +kernel)) ggX6_widen_X6_greatestUpTo
set_option maxRecDepth 20000 in
theorem ggX6_widen_X6_smallestFrom : GoodIn wsX6_widen wsX6_smallestFrom := goodIn_r _ [14, 15, 9, 10, 19, 20, 21, 22] (by decide +kernel) (by decide +kernel)
set_option maxRecDepth 20000 in
theorem gX6_widen_X6_smallestFrom : GoodIn wsX6_widen (wsV RX6 37 RX6 yX6_smallestFrom wsX6_smallestFrom) := goodIn_app (goodIn_of _ (by decide +kernel)) ggX6_widen_X6_smallestFrom
theorem dX6_widen_0 : decode cX6_widen 0 = .ok (.iconst 0, 1) := by decide +kernel
theorem dX6_widen_1 : decode cX6_widen 1 = .ok (.istore_n 3, 1) := by decide +kernel
theorem dX6_widen_2 : decode cX6_widen 2 = .ok (.iload_n 3, 1) := by decide +kernel
theorem dX6_widen_3 : decode cX6_widen 3 = .ok (.bipush 6, 2) := by decide +kernel
theorem dX6_widen_5 : decode cX6_widen 5 = .ok (.if_icmp .ge 71, 3) := by decide +kernel
theorem dX6_widen_8 : decode cX6_widen 8 = .ok (.aload_n 1, 1) := by decide +kernel
theorem dX6_widen_9 : decode cX6_widen 9 = .ok (.getfield 25, 3) := by decide +kernel
theorem dX6_widen_12 : decode cX6_widen 12 = .ok (.iload_n 3, 1) := by decide +kernel
theorem dX6_widen_13 : decode cX6_widen 13 = .ok (.iaload, 1) := by decide +kernel
theorem dX6_widen_14 : decode cX6_widen 14 = .ok (.aload_n 2, 1) := by decide +kernel
theorem dX6_widen_15 : decode cX6_widen 15 = .ok (.getfield 25, 3) := by decide +kernel
theorem dX6_widen_18 : decode cX6_widen 18 = .ok (.iload_n 3, 1) := by decide +kernel
theorem dX6_widen_19 : decode cX6_widen 19 = .ok (.iaload, 1) := by decide +kernel
theorem dX6_widen_20 : decode cX6_widen 20 = .ok (.if_icmp .ge 19, 3) := by decide +kernel
theorem dX6_widen_23 : decode cX6_widen 23 = .ok (.aload_n 1, 1) := by decide +kernel
theorem dX6_widen_24 : decode cX6_widen 24 = .ok (.getfield 25, 3) := by decide +kernel
theorem dX6_widen_27 : decode cX6_widen 27 = .ok (.iload_n 3, 1) := by decide +kernel
theorem dX6_widen_28 : decode cX6_widen 28 = .ok (.aload_n 0, 1) := by decide +kernel
theorem dX6_widen_29 : decode cX6_widen 29 = .ok (.aload_n 1, 1) := by decide +kernel
theorem dX6_widen_30 : decode cX6_widen 30 = .ok (.getfield 25, 3) := by decide +kernel
theorem dX6_widen_33 : decode cX6_widen 33 = .ok (.iload_n 3, 1) := by decide +kernel
theorem dX6_widen_34 : decode cX6_widen 34 = .ok (.iaload, 1) := by decide +kernel
theorem dX6_widen_35 : decode cX6_widen 35 = .ok (.invokevirtual 30, 3) := by decide +kernel
theorem dX6_widen_38 : decode cX6_widen 38 = .ok (.iastore, 1) := by decide +kernel
theorem dX6_widen_39 : decode cX6_widen 39 = .ok (.aload_n 1, 1) := by decide +kernel
theorem dX6_widen_40 : decode cX6_widen 40 = .ok (.getfield 34, 3) := by decide +kernel
theorem dX6_widen_43 : decode cX6_widen 43 = .ok (.iload_n 3, 1) := by decide +kernel
theorem dX6_widen_44 : decode cX6_widen 44 = .ok (.iaload, 1) := by decide +kernel
theorem dX6_widen_45 : decode cX6_widen 45 = .ok (.aload_n 2, 1) := by decide +kernel
theorem dX6_widen_46 : decode cX6_widen 46 = .ok (.getfield 34, 3) := by decide +kernel
theorem dX6_widen_49 : decode cX6_widen 49 = .ok (.iload_n 3, 1) := by decide +kernel
theorem dX6_widen_50 : decode cX6_widen 50 = .ok (.iaload, 1) := by decide +kernel
theorem dX6_widen_51 : decode cX6_widen 51 = .ok (.if_icmp .le 19, 3) := by decide +kernel
theorem dX6_widen_54 : decode cX6_widen 54 = .ok (.aload_n 1, 1) := by decide +kernel
theorem dX6_widen_55 : decode cX6_widen 55 = .ok (.getfield 34, 3) := by decide +kernel
theorem dX6_widen_58 : decode cX6_widen 58 = .ok (.iload_n 3, 1) := by decide +kernel
theorem dX6_widen_59 : decode cX6_widen 59 = .ok (.aload_n 0, 1) := by decide +kernel
theorem dX6_widen_60 : decode cX6_widen 60 = .ok (.aload_n 1, 1) := by decide +kernel
theorem dX6_widen_61 : decode cX6_widen 61 = .ok (.getfield 34, 3) := by decide +kernel
theorem dX6_widen_64 : decode cX6_widen 64 = .ok (.iload_n 3, 1) := by decide +kernel
theorem dX6_widen_65 : decode cX6_widen 65 = .ok (.iaload, 1) := by decide +kernel
theorem dX6_widen_66 : decode cX6_widen 66 = .ok (.invokevirtual 37, 3) := by decide +kernel
theorem dX6_widen_69 : decode cX6_widen 69 = .ok (.iastore, 1) := by decide +kernel
theorem dX6_widen_70 : decode cX6_widen 70 = .ok (.iinc 3 1, 3) := by decide +kernel
theorem dX6_widen_73 : decode cX6_widen 73 = .ok (.goto (-71), 3) := by decide +kernel
theorem dX6_widen_76 : decode cX6_widen 76 = .ok (.return_, 1) := by decide +kernel
theorem dX6_greatestUpTo_0 : decode cX6_greatestUpTo 0 = .ok (.ldc 40, 2) := by decide +kernel
theorem dX6_greatestUpTo_2 : decode cX6_greatestUpTo 2 = .ok (.istore_n 2, 1) := by decide +kernel
theorem dX6_greatestUpTo_3 : decode cX6_greatestUpTo 3 = .ok (.iconst 0, 1) := by decide +kernel
theorem dX6_greatestUpTo_4 : decode cX6_greatestUpTo 4 = .ok (.istore_n 3, 1) := by decide +kernel
theorem dX6_greatestUpTo_5 : decode cX6_greatestUpTo 5 = .ok (.iload_n 3, 1) := by decide +kernel
theorem dX6_greatestUpTo_6 : decode cX6_greatestUpTo 6 = .ok (.aload_n 0, 1) := by decide +kernel
theorem dX6_greatestUpTo_7 : decode cX6_greatestUpTo 7 = .ok (.getfield 18, 3) := by decide +kernel
theorem dX6_greatestUpTo_10 : decode cX6_greatestUpTo 10 = .ok (.if_icmp .ge 36, 3) := by decide +kernel
theorem dX6_greatestUpTo_13 : decode cX6_greatestUpTo 13 = .ok (.aload_n 0, 1) := by decide +kernel
theorem dX6_greatestUpTo_14 : decode cX6_greatestUpTo 14 = .ok (.getfield 21, 3) := by decide +kernel
theorem dX6_greatestUpTo_17 : decode cX6_greatestUpTo 17 = .ok (.iload_n 3, 1) := by decide +kernel
theorem dX6_greatestUpTo_18 : decode cX6_greatestUpTo 18 = .ok (.iaload, 1) := by decide +kernel
theorem dX6_greatestUpTo_19 : decode cX6_greatestUpTo 19 = .ok (.iload_n 1, 1) := by decide +kernel
theorem dX6_greatestUpTo_20 : decode cX6_greatestUpTo 20 = .ok (.if_icmp .gt 20, 3) := by decide +kernel
theorem dX6_greatestUpTo_23 : decode cX6_greatestUpTo 23 = .ok (.aload_n 0, 1) := by decide +kernel
theorem dX6_greatestUpTo_24 : decode cX6_greatestUpTo 24 = .ok (.getfield 21, 3) := by decide +kernel
theorem dX6_greatestUpTo_27 : decode cX6_greatestUpTo 27 = .ok (.iload_n 3, 1) := by decide +kernel
theorem dX6_greatestUpTo_28 : decode cX6_greatestUpTo 28 = .ok (.iaload, 1) := by decide +kernel
theorem dX6_greatestUpTo_29 : decode cX6_greatestUpTo 29 = .ok (.iload_n 2, 1) := by decide +kernel
theorem dX6_greatestUpTo_30 : decode cX6_greatestUpTo 30 = .ok (.if_icmp .le 10, 3) := by decide +kernel
theorem dX6_greatestUpTo_33 : decode cX6_greatestUpTo 33 = .ok (.aload_n 0, 1) := by decide +kernel
theorem dX6_greatestUpTo_34 : decode cX6_greatestUpTo 34 = .ok (.getfield 21, 3) := by decide +kernel
theorem dX6_greatestUpTo_37 : decode cX6_greatestUpTo 37 = .ok (.iload_n 3, 1) := by decide +kernel
theorem dX6_greatestUpTo_38 : decode cX6_greatestUpTo 38 = .ok (.iaload, 1) := by decide +kernel
theorem dX6_greatestUpTo_39 : decode cX6_greatestUpTo 39 = .ok (.istore_n 2, 1) := by decide +kernel
theorem dX6_greatestUpTo_40 : decode cX6_greatestUpTo 40 = .ok (.iinc 3 1, 3) := by decide +kernel
theorem dX6_greatestUpTo_43 : decode cX6_greatestUpTo 43 = .ok (.goto (-38), 3) := by decide +kernel
theorem dX6_greatestUpTo_46 : decode cX6_greatestUpTo 46 = .ok (.iload_n 2, 1) := by decide +kernel
theorem dX6_greatestUpTo_47 : decode cX6_greatestUpTo 47 = .ok (.ireturn, 1) := by decide +kernel
theorem dX6_smallestFrom_0 : decode cX6_smallestFrom 0 = .ok (.ldc 41, 2) := by decide +kernel
theorem dX6_smallestFrom_2 : decode cX6_smallestFrom 2 = .ok (.istore_n 2, 1) := by decide +kernel
theorem dX6_smallestFrom_3 : decode cX6_smallestFrom 3 = .ok (.iconst 0, 1) := by decide +kernel
theorem dX6_smallestFrom_4 : decode cX6_smallestFrom 4 = .ok (.istore_n 3, 1) := by decide +kernel
theorem dX6_smallestFrom_5 : decode cX6_smallestFrom 5 = .ok (.iload_n 3, 1) := by decide +kernel
theorem dX6_smallestFrom_6 : decode cX6_smallestFrom 6 = .ok (.aload_n 0, 1) := by decide +kernel
theorem dX6_smallestFrom_7 : decode cX6_smallestFrom 7 = .ok (.getfield 18, 3) := by decide +kernel
theorem dX6_smallestFrom_10 : decode cX6_smallestFrom 10 = .ok (.if_icmp .ge 36, 3) := by decide +kernel
theorem dX6_smallestFrom_13 : decode cX6_smallestFrom 13 = .ok (.aload_n 0, 1) := by decide +kernel
theorem dX6_smallestFrom_14 : decode cX6_smallestFrom 14 = .ok (.getfield 21, 3) := by decide +kernel
theorem dX6_smallestFrom_17 : decode cX6_smallestFrom 17 = .ok (.iload_n 3, 1) := by decide +kernel
theorem dX6_smallestFrom_18 : decode cX6_smallestFrom 18 = .ok (.iaload, 1) := by decide +kernel
theorem dX6_smallestFrom_19 : decode cX6_smallestFrom 19 = .ok (.iload_n 1, 1) := by decide +kernel
theorem dX6_smallestFrom_20 : decode cX6_smallestFrom 20 = .ok (.if_icmp .lt 20, 3) := by decide +kernel
theorem dX6_smallestFrom_23 : decode cX6_smallestFrom 23 = .ok (.aload_n 0, 1) := by decide +kernel
theorem dX6_smallestFrom_24 : decode cX6_smallestFrom 24 = .ok (.getfield 21, 3) := by decide +kernel
theorem dX6_smallestFrom_27 : decode cX6_smallestFrom 27 = .ok (.iload_n 3, 1) := by decide +kernel
theorem dX6_smallestFrom_28 : decode cX6_smallestFrom 28 = .ok (.iaload, 1) := by decide +kernel
theorem dX6_smallestFrom_29 : decode cX6_smallestFrom 29 = .ok (.iload_n 2, 1) := by decide +kernel
theorem dX6_smallestFrom_30 : decode cX6_smallestFrom 30 = .ok (.if_icmp .ge 10, 3) := by decide +kernel
theorem dX6_smallestFrom_33 : decode cX6_smallestFrom 33 = .ok (.aload_n 0, 1) := by decide +kernel
theorem dX6_smallestFrom_34 : decode cX6_smallestFrom 34 = .ok (.getfield 21, 3) := by decide +kernel
theorem dX6_smallestFrom_37 : decode cX6_smallestFrom 37 = .ok (.iload_n 3, 1) := by decide +kernel
theorem dX6_smallestFrom_38 : decode cX6_smallestFrom 38 = .ok (.iaload, 1) := by decide +kernel
theorem dX6_smallestFrom_39 : decode cX6_smallestFrom 39 = .ok (.istore_n 2, 1) := by decide +kernel
theorem dX6_smallestFrom_40 : decode cX6_smallestFrom 40 = .ok (.iinc 3 1, 3) := by decide +kernel
theorem dX6_smallestFrom_43 : decode cX6_smallestFrom 43 = .ok (.goto (-38), 3) := by decide +kernel
theorem dX6_smallestFrom_46 : decode cX6_smallestFrom 46 = .ok (.iload_n 2, 1) := by decide +kernel
theorem dX6_smallestFrom_47 : decode cX6_smallestFrom 47 = .ok (.ireturn, 1) := by decide +kernel
theorem dX7_init_0 : decode cX7_init 0 = .ok (.aload_n 0, 1) := by decide +kernel
theorem dX7_init_1 : decode cX7_init 1 = .ok (.invokespecial 3, 3) := by decide +kernel
theorem dX7_init_4 : decode cX7_init 4 = .ok (.aload_n 0, 1) := by decide +kernel
theorem dX7_init_5 : decode cX7_init 5 = .ok (.iconst 1, 1) := by decide +kernel
theorem dX7_init_6 : decode cX7_init 6 = .ok (.putfield 9, 3) := by decide +kernel
theorem dX7_init_9 : decode cX7_init 9 = .ok (.aload_n 0, 1) := by decide +kernel
theorem dX7_init_10 : decode cX7_init 10 = .ok (.bipush 6, 2) := by decide +kernel
theorem dX7_init_12 : decode cX7_init 12 = .ok (.newarray .int, 2) := by decide +kernel
theorem dX7_init_14 : decode cX7_init 14 = .ok (.putfield 15, 3) := by decide +kernel
theorem dX7_init_17 : decode cX7_init 17 = .ok (.aload_n 0, 1) := by decide +kernel
theorem dX7_init_18 : decode cX7_init 18 = .ok (.bipush 6, 2) := by decide +kernel
theorem dX7_init_20 : decode cX7_init 20 = .ok (.newarray .int, 2) := by decide +kernel
theorem dX7_init_22 : decode cX7_init 22 = .ok (.putfield 19, 3) := by decide +kernel
theorem dX7_init_25 : decode cX7_init 25 = .ok (.return_, 1) := by decide +kernel
theorem dX7_become_0 : decode cX7_become 0 = .ok (.aload_n 0, 1) := by decide +kernel
theorem dX7_become_1 : decode cX7_become 1 = .ok (.aload_n 1, 1) := by decide +kernel
theorem dX7_become_2 : decode cX7_become 2 = .ok (.getfield 9, 3) := by decide +kernel
theorem dX7_become_5 : decode cX7_become 5 = .ok (.putfield 9, 3) := by decide +kernel
theorem dX7_become_8 : decode cX7_become 8 = .ok (.aload_n 1, 1) := by decide +kernel
theorem dX7_become_9 : decode cX7_become 9 = .ok (.getfield 15, 3) := by decide +kernel
theorem dX7_become_12 : decode cX7_become 12 = .ok (.iconst 0, 1) := by decide +kernel
theorem dX7_become_13 : decode cX7_become 13 = .ok (.aload_n 0, 1) := by decide +kernel
theorem dX7_become_14 : decode cX7_become 14 = .ok (.getfield 15, 3) := by decide +kernel
theorem dX7_become_17 : decode cX7_become 17 = .ok (.iconst 0, 1) := by decide +kernel
theorem dX7_become_18 : decode cX7_become 18 = .ok (.bipush 6, 2) := by decide +kernel
theorem dX7_become_20 : decode cX7_become 20 = .ok (.invokestatic 22, 3) := by decide +kernel
theorem dX7_become_23 : decode cX7_become 23 = .ok (.aload_n 1, 1) := by decide +kernel
theorem dX7_become_24 : decode cX7_become 24 = .ok (.getfield 19, 3) := by decide +kernel
theorem dX7_become_27 : decode cX7_become 27 = .ok (.iconst 0, 1) := by decide +kernel
theorem dX7_become_28 : decode cX7_become 28 = .ok (.aload_n 0, 1) := by decide +kernel
theorem dX7_become_29 : decode cX7_become 29 = .ok (.getfield 19, 3) := by decide +kernel
theorem dX7_become_32 : decode cX7_become 32 = .ok (.iconst 0, 1) := by decide +kernel
theorem dX7_become_33 : decode cX7_become 33 = .ok (.bipush 6, 2) := by decide +kernel
theorem dX7_become_35 : decode cX7_become 35 = .ok (.invokestatic 22, 3) := by decide +kernel
theorem dX7_become_38 : decode cX7_become 38 = .ok (.return_, 1) := by decide +kernel
theorem dX7_differsFrom_0 : decode cX7_differsFrom 0 = .ok (.aload_n 0, 1) := by decide +kernel
theorem dX7_differsFrom_1 : decode cX7_differsFrom 1 = .ok (.getfield 9, 3) := by decide +kernel
theorem dX7_differsFrom_4 : decode cX7_differsFrom 4 = .ok (.ifCond .ne 10, 3) := by decide +kernel
theorem dX7_differsFrom_7 : decode cX7_differsFrom 7 = .ok (.aload_n 1, 1) := by decide +kernel
theorem dX7_differsFrom_8 : decode cX7_differsFrom 8 = .ok (.getfield 9, 3) := by decide +kernel
theorem dX7_differsFrom_11 : decode cX7_differsFrom 11 = .ok (.ifCond .eq 20, 3) := by decide +kernel
theorem dX7_differsFrom_14 : decode cX7_differsFrom 14 = .ok (.aload_n 0, 1) := by decide +kernel
theorem dX7_differsFrom_15 : decode cX7_differsFrom 15 = .ok (.getfield 9, 3) := by decide +kernel
theorem dX7_differsFrom_18 : decode cX7_differsFrom 18 = .ok (.aload_n 1, 1) := by decide +kernel
theorem dX7_differsFrom_19 : decode cX7_differsFrom 19 = .ok (.getfield 9, 3) := by decide +kernel
theorem dX7_differsFrom_22 : decode cX7_differsFrom 22 = .ok (.if_icmp .eq 7, 3) := by decide +kernel
theorem dX7_differsFrom_25 : decode cX7_differsFrom 25 = .ok (.iconst 1, 1) := by decide +kernel
theorem dX7_differsFrom_26 : decode cX7_differsFrom 26 = .ok (.goto 4, 3) := by decide +kernel
theorem dX7_differsFrom_29 : decode cX7_differsFrom 29 = .ok (.iconst 0, 1) := by decide +kernel
theorem dX7_differsFrom_30 : decode cX7_differsFrom 30 = .ok (.ireturn, 1) := by decide +kernel
theorem dX7_differsFrom_31 : decode cX7_differsFrom 31 = .ok (.iconst 0, 1) := by decide +kernel
theorem dX7_differsFrom_32 : decode cX7_differsFrom 32 = .ok (.istore_n 2, 1) := by decide +kernel
theorem dX7_differsFrom_33 : decode cX7_differsFrom 33 = .ok (.iload_n 2, 1) := by decide +kernel
theorem dX7_differsFrom_34 : decode cX7_differsFrom 34 = .ok (.bipush 6, 2) := by decide +kernel
theorem dX7_differsFrom_36 : decode cX7_differsFrom 36 = .ok (.if_icmp .ge 41, 3) := by decide +kernel
theorem dX7_differsFrom_39 : decode cX7_differsFrom 39 = .ok (.aload_n 0, 1) := by decide +kernel
theorem dX7_differsFrom_40 : decode cX7_differsFrom 40 = .ok (.getfield 15, 3) := by decide +kernel
theorem dX7_differsFrom_43 : decode cX7_differsFrom 43 = .ok (.iload_n 2, 1) := by decide +kernel
theorem dX7_differsFrom_44 : decode cX7_differsFrom 44 = .ok (.iaload, 1) := by decide +kernel
theorem dX7_differsFrom_45 : decode cX7_differsFrom 45 = .ok (.aload_n 1, 1) := by decide +kernel
theorem dX7_differsFrom_46 : decode cX7_differsFrom 46 = .ok (.getfield 15, 3) := by decide +kernel
theorem dX7_differsFrom_49 : decode cX7_differsFrom 49 = .ok (.iload_n 2, 1) := by decide +kernel
theorem dX7_differsFrom_50 : decode cX7_differsFrom 50 = .ok (.iaload, 1) := by decide +kernel
theorem dX7_differsFrom_51 : decode cX7_differsFrom 51 = .ok (.if_icmp .ne 18, 3) := by decide +kernel
theorem dX7_differsFrom_54 : decode cX7_differsFrom 54 = .ok (.aload_n 0, 1) := by decide +kernel
theorem dX7_differsFrom_55 : decode cX7_differsFrom 55 = .ok (.getfield 19, 3) := by decide +kernel
theorem dX7_differsFrom_58 : decode cX7_differsFrom 58 = .ok (.iload_n 2, 1) := by decide +kernel
theorem dX7_differsFrom_59 : decode cX7_differsFrom 59 = .ok (.iaload, 1) := by decide +kernel
theorem dX7_differsFrom_60 : decode cX7_differsFrom 60 = .ok (.aload_n 1, 1) := by decide +kernel
theorem dX7_differsFrom_61 : decode cX7_differsFrom 61 = .ok (.getfield 19, 3) := by decide +kernel
theorem dX7_differsFrom_64 : decode cX7_differsFrom 64 = .ok (.iload_n 2, 1) := by decide +kernel
theorem dX7_differsFrom_65 : decode cX7_differsFrom 65 = .ok (.iaload, 1) := by decide +kernel
theorem dX7_differsFrom_66 : decode cX7_differsFrom 66 = .ok (.if_icmp .eq 5, 3) := by decide +kernel
theorem dX7_differsFrom_69 : decode cX7_differsFrom 69 = .ok (.iconst 1, 1) := by decide +kernel
theorem dX7_differsFrom_70 : decode cX7_differsFrom 70 = .ok (.ireturn, 1) := by decide +kernel
theorem dX7_differsFrom_71 : decode cX7_differsFrom 71 = .ok (.iinc 2 1, 3) := by decide +kernel
theorem dX7_differsFrom_74 : decode cX7_differsFrom 74 = .ok (.goto (-41), 3) := by decide +kernel
theorem dX7_differsFrom_77 : decode cX7_differsFrom 77 = .ok (.iconst 0, 1) := by decide +kernel
theorem dX7_differsFrom_78 : decode cX7_differsFrom 78 = .ok (.ireturn, 1) := by decide +kernel
set_option maxRecDepth 20000 in
theorem ggX7_join_X7_become : GoodIn wsX7_join wsX7_become := goodIn_r _ [15, 1, 2, 16, 17, 18, 19, 7, 20, 21, 22] (by decide +kernel) (by decide +kernel)
set_option maxRecDepth 20000 in
theorem gX7_join_X7_become : GoodIn wsX7_join (wsV RX7 28 RX7 yX7_become wsX7_become) := goodIn_app (goodIn_of _ (by decide +kernel)) ggX7_join_X7_become
theorem dX7_join_0 : decode cX7_join 0 = .ok (.aload_n 1, 1) := by decide +kernel
theorem dX7_join_1 : decode cX7_join 1 = .ok (.getfield 9, 3) := by decide +kernel
theorem dX7_join_4 : decode cX7_join 4 = .ok (.ifCond .eq 4, 3) := by decide +kernel
theorem dX7_join_7 : decode cX7_join 7 = .ok (.return_, 1) := by decide +kernel
theorem dX7_join_8 : decode cX7_join 8 = .ok (.aload_n 0, 1) := by decide +kernel
theorem dX7_join_9 : decode cX7_join 9 = .ok (.getfield 9, 3) := by decide +kernel
theorem dX7_join_12 : decode cX7_join 12 = .ok (.ifCond .eq 9, 3) := by decide +kernel
theorem dX7_join_15 : decode cX7_join 15 = .ok (.aload_n 0, 1) := by decide +kernel
theorem dX7_join_16 : decode cX7_join 16 = .ok (.aload_n 1, 1) := by decide +kernel
theorem dX7_join_17 : decode cX7_join 17 = .ok (.invokevirtual 28, 3) := by decide +kernel
theorem dX7_join_20 : decode cX7_join 20 = .ok (.return_, 1) := by decide +kernel
theorem dX7_join_21 : decode cX7_join 21 = .ok (.iconst 0, 1) := by decide +kernel
theorem dX7_join_22 : decode cX7_join 22 = .ok (.istore_n 2, 1) := by decide +kernel
theorem dX7_join_23 : decode cX7_join 23 = .ok (.iload_n 2, 1) := by decide +kernel
theorem dX7_join_24 : decode cX7_join 24 = .ok (.bipush 6, 2) := by decide +kernel
theorem dX7_join_26 : decode cX7_join 26 = .ok (.if_icmp .ge 51, 3) := by decide +kernel
theorem dX7_join_29 : decode cX7_join 29 = .ok (.aload_n 0, 1) := by decide +kernel
theorem dX7_join_30 : decode cX7_join 30 = .ok (.getfield 15, 3) := by decide +kernel
theorem dX7_join_33 : decode cX7_join 33 = .ok (.iload_n 2, 1) := by decide +kernel
theorem dX7_join_34 : decode cX7_join 34 = .ok (.aload_n 0, 1) := by decide +kernel
theorem dX7_join_35 : decode cX7_join 35 = .ok (.getfield 15, 3) := by decide +kernel
theorem dX7_join_38 : decode cX7_join 38 = .ok (.iload_n 2, 1) := by decide +kernel
theorem dX7_join_39 : decode cX7_join 39 = .ok (.iaload, 1) := by decide +kernel
theorem dX7_join_40 : decode cX7_join 40 = .ok (.aload_n 1, 1) := by decide +kernel
theorem dX7_join_41 : decode cX7_join 41 = .ok (.getfield 15, 3) := by decide +kernel
theorem dX7_join_44 : decode cX7_join 44 = .ok (.iload_n 2, 1) := by decide +kernel
theorem dX7_join_45 : decode cX7_join 45 = .ok (.iaload, 1) := by decide +kernel
theorem dX7_join_46 : decode cX7_join 46 = .ok (.invokestatic 32, 3) := by decide +kernel
theorem dX7_join_49 : decode cX7_join 49 = .ok (.iastore, 1) := by decide +kernel
theorem dX7_join_50 : decode cX7_join 50 = .ok (.aload_n 0, 1) := by decide +kernel
theorem dX7_join_51 : decode cX7_join 51 = .ok (.getfield 19, 3) := by decide +kernel
theorem dX7_join_54 : decode cX7_join 54 = .ok (.iload_n 2, 1) := by decide +kernel
theorem dX7_join_55 : decode cX7_join 55 = .ok (.aload_n 0, 1) := by decide +kernel
theorem dX7_join_56 : decode cX7_join 56 = .ok (.getfield 19, 3) := by decide +kernel
theorem dX7_join_59 : decode cX7_join 59 = .ok (.iload_n 2, 1) := by decide +kernel
theorem dX7_join_60 : decode cX7_join 60 = .ok (.iaload, 1) := by decide +kernel
theorem dX7_join_61 : decode cX7_join 61 = .ok (.aload_n 1, 1) := by decide +kernel
theorem dX7_join_62 : decode cX7_join 62 = .ok (.getfield 19, 3) := by decide +kernel
theorem dX7_join_65 : decode cX7_join 65 = .ok (.iload_n 2, 1) := by decide +kernel
theorem dX7_join_66 : decode cX7_join 66 = .ok (.iaload, 1) := by decide +kernel
theorem dX7_join_67 : decode cX7_join 67 = .ok (.invokestatic 38, 3) := by decide +kernel
theorem dX7_join_70 : decode cX7_join 70 = .ok (.iastore, 1) := by decide +kernel
theorem dX7_join_71 : decode cX7_join 71 = .ok (.iinc 2 1, 3) := by decide +kernel
theorem dX7_join_74 : decode cX7_join 74 = .ok (.goto (-51), 3) := by decide +kernel
theorem dX7_join_77 : decode cX7_join 77 = .ok (.return_, 1) := by decide +kernel
theorem dX7_narrowTo_0 : decode cX7_narrowTo 0 = .ok (.aload_n 0, 1) := by decide +kernel
theorem dX7_narrowTo_1 : decode cX7_narrowTo 1 = .ok (.getfield 9, 3) := by decide +kernel
theorem dX7_narrowTo_4 : decode cX7_narrowTo 4 = .ok (.ifCond .ne 10, 3) := by decide +kernel
theorem dX7_narrowTo_7 : decode cX7_narrowTo 7 = .ok (.aload_n 1, 1) := by decide +kernel
theorem dX7_narrowTo_8 : decode cX7_narrowTo 8 = .ok (.getfield 9, 3) := by decide +kernel
theorem dX7_narrowTo_11 : decode cX7_narrowTo 11 = .ok (.ifCond .eq 9, 3) := by decide +kernel
theorem dX7_narrowTo_14 : decode cX7_narrowTo 14 = .ok (.aload_n 0, 1) := by decide +kernel
theorem dX7_narrowTo_15 : decode cX7_narrowTo 15 = .ok (.iconst 1, 1) := by decide +kernel
theorem dX7_narrowTo_16 : decode cX7_narrowTo 16 = .ok (.putfield 9, 3) := by decide +kernel
theorem dX7_narrowTo_19 : decode cX7_narrowTo 19 = .ok (.return_, 1) := by decide +kernel
theorem dX7_narrowTo_20 : decode cX7_narrowTo 20 = .ok (.iconst 0, 1) := by decide +kernel
theorem dX7_narrowTo_21 : decode cX7_narrowTo 21 = .ok (.istore_n 2, 1) := by decide +kernel
theorem dX7_narrowTo_22 : decode cX7_narrowTo 22 = .ok (.iload_n 2, 1) := by decide +kernel
theorem dX7_narrowTo_23 : decode cX7_narrowTo 23 = .ok (.bipush 6, 2) := by decide +kernel
theorem dX7_narrowTo_25 : decode cX7_narrowTo 25 = .ok (.if_icmp .ge 51, 3) := by decide +kernel
theorem dX7_narrowTo_28 : decode cX7_narrowTo 28 = .ok (.aload_n 0, 1) := by decide +kernel
theorem dX7_narrowTo_29 : decode cX7_narrowTo 29 = .ok (.getfield 15, 3) := by decide +kernel
theorem dX7_narrowTo_32 : decode cX7_narrowTo 32 = .ok (.iload_n 2, 1) := by decide +kernel
theorem dX7_narrowTo_33 : decode cX7_narrowTo 33 = .ok (.aload_n 0, 1) := by decide +kernel
theorem dX7_narrowTo_34 : decode cX7_narrowTo 34 = .ok (.getfield 15, 3) := by decide +kernel
theorem dX7_narrowTo_37 : decode cX7_narrowTo 37 = .ok (.iload_n 2, 1) := by decide +kernel
theorem dX7_narrowTo_38 : decode cX7_narrowTo 38 = .ok (.iaload, 1) := by decide +kernel
theorem dX7_narrowTo_39 : decode cX7_narrowTo 39 = .ok (.aload_n 1, 1) := by decide +kernel
theorem dX7_narrowTo_40 : decode cX7_narrowTo 40 = .ok (.getfield 15, 3) := by decide +kernel
theorem dX7_narrowTo_43 : decode cX7_narrowTo 43 = .ok (.iload_n 2, 1) := by decide +kernel
theorem dX7_narrowTo_44 : decode cX7_narrowTo 44 = .ok (.iaload, 1) := by decide +kernel
theorem dX7_narrowTo_45 : decode cX7_narrowTo 45 = .ok (.invokestatic 38, 3) := by decide +kernel
theorem dX7_narrowTo_48 : decode cX7_narrowTo 48 = .ok (.iastore, 1) := by decide +kernel
theorem dX7_narrowTo_49 : decode cX7_narrowTo 49 = .ok (.aload_n 0, 1) := by decide +kernel
theorem dX7_narrowTo_50 : decode cX7_narrowTo 50 = .ok (.getfield 19, 3) := by decide +kernel
theorem dX7_narrowTo_53 : decode cX7_narrowTo 53 = .ok (.iload_n 2, 1) := by decide +kernel
theorem dX7_narrowTo_54 : decode cX7_narrowTo 54 = .ok (.aload_n 0, 1) := by decide +kernel
theorem dX7_narrowTo_55 : decode cX7_narrowTo 55 = .ok (.getfield 19, 3) := by decide +kernel
theorem dX7_narrowTo_58 : decode cX7_narrowTo 58 = .ok (.iload_n 2, 1) := by decide +kernel
theorem dX7_narrowTo_59 : decode cX7_narrowTo 59 = .ok (.iaload, 1) := by decide +kernel
theorem dX7_narrowTo_60 : decode cX7_narrowTo 60 = .ok (.aload_n 1, 1) := by decide +kernel
theorem dX7_narrowTo_61 : decode cX7_narrowTo 61 = .ok (.getfield 19, 3) := by decide +kernel
theorem dX7_narrowTo_64 : decode cX7_narrowTo 64 = .ok (.iload_n 2, 1) := by decide +kernel
theorem dX7_narrowTo_65 : decode cX7_narrowTo 65 = .ok (.iaload, 1) := by decide +kernel
theorem dX7_narrowTo_66 : decode cX7_narrowTo 66 = .ok (.invokestatic 32, 3) := by decide +kernel
theorem dX7_narrowTo_69 : decode cX7_narrowTo 69 = .ok (.iastore, 1) := by decide +kernel
theorem dX7_narrowTo_70 : decode cX7_narrowTo 70 = .ok (.iinc 2 1, 3) := by decide +kernel
theorem dX7_narrowTo_73 : decode cX7_narrowTo 73 = .ok (.goto (-51), 3) := by decide +kernel
theorem dX7_narrowTo_76 : decode cX7_narrowTo 76 = .ok (.return_, 1) := by decide +kernel
set_option maxRecDepth 20000 in
theorem ggX7_countConstants_X7_isConstant : GoodIn wsX7_countConstants wsX7_isConstant := goodIn_r _ [6, 7, 8, 9, 10, 11] (by decide +kernel) (by decide +kernel)
set_option maxRecDepth 20000 in
theorem gX7_countConstants_X7_isConstant : GoodIn wsX7_countConstants (wsV RX7 41 RX7 yX7_isConstant wsX7_isConstant) := goodIn_app (goodIn_of _ (by decide +kernel)) ggX7_countConstants_X7_isConstant
theorem dX7_countConstants_0 : decode cX7_countConstants 0 = .ok (.iconst 0, 1) := by decide +kernel
theorem dX7_countConstants_1 : decode cX7_countConstants 1 = .ok (.istore_n 1, 1) := by decide +kernel
theorem dX7_countConstants_2 : decode cX7_countConstants 2 = .ok (.iconst 0, 1) := by decide +kernel
theorem dX7_countConstants_3 : decode cX7_countConstants 3 = .ok (.istore_n 2, 1) := by decide +kernel
theorem dX7_countConstants_4 : decode cX7_countConstants 4 = .ok (.aload_n 0, 1) := by decide +kernel
theorem dX7_countConstants_5 : decode cX7_countConstants 5 = .ok (.getfield 9, 3) := by decide +kernel
theorem dX7_countConstants_8 : decode cX7_countConstants 8 = .ok (.ifCond .ne 26, 3) := by decide +kernel
theorem dX7_countConstants_11 : decode cX7_countConstants 11 = .ok (.iload_n 2, 1) := by decide +kernel
theorem dX7_countConstants_12 : decode cX7_countConstants 12 = .ok (.bipush 6, 2) := by decide +kernel
theorem dX7_countConstants_14 : decode cX7_countConstants 14 = .ok (.if_icmp .ge 20, 3) := by decide +kernel
theorem dX7_countConstants_17 : decode cX7_countConstants 17 = .ok (.aload_n 0, 1) := by decide +kernel
theorem dX7_countConstants_18 : decode cX7_countConstants 18 = .ok (.iload_n 2, 1) := by decide +kernel
theorem dX7_countConstants_19 : decode cX7_countConstants 19 = .ok (.invokevirtual 41, 3) := by decide +kernel
theorem dX7_countConstants_22 : decode cX7_countConstants 22 = .ok (.ifCond .eq 6, 3) := by decide +kernel
theorem dX7_countConstants_25 : decode cX7_countConstants 25 = .ok (.iinc 1 1, 3) := by decide +kernel
theorem dX7_countConstants_28 : decode cX7_countConstants 28 = .ok (.iinc 2 1, 3) := by decide +kernel
theorem dX7_countConstants_31 : decode cX7_countConstants 31 = .ok (.goto (-27), 3) := by decide +kernel
theorem dX7_countConstants_34 : decode cX7_countConstants 34 = .ok (.iload_n 1, 1) := by decide +kernel
theorem dX7_countConstants_35 : decode cX7_countConstants 35 = .ok (.ireturn, 1) := by decide +kernel
theorem dX7_isConstant_0 : decode cX7_isConstant 0 = .ok (.aload_n 0, 1) := by decide +kernel
theorem dX7_isConstant_1 : decode cX7_isConstant 1 = .ok (.getfield 15, 3) := by decide +kernel
theorem dX7_isConstant_4 : decode cX7_isConstant 4 = .ok (.iload_n 1, 1) := by decide +kernel
theorem dX7_isConstant_5 : decode cX7_isConstant 5 = .ok (.iaload, 1) := by decide +kernel
theorem dX7_isConstant_6 : decode cX7_isConstant 6 = .ok (.aload_n 0, 1) := by decide +kernel
theorem dX7_isConstant_7 : decode cX7_isConstant 7 = .ok (.getfield 19, 3) := by decide +kernel
theorem dX7_isConstant_10 : decode cX7_isConstant 10 = .ok (.iload_n 1, 1) := by decide +kernel
theorem dX7_isConstant_11 : decode cX7_isConstant 11 = .ok (.iaload, 1) := by decide +kernel
theorem dX7_isConstant_12 : decode cX7_isConstant 12 = .ok (.if_icmp .ne 7, 3) := by decide +kernel
theorem dX7_isConstant_15 : decode cX7_isConstant 15 = .ok (.iconst 1, 1) := by decide +kernel
theorem dX7_isConstant_16 : decode cX7_isConstant 16 = .ok (.goto 4, 3) := by decide +kernel
theorem dX7_isConstant_19 : decode cX7_isConstant 19 = .ok (.iconst 0, 1) := by decide +kernel
theorem dX7_isConstant_20 : decode cX7_isConstant 20 = .ok (.ireturn, 1) := by decide +kernel
theorem dX7_setRange_0 : decode cX7_setRange 0 = .ok (.aload_n 0, 1) := by decide +kernel
theorem dX7_setRange_1 : decode cX7_setRange 1 = .ok (.getfield 15, 3) := by decide +kernel
theorem dX7_setRange_4 : decode cX7_setRange 4 = .ok (.iload_n 1, 1) := by decide +kernel
theorem dX7_setRange_5 : decode cX7_setRange 5 = .ok (.iload_n 2, 1) := by decide +kernel
theorem dX7_setRange_6 : decode cX7_setRange 6 = .ok (.iastore, 1) := by decide +kernel
theorem dX7_setRange_7 : decode cX7_setRange 7 = .ok (.aload_n 0, 1) := by decide +kernel
theorem dX7_setRange_8 : decode cX7_setRange 8 = .ok (.getfield 19, 3) := by decide +kernel
theorem dX7_setRange_11 : decode cX7_setRange 11 = .ok (.iload_n 1, 1) := by decide +kernel
theorem dX7_setRange_12 : decode cX7_setRange 12 = .ok (.iload_n 3, 1) := by decide +kernel
theorem dX7_setRange_13 : decode cX7_setRange 13 = .ok (.iastore, 1) := by decide +kernel
theorem dX7_setRange_14 : decode cX7_setRange 14 = .ok (.return_, 1) := by decide +kernel
set_option maxRecDepth 20000 in
theorem ggX7_assign_X1_outcome : GoodIn wsX7_assign wsX1_outcome := goodIn_r _ [13, 14, 4, 5, 6, 15, 8, 9, 16, 17, 18, 19, 20, 21, 22, 23] (by decide +kernel) (by decide +kernel)
set_option maxRecDepth 20000 in
theorem gX7_assign_X1_outcome : GoodIn wsX7_assign (va_wsS RX7 45 yX1_outcome wsX1_outcome) := goodIn_app (goodIn_of _ (by decide +kernel)) ggX7_assign_X1_outcome
theorem dX7_assign_0 : decode cX7_assign 0 = .ok (.iload_n 1, 1) := by decide +kernel
theorem dX7_assign_1 : decode cX7_assign 1 = .ok (.aload_n 0, 1) := by decide +kernel
theorem dX7_assign_2 : decode cX7_assign 2 = .ok (.getfield 15, 3) := by decide +kernel
theorem dX7_assign_5 : decode cX7_assign 5 = .ok (.iload_n 3, 1) := by decide +kernel
theorem dX7_assign_6 : decode cX7_assign 6 = .ok (.iaload, 1) := by decide +kernel
theorem dX7_assign_7 : decode cX7_assign 7 = .ok (.aload_n 0, 1) := by decide +kernel
theorem dX7_assign_8 : decode cX7_assign 8 = .ok (.getfield 15, 3) := by decide +kernel
theorem dX7_assign_11 : decode cX7_assign 11 = .ok (.iload 4, 2) := by decide +kernel
theorem dX7_assign_13 : decode cX7_assign 13 = .ok (.iaload, 1) := by decide +kernel
theorem dX7_assign_14 : decode cX7_assign 14 = .ok (.invokestatic 45, 3) := by decide +kernel
theorem dX7_assign_17 : decode cX7_assign 17 = .ok (.istore 5, 2) := by decide +kernel
theorem dX7_assign_19 : decode cX7_assign 19 = .ok (.iload_n 1, 1) := by decide +kernel
theorem dX7_assign_20 : decode cX7_assign 20 = .ok (.aload_n 0, 1) := by decide +kernel
theorem dX7_assign_21 : decode cX7_assign 21 = .ok (.getfield 15, 3) := by decide +kernel
theorem dX7_assign_24 : decode cX7_assign 24 = .ok (.iload_n 3, 1) := by decide +kernel
theorem dX7_assign_25 : decode cX7_assign 25 = .ok (.iaload, 1) := by decide +kernel
theorem dX7_assign_26 : decode cX7_assign 26 = .ok (.aload_n 0, 1) := by decide +kernel
theorem dX7_assign_27 : decode cX7_assign 27 = .ok (.getfield 19, 3) := by decide +kernel
theorem dX7_assign_30 : decode cX7_assign 30 = .ok (.iload 4, 2) := by decide +kernel
theorem dX7_assign_32 : decode cX7_assign 32 = .ok (.iaload, 1) := by decide +kernel
theorem dX7_assign_33 : decode cX7_assign 33 = .ok (.invokestatic 45, 3) := by decide +kernel
theorem dX7_assign_36 : decode cX7_assign 36 = .ok (.istore 6, 2) := by decide +kernel
theorem dX7_assign_38 : decode cX7_assign 38 = .ok (.iload_n 1, 1) := by decide +kernel
theorem dX7_assign_39 : decode cX7_assign 39 = .ok (.aload_n 0, 1) := by decide +kernel
theorem dX7_assign_40 : decode cX7_assign 40 = .ok (.getfield 19, 3) := by decide +kernel
theorem dX7_assign_43 : decode cX7_assign 43 = .ok (.iload_n 3, 1) := by decide +kernel
theorem dX7_assign_44 : decode cX7_assign 44 = .ok (.iaload, 1) := by decide +kernel
theorem dX7_assign_45 : decode cX7_assign 45 = .ok (.aload_n 0, 1) := by decide +kernel
theorem dX7_assign_46 : decode cX7_assign 46 = .ok (.getfield 15, 3) := by decide +kernel
theorem dX7_assign_49 : decode cX7_assign 49 = .ok (.iload 4, 2) := by decide +kernel
theorem dX7_assign_51 : decode cX7_assign 51 = .ok (.iaload, 1) := by decide +kernel
theorem dX7_assign_52 : decode cX7_assign 52 = .ok (.invokestatic 45, 3) := by decide +kernel
theorem dX7_assign_55 : decode cX7_assign 55 = .ok (.istore 7, 2) := by decide +kernel
theorem dX7_assign_57 : decode cX7_assign 57 = .ok (.iload_n 1, 1) := by decide +kernel
theorem dX7_assign_58 : decode cX7_assign 58 = .ok (.aload_n 0, 1) := by decide +kernel
theorem dX7_assign_59 : decode cX7_assign 59 = .ok (.getfield 19, 3) := by decide +kernel
theorem dX7_assign_62 : decode cX7_assign 62 = .ok (.iload_n 3, 1) := by decide +kernel
theorem dX7_assign_63 : decode cX7_assign 63 = .ok (.iaload, 1) := by decide +kernel
theorem dX7_assign_64 : decode cX7_assign 64 = .ok (.aload_n 0, 1) := by decide +kernel
theorem dX7_assign_65 : decode cX7_assign 65 = .ok (.getfield 19, 3) := by decide +kernel
theorem dX7_assign_68 : decode cX7_assign 68 = .ok (.iload 4, 2) := by decide +kernel
theorem dX7_assign_70 : decode cX7_assign 70 = .ok (.iaload, 1) := by decide +kernel
theorem dX7_assign_71 : decode cX7_assign 71 = .ok (.invokestatic 45, 3) := by decide +kernel
theorem dX7_assign_74 : decode cX7_assign 74 = .ok (.istore 8, 2) := by decide +kernel
theorem dX7_assign_76 : decode cX7_assign 76 = .ok (.aload_n 0, 1) := by decide +kernel
theorem dX7_assign_77 : decode cX7_assign 77 = .ok (.getfield 15, 3) := by decide +kernel
theorem dX7_assign_80 : decode cX7_assign 80 = .ok (.iload_n 2, 1) := by decide +kernel
theorem dX7_assign_81 : decode cX7_assign 81 = .ok (.iload 5, 2) := by decide +kernel
theorem dX7_assign_83 : decode cX7_assign 83 = .ok (.iload 6, 2) := by decide +kernel
theorem dX7_assign_85 : decode cX7_assign 85 = .ok (.invokestatic 32, 3) := by decide +kernel
theorem dX7_assign_88 : decode cX7_assign 88 = .ok (.iload 7, 2) := by decide +kernel
theorem dX7_assign_90 : decode cX7_assign 90 = .ok (.iload 8, 2) := by decide +kernel
theorem dX7_assign_92 : decode cX7_assign 92 = .ok (.invokestatic 32, 3) := by decide +kernel
theorem dX7_assign_95 : decode cX7_assign 95 = .ok (.invokestatic 32, 3) := by decide +kernel
theorem dX7_assign_98 : decode cX7_assign 98 = .ok (.iastore, 1) := by decide +kernel
theorem dX7_assign_99 : decode cX7_assign 99 = .ok (.aload_n 0, 1) := by decide +kernel
theorem dX7_assign_100 : decode cX7_assign 100 = .ok (.getfield 19, 3) := by decide +kernel
theorem dX7_assign_103 : decode cX7_assign 103 = .ok (.iload_n 2, 1) := by decide +kernel
theorem dX7_assign_104 : decode cX7_assign 104 = .ok (.iload 5, 2) := by decide +kernel
theorem dX7_assign_106 : decode cX7_assign 106 = .ok (.iload 6, 2) := by decide +kernel
theorem dX7_assign_108 : decode cX7_assign 108 = .ok (.invokestatic 38, 3) := by decide +kernel
theorem dX7_assign_111 : decode cX7_assign 111 = .ok (.iload 7, 2) := by decide +kernel
theorem dX7_assign_113 : decode cX7_assign 113 = .ok (.iload 8, 2) := by decide +kernel
theorem dX7_assign_115 : decode cX7_assign 115 = .ok (.invokestatic 38, 3) := by decide +kernel
theorem dX7_assign_118 : decode cX7_assign 118 = .ok (.invokestatic 38, 3) := by decide +kernel
theorem dX7_assign_121 : decode cX7_assign 121 = .ok (.iastore, 1) := by decide +kernel
theorem dX7_assign_122 : decode cX7_assign 122 = .ok (.return_, 1) := by decide +kernel
set_option maxRecDepth 20000 in
theorem ggX7_refine_X1_isTrue : GoodIn wsX7_refine wsX1_isTrue := goodIn_r _ [5] (by decide +kernel) (by decide +kernel)
set_option maxRecDepth 20000 in
theorem gX7_refine_X1_isTrue : GoodIn wsX7_refine (va_wsS RX7 51 yX1_isTrue wsX1_isTrue) := goodIn_app (goodIn_of _ (by decide +kernel)) ggX7_refine_X1_isTrue
set_option maxRecDepth 20000 in
theorem ggX7_refine_X7_keepOrdered : GoodIn wsX7_refine wsX7_keepOrdered := goodIn_r _ [10, 11, 12, 1, 13, 14, 15, 16, 17, 18, 19, 40, 41, 42] (by decide +kernel) (by decide +kernel)
set_option maxRecDepth 20000 in
theorem gX7_refine_X7_keepOrdered : GoodIn wsX7_refine (wsV RX7 55 RX7 yX7_keepOrdered wsX7_keepOrdered) := goodIn_app (goodIn_of _ (by decide +kernel)) ggX7_refine_X7_keepOrdered
set_option maxRecDepth 20000 in
theorem ggX7_refine_X7_keepEqual : GoodIn wsX7_refine wsX7_keepEqual := goodIn_r _ [23, 11, 17, 18, 15, 19, 12, 13, 14, 16, 1, 24, 25, 26, 9, 27, 40, 41, 42] (by decide +kernel) (by decide +kernel)
set_option maxRecDepth 20000 in
theorem gX7_refine_X7_keepEqual : GoodIn wsX7_refine (wsV RX7 59 RX7 yX7_keepEqual wsX7_keepEqual) := goodIn_app (goodIn_of _ (by decide +kernel)) ggX7_refine_X7_keepEqual
set_option maxRecDepth 20000 in
theorem ggX7_refine_X7_keepUnequal : GoodIn wsX7_refine wsX7_keepUnequal := goodIn_r _ [31, 11, 1, 32, 33, 34, 9, 35, 12, 36, 37, 38, 39, 40, 41, 42] (by decide +kernel) (by decide +kernel)
set_option maxRecDepth 20000 in
theorem gX7_refine_X7_keepUnequal : GoodIn wsX7_refine (wsV RX7 63 RX7 yX7_keepUnequal wsX7_keepUnequal) := goodIn_app (goodIn_of _ (by decide +kernel)) ggX7_refine_X7_keepUnequal
theorem dX7_refine_0 : decode cX7_refine 0 = .ok (.iload_n 1, 1) := by decide +kernel
theorem dX7_refine_1 : decode cX7_refine 1 = .ok (.iload_n 3, 1) := by decide +kernel
theorem dX7_refine_2 : decode cX7_refine 2 = .ok (.if_icmp .ne 22, 3) := by decide +kernel
theorem dX7_refine_5 : decode cX7_refine 5 = .ok (.aload_n 0, 1) := by decide +kernel
theorem dX7_refine_6 : decode cX7_refine 6 = .ok (.iconst 0, 1) := by decide +kernel
theorem dX7_refine_7 : decode cX7_refine 7 = .ok (.iload_n 2, 1) := by decide +kernel
theorem dX7_refine_8 : decode cX7_refine 8 = .ok (.iconst 0, 1) := by decide +kernel
theorem dX7_refine_9 : decode cX7_refine 9 = .ok (.invokestatic 51, 3) := by decide +kernel
theorem dX7_refine_12 : decode cX7_refine 12 = .ok (.ifCond .ne 7, 3) := by decide +kernel
theorem dX7_refine_15 : decode cX7_refine 15 = .ok (.iconst 1, 1) := by decide +kernel
theorem dX7_refine_16 : decode cX7_refine 16 = .ok (.goto 4, 3) := by decide +kernel
theorem dX7_refine_19 : decode cX7_refine 19 = .ok (.iconst 0, 1) := by decide +kernel
theorem dX7_refine_20 : decode cX7_refine 20 = .ok (.putfield 9, 3) := by decide +kernel
theorem dX7_refine_23 : decode cX7_refine 23 = .ok (.return_, 1) := by decide +kernel
theorem dX7_refine_24 : decode cX7_refine 24 = .ok (.iload_n 2, 1) := by decide +kernel
theorem dX7_refine_25 : decode cX7_refine 25 = .ok (.tableswitch 56 0 2 #[27, 37, 47], 27) := by decide +kernel
theorem dX7_refine_52 : decode cX7_refine 52 = .ok (.aload_n 0, 1) := by decide +kernel
theorem dX7_refine_53 : decode cX7_refine 53 = .ok (.iload_n 1, 1) := by decide +kernel
theorem dX7_refine_54 : decode cX7_refine 54 = .ok (.iload_n 3, 1) := by decide +kernel
theorem dX7_refine_55 : decode cX7_refine 55 = .ok (.iconst 1, 1) := by decide +kernel
theorem dX7_refine_56 : decode cX7_refine 56 = .ok (.invokevirtual 55, 3) := by decide +kernel
theorem dX7_refine_59 : decode cX7_refine 59 = .ok (.goto 28, 3) := by decide +kernel
theorem dX7_refine_62 : decode cX7_refine 62 = .ok (.aload_n 0, 1) := by decide +kernel
theorem dX7_refine_63 : decode cX7_refine 63 = .ok (.iload_n 1, 1) := by decide +kernel
theorem dX7_refine_64 : decode cX7_refine 64 = .ok (.iload_n 3, 1) := by decide +kernel
theorem dX7_refine_65 : decode cX7_refine 65 = .ok (.iconst 0, 1) := by decide +kernel
theorem dX7_refine_66 : decode cX7_refine 66 = .ok (.invokevirtual 55, 3) := by decide +kernel
theorem dX7_refine_69 : decode cX7_refine 69 = .ok (.goto 18, 3) := by decide +kernel
theorem dX7_refine_72 : decode cX7_refine 72 = .ok (.aload_n 0, 1) := by decide +kernel
theorem dX7_refine_73 : decode cX7_refine 73 = .ok (.iload_n 1, 1) := by decide +kernel
theorem dX7_refine_74 : decode cX7_refine 74 = .ok (.iload_n 3, 1) := by decide +kernel
theorem dX7_refine_75 : decode cX7_refine 75 = .ok (.invokevirtual 59, 3) := by decide +kernel
theorem dX7_refine_78 : decode cX7_refine 78 = .ok (.goto 9, 3) := by decide +kernel
theorem dX7_refine_81 : decode cX7_refine 81 = .ok (.aload_n 0, 1) := by decide +kernel
theorem dX7_refine_82 : decode cX7_refine 82 = .ok (.iload_n 1, 1) := by decide +kernel
theorem dX7_refine_83 : decode cX7_refine 83 = .ok (.iload_n 3, 1) := by decide +kernel
theorem dX7_refine_84 : decode cX7_refine 84 = .ok (.invokevirtual 63, 3) := by decide +kernel
theorem dX7_refine_87 : decode cX7_refine 87 = .ok (.return_, 1) := by decide +kernel
theorem dX7_keepOrdered_0 : decode cX7_keepOrdered 0 = .ok (.aload_n 0, 1) := by decide +kernel
theorem dX7_keepOrdered_1 : decode cX7_keepOrdered 1 = .ok (.getfield 15, 3) := by decide +kernel
theorem dX7_keepOrdered_4 : decode cX7_keepOrdered 4 = .ok (.iload_n 1, 1) := by decide +kernel
theorem dX7_keepOrdered_5 : decode cX7_keepOrdered 5 = .ok (.iaload, 1) := by decide +kernel
theorem dX7_keepOrdered_6 : decode cX7_keepOrdered 6 = .ok (.iload_n 3, 1) := by decide +kernel
theorem dX7_keepOrdered_7 : decode cX7_keepOrdered 7 = .ok (.iadd, 1) := by decide +kernel
theorem dX7_keepOrdered_8 : decode cX7_keepOrdered 8 = .ok (.aload_n 0, 1) := by decide +kernel
theorem dX7_keepOrdered_9 : decode cX7_keepOrdered 9 = .ok (.getfield 19, 3) := by decide +kernel
theorem dX7_keepOrdered_12 : decode cX7_keepOrdered 12 = .ok (.iload_n 2, 1) := by decide +kernel
theorem dX7_keepOrdered_13 : decode cX7_keepOrdered 13 = .ok (.iaload, 1) := by decide +kernel
theorem dX7_keepOrdered_14 : decode cX7_keepOrdered 14 = .ok (.if_icmp .le 9, 3) := by decide +kernel
theorem dX7_keepOrdered_17 : decode cX7_keepOrdered 17 = .ok (.aload_n 0, 1) := by decide +kernel
theorem dX7_keepOrdered_18 : decode cX7_keepOrdered 18 = .ok (.iconst 1, 1) := by decide +kernel
theorem dX7_keepOrdered_19 : decode cX7_keepOrdered 19 = .ok (.putfield 9, 3) := by decide +kernel
theorem dX7_keepOrdered_22 : decode cX7_keepOrdered 22 = .ok (.return_, 1) := by decide +kernel
theorem dX7_keepOrdered_23 : decode cX7_keepOrdered 23 = .ok (.aload_n 0, 1) := by decide +kernel
theorem dX7_keepOrdered_24 : decode cX7_keepOrdered 24 = .ok (.getfield 19, 3) := by decide +kernel
theorem dX7_keepOrdered_27 : decode cX7_keepOrdered 27 = .ok (.iload_n 1, 1) := by decide +kernel
theorem dX7_keepOrdered_28 : decode cX7_keepOrdered 28 = .ok (.aload_n 0, 1) := by decide +kernel
theorem dX7_keepOrdered_29 : decode cX7_keepOrdered 29 = .ok (.getfield 19, 3) := by decide +kernel
theorem dX7_keepOrdered_32 : decode cX7_keepOrdered 32 = .ok (.iload_n 1, 1) := by decide +kernel
theorem dX7_keepOrdered_33 : decode cX7_keepOrdered 33 = .ok (.iaload, 1) := by decide +kernel
theorem dX7_keepOrdered_34 : decode cX7_keepOrdered 34 = .ok (.aload_n 0, 1) := by decide +kernel
theorem dX7_keepOrdered_35 : decode cX7_keepOrdered 35 = .ok (.getfield 19, 3) := by decide +kernel
theorem dX7_keepOrdered_38 : decode cX7_keepOrdered 38 = .ok (.iload_n 2, 1) := by decide +kernel
theorem dX7_keepOrdered_39 : decode cX7_keepOrdered 39 = .ok (.iaload, 1) := by decide +kernel
theorem dX7_keepOrdered_40 : decode cX7_keepOrdered 40 = .ok (.iload_n 3, 1) := by decide +kernel
theorem dX7_keepOrdered_41 : decode cX7_keepOrdered 41 = .ok (.isub, 1) := by decide +kernel
theorem dX7_keepOrdered_42 : decode cX7_keepOrdered 42 = .ok (.invokestatic 32, 3) := by decide +kernel
theorem dX7_keepOrdered_45 : decode cX7_keepOrdered 45 = .ok (.iastore, 1) := by decide +kernel
theorem dX7_keepOrdered_46 : decode cX7_keepOrdered 46 = .ok (.aload_n 0, 1) := by decide +kernel
theorem dX7_keepOrdered_47 : decode cX7_keepOrdered 47 = .ok (.getfield 15, 3) := by decide +kernel
theorem dX7_keepOrdered_50 : decode cX7_keepOrdered 50 = .ok (.iload_n 2, 1) := by decide +kernel
theorem dX7_keepOrdered_51 : decode cX7_keepOrdered 51 = .ok (.aload_n 0, 1) := by decide +kernel
theorem dX7_keepOrdered_52 : decode cX7_keepOrdered 52 = .ok (.getfield 15, 3) := by decide +kernel
theorem dX7_keepOrdered_55 : decode cX7_keepOrdered 55 = .ok (.iload_n 2, 1) := by decide +kernel
theorem dX7_keepOrdered_56 : decode cX7_keepOrdered 56 = .ok (.iaload, 1) := by decide +kernel
theorem dX7_keepOrdered_57 : decode cX7_keepOrdered 57 = .ok (.aload_n 0, 1) := by decide +kernel
theorem dX7_keepOrdered_58 : decode cX7_keepOrdered 58 = .ok (.getfield 15, 3) := by decide +kernel
theorem dX7_keepOrdered_61 : decode cX7_keepOrdered 61 = .ok (.iload_n 1, 1) := by decide +kernel
theorem dX7_keepOrdered_62 : decode cX7_keepOrdered 62 = .ok (.iaload, 1) := by decide +kernel
theorem dX7_keepOrdered_63 : decode cX7_keepOrdered 63 = .ok (.iload_n 3, 1) := by decide +kernel
theorem dX7_keepOrdered_64 : decode cX7_keepOrdered 64 = .ok (.iadd, 1) := by decide +kernel
theorem dX7_keepOrdered_65 : decode cX7_keepOrdered 65 = .ok (.invokestatic 38, 3) := by decide +kernel
theorem dX7_keepOrdered_68 : decode cX7_keepOrdered 68 = .ok (.iastore, 1) := by decide +kernel
theorem dX7_keepOrdered_69 : decode cX7_keepOrdered 69 = .ok (.return_, 1) := by decide +kernel
set_option maxRecDepth 20000 in
theorem ggX7_keepEqual_X7_setRange : GoodIn wsX7_keepEqual wsX7_setRange := goodIn_r _ [15, 1, 6, 16, 17, 18] (by decide +kernel) (by decide +kernel)
set_option maxRecDepth 20000 in
theorem gX7_keepEqual_X7_setRange : GoodIn wsX7_keepEqual (wsV RX7 66 RX7 yX7_setRange wsX7_setRange) := goodIn_app (goodIn_of _ (by decide +kernel)) ggX7_keepEqual_X7_setRange
theorem dX7_keepEqual_0 : decode cX7_keepEqual 0 = .ok (.aload_n 0, 1) := by decide +kernel
theorem dX7_keepEqual_1 : decode cX7_keepEqual 1 = .ok (.getfield 15, 3) := by decide +kernel
theorem dX7_keepEqual_4 : decode cX7_keepEqual 4 = .ok (.iload_n 1, 1) := by decide +kernel
theorem dX7_keepEqual_5 : decode cX7_keepEqual 5 = .ok (.iaload, 1) := by decide +kernel
theorem dX7_keepEqual_6 : decode cX7_keepEqual 6 = .ok (.aload_n 0, 1) := by decide +kernel
theorem dX7_keepEqual_7 : decode cX7_keepEqual 7 = .ok (.getfield 15, 3) := by decide +kernel
theorem dX7_keepEqual_10 : decode cX7_keepEqual 10 = .ok (.iload_n 2, 1) := by decide +kernel
theorem dX7_keepEqual_11 : decode cX7_keepEqual 11 = .ok (.iaload, 1) := by decide +kernel
theorem dX7_keepEqual_12 : decode cX7_keepEqual 12 = .ok (.invokestatic 38, 3) := by decide +kernel
theorem dX7_keepEqual_15 : decode cX7_keepEqual 15 = .ok (.istore_n 3, 1) := by decide +kernel
theorem dX7_keepEqual_16 : decode cX7_keepEqual 16 = .ok (.aload_n 0, 1) := by decide +kernel
theorem dX7_keepEqual_17 : decode cX7_keepEqual 17 = .ok (.getfield 19, 3) := by decide +kernel
theorem dX7_keepEqual_20 : decode cX7_keepEqual 20 = .ok (.iload_n 1, 1) := by decide +kernel
theorem dX7_keepEqual_21 : decode cX7_keepEqual 21 = .ok (.iaload, 1) := by decide +kernel
theorem dX7_keepEqual_22 : decode cX7_keepEqual 22 = .ok (.aload_n 0, 1) := by decide +kernel
theorem dX7_keepEqual_23 : decode cX7_keepEqual 23 = .ok (.getfield 19, 3) := by decide +kernel
theorem dX7_keepEqual_26 : decode cX7_keepEqual 26 = .ok (.iload_n 2, 1) := by decide +kernel
theorem dX7_keepEqual_27 : decode cX7_keepEqual 27 = .ok (.iaload, 1) := by decide +kernel
theorem dX7_keepEqual_28 : decode cX7_keepEqual 28 = .ok (.invokestatic 32, 3) := by decide +kernel
theorem dX7_keepEqual_31 : decode cX7_keepEqual 31 = .ok (.istore 4, 2) := by decide +kernel
theorem dX7_keepEqual_33 : decode cX7_keepEqual 33 = .ok (.iload_n 3, 1) := by decide +kernel
theorem dX7_keepEqual_34 : decode cX7_keepEqual 34 = .ok (.iload 4, 2) := by decide +kernel
theorem dX7_keepEqual_36 : decode cX7_keepEqual 36 = .ok (.if_icmp .le 9, 3) := by decide +kernel
theorem dX7_keepEqual_39 : decode cX7_keepEqual 39 = .ok (.aload_n 0, 1) := by decide +kernel
theorem dX7_keepEqual_40 : decode cX7_keepEqual 40 = .ok (.iconst 1, 1) := by decide +kernel
theorem dX7_keepEqual_41 : decode cX7_keepEqual 41 = .ok (.putfield 9, 3) := by decide +kernel
theorem dX7_keepEqual_44 : decode cX7_keepEqual 44 = .ok (.return_, 1) := by decide +kernel
theorem dX7_keepEqual_45 : decode cX7_keepEqual 45 = .ok (.aload_n 0, 1) := by decide +kernel
theorem dX7_keepEqual_46 : decode cX7_keepEqual 46 = .ok (.iload_n 1, 1) := by decide +kernel
theorem dX7_keepEqual_47 : decode cX7_keepEqual 47 = .ok (.iload_n 3, 1) := by decide +kernel
theorem dX7_keepEqual_48 : decode cX7_keepEqual 48 = .ok (.iload 4, 2) := by decide +kernel
theorem dX7_keepEqual_50 : decode cX7_keepEqual 50 = .ok (.invokevirtual 66, 3) := by decide +kernel
theorem dX7_keepEqual_53 : decode cX7_keepEqual 53 = .ok (.aload_n 0, 1) := by decide +kernel
theorem dX7_keepEqual_54 : decode cX7_keepEqual 54 = .ok (.iload_n 2, 1) := by decide +kernel
theorem dX7_keepEqual_55 : decode cX7_keepEqual 55 = .ok (.iload_n 3, 1) := by decide +kernel
theorem dX7_keepEqual_56 : decode cX7_keepEqual 56 = .ok (.iload 4, 2) := by decide +kernel
theorem dX7_keepEqual_58 : decode cX7_keepEqual 58 = .ok (.invokevirtual 66, 3) := by decide +kernel
theorem dX7_keepEqual_61 : decode cX7_keepEqual 61 = .ok (.return_, 1) := by decide +kernel
set_option maxRecDepth 20000 in
theorem ggX7_keepUnequal_X7_isConstant : GoodIn wsX7_keepUnequal wsX7_isConstant := goodIn_r _ [7, 1, 8, 13, 14, 15] (by decide +kernel) (by decide +kernel)
set_option maxRecDepth 20000 in
theorem gX7_keepUnequal_X7_isConstant : GoodIn wsX7_keepUnequal (wsV RX7 41 RX7 yX7_isConstant wsX7_isConstant) := goodIn_app (goodIn_of _ (by decide +kernel)) ggX7_keepUnequal_X7_isConstant
set_option maxRecDepth 20000 in
theorem ggX7_keepUnequal_X7_cutOff : GoodIn wsX7_keepUnequal wsX7_cutOff := goodIn_r _ [12, 1, 8, 13, 14, 15] (by decide +kernel) (by decide +kernel)
set_option maxRecDepth 20000 in
theorem gX7_keepUnequal_X7_cutOff : GoodIn wsX7_keepUnequal (wsV RX7 69 RX7 yX7_cutOff wsX7_cutOff) := goodIn_app (goodIn_of _ (by decide +kernel)) ggX7_keepUnequal_X7_cutOff
theorem dX7_keepUnequal_0 : decode cX7_keepUnequal 0 = .ok (.aload_n 0, 1) := by decide +kernel
theorem dX7_keepUnequal_1 : decode cX7_keepUnequal 1 = .ok (.iload_n 1, 1) := by decide +kernel
theorem dX7_keepUnequal_2 : decode cX7_keepUnequal 2 = .ok (.invokevirtual 41, 3) := by decide +kernel
theorem dX7_keepUnequal_5 : decode cX7_keepUnequal 5 = .ok (.ifCond .eq 38, 3) := by decide +kernel
theorem dX7_keepUnequal_8 : decode cX7_keepUnequal 8 = .ok (.aload_n 0, 1) := by decide +kernel
theorem dX7_keepUnequal_9 : decode cX7_keepUnequal 9 = .ok (.iload_n 2, 1) := by decide +kernel
theorem dX7_keepUnequal_10 : decode cX7_keepUnequal 10 = .ok (.invokevirtual 41, 3) := by decide +kernel
theorem dX7_keepUnequal_13 : decode cX7_keepUnequal 13 = .ok (.ifCond .eq 30, 3) := by decide +kernel
theorem dX7_keepUnequal_16 : decode cX7_keepUnequal 16 = .ok (.aload_n 0, 1) := by decide +kernel
theorem dX7_keepUnequal_17 : decode cX7_keepUnequal 17 = .ok (.aload_n 0, 1) := by decide +kernel
theorem dX7_keepUnequal_18 : decode cX7_keepUnequal 18 = .ok (.getfield 15, 3) := by decide +kernel
theorem dX7_keepUnequal_21 : decode cX7_keepUnequal 21 = .ok (.iload_n 1, 1) := by decide +kernel
theorem dX7_keepUnequal_22 : decode cX7_keepUnequal 22 = .ok (.iaload, 1) := by decide +kernel
theorem dX7_keepUnequal_23 : decode cX7_keepUnequal 23 = .ok (.aload_n 0, 1) := by decide +kernel
theorem dX7_keepUnequal_24 : decode cX7_keepUnequal 24 = .ok (.getfield 15, 3) := by decide +kernel
theorem dX7_keepUnequal_27 : decode cX7_keepUnequal 27 = .ok (.iload_n 2, 1) := by decide +kernel
theorem dX7_keepUnequal_28 : decode cX7_keepUnequal 28 = .ok (.iaload, 1) := by decide +kernel
theorem dX7_keepUnequal_29 : decode cX7_keepUnequal 29 = .ok (.if_icmp .ne 7, 3) := by decide +kernel
theorem dX7_keepUnequal_32 : decode cX7_keepUnequal 32 = .ok (.iconst 1, 1) := by decide +kernel
theorem dX7_keepUnequal_33 : decode cX7_keepUnequal 33 = .ok (.goto 4, 3) := by decide +kernel
theorem dX7_keepUnequal_36 : decode cX7_keepUnequal 36 = .ok (.iconst 0, 1) := by decide +kernel
theorem dX7_keepUnequal_37 : decode cX7_keepUnequal 37 = .ok (.putfield 9, 3) := by decide +kernel
theorem dX7_keepUnequal_40 : decode cX7_keepUnequal 40 = .ok (.goto 44, 3) := by decide +kernel
theorem dX7_keepUnequal_43 : decode cX7_keepUnequal 43 = .ok (.aload_n 0, 1) := by decide +kernel
theorem dX7_keepUnequal_44 : decode cX7_keepUnequal 44 = .ok (.iload_n 1, 1) := by decide +kernel
theorem dX7_keepUnequal_45 : decode cX7_keepUnequal 45 = .ok (.invokevirtual 41, 3) := by decide +kernel
theorem dX7_keepUnequal_48 : decode cX7_keepUnequal 48 = .ok (.ifCond .eq 17, 3) := by decide +kernel
theorem dX7_keepUnequal_51 : decode cX7_keepUnequal 51 = .ok (.aload_n 0, 1) := by decide +kernel
theorem dX7_keepUnequal_52 : decode cX7_keepUnequal 52 = .ok (.iload_n 2, 1) := by decide +kernel
theorem dX7_keepUnequal_53 : decode cX7_keepUnequal 53 = .ok (.aload_n 0, 1) := by decide +kernel
theorem dX7_keepUnequal_54 : decode cX7_keepUnequal 54 = .ok (.getfield 15, 3) := by decide +kernel
theorem dX7_keepUnequal_57 : decode cX7_keepUnequal 57 = .ok (.iload_n 1, 1) := by decide +kernel
theorem dX7_keepUnequal_58 : decode cX7_keepUnequal 58 = .ok (.iaload, 1) := by decide +kernel
theorem dX7_keepUnequal_59 : decode cX7_keepUnequal 59 = .ok (.invokevirtual 69, 3) := by decide +kernel
theorem dX7_keepUnequal_62 : decode cX7_keepUnequal 62 = .ok (.goto 22, 3) := by decide +kernel
theorem dX7_keepUnequal_65 : decode cX7_keepUnequal 65 = .ok (.aload_n 0, 1) := by decide +kernel
theorem dX7_keepUnequal_66 : decode cX7_keepUnequal 66 = .ok (.iload_n 2, 1) := by decide +kernel
theorem dX7_keepUnequal_67 : decode cX7_keepUnequal 67 = .ok (.invokevirtual 41, 3) := by decide +kernel
theorem dX7_keepUnequal_70 : decode cX7_keepUnequal 70 = .ok (.ifCond .eq 14, 3) := by decide +kernel
theorem dX7_keepUnequal_73 : decode cX7_keepUnequal 73 = .ok (.aload_n 0, 1) := by decide +kernel
theorem dX7_keepUnequal_74 : decode cX7_keepUnequal 74 = .ok (.iload_n 1, 1) := by decide +kernel
theorem dX7_keepUnequal_75 : decode cX7_keepUnequal 75 = .ok (.aload_n 0, 1) := by decide +kernel
theorem dX7_keepUnequal_76 : decode cX7_keepUnequal 76 = .ok (.getfield 15, 3) := by decide +kernel
theorem dX7_keepUnequal_79 : decode cX7_keepUnequal 79 = .ok (.iload_n 2, 1) := by decide +kernel
theorem dX7_keepUnequal_80 : decode cX7_keepUnequal 80 = .ok (.iaload, 1) := by decide +kernel
theorem dX7_keepUnequal_81 : decode cX7_keepUnequal 81 = .ok (.invokevirtual 69, 3) := by decide +kernel
theorem dX7_keepUnequal_84 : decode cX7_keepUnequal 84 = .ok (.return_, 1) := by decide +kernel
theorem dX7_cutOff_0 : decode cX7_cutOff 0 = .ok (.aload_n 0, 1) := by decide +kernel
theorem dX7_cutOff_1 : decode cX7_cutOff 1 = .ok (.getfield 15, 3) := by decide +kernel
theorem dX7_cutOff_4 : decode cX7_cutOff 4 = .ok (.iload_n 1, 1) := by decide +kernel
theorem dX7_cutOff_5 : decode cX7_cutOff 5 = .ok (.iaload, 1) := by decide +kernel
theorem dX7_cutOff_6 : decode cX7_cutOff 6 = .ok (.iload_n 2, 1) := by decide +kernel
theorem dX7_cutOff_7 : decode cX7_cutOff 7 = .ok (.if_icmp .ne 15, 3) := by decide +kernel
theorem dX7_cutOff_10 : decode cX7_cutOff 10 = .ok (.aload_n 0, 1) := by decide +kernel
theorem dX7_cutOff_11 : decode cX7_cutOff 11 = .ok (.getfield 15, 3) := by decide +kernel
theorem dX7_cutOff_14 : decode cX7_cutOff 14 = .ok (.iload_n 1, 1) := by decide +kernel
theorem dX7_cutOff_15 : decode cX7_cutOff 15 = .ok (.iload_n 2, 1) := by decide +kernel
theorem dX7_cutOff_16 : decode cX7_cutOff 16 = .ok (.iconst 1, 1) := by decide +kernel
theorem dX7_cutOff_17 : decode cX7_cutOff 17 = .ok (.iadd, 1) := by decide +kernel
theorem dX7_cutOff_18 : decode cX7_cutOff 18 = .ok (.iastore, 1) := by decide +kernel
theorem dX7_cutOff_19 : decode cX7_cutOff 19 = .ok (.goto 22, 3) := by decide +kernel
theorem dX7_cutOff_22 : decode cX7_cutOff 22 = .ok (.aload_n 0, 1) := by decide +kernel
theorem dX7_cutOff_23 : decode cX7_cutOff 23 = .ok (.getfield 19, 3) := by decide +kernel
theorem dX7_cutOff_26 : decode cX7_cutOff 26 = .ok (.iload_n 1, 1) := by decide +kernel
theorem dX7_cutOff_27 : decode cX7_cutOff 27 = .ok (.iaload, 1) := by decide +kernel
theorem dX7_cutOff_28 : decode cX7_cutOff 28 = .ok (.iload_n 2, 1) := by decide +kernel
theorem dX7_cutOff_29 : decode cX7_cutOff 29 = .ok (.if_icmp .ne 12, 3) := by decide +kernel
theorem dX7_cutOff_32 : decode cX7_cutOff 32 = .ok (.aload_n 0, 1) := by decide +kernel
theorem dX7_cutOff_33 : decode cX7_cutOff 33 = .ok (.getfield 19, 3) := by decide +kernel
theorem dX7_cutOff_36 : decode cX7_cutOff 36 = .ok (.iload_n 1, 1) := by decide +kernel
theorem dX7_cutOff_37 : decode cX7_cutOff 37 = .ok (.iload_n 2, 1) := by decide +kernel
theorem dX7_cutOff_38 : decode cX7_cutOff 38 = .ok (.iconst 1, 1) := by decide +kernel
theorem dX7_cutOff_39 : decode cX7_cutOff 39 = .ok (.isub, 1) := by decide +kernel
theorem dX7_cutOff_40 : decode cX7_cutOff 40 = .ok (.iastore, 1) := by decide +kernel
theorem dX7_cutOff_41 : decode cX7_cutOff 41 = .ok (.return_, 1) := by decide +kernel
set_option maxRecDepth 20000 in
theorem ggX8_init_X5_init : GoodIn wsX8_init wsX5_init := goodIn_r _ [23, 24, 2, 3, 25, 26, 27, 28, 29, 30, 31, 32, 33, 34, 35, 36, 37, 38, 39, 40, 41, 42, 43, 44, 45, 46, 47, 48, 49, 50, 51, 52, 53, 54, 90, 91, 92, 110, 111, 112, 113, 114, 115, 116, 117, 118, 119, 120, 121, 122] (by decide +kernel) (by decide +kernel)
set_option maxRecDepth 20000 in
theorem gX8_init_X5_init : GoodIn wsX8_init (wsX5_init) := ggX8_init_X5_init
set_option maxRecDepth 20000 in
theorem ggX8_init_X6_init : GoodIn wsX8_init wsX6_init := goodIn_r _ [56, 57, 2, 3, 58, 59, 60, 39, 61, 98, 99, 100, 101] (by decide +kernel) (by decide +kernel)
set_option maxRecDepth 20000 in
theorem gX8_init_X6_init_n18 : GoodIn wsX8_init (wsX6_init) := ggX8_init_X6_init
set_option maxRecDepth 20000 in
theorem ggX8_init_X0_init : GoodIn wsX8_init wsX0_init := goodIn_r _ [64, 65, 2, 3, 66, 67, 68, 28, 29, 69, 70, 71, 72, 35, 36, 37, 38, 39, 40, 41, 73, 74, 75, 76, 77, 78, 79, 80, 81, 102, 103, 104, 110, 111, 112, 123, 124, 125, 126] (by decide +kernel) (by decide +kernel)
set_option maxRecDepth 20000 in
theorem gX8_init_X0_init : GoodIn wsX8_init (wsX0_init) := ggX8_init_X0_init
set_option maxRecDepth 20000 in
theorem ggX8_init_X3_init : GoodIn wsX8_init wsX3_init := goodIn_r _ [83, 84, 2, 3, 39, 85, 86, 87, 88, 89, 105, 106, 107, 108, 109] (by decide +kernel) (by decide +kernel)
set_option maxRecDepth 20000 in
theorem gX8_init_X3_init_n32 : GoodIn wsX8_init (wsX3_init) := ggX8_init_X3_init
theorem dX8_init_0 : decode cX8_init 0 = .ok (.aload_n 0, 1) := by decide +kernel
theorem dX8_init_1 : decode cX8_init 1 = .ok (.invokespecial 1, 3) := by decide +kernel
theorem dX8_init_4 : decode cX8_init 4 = .ok (.aload_n 0, 1) := by decide +kernel
theorem dX8_init_5 : decode cX8_init 5 = .ok (.new 7, 3) := by decide +kernel
theorem dX8_init_8 : decode cX8_init 8 = .ok (.dup, 1) := by decide +kernel
theorem dX8_init_9 : decode cX8_init 9 = .ok (.invokespecial 9, 3) := by decide +kernel
theorem dX8_init_12 : decode cX8_init 12 = .ok (.putfield 10, 3) := by decide +kernel
theorem dX8_init_15 : decode cX8_init 15 = .ok (.aload_n 0, 1) := by decide +kernel
theorem dX8_init_16 : decode cX8_init 16 = .ok (.new 16, 3) := by decide +kernel
theorem dX8_init_19 : decode cX8_init 19 = .ok (.dup, 1) := by decide +kernel
theorem dX8_init_20 : decode cX8_init 20 = .ok (.invokespecial 18, 3) := by decide +kernel
theorem dX8_init_23 : decode cX8_init 23 = .ok (.putfield 19, 3) := by decide +kernel
theorem dX8_init_26 : decode cX8_init 26 = .ok (.aload_n 0, 1) := by decide +kernel
theorem dX8_init_27 : decode cX8_init 27 = .ok (.new 23, 3) := by decide +kernel
theorem dX8_init_30 : decode cX8_init 30 = .ok (.dup, 1) := by decide +kernel
theorem dX8_init_31 : decode cX8_init 31 = .ok (.invokespecial 25, 3) := by decide +kernel
theorem dX8_init_34 : decode cX8_init 34 = .ok (.putfield 26, 3) := by decide +kernel
theorem dX8_init_37 : decode cX8_init 37 = .ok (.aload_n 0, 1) := by decide +kernel
theorem dX8_init_38 : decode cX8_init 38 = .ok (.new 30, 3) := by decide +kernel
theorem dX8_init_41 : decode cX8_init 41 = .ok (.dup, 1) := by decide +kernel
theorem dX8_init_42 : decode cX8_init 42 = .ok (.invokespecial 32, 3) := by decide +kernel
theorem dX8_init_45 : decode cX8_init 45 = .ok (.putfield 33, 3) := by decide +kernel
theorem dX8_init_48 : decode cX8_init 48 = .ok (.aload_n 0, 1) := by decide +kernel
theorem dX8_init_49 : decode cX8_init 49 = .ok (.iconst 0, 1) := by decide +kernel
theorem dX8_init_50 : decode cX8_init 50 = .ok (.putfield 37, 3) := by decide +kernel
theorem dX8_init_53 : decode cX8_init 53 = .ok (.return_, 1) := by decide +kernel
theorem dX8_addBlock_0 : decode cX8_addBlock 0 = .ok (.aload_n 0, 1) := by decide +kernel
theorem dX8_addBlock_1 : decode cX8_addBlock 1 = .ok (.getfield 10, 3) := by decide +kernel
theorem dX8_addBlock_4 : decode cX8_addBlock 4 = .ok (.getfield 41, 3) := by decide +kernel
theorem dX8_addBlock_7 : decode cX8_addBlock 7 = .ok (.bipush 16, 2) := by decide +kernel
theorem dX8_addBlock_9 : decode cX8_addBlock 9 = .ok (.if_icmp .lt 13, 3) := by decide +kernel
theorem dX8_addBlock_12 : decode cX8_addBlock 12 = .ok (.new 45, 3) := by decide +kernel
theorem dX8_addBlock_15 : decode cX8_addBlock 15 = .ok (.dup, 1) := by decide +kernel
theorem dX8_addBlock_16 : decode cX8_addBlock 16 = .ok (.ldc 47, 2) := by decide +kernel
theorem dX8_addBlock_18 : decode cX8_addBlock 18 = .ok (.invokespecial 49, 3) := by decide +kernel
theorem dX8_addBlock_21 : decode cX8_addBlock 21 = .ok (.athrow, 1) := by decide +kernel
theorem dX8_addBlock_22 : decode cX8_addBlock 22 = .ok (.aload_n 0, 1) := by decide +kernel
theorem dX8_addBlock_23 : decode cX8_addBlock 23 = .ok (.iconst 0, 1) := by decide +kernel
theorem dX8_addBlock_24 : decode cX8_addBlock 24 = .ok (.putfield 37, 3) := by decide +kernel
theorem dX8_addBlock_27 : decode cX8_addBlock 27 = .ok (.aload_n 0, 1) := by decide +kernel
theorem dX8_addBlock_28 : decode cX8_addBlock 28 = .ok (.getfield 10, 3) := by decide +kernel
theorem dX8_addBlock_31 : decode cX8_addBlock 31 = .ok (.dup, 1) := by decide +kernel
theorem dX8_addBlock_32 : decode cX8_addBlock 32 = .ok (.getfield 41, 3) := by decide +kernel
theorem dX8_addBlock_35 : decode cX8_addBlock 35 = .ok (.iconst 1, 1) := by decide +kernel
theorem dX8_addBlock_36 : decode cX8_addBlock 36 = .ok (.iadd, 1) := by decide +kernel
theorem dX8_addBlock_37 : decode cX8_addBlock 37 = .ok (.putfield 41, 3) := by decide +kernel
theorem dX8_addBlock_40 : decode cX8_addBlock 40 = .ok (.aload_n 0, 1) := by decide +kernel
theorem dX8_addBlock_41 : decode cX8_addBlock 41 = .ok (.getfield 10, 3) := by decide +kernel
theorem dX8_addBlock_44 : decode cX8_addBlock 44 = .ok (.getfield 41, 3) := by decide +kernel
theorem dX8_addBlock_47 : decode cX8_addBlock 47 = .ok (.iconst 1, 1) := by decide +kernel
theorem dX8_addBlock_48 : decode cX8_addBlock 48 = .ok (.isub, 1) := by decide +kernel
theorem dX8_addBlock_49 : decode cX8_addBlock 49 = .ok (.ireturn, 1) := by decide +kernel
set_option maxRecDepth 20000 in
theorem ggX8_setInitial_X8_requireVariable : GoodIn wsX8_setInitial wsX8_requireVariable := goodIn_ca (goodIn_r _ [9, 10, 11] (by decide +kernel) (by decide +kernel)) (goodIn_sub (fun _ h => List.mem_cons_of_mem _ (List.mem_append_left _ (List.mem_append_right _ h))) (by decide +kernel))
set_option maxRecDepth 20000 in
theorem gX8_setInitial_X8_requireVariable : GoodIn wsX8_setInitial (va_wsS RX8 52 yX8_requireVariable wsX8_requireVariable) := goodIn_app (goodIn_of _ (by decide +kernel)) ggX8_setInitial_X8_requireVariable
set_option maxRecDepth 20000 in
theorem ggX8_setInitial_X8_requireRange : GoodIn wsX8_setInitial wsX8_requireRange := goodIn_ca (goodIn_r _ [14, 15, 16, 17, 18] (by decide +kernel) (by decide +kernel)) (goodIn_sub (fun _ h => List.mem_cons_of_mem _ (List.mem_append_right _ h)) (by decide +kernel))
set_option maxRecDepth 20000 in
theorem gX8_setInitial_X8_requireRange : GoodIn wsX8_setInitial (va_wsS RX8 56 yX8_requireRange wsX8_requireRange) := goodIn_app (goodIn_of _ (by decide +kernel)) ggX8_setInitial_X8_requireRange
set_option maxRecDepth 20000 in
theorem ggX8_setInitial_X7_setRange : GoodIn wsX8_setInitial wsX7_setRange := goodIn_r _ [23, 24, 25, 34, 35, 36] (by decide +kernel) (by decide +kernel)
set_option maxRecDepth 20000 in
theorem gX8_setInitial_X7_setRange : GoodIn wsX8_setInitial (wsV RX8 73 RX7 yX7_setRange wsX7_setRange) := goodIn_app (goodIn_of _ (by decide +kernel)) ggX8_setInitial_X7_setRange
theorem dX8_setInitial_0 : decode cX8_setInitial 0 = .ok (.iload_n 1, 1) := by decide +kernel
theorem dX8_setInitial_1 : decode cX8_setInitial 1 = .ok (.invokestatic 52, 3) := by decide +kernel
theorem dX8_setInitial_4 : decode cX8_setInitial 4 = .ok (.iload_n 2, 1) := by decide +kernel
theorem dX8_setInitial_5 : decode cX8_setInitial 5 = .ok (.iload_n 3, 1) := by decide +kernel
theorem dX8_setInitial_6 : decode cX8_setInitial 6 = .ok (.invokestatic 56, 3) := by decide +kernel
theorem dX8_setInitial_9 : decode cX8_setInitial 9 = .ok (.aload_n 0, 1) := by decide +kernel
theorem dX8_setInitial_10 : decode cX8_setInitial 10 = .ok (.iconst 0, 1) := by decide +kernel
theorem dX8_setInitial_11 : decode cX8_setInitial 11 = .ok (.putfield 37, 3) := by decide +kernel
theorem dX8_setInitial_14 : decode cX8_setInitial 14 = .ok (.aload_n 0, 1) := by decide +kernel
theorem dX8_setInitial_15 : decode cX8_setInitial 15 = .ok (.getfield 10, 3) := by decide +kernel
theorem dX8_setInitial_18 : decode cX8_setInitial 18 = .ok (.getfield 60, 3) := by decide +kernel
theorem dX8_setInitial_21 : decode cX8_setInitial 21 = .ok (.astore 4, 2) := by decide +kernel
theorem dX8_setInitial_23 : decode cX8_setInitial 23 = .ok (.aload 4, 2) := by decide +kernel
theorem dX8_setInitial_25 : decode cX8_setInitial 25 = .ok (.getfield 64, 3) := by decide +kernel
theorem dX8_setInitial_28 : decode cX8_setInitial 28 = .ok (.iload_n 1, 1) := by decide +kernel
theorem dX8_setInitial_29 : decode cX8_setInitial 29 = .ok (.iaload, 1) := by decide +kernel
theorem dX8_setInitial_30 : decode cX8_setInitial 30 = .ok (.iload_n 2, 1) := by decide +kernel
theorem dX8_setInitial_31 : decode cX8_setInitial 31 = .ok (.if_icmp .ne 14, 3) := by decide +kernel
theorem dX8_setInitial_34 : decode cX8_setInitial 34 = .ok (.aload 4, 2) := by decide +kernel
theorem dX8_setInitial_36 : decode cX8_setInitial 36 = .ok (.getfield 70, 3) := by decide +kernel
theorem dX8_setInitial_39 : decode cX8_setInitial 39 = .ok (.iload_n 1, 1) := by decide +kernel
theorem dX8_setInitial_40 : decode cX8_setInitial 40 = .ok (.iaload, 1) := by decide +kernel
theorem dX8_setInitial_41 : decode cX8_setInitial 41 = .ok (.iload_n 3, 1) := by decide +kernel
theorem dX8_setInitial_42 : decode cX8_setInitial 42 = .ok (.if_icmp .eq 7, 3) := by decide +kernel
theorem dX8_setInitial_45 : decode cX8_setInitial 45 = .ok (.iconst 1, 1) := by decide +kernel
theorem dX8_setInitial_46 : decode cX8_setInitial 46 = .ok (.goto 4, 3) := by decide +kernel
theorem dX8_setInitial_49 : decode cX8_setInitial 49 = .ok (.iconst 0, 1) := by decide +kernel
theorem dX8_setInitial_50 : decode cX8_setInitial 50 = .ok (.istore 5, 2) := by decide +kernel
theorem dX8_setInitial_52 : decode cX8_setInitial 52 = .ok (.aload 4, 2) := by decide +kernel
theorem dX8_setInitial_54 : decode cX8_setInitial 54 = .ok (.iload_n 1, 1) := by decide +kernel
theorem dX8_setInitial_55 : decode cX8_setInitial 55 = .ok (.iload_n 2, 1) := by decide +kernel
theorem dX8_setInitial_56 : decode cX8_setInitial 56 = .ok (.iload_n 3, 1) := by decide +kernel
theorem dX8_setInitial_57 : decode cX8_setInitial 57 = .ok (.invokevirtual 73, 3) := by decide +kernel
theorem dX8_setInitial_60 : decode cX8_setInitial 60 = .ok (.iload 5, 2) := by decide +kernel
theorem dX8_setInitial_62 : decode cX8_setInitial 62 = .ok (.ireturn, 1) := by decide +kernel
set_option maxRecDepth 20000 in
theorem ggX8_input_X8_requireBlock : GoodIn wsX8_input wsX8_requireBlock := goodIn_ca (goodIn_r _ [8, 9, 10, 2, 11, 39, 40, 41, 42, 43, 44, 45, 46] (by decide +kernel) (by decide +kernel)) (goodIn_sub (fun _ h => List.mem_cons_of_mem _ (List.mem_append_left _ (List.mem_append_left _ (List.mem_append_right _ h)))) (by decide +kernel))
set_option maxRecDepth 20000 in
theorem gX8_input_X8_requireBlock : GoodIn wsX8_input (wsV RX8 77 RX8 yX8_requireBlock wsX8_requireBlock) := goodIn_app (goodIn_of _ (by decide +kernel)) ggX8_input_X8_requireBlock
set_option maxRecDepth 20000 in
theorem ggX8_input_X8_requireVariable : GoodIn wsX8_input wsX8_requireVariable := goodIn_ca (goodIn_r _ [14, 9, 10] (by decide +kernel) (by decide +kernel)) (goodIn_sub (fun _ h => List.mem_cons_of_mem _ (List.mem_append_left _ (List.mem_append_left _ (List.mem_append_right _ h)))) (by decide +kernel))
set_option maxRecDepth 20000 in
theorem gX8_input_X8_requireVariable : GoodIn wsX8_input (va_wsS RX8 52 yX8_requireVariable wsX8_requireVariable) := goodIn_app (goodIn_of _ (by decide +kernel)) ggX8_input_X8_requireVariable
set_option maxRecDepth 20000 in
theorem ggX8_input_X8_requireRange : GoodIn wsX8_input wsX8_requireRange := goodIn_ca (goodIn_r _ [17, 18, 19, 20, 21] (by decide +kernel) (by decide +kernel)) (goodIn_sub (fun _ h => List.mem_cons_of_mem _ (List.mem_append_left _ (List.mem_append_right _ h))) (by decide +kernel))
set_option maxRecDepth 20000 in
theorem gX8_input_X8_requireRange : GoodIn wsX8_input (va_wsS RX8 56 yX8_requireRange wsX8_requireRange) := goodIn_app (goodIn_of _ (by decide +kernel)) ggX8_input_X8_requireRange
set_option maxRecDepth 20000 in
theorem ggX8_input_X8_requireRoom : GoodIn wsX8_input wsX8_requireRoom := goodIn_ca (goodIn_r _ [25, 26, 27, 2, 3, 28, 39, 40, 41, 42, 43, 44, 45, 46, 47, 48, 49, 50, 51, 52, 53, 54, 55, 56] (by decide +kernel) (by decide +kernel)) (goodIn_sub (fun _ h => List.mem_cons_of_mem _ (List.mem_append_right _ h)) (by decide +kernel))
set_option maxRecDepth 20000 in
theorem gX8_input_X8_requireRoom : GoodIn wsX8_input (wsV RX8 80 RX8 yX8_requireRoom wsX8_requireRoom) := goodIn_app (goodIn_of _ (by decide +kernel)) ggX8_input_X8_requireRoom
set_option maxRecDepth 20000 in
theorem ggX8_input_X2_append : GoodIn wsX8_input wsX2_append := goodIn_r _ [33, 34, 35, 36, 37, 38, 47, 48, 49, 50, 51, 52, 53, 54, 55, 56] (by decide +kernel) (by decide +kernel)
set_option maxRecDepth 20000 in
theorem gX8_input_X2_append : GoodIn wsX8_input (wsV RX8 87 RX2 yX2_append wsX2_append) := goodIn_app (goodIn_of _ (by decide +kernel)) ggX8_input_X2_append
theorem dX8_input_0 : decode cX8_input 0 = .ok (.aload_n 0, 1) := by decide +kernel
theorem dX8_input_1 : decode cX8_input 1 = .ok (.iload_n 1, 1) := by decide +kernel
theorem dX8_input_2 : decode cX8_input 2 = .ok (.invokevirtual 77, 3) := by decide +kernel
theorem dX8_input_5 : decode cX8_input 5 = .ok (.iload_n 2, 1) := by decide +kernel
theorem dX8_input_6 : decode cX8_input 6 = .ok (.invokestatic 52, 3) := by decide +kernel
theorem dX8_input_9 : decode cX8_input 9 = .ok (.iload_n 3, 1) := by decide +kernel
theorem dX8_input_10 : decode cX8_input 10 = .ok (.iload 4, 2) := by decide +kernel
theorem dX8_input_12 : decode cX8_input 12 = .ok (.invokestatic 56, 3) := by decide +kernel
theorem dX8_input_15 : decode cX8_input 15 = .ok (.aload_n 0, 1) := by decide +kernel
theorem dX8_input_16 : decode cX8_input 16 = .ok (.iload_n 1, 1) := by decide +kernel
theorem dX8_input_17 : decode cX8_input 17 = .ok (.invokevirtual 80, 3) := by decide +kernel
theorem dX8_input_20 : decode cX8_input 20 = .ok (.aload_n 0, 1) := by decide +kernel
theorem dX8_input_21 : decode cX8_input 21 = .ok (.iconst 0, 1) := by decide +kernel
theorem dX8_input_22 : decode cX8_input 22 = .ok (.putfield 37, 3) := by decide +kernel
theorem dX8_input_25 : decode cX8_input 25 = .ok (.aload_n 0, 1) := by decide +kernel
theorem dX8_input_26 : decode cX8_input 26 = .ok (.getfield 10, 3) := by decide +kernel
theorem dX8_input_29 : decode cX8_input 29 = .ok (.getfield 83, 3) := by decide +kernel
theorem dX8_input_32 : decode cX8_input 32 = .ok (.iload_n 1, 1) := by decide +kernel
theorem dX8_input_33 : decode cX8_input 33 = .ok (.aaload, 1) := by decide +kernel
theorem dX8_input_34 : decode cX8_input 34 = .ok (.iload_n 3, 1) := by decide +kernel
theorem dX8_input_35 : decode cX8_input 35 = .ok (.iload 4, 2) := by decide +kernel
theorem dX8_input_37 : decode cX8_input 37 = .ok (.if_icmp .ne 8, 3) := by decide +kernel
theorem dX8_input_40 : decode cX8_input 40 = .ok (.bipush 7, 2) := by decide +kernel
theorem dX8_input_42 : decode cX8_input 42 = .ok (.goto 5, 3) := by decide +kernel
theorem dX8_input_45 : decode cX8_input 45 = .ok (.bipush 6, 2) := by decide +kernel
theorem dX8_input_47 : decode cX8_input 47 = .ok (.iload_n 2, 1) := by decide +kernel
theorem dX8_input_48 : decode cX8_input 48 = .ok (.iload_n 3, 1) := by decide +kernel
theorem dX8_input_49 : decode cX8_input 49 = .ok (.iload 4, 2) := by decide +kernel
theorem dX8_input_51 : decode cX8_input 51 = .ok (.invokevirtual 87, 3) := by decide +kernel
theorem dX8_input_54 : decode cX8_input 54 = .ok (.ireturn, 1) := by decide +kernel
set_option maxRecDepth 20000 in
theorem ggX8_compute_X8_requireBlock : GoodIn wsX8_compute wsX8_requireBlock := goodIn_ca (goodIn_r _ [10, 11, 12, 4, 13, 34, 35, 36, 37, 38, 39, 40, 41] (by decide +kernel) (by decide +kernel)) (goodIn_sub (fun _ h => List.mem_cons_of_mem _ (List.mem_append_left _ (List.mem_append_right _ h))) (by decide +kernel))
set_option maxRecDepth 20000 in
theorem gX8_compute_X8_requireBlock : GoodIn wsX8_compute (wsV RX8 77 RX8 yX8_requireBlock wsX8_requireBlock) := goodIn_app (goodIn_of _ (by decide +kernel)) ggX8_compute_X8_requireBlock
set_option maxRecDepth 20000 in
theorem ggX8_compute_X8_requireVariable : GoodIn wsX8_compute wsX8_requireVariable := goodIn_ca (goodIn_r _ [16, 11, 12] (by decide +kernel) (by decide +kernel)) (goodIn_sub (fun _ h => List.mem_cons_of_mem _ (List.mem_append_left _ (List.mem_append_right _ h))) (by decide +kernel))
set_option maxRecDepth 20000 in
theorem gX8_compute_X8_requireVariable : GoodIn wsX8_compute (va_wsS RX8 52 yX8_requireVariable wsX8_requireVariable) := goodIn_app (goodIn_of _ (by decide +kernel)) ggX8_compute_X8_requireVariable
set_option maxRecDepth 20000 in
theorem ggX8_compute_X8_requireRoom : GoodIn wsX8_compute wsX8_requireRoom := goodIn_ca (goodIn_r _ [20, 21, 22, 4, 5, 23, 34, 35, 36, 37, 38, 39, 40, 41, 42, 43, 44, 45, 46, 47, 48, 49, 50, 51] (by decide +kernel) (by decide +kernel)) (goodIn_sub (fun _ h => List.mem_cons_of_mem _ (List.mem_append_right _ h)) (by decide +kernel))
set_option maxRecDepth 20000 in
theorem gX8_compute_X8_requireRoom : GoodIn wsX8_compute (wsV RX8 80 RX8 yX8_requireRoom wsX8_requireRoom) := goodIn_app (goodIn_of _ (by decide +kernel)) ggX8_compute_X8_requireRoom
set_option maxRecDepth 20000 in
theorem ggX8_compute_X2_append : GoodIn wsX8_compute wsX2_append := goodIn_r _ [28, 29, 30, 31, 32, 33, 42, 43, 44, 45, 46, 47, 48, 49, 50, 51] (by decide +kernel) (by decide +kernel)
set_option maxRecDepth 20000 in
theorem gX8_compute_X2_append : GoodIn wsX8_compute (wsV RX8 87 RX2 yX2_append wsX2_append) := goodIn_app (goodIn_of _ (by decide +kernel)) ggX8_compute_X2_append
theorem dX8_compute_0 : decode cX8_compute 0 = .ok (.aload_n 0, 1) := by decide +kernel
theorem dX8_compute_1 : decode cX8_compute 1 = .ok (.iload_n 1, 1) := by decide +kernel
theorem dX8_compute_2 : decode cX8_compute 2 = .ok (.invokevirtual 77, 3) := by decide +kernel
theorem dX8_compute_5 : decode cX8_compute 5 = .ok (.iload_n 3, 1) := by decide +kernel
theorem dX8_compute_6 : decode cX8_compute 6 = .ok (.invokestatic 52, 3) := by decide +kernel
theorem dX8_compute_9 : decode cX8_compute 9 = .ok (.iload 4, 2) := by decide +kernel
theorem dX8_compute_11 : decode cX8_compute 11 = .ok (.invokestatic 52, 3) := by decide +kernel
theorem dX8_compute_14 : decode cX8_compute 14 = .ok (.iload 5, 2) := by decide +kernel
theorem dX8_compute_16 : decode cX8_compute 16 = .ok (.invokestatic 52, 3) := by decide +kernel
theorem dX8_compute_19 : decode cX8_compute 19 = .ok (.iload_n 2, 1) := by decide +kernel
theorem dX8_compute_20 : decode cX8_compute 20 = .ok (.ifCond .lt 8, 3) := by decide +kernel
theorem dX8_compute_23 : decode cX8_compute 23 = .ok (.iload_n 2, 1) := by decide +kernel
theorem dX8_compute_24 : decode cX8_compute 24 = .ok (.iconst 5, 1) := by decide +kernel
theorem dX8_compute_25 : decode cX8_compute 25 = .ok (.if_icmp .le 13, 3) := by decide +kernel
theorem dX8_compute_28 : decode cX8_compute 28 = .ok (.new 93, 3) := by decide +kernel
theorem dX8_compute_31 : decode cX8_compute 31 = .ok (.dup, 1) := by decide +kernel
theorem dX8_compute_32 : decode cX8_compute 32 = .ok (.ldc 95, 2) := by decide +kernel
theorem dX8_compute_34 : decode cX8_compute 34 = .ok (.invokespecial 97, 3) := by decide +kernel
theorem dX8_compute_37 : decode cX8_compute 37 = .ok (.athrow, 1) := by decide +kernel
theorem dX8_compute_38 : decode cX8_compute 38 = .ok (.aload_n 0, 1) := by decide +kernel
theorem dX8_compute_39 : decode cX8_compute 39 = .ok (.iload_n 1, 1) := by decide +kernel
theorem dX8_compute_40 : decode cX8_compute 40 = .ok (.invokevirtual 80, 3) := by decide +kernel
theorem dX8_compute_43 : decode cX8_compute 43 = .ok (.aload_n 0, 1) := by decide +kernel
theorem dX8_compute_44 : decode cX8_compute 44 = .ok (.iconst 0, 1) := by decide +kernel
theorem dX8_compute_45 : decode cX8_compute 45 = .ok (.putfield 37, 3) := by decide +kernel
theorem dX8_compute_48 : decode cX8_compute 48 = .ok (.aload_n 0, 1) := by decide +kernel
theorem dX8_compute_49 : decode cX8_compute 49 = .ok (.getfield 10, 3) := by decide +kernel
theorem dX8_compute_52 : decode cX8_compute 52 = .ok (.getfield 83, 3) := by decide +kernel
theorem dX8_compute_55 : decode cX8_compute 55 = .ok (.iload_n 1, 1) := by decide +kernel
theorem dX8_compute_56 : decode cX8_compute 56 = .ok (.aaload, 1) := by decide +kernel
theorem dX8_compute_57 : decode cX8_compute 57 = .ok (.iload_n 2, 1) := by decide +kernel
theorem dX8_compute_58 : decode cX8_compute 58 = .ok (.iload_n 3, 1) := by decide +kernel
theorem dX8_compute_59 : decode cX8_compute 59 = .ok (.iload 4, 2) := by decide +kernel
theorem dX8_compute_61 : decode cX8_compute 61 = .ok (.iload 5, 2) := by decide +kernel
theorem dX8_compute_63 : decode cX8_compute 63 = .ok (.invokevirtual 87, 3) := by decide +kernel
theorem dX8_compute_66 : decode cX8_compute 66 = .ok (.ireturn, 1) := by decide +kernel
set_option maxRecDepth 20000 in
theorem ggX8_jump_X8_requireBlock : GoodIn wsX8_jump wsX8_requireBlock := goodIn_ca (goodIn_r _ [9, 10, 11, 2, 12, 20, 21, 22, 23, 24, 25, 26, 27] (by decide +kernel) (by decide +kernel)) (goodIn_sub (fun _ h => List.mem_cons_of_mem _ (List.mem_append_right _ h)) (by decide +kernel))
set_option maxRecDepth 20000 in
theorem gX8_jump_X8_requireBlock : GoodIn wsX8_jump (wsV RX8 77 RX8 yX8_requireBlock wsX8_requireBlock) := goodIn_app (goodIn_of _ (by decide +kernel)) ggX8_jump_X8_requireBlock
set_option maxRecDepth 20000 in
theorem ggX8_jump_X2_endWithJump : GoodIn wsX8_jump wsX2_endWithJump := goodIn_r _ [17, 18, 19, 28, 29, 30, 31, 32, 33, 34, 35, 36, 37] (by decide +kernel) (by decide +kernel)
set_option maxRecDepth 20000 in
theorem gX8_jump_X2_endWithJump : GoodIn wsX8_jump (wsV RX8 101 RX2 yX2_endWithJump wsX2_endWithJump) := goodIn_app (goodIn_of _ (by decide +kernel)) ggX8_jump_X2_endWithJump
theorem dX8_jump_0 : decode cX8_jump 0 = .ok (.aload_n 0, 1) := by decide +kernel
theorem dX8_jump_1 : decode cX8_jump 1 = .ok (.iload_n 1, 1) := by decide +kernel
theorem dX8_jump_2 : decode cX8_jump 2 = .ok (.invokevirtual 77, 3) := by decide +kernel
theorem dX8_jump_5 : decode cX8_jump 5 = .ok (.aload_n 0, 1) := by decide +kernel
theorem dX8_jump_6 : decode cX8_jump 6 = .ok (.iload_n 2, 1) := by decide +kernel
theorem dX8_jump_7 : decode cX8_jump 7 = .ok (.invokevirtual 77, 3) := by decide +kernel
theorem dX8_jump_10 : decode cX8_jump 10 = .ok (.aload_n 0, 1) := by decide +kernel
theorem dX8_jump_11 : decode cX8_jump 11 = .ok (.iconst 0, 1) := by decide +kernel
theorem dX8_jump_12 : decode cX8_jump 12 = .ok (.putfield 37, 3) := by decide +kernel
theorem dX8_jump_15 : decode cX8_jump 15 = .ok (.aload_n 0, 1) := by decide +kernel
theorem dX8_jump_16 : decode cX8_jump 16 = .ok (.getfield 10, 3) := by decide +kernel
theorem dX8_jump_19 : decode cX8_jump 19 = .ok (.getfield 83, 3) := by decide +kernel
theorem dX8_jump_22 : decode cX8_jump 22 = .ok (.iload_n 1, 1) := by decide +kernel
theorem dX8_jump_23 : decode cX8_jump 23 = .ok (.aaload, 1) := by decide +kernel
theorem dX8_jump_24 : decode cX8_jump 24 = .ok (.astore_n 3, 1) := by decide +kernel
theorem dX8_jump_25 : decode cX8_jump 25 = .ok (.aload_n 3, 1) := by decide +kernel
theorem dX8_jump_26 : decode cX8_jump 26 = .ok (.getfield 98, 3) := by decide +kernel
theorem dX8_jump_29 : decode cX8_jump 29 = .ok (.istore 4, 2) := by decide +kernel
theorem dX8_jump_31 : decode cX8_jump 31 = .ok (.aload_n 3, 1) := by decide +kernel
theorem dX8_jump_32 : decode cX8_jump 32 = .ok (.iload_n 2, 1) := by decide +kernel
theorem dX8_jump_33 : decode cX8_jump 33 = .ok (.invokevirtual 101, 3) := by decide +kernel
theorem dX8_jump_36 : decode cX8_jump 36 = .ok (.iload 4, 2) := by decide +kernel
theorem dX8_jump_38 : decode cX8_jump 38 = .ok (.ireturn, 1) := by decide +kernel
set_option maxRecDepth 20000 in
theorem ggX8_branch_X8_requireBlock : GoodIn wsX8_branch wsX8_requireBlock := goodIn_ca (goodIn_r _ [11, 12, 13, 4, 14, 28, 29, 30, 31, 32, 33, 34, 35] (by decide +kernel) (by decide +kernel)) (goodIn_sub (fun _ h => List.mem_cons_of_mem _ (List.mem_append_right _ h)) (by decide +kernel))
set_option maxRecDepth 20000 in
theorem gX8_branch_X8_requireBlock : GoodIn wsX8_branch (wsV RX8 77 RX8 yX8_requireBlock wsX8_requireBlock) := goodIn_app (goodIn_of _ (by decide +kernel)) ggX8_branch_X8_requireBlock
set_option maxRecDepth 20000 in
theorem ggX8_branch_X8_requireVariable : GoodIn wsX8_branch wsX8_requireVariable := goodIn_ca (goodIn_r _ [17, 12, 13] (by decide +kernel) (by decide +kernel)) (goodIn_sub (fun _ h => List.mem_cons_of_mem _ (List.mem_append_right _ h)) (by decide +kernel))
set_option maxRecDepth 20000 in
theorem gX8_branch_X8_requireVariable : GoodIn wsX8_branch (va_wsS RX8 52 yX8_requireVariable wsX8_requireVariable) := goodIn_app (goodIn_of _ (by decide +kernel)) ggX8_branch_X8_requireVariable
set_option maxRecDepth 20000 in
theorem ggX8_branch_X2_endWithBranch : GoodIn wsX8_branch wsX2_endWithBranch := goodIn_r _ [22, 23, 24, 25, 26, 27, 36, 37, 38, 39, 40, 41, 42, 43, 44, 45] (by decide +kernel) (by decide +kernel)
set_option maxRecDepth 20000 in
theorem gX8_branch_X2_endWithBranch : GoodIn wsX8_branch (wsV RX8 106 RX2 yX2_endWithBranch wsX2_endWithBranch) := goodIn_app (goodIn_of _ (by decide +kernel)) ggX8_branch_X2_endWithBranch
theorem dX8_branch_0 : decode cX8_branch 0 = .ok (.aload_n 0, 1) := by decide +kernel
theorem dX8_branch_1 : decode cX8_branch 1 = .ok (.iload_n 1, 1) := by decide +kernel
theorem dX8_branch_2 : decode cX8_branch 2 = .ok (.invokevirtual 77, 3) := by decide +kernel
theorem dX8_branch_5 : decode cX8_branch 5 = .ok (.iload_n 2, 1) := by decide +kernel
theorem dX8_branch_6 : decode cX8_branch 6 = .ok (.invokestatic 52, 3) := by decide +kernel
theorem dX8_branch_9 : decode cX8_branch 9 = .ok (.iload 4, 2) := by decide +kernel
theorem dX8_branch_11 : decode cX8_branch 11 = .ok (.invokestatic 52, 3) := by decide +kernel
theorem dX8_branch_14 : decode cX8_branch 14 = .ok (.aload_n 0, 1) := by decide +kernel
theorem dX8_branch_15 : decode cX8_branch 15 = .ok (.iload 5, 2) := by decide +kernel
theorem dX8_branch_17 : decode cX8_branch 17 = .ok (.invokevirtual 77, 3) := by decide +kernel
theorem dX8_branch_20 : decode cX8_branch 20 = .ok (.aload_n 0, 1) := by decide +kernel
theorem dX8_branch_21 : decode cX8_branch 21 = .ok (.iload 6, 2) := by decide +kernel
theorem dX8_branch_23 : decode cX8_branch 23 = .ok (.invokevirtual 77, 3) := by decide +kernel
theorem dX8_branch_26 : decode cX8_branch 26 = .ok (.iload_n 3, 1) := by decide +kernel
theorem dX8_branch_27 : decode cX8_branch 27 = .ok (.ifCond .lt 8, 3) := by decide +kernel
theorem dX8_branch_30 : decode cX8_branch 30 = .ok (.iload_n 3, 1) := by decide +kernel
theorem dX8_branch_31 : decode cX8_branch 31 = .ok (.iconst 3, 1) := by decide +kernel
theorem dX8_branch_32 : decode cX8_branch 32 = .ok (.if_icmp .le 13, 3) := by decide +kernel
theorem dX8_branch_35 : decode cX8_branch 35 = .ok (.new 93, 3) := by decide +kernel
theorem dX8_branch_38 : decode cX8_branch 38 = .ok (.dup, 1) := by decide +kernel
theorem dX8_branch_39 : decode cX8_branch 39 = .ok (.ldc 104, 2) := by decide +kernel
theorem dX8_branch_41 : decode cX8_branch 41 = .ok (.invokespecial 97, 3) := by decide +kernel
theorem dX8_branch_44 : decode cX8_branch 44 = .ok (.athrow, 1) := by decide +kernel
theorem dX8_branch_45 : decode cX8_branch 45 = .ok (.aload_n 0, 1) := by decide +kernel
theorem dX8_branch_46 : decode cX8_branch 46 = .ok (.iconst 0, 1) := by decide +kernel
theorem dX8_branch_47 : decode cX8_branch 47 = .ok (.putfield 37, 3) := by decide +kernel
theorem dX8_branch_50 : decode cX8_branch 50 = .ok (.aload_n 0, 1) := by decide +kernel
theorem dX8_branch_51 : decode cX8_branch 51 = .ok (.getfield 10, 3) := by decide +kernel
theorem dX8_branch_54 : decode cX8_branch 54 = .ok (.getfield 83, 3) := by decide +kernel
theorem dX8_branch_57 : decode cX8_branch 57 = .ok (.iload_n 1, 1) := by decide +kernel
theorem dX8_branch_58 : decode cX8_branch 58 = .ok (.aaload, 1) := by decide +kernel
theorem dX8_branch_59 : decode cX8_branch 59 = .ok (.astore 7, 2) := by decide +kernel
theorem dX8_branch_61 : decode cX8_branch 61 = .ok (.aload 7, 2) := by decide +kernel
theorem dX8_branch_63 : decode cX8_branch 63 = .ok (.getfield 98, 3) := by decide +kernel
theorem dX8_branch_66 : decode cX8_branch 66 = .ok (.istore 8, 2) := by decide +kernel
theorem dX8_branch_68 : decode cX8_branch 68 = .ok (.aload 7, 2) := by decide +kernel
theorem dX8_branch_70 : decode cX8_branch 70 = .ok (.iload_n 2, 1) := by decide +kernel
theorem dX8_branch_71 : decode cX8_branch 71 = .ok (.iload_n 3, 1) := by decide +kernel
theorem dX8_branch_72 : decode cX8_branch 72 = .ok (.iload 4, 2) := by decide +kernel
theorem dX8_branch_74 : decode cX8_branch 74 = .ok (.iload 5, 2) := by decide +kernel
theorem dX8_branch_76 : decode cX8_branch 76 = .ok (.iload 6, 2) := by decide +kernel
theorem dX8_branch_78 : decode cX8_branch 78 = .ok (.invokevirtual 106, 3) := by decide +kernel
theorem dX8_branch_81 : decode cX8_branch 81 = .ok (.iload 8, 2) := by decide +kernel
theorem dX8_branch_83 : decode cX8_branch 83 = .ok (.ireturn, 1) := by decide +kernel
set_option maxRecDepth 20000 in
theorem ggX8_clear_X8_requireBlock : GoodIn wsX8_clear wsX8_requireBlock := goodIn_ca (goodIn_r _ [9, 10, 11, 2, 12, 20, 21, 22, 23, 24, 25, 26, 27] (by decide +kernel) (by decide +kernel)) (goodIn_sub (fun _ h => List.mem_cons_of_mem _ (List.mem_append_right _ h)) (by decide +kernel))
set_option maxRecDepth 20000 in
theorem gX8_clear_X8_requireBlock : GoodIn wsX8_clear (wsV RX8 77 RX8 yX8_requireBlock wsX8_requireBlock) := goodIn_app (goodIn_of _ (by decide +kernel)) ggX8_clear_X8_requireBlock
set_option maxRecDepth 20000 in
theorem ggX8_clear_X2_makeEmpty : GoodIn wsX8_clear wsX2_makeEmpty := goodIn_r _ [17, 18, 19, 28, 29, 30, 31, 32, 33, 34, 35, 36, 37] (by decide +kernel) (by decide +kernel)
set_option maxRecDepth 20000 in
theorem gX8_clear_X2_makeEmpty : GoodIn wsX8_clear (wsV RX8 113 RX2 yX2_makeEmpty wsX2_makeEmpty) := goodIn_app (goodIn_of _ (by decide +kernel)) ggX8_clear_X2_makeEmpty
theorem dX8_clear_0 : decode cX8_clear 0 = .ok (.aload_n 0, 1) := by decide +kernel
theorem dX8_clear_1 : decode cX8_clear 1 = .ok (.iload_n 1, 1) := by decide +kernel
theorem dX8_clear_2 : decode cX8_clear 2 = .ok (.invokevirtual 77, 3) := by decide +kernel
theorem dX8_clear_5 : decode cX8_clear 5 = .ok (.aload_n 0, 1) := by decide +kernel
theorem dX8_clear_6 : decode cX8_clear 6 = .ok (.iconst 0, 1) := by decide +kernel
theorem dX8_clear_7 : decode cX8_clear 7 = .ok (.putfield 37, 3) := by decide +kernel
theorem dX8_clear_10 : decode cX8_clear 10 = .ok (.aload_n 0, 1) := by decide +kernel
theorem dX8_clear_11 : decode cX8_clear 11 = .ok (.getfield 10, 3) := by decide +kernel
theorem dX8_clear_14 : decode cX8_clear 14 = .ok (.getfield 83, 3) := by decide +kernel
theorem dX8_clear_17 : decode cX8_clear 17 = .ok (.iload_n 1, 1) := by decide +kernel
theorem dX8_clear_18 : decode cX8_clear 18 = .ok (.aaload, 1) := by decide +kernel
theorem dX8_clear_19 : decode cX8_clear 19 = .ok (.astore_n 2, 1) := by decide +kernel
theorem dX8_clear_20 : decode cX8_clear 20 = .ok (.aload_n 2, 1) := by decide +kernel
theorem dX8_clear_21 : decode cX8_clear 21 = .ok (.getfield 110, 3) := by decide +kernel
theorem dX8_clear_24 : decode cX8_clear 24 = .ok (.istore_n 3, 1) := by decide +kernel
theorem dX8_clear_25 : decode cX8_clear 25 = .ok (.aload_n 2, 1) := by decide +kernel
theorem dX8_clear_26 : decode cX8_clear 26 = .ok (.invokevirtual 113, 3) := by decide +kernel
theorem dX8_clear_29 : decode cX8_clear 29 = .ok (.iload_n 3, 1) := by decide +kernel
theorem dX8_clear_30 : decode cX8_clear 30 = .ok (.ireturn, 1) := by decide +kernel
theorem dX8_blockCount_0 : decode cX8_blockCount 0 = .ok (.aload_n 0, 1) := by decide +kernel
theorem dX8_blockCount_1 : decode cX8_blockCount 1 = .ok (.getfield 10, 3) := by decide +kernel
theorem dX8_blockCount_4 : decode cX8_blockCount 4 = .ok (.getfield 41, 3) := by decide +kernel
theorem dX8_blockCount_7 : decode cX8_blockCount 7 = .ok (.ireturn, 1) := by decide +kernel
theorem dX8_setEffort_0 : decode cX8_setEffort 0 = .ok (.iload_n 1, 1) := by decide +kernel
theorem dX8_setEffort_1 : decode cX8_setEffort 1 = .ok (.ifCond .lt 9, 3) := by decide +kernel
theorem dX8_setEffort_4 : decode cX8_setEffort 4 = .ok (.iload_n 1, 1) := by decide +kernel
theorem dX8_setEffort_5 : decode cX8_setEffort 5 = .ok (.bipush 10, 2) := by decide +kernel
theorem dX8_setEffort_7 : decode cX8_setEffort 7 = .ok (.if_icmp .le 13, 3) := by decide +kernel
theorem dX8_setEffort_10 : decode cX8_setEffort 10 = .ok (.new 93, 3) := by decide +kernel
theorem dX8_setEffort_13 : decode cX8_setEffort 13 = .ok (.dup, 1) := by decide +kernel
theorem dX8_setEffort_14 : decode cX8_setEffort 14 = .ok (.ldc 116, 2) := by decide +kernel
theorem dX8_setEffort_16 : decode cX8_setEffort 16 = .ok (.invokespecial 97, 3) := by decide +kernel
theorem dX8_setEffort_19 : decode cX8_setEffort 19 = .ok (.athrow, 1) := by decide +kernel
theorem dX8_setEffort_20 : decode cX8_setEffort 20 = .ok (.iload_n 2, 1) := by decide +kernel
theorem dX8_setEffort_21 : decode cX8_setEffort 21 = .ok (.ifCond .lt 8, 3) := by decide +kernel
theorem dX8_setEffort_24 : decode cX8_setEffort 24 = .ok (.iload_n 2, 1) := by decide +kernel
theorem dX8_setEffort_25 : decode cX8_setEffort 25 = .ok (.iconst 5, 1) := by decide +kernel
theorem dX8_setEffort_26 : decode cX8_setEffort 26 = .ok (.if_icmp .le 13, 3) := by decide +kernel
theorem dX8_setEffort_29 : decode cX8_setEffort 29 = .ok (.new 93, 3) := by decide +kernel
theorem dX8_setEffort_32 : decode cX8_setEffort 32 = .ok (.dup, 1) := by decide +kernel
theorem dX8_setEffort_33 : decode cX8_setEffort 33 = .ok (.ldc 118, 2) := by decide +kernel
theorem dX8_setEffort_35 : decode cX8_setEffort 35 = .ok (.invokespecial 97, 3) := by decide +kernel
theorem dX8_setEffort_38 : decode cX8_setEffort 38 = .ok (.athrow, 1) := by decide +kernel
theorem dX8_setEffort_39 : decode cX8_setEffort 39 = .ok (.aload_n 0, 1) := by decide +kernel
theorem dX8_setEffort_40 : decode cX8_setEffort 40 = .ok (.iconst 0, 1) := by decide +kernel
theorem dX8_setEffort_41 : decode cX8_setEffort 41 = .ok (.putfield 37, 3) := by decide +kernel
theorem dX8_setEffort_44 : decode cX8_setEffort 44 = .ok (.aload_n 0, 1) := by decide +kernel
theorem dX8_setEffort_45 : decode cX8_setEffort 45 = .ok (.getfield 19, 3) := by decide +kernel
theorem dX8_setEffort_48 : decode cX8_setEffort 48 = .ok (.getfield 120, 3) := by decide +kernel
theorem dX8_setEffort_51 : decode cX8_setEffort 51 = .ok (.iload_n 1, 1) := by decide +kernel
theorem dX8_setEffort_52 : decode cX8_setEffort 52 = .ok (.if_icmp .ne 14, 3) := by decide +kernel
theorem dX8_setEffort_55 : decode cX8_setEffort 55 = .ok (.aload_n 0, 1) := by decide +kernel
theorem dX8_setEffort_56 : decode cX8_setEffort 56 = .ok (.getfield 19, 3) := by decide +kernel
theorem dX8_setEffort_59 : decode cX8_setEffort 59 = .ok (.getfield 123, 3) := by decide +kernel
theorem dX8_setEffort_62 : decode cX8_setEffort 62 = .ok (.iload_n 2, 1) := by decide +kernel
theorem dX8_setEffort_63 : decode cX8_setEffort 63 = .ok (.if_icmp .eq 7, 3) := by decide +kernel
theorem dX8_setEffort_66 : decode cX8_setEffort 66 = .ok (.iconst 1, 1) := by decide +kernel
theorem dX8_setEffort_67 : decode cX8_setEffort 67 = .ok (.goto 4, 3) := by decide +kernel
theorem dX8_setEffort_70 : decode cX8_setEffort 70 = .ok (.iconst 0, 1) := by decide +kernel
theorem dX8_setEffort_71 : decode cX8_setEffort 71 = .ok (.istore_n 3, 1) := by decide +kernel
theorem dX8_setEffort_72 : decode cX8_setEffort 72 = .ok (.aload_n 0, 1) := by decide +kernel
theorem dX8_setEffort_73 : decode cX8_setEffort 73 = .ok (.getfield 19, 3) := by decide +kernel
theorem dX8_setEffort_76 : decode cX8_setEffort 76 = .ok (.iload_n 1, 1) := by decide +kernel
theorem dX8_setEffort_77 : decode cX8_setEffort 77 = .ok (.putfield 120, 3) := by decide +kernel
theorem dX8_setEffort_80 : decode cX8_setEffort 80 = .ok (.aload_n 0, 1) := by decide +kernel
theorem dX8_setEffort_81 : decode cX8_setEffort 81 = .ok (.getfield 19, 3) := by decide +kernel
theorem dX8_setEffort_84 : decode cX8_setEffort 84 = .ok (.iload_n 2, 1) := by decide +kernel
theorem dX8_setEffort_85 : decode cX8_setEffort 85 = .ok (.putfield 123, 3) := by decide +kernel
theorem dX8_setEffort_88 : decode cX8_setEffort 88 = .ok (.iload_n 3, 1) := by decide +kernel
theorem dX8_setEffort_89 : decode cX8_setEffort 89 = .ok (.ireturn, 1) := by decide +kernel
set_option maxRecDepth 20000 in
theorem ggX8_addThreshold_X6_keepThreshold : GoodIn wsX8_addThreshold wsX6_keepThreshold := goodIn_r _ [14, 15, 16, 22, 23, 24, 25] (by decide +kernel) (by decide +kernel)
set_option maxRecDepth 20000 in
theorem gX8_addThreshold_X6_keepThreshold : GoodIn wsX8_addThreshold (wsV RX8 135 RX6 yX6_keepThreshold wsX6_keepThreshold) := goodIn_app (goodIn_of _ (by decide +kernel)) ggX8_addThreshold_X6_keepThreshold
theorem dX8_addThreshold_0 : decode cX8_addThreshold 0 = .ok (.iload_n 1, 1) := by decide +kernel
theorem dX8_addThreshold_1 : decode cX8_addThreshold 1 = .ok (.ldc 126, 2) := by decide +kernel
theorem dX8_addThreshold_3 : decode cX8_addThreshold 3 = .ok (.if_icmp .le 9, 3) := by decide +kernel
theorem dX8_addThreshold_6 : decode cX8_addThreshold 6 = .ok (.iload_n 1, 1) := by decide +kernel
theorem dX8_addThreshold_7 : decode cX8_addThreshold 7 = .ok (.ldc 127, 2) := by decide +kernel
theorem dX8_addThreshold_9 : decode cX8_addThreshold 9 = .ok (.if_icmp .lt 13, 3) := by decide +kernel
theorem dX8_addThreshold_12 : decode cX8_addThreshold 12 = .ok (.new 93, 3) := by decide +kernel
theorem dX8_addThreshold_15 : decode cX8_addThreshold 15 = .ok (.dup, 1) := by decide +kernel
theorem dX8_addThreshold_16 : decode cX8_addThreshold 16 = .ok (.ldc 128, 2) := by decide +kernel
theorem dX8_addThreshold_18 : decode cX8_addThreshold 18 = .ok (.invokespecial 97, 3) := by decide +kernel
theorem dX8_addThreshold_21 : decode cX8_addThreshold 21 = .ok (.athrow, 1) := by decide +kernel
theorem dX8_addThreshold_22 : decode cX8_addThreshold 22 = .ok (.aload_n 0, 1) := by decide +kernel
theorem dX8_addThreshold_23 : decode cX8_addThreshold 23 = .ok (.getfield 19, 3) := by decide +kernel
theorem dX8_addThreshold_26 : decode cX8_addThreshold 26 = .ok (.getfield 130, 3) := by decide +kernel
theorem dX8_addThreshold_29 : decode cX8_addThreshold 29 = .ok (.bipush 8, 2) := by decide +kernel
theorem dX8_addThreshold_31 : decode cX8_addThreshold 31 = .ok (.if_icmp .lt 13, 3) := by decide +kernel
theorem dX8_addThreshold_34 : decode cX8_addThreshold 34 = .ok (.new 45, 3) := by decide +kernel
theorem dX8_addThreshold_37 : decode cX8_addThreshold 37 = .ok (.dup, 1) := by decide +kernel
theorem dX8_addThreshold_38 : decode cX8_addThreshold 38 = .ok (.ldc 133, 2) := by decide +kernel
theorem dX8_addThreshold_40 : decode cX8_addThreshold 40 = .ok (.invokespecial 49, 3) := by decide +kernel
theorem dX8_addThreshold_43 : decode cX8_addThreshold 43 = .ok (.athrow, 1) := by decide +kernel
theorem dX8_addThreshold_44 : decode cX8_addThreshold 44 = .ok (.aload_n 0, 1) := by decide +kernel
theorem dX8_addThreshold_45 : decode cX8_addThreshold 45 = .ok (.iconst 0, 1) := by decide +kernel
theorem dX8_addThreshold_46 : decode cX8_addThreshold 46 = .ok (.putfield 37, 3) := by decide +kernel
theorem dX8_addThreshold_49 : decode cX8_addThreshold 49 = .ok (.aload_n 0, 1) := by decide +kernel
theorem dX8_addThreshold_50 : decode cX8_addThreshold 50 = .ok (.getfield 19, 3) := by decide +kernel
theorem dX8_addThreshold_53 : decode cX8_addThreshold 53 = .ok (.iload_n 1, 1) := by decide +kernel
theorem dX8_addThreshold_54 : decode cX8_addThreshold 54 = .ok (.invokevirtual 135, 3) := by decide +kernel
theorem dX8_addThreshold_57 : decode cX8_addThreshold 57 = .ok (.aload_n 0, 1) := by decide +kernel
theorem dX8_addThreshold_58 : decode cX8_addThreshold 58 = .ok (.getfield 19, 3) := by decide +kernel
theorem dX8_addThreshold_61 : decode cX8_addThreshold 61 = .ok (.getfield 130, 3) := by decide +kernel
theorem dX8_addThreshold_64 : decode cX8_addThreshold 64 = .ok (.ireturn, 1) := by decide +kernel
set_option maxRecDepth 20000 in
theorem ggX8_analyze_X0_forget : GoodIn wsX8_analyze wsX0_forget := goodIn_r _ [10, 11, 12, 13, 14, 15, 16, 17, 18, 19, 20, 21, 193, 194, 195, 196, 197, 198, 199, 200, 201, 202] (by decide +kernel) (by decide +kernel)
set_option maxRecDepth 20000 in
theorem gX8_analyze_X0_forget : GoodIn wsX8_analyze (wsV RX8 138 RX0 yX0_forget wsX0_forget) := goodIn_app (goodIn_of _ (by decide +kernel)) ggX8_analyze_X0_forget
set_option maxRecDepth 20000 in
theorem ggX8_analyze_X0_makeRounds : GoodIn wsX8_analyze wsX0_makeRounds := goodIn_r _ [25, 26, 27, 28, 29, 30, 9, 31, 32, 33, 11, 34, 35, 36, 37, 38, 39, 40, 41, 42, 43, 44, 45, 46, 47, 48, 49, 50, 51, 52, 53, 54, 55, 56, 57, 58, 59, 60, 61, 62, 63, 64, 65, 66, 67, 68, 69, 70, 71, 72, 73, 74, 75, 76, 77, 78, 79, 80, 81, 82, 83, 84, 85, 86, 87, 88, 89, 90, 91, 92, 93, 94, 95, 96, 15, 97, 20, 18, 98, 21, 99, 100, 101, 102, 103, 104, 105, 106, 107, 108, 109, 110, 111, 112, 113, 114, 115, 116, 117, 118, 119, 120, 121, 122, 123, 124, 125, 126, 127, 128, 129, 130, 131, 132, 133, 134, 135, 136, 137, 138, 139, 140, 141, 142, 143, 144, 145, 146, 147, 148, 149, 150, 151, 152, 153, 154, 155, 156, 157, 158, 159, 160, 161, 162, 163, 164, 165, 166, 167, 168, 169, 170, 171, 203, 204, 205, 193, 194, 195, 200, 201, 202, 196, 197, 198, 199, 189, 190, 191, 192, 206, 207, 208, 209, 210, 211, 212, 213, 214, 215] (by decide +kernel) (by decide +kernel)
set_option maxRecDepth 20000 in
theorem gX8_analyze_X0_makeRounds : GoodIn wsX8_analyze (wsV RX8 141 RX0 yX0_makeRounds wsX0_makeRounds) := goodIn_app (goodIn_of _ (by decide +kernel)) ggX8_analyze_X0_makeRounds
set_option maxRecDepth 20000 in
theorem ggX8_analyze_X0_makeNarrowings : GoodIn wsX8_analyze wsX0_makeNarrowings := goodIn_r _ [175, 27, 176, 177, 178, 9, 179, 11, 35, 33, 32, 38, 39, 40, 41, 42, 43, 44, 45, 46, 47, 48, 49, 50, 51, 52, 53, 54, 55, 56, 57, 58, 59, 60, 61, 62, 63, 64, 65, 66, 67, 68, 69, 180, 181, 182, 183, 94, 95, 96, 15, 97, 20, 18, 98, 21, 99, 100, 101, 102, 103, 104, 105, 106, 107, 108, 109, 110, 111, 112, 113, 114, 115, 116, 117, 118, 119, 120, 121, 122, 123, 124, 125, 126, 127, 128, 129, 130, 131, 132, 133, 134, 135, 136, 137, 138, 139, 140, 141, 142, 143, 144, 145, 146, 147, 148, 149, 150, 151, 152, 153, 154, 155, 156, 157, 158, 159, 160, 161, 162, 163, 164, 165, 166, 167, 168, 169, 170, 171, 203, 204, 205, 193, 194, 195, 196, 197, 198, 199, 200, 201, 202, 206, 207, 208, 209, 210, 211, 212, 213, 214, 215] (by decide +kernel) (by decide +kernel)
set_option maxRecDepth 20000 in
theorem gX8_analyze_X0_makeNarrowings : GoodIn wsX8_analyze (wsV RX8 145 RX0 yX0_makeNarrowings wsX0_makeNarrowings) := goodIn_app (goodIn_of _ (by decide +kernel)) ggX8_analyze_X0_makeNarrowings
theorem dX8_analyze_0 : decode cX8_analyze 0 = .ok (.aload_n 0, 1) := by decide +kernel
theorem dX8_analyze_1 : decode cX8_analyze 1 = .ok (.getfield 26, 3) := by decide +kernel
theorem dX8_analyze_4 : decode cX8_analyze 4 = .ok (.invokevirtual 138, 3) := by decide +kernel
theorem dX8_analyze_7 : decode cX8_analyze 7 = .ok (.aload_n 0, 1) := by decide +kernel
theorem dX8_analyze_8 : decode cX8_analyze 8 = .ok (.getfield 26, 3) := by decide +kernel
theorem dX8_analyze_11 : decode cX8_analyze 11 = .ok (.aload_n 0, 1) := by decide +kernel
theorem dX8_analyze_12 : decode cX8_analyze 12 = .ok (.getfield 10, 3) := by decide +kernel
theorem dX8_analyze_15 : decode cX8_analyze 15 = .ok (.aload_n 0, 1) := by decide +kernel
theorem dX8_analyze_16 : decode cX8_analyze 16 = .ok (.getfield 19, 3) := by decide +kernel
theorem dX8_analyze_19 : decode cX8_analyze 19 = .ok (.invokevirtual 141, 3) := by decide +kernel
theorem dX8_analyze_22 : decode cX8_analyze 22 = .ok (.istore_n 1, 1) := by decide +kernel
theorem dX8_analyze_23 : decode cX8_analyze 23 = .ok (.aload_n 0, 1) := by decide +kernel
theorem dX8_analyze_24 : decode cX8_analyze 24 = .ok (.getfield 26, 3) := by decide +kernel
theorem dX8_analyze_27 : decode cX8_analyze 27 = .ok (.aload_n 0, 1) := by decide +kernel
theorem dX8_analyze_28 : decode cX8_analyze 28 = .ok (.getfield 10, 3) := by decide +kernel
theorem dX8_analyze_31 : decode cX8_analyze 31 = .ok (.aload_n 0, 1) := by decide +kernel
theorem dX8_analyze_32 : decode cX8_analyze 32 = .ok (.getfield 19, 3) := by decide +kernel
theorem dX8_analyze_35 : decode cX8_analyze 35 = .ok (.getfield 123, 3) := by decide +kernel
theorem dX8_analyze_38 : decode cX8_analyze 38 = .ok (.invokevirtual 145, 3) := by decide +kernel
theorem dX8_analyze_41 : decode cX8_analyze 41 = .ok (.aload_n 0, 1) := by decide +kernel
theorem dX8_analyze_42 : decode cX8_analyze 42 = .ok (.iconst 1, 1) := by decide +kernel
theorem dX8_analyze_43 : decode cX8_analyze 43 = .ok (.putfield 37, 3) := by decide +kernel
theorem dX8_analyze_46 : decode cX8_analyze 46 = .ok (.iload_n 1, 1) := by decide +kernel
theorem dX8_analyze_47 : decode cX8_analyze 47 = .ok (.ireturn, 1) := by decide +kernel
theorem dX8_isAnalyzed_0 : decode cX8_isAnalyzed 0 = .ok (.aload_n 0, 1) := by decide +kernel
theorem dX8_isAnalyzed_1 : decode cX8_isAnalyzed 1 = .ok (.getfield 37, 3) := by decide +kernel
theorem dX8_isAnalyzed_4 : decode cX8_isAnalyzed 4 = .ok (.ireturn, 1) := by decide +kernel
set_option maxRecDepth 20000 in
theorem ggX8_isReachable_X8_requireAnalysis : GoodIn wsX8_isReachable wsX8_requireAnalysis := goodIn_ca (goodIn_r _ [9, 10, 11, 12, 21, 22, 23, 24, 25] (by decide +kernel) (by decide +kernel)) (goodIn_sub (fun _ h => List.mem_cons_of_mem _ (List.mem_append_left _ (List.mem_append_right _ h))) (by decide +kernel))
set_option maxRecDepth 20000 in
theorem gX8_isReachable_X8_requireAnalysis : GoodIn wsX8_isReachable (wsV RX8 149 RX8 yX8_requireAnalysis wsX8_requireAnalysis) := goodIn_app (goodIn_of _ (by decide +kernel)) ggX8_isReachable_X8_requireAnalysis
set_option maxRecDepth 20000 in
theorem ggX8_isReachable_X8_requireBlock : GoodIn wsX8_isReachable wsX8_requireBlock := goodIn_ca (goodIn_r _ [16, 17, 18, 19, 20, 21, 22, 23, 24, 25, 36, 37, 38] (by decide +kernel) (by decide +kernel)) (goodIn_sub (fun _ h => List.mem_cons_of_mem _ (List.mem_append_right _ h)) (by decide +kernel))
set_option maxRecDepth 20000 in
theorem gX8_isReachable_X8_requireBlock : GoodIn wsX8_isReachable (wsV RX8 77 RX8 yX8_requireBlock wsX8_requireBlock) := goodIn_app (goodIn_of _ (by decide +kernel)) ggX8_isReachable_X8_requireBlock
theorem dX8_isReachable_0 : decode cX8_isReachable 0 = .ok (.aload_n 0, 1) := by decide +kernel
theorem dX8_isReachable_1 : decode cX8_isReachable 1 = .ok (.invokevirtual 149, 3) := by decide +kernel
theorem dX8_isReachable_4 : decode cX8_isReachable 4 = .ok (.aload_n 0, 1) := by decide +kernel
theorem dX8_isReachable_5 : decode cX8_isReachable 5 = .ok (.iload_n 1, 1) := by decide +kernel
theorem dX8_isReachable_6 : decode cX8_isReachable 6 = .ok (.invokevirtual 77, 3) := by decide +kernel
theorem dX8_isReachable_9 : decode cX8_isReachable 9 = .ok (.aload_n 0, 1) := by decide +kernel
theorem dX8_isReachable_10 : decode cX8_isReachable 10 = .ok (.getfield 26, 3) := by decide +kernel
theorem dX8_isReachable_13 : decode cX8_isReachable 13 = .ok (.getfield 152, 3) := by decide +kernel
theorem dX8_isReachable_16 : decode cX8_isReachable 16 = .ok (.iload_n 1, 1) := by decide +kernel
theorem dX8_isReachable_17 : decode cX8_isReachable 17 = .ok (.aaload, 1) := by decide +kernel
theorem dX8_isReachable_18 : decode cX8_isReachable 18 = .ok (.getfield 156, 3) := by decide +kernel
theorem dX8_isReachable_21 : decode cX8_isReachable 21 = .ok (.getfield 161, 3) := by decide +kernel
theorem dX8_isReachable_24 : decode cX8_isReachable 24 = .ok (.ifCond .ne 7, 3) := by decide +kernel
theorem dX8_isReachable_27 : decode cX8_isReachable 27 = .ok (.iconst 1, 1) := by decide +kernel
theorem dX8_isReachable_28 : decode cX8_isReachable 28 = .ok (.goto 4, 3) := by decide +kernel
theorem dX8_isReachable_31 : decode cX8_isReachable 31 = .ok (.iconst 0, 1) := by decide +kernel
theorem dX8_isReachable_32 : decode cX8_isReachable 32 = .ok (.ireturn, 1) := by decide +kernel
set_option maxRecDepth 20000 in
theorem ggX8_entry_X8_requireAnalysis : GoodIn wsX8_entry wsX8_requireAnalysis := goodIn_ca (goodIn_r _ [8, 9, 10, 11, 31, 32, 33, 34, 35] (by decide +kernel) (by decide +kernel)) (goodIn_sub (fun _ h => List.mem_cons_of_mem _ (List.mem_append_left _ (List.mem_append_left _ (List.mem_append_right _ h)))) (by decide +kernel))
set_option maxRecDepth 20000 in
theorem gX8_entry_X8_requireAnalysis : GoodIn wsX8_entry (wsV RX8 149 RX8 yX8_requireAnalysis wsX8_requireAnalysis) := goodIn_app (goodIn_of _ (by decide +kernel)) ggX8_entry_X8_requireAnalysis
set_option maxRecDepth 20000 in
theorem ggX8_entry_X8_requireBlock : GoodIn wsX8_entry wsX8_requireBlock := goodIn_ca (goodIn_r _ [15, 16, 17, 18, 19, 31, 32, 33, 34, 35, 43, 44, 45] (by decide +kernel) (by decide +kernel)) (goodIn_sub (fun _ h => List.mem_cons_of_mem _ (List.mem_append_left _ (List.mem_append_right _ h))) (by decide +kernel))
set_option maxRecDepth 20000 in
theorem gX8_entry_X8_requireBlock : GoodIn wsX8_entry (wsV RX8 77 RX8 yX8_requireBlock wsX8_requireBlock) := goodIn_app (goodIn_of _ (by decide +kernel)) ggX8_entry_X8_requireBlock
set_option maxRecDepth 20000 in
theorem ggX8_entry_X8_requireVariable : GoodIn wsX8_entry wsX8_requireVariable := goodIn_ca (goodIn_r _ [22, 16, 17] (by decide +kernel) (by decide +kernel)) (goodIn_sub (fun _ h => List.mem_cons_of_mem _ (List.mem_append_left _ (List.mem_append_right _ h))) (by decide +kernel))
set_option maxRecDepth 20000 in
theorem gX8_entry_X8_requireVariable : GoodIn wsX8_entry (va_wsS RX8 52 yX8_requireVariable wsX8_requireVariable) := goodIn_app (goodIn_of _ (by decide +kernel)) ggX8_entry_X8_requireVariable
set_option maxRecDepth 20000 in
theorem ggX8_entry_X8_endOfRange : GoodIn wsX8_entry wsX8_endOfRange := goodIn_ca (goodIn_r _ [25, 26, 27, 28, 29, 30, 46, 47, 48] (by decide +kernel) (by decide +kernel)) (goodIn_sub (fun _ h => List.mem_cons_of_mem _ (List.mem_append_right _ h)) (by decide +kernel))
set_option maxRecDepth 20000 in
theorem gX8_entry_X8_endOfRange : GoodIn wsX8_entry (va_wsS RX8 164 yX8_endOfRange wsX8_endOfRange) := goodIn_app (goodIn_of _ (by decide +kernel)) ggX8_entry_X8_endOfRange
theorem dX8_entry_0 : decode cX8_entry 0 = .ok (.aload_n 0, 1) := by decide +kernel
theorem dX8_entry_1 : decode cX8_entry 1 = .ok (.invokevirtual 149, 3) := by decide +kernel
theorem dX8_entry_4 : decode cX8_entry 4 = .ok (.aload_n 0, 1) := by decide +kernel
theorem dX8_entry_5 : decode cX8_entry 5 = .ok (.iload_n 1, 1) := by decide +kernel
theorem dX8_entry_6 : decode cX8_entry 6 = .ok (.invokevirtual 77, 3) := by decide +kernel
theorem dX8_entry_9 : decode cX8_entry 9 = .ok (.iload_n 2, 1) := by decide +kernel
theorem dX8_entry_10 : decode cX8_entry 10 = .ok (.invokestatic 52, 3) := by decide +kernel
theorem dX8_entry_13 : decode cX8_entry 13 = .ok (.aload_n 0, 1) := by decide +kernel
theorem dX8_entry_14 : decode cX8_entry 14 = .ok (.getfield 26, 3) := by decide +kernel
theorem dX8_entry_17 : decode cX8_entry 17 = .ok (.getfield 152, 3) := by decide +kernel
theorem dX8_entry_20 : decode cX8_entry 20 = .ok (.iload_n 1, 1) := by decide +kernel
theorem dX8_entry_21 : decode cX8_entry 21 = .ok (.aaload, 1) := by decide +kernel
theorem dX8_entry_22 : decode cX8_entry 22 = .ok (.getfield 156, 3) := by decide +kernel
theorem dX8_entry_25 : decode cX8_entry 25 = .ok (.iload_n 2, 1) := by decide +kernel
theorem dX8_entry_26 : decode cX8_entry 26 = .ok (.iload_n 3, 1) := by decide +kernel
theorem dX8_entry_27 : decode cX8_entry 27 = .ok (.invokestatic 164, 3) := by decide +kernel
theorem dX8_entry_30 : decode cX8_entry 30 = .ok (.ireturn, 1) := by decide +kernel
set_option maxRecDepth 20000 in
theorem ggX8_exit_X8_requireAnalysis : GoodIn wsX8_exit wsX8_requireAnalysis := goodIn_ca (goodIn_r _ [8, 9, 10, 11, 31, 32, 33, 34, 35] (by decide +kernel) (by decide +kernel)) (goodIn_sub (fun _ h => List.mem_cons_of_mem _ (List.mem_append_left _ (List.mem_append_left _ (List.mem_append_right _ h)))) (by decide +kernel))
set_option maxRecDepth 20000 in
theorem gX8_exit_X8_requireAnalysis : GoodIn wsX8_exit (wsV RX8 149 RX8 yX8_requireAnalysis wsX8_requireAnalysis) := goodIn_app (goodIn_of _ (by decide +kernel)) ggX8_exit_X8_requireAnalysis
set_option maxRecDepth 20000 in
theorem ggX8_exit_X8_requireBlock : GoodIn wsX8_exit wsX8_requireBlock := goodIn_ca (goodIn_r _ [15, 16, 17, 18, 19, 31, 32, 33, 34, 35, 43, 44, 45] (by decide +kernel) (by decide +kernel)) (goodIn_sub (fun _ h => List.mem_cons_of_mem _ (List.mem_append_left _ (List.mem_append_right _ h))) (by decide +kernel))
set_option maxRecDepth 20000 in
theorem gX8_exit_X8_requireBlock : GoodIn wsX8_exit (wsV RX8 77 RX8 yX8_requireBlock wsX8_requireBlock) := goodIn_app (goodIn_of _ (by decide +kernel)) ggX8_exit_X8_requireBlock
set_option maxRecDepth 20000 in
theorem ggX8_exit_X8_requireVariable : GoodIn wsX8_exit wsX8_requireVariable := goodIn_ca (goodIn_r _ [22, 16, 17] (by decide +kernel) (by decide +kernel)) (goodIn_sub (fun _ h => List.mem_cons_of_mem _ (List.mem_append_left _ (List.mem_append_right _ h))) (by decide +kernel))
set_option maxRecDepth 20000 in
theorem gX8_exit_X8_requireVariable : GoodIn wsX8_exit (va_wsS RX8 52 yX8_requireVariable wsX8_requireVariable) := goodIn_app (goodIn_of _ (by decide +kernel)) ggX8_exit_X8_requireVariable
set_option maxRecDepth 20000 in
theorem ggX8_exit_X8_endOfRange : GoodIn wsX8_exit wsX8_endOfRange := goodIn_ca (goodIn_r _ [25, 26, 27, 28, 29, 30, 46, 47, 48] (by decide +kernel) (by decide +kernel)) (goodIn_sub (fun _ h => List.mem_cons_of_mem _ (List.mem_append_right _ h)) (by decide +kernel))
set_option maxRecDepth 20000 in
theorem gX8_exit_X8_endOfRange : GoodIn wsX8_exit (va_wsS RX8 164 yX8_endOfRange wsX8_endOfRange) := goodIn_app (goodIn_of _ (by decide +kernel)) ggX8_exit_X8_endOfRange
theorem dX8_exit_0 : decode cX8_exit 0 = .ok (.aload_n 0, 1) := by decide +kernel
theorem dX8_exit_1 : decode cX8_exit 1 = .ok (.invokevirtual 149, 3) := by decide +kernel
theorem dX8_exit_4 : decode cX8_exit 4 = .ok (.aload_n 0, 1) := by decide +kernel
theorem dX8_exit_5 : decode cX8_exit 5 = .ok (.iload_n 1, 1) := by decide +kernel
theorem dX8_exit_6 : decode cX8_exit 6 = .ok (.invokevirtual 77, 3) := by decide +kernel
theorem dX8_exit_9 : decode cX8_exit 9 = .ok (.iload_n 2, 1) := by decide +kernel
theorem dX8_exit_10 : decode cX8_exit 10 = .ok (.invokestatic 52, 3) := by decide +kernel
theorem dX8_exit_13 : decode cX8_exit 13 = .ok (.aload_n 0, 1) := by decide +kernel
theorem dX8_exit_14 : decode cX8_exit 14 = .ok (.getfield 26, 3) := by decide +kernel
theorem dX8_exit_17 : decode cX8_exit 17 = .ok (.getfield 152, 3) := by decide +kernel
theorem dX8_exit_20 : decode cX8_exit 20 = .ok (.iload_n 1, 1) := by decide +kernel
theorem dX8_exit_21 : decode cX8_exit 21 = .ok (.aaload, 1) := by decide +kernel
theorem dX8_exit_22 : decode cX8_exit 22 = .ok (.getfield 168, 3) := by decide +kernel
theorem dX8_exit_25 : decode cX8_exit 25 = .ok (.iload_n 2, 1) := by decide +kernel
theorem dX8_exit_26 : decode cX8_exit 26 = .ok (.iload_n 3, 1) := by decide +kernel
theorem dX8_exit_27 : decode cX8_exit 27 = .ok (.invokestatic 164, 3) := by decide +kernel
theorem dX8_exit_30 : decode cX8_exit 30 = .ok (.ireturn, 1) := by decide +kernel
set_option maxRecDepth 20000 in
theorem ggX8_isDead_X8_requireAnalysis : GoodIn wsX8_isDead wsX8_requireAnalysis := goodIn_ca (goodIn_r _ [14, 15, 16, 17, 23, 24, 25, 26, 27] (by decide +kernel) (by decide +kernel)) (goodIn_sub (fun _ h => List.mem_cons_of_mem _ (List.mem_append_right _ h)) (by decide +kernel))
set_option maxRecDepth 20000 in
theorem gX8_isDead_X8_requireAnalysis : GoodIn wsX8_isDead (wsV RX8 149 RX8 yX8_requireAnalysis wsX8_requireAnalysis) := goodIn_app (goodIn_of _ (by decide +kernel)) ggX8_isDead_X8_requireAnalysis
set_option maxRecDepth 20000 in
theorem ggX8_isDead_X8_requireBlock : GoodIn wsX8_isDead wsX8_requireBlock := goodIn_ca (goodIn_r _ [21, 1, 2, 3, 22, 23, 24, 25, 26, 27, 28, 29, 30] (by decide +kernel) (by decide +kernel)) (goodIn_sub (fun _ h => List.mem_cons_of_mem _ (List.mem_append_left _ (List.mem_append_right _ h))) (by decide +kernel))
set_option maxRecDepth 20000 in
theorem gX8_isDead_X8_requireBlock : GoodIn wsX8_isDead (wsV RX8 77 RX8 yX8_requireBlock wsX8_requireBlock) := goodIn_app (goodIn_of _ (by decide +kernel)) ggX8_isDead_X8_requireBlock
theorem dX8_isDead_0 : decode cX8_isDead 0 = .ok (.aload_n 0, 1) := by decide +kernel
theorem dX8_isDead_1 : decode cX8_isDead 1 = .ok (.invokevirtual 149, 3) := by decide +kernel
theorem dX8_isDead_4 : decode cX8_isDead 4 = .ok (.aload_n 0, 1) := by decide +kernel
theorem dX8_isDead_5 : decode cX8_isDead 5 = .ok (.iload_n 1, 1) := by decide +kernel
theorem dX8_isDead_6 : decode cX8_isDead 6 = .ok (.invokevirtual 77, 3) := by decide +kernel
theorem dX8_isDead_9 : decode cX8_isDead 9 = .ok (.iload_n 2, 1) := by decide +kernel
theorem dX8_isDead_10 : decode cX8_isDead 10 = .ok (.ifCond .lt 19, 3) := by decide +kernel
theorem dX8_isDead_13 : decode cX8_isDead 13 = .ok (.iload_n 2, 1) := by decide +kernel
theorem dX8_isDead_14 : decode cX8_isDead 14 = .ok (.aload_n 0, 1) := by decide +kernel
theorem dX8_isDead_15 : decode cX8_isDead 15 = .ok (.getfield 10, 3) := by decide +kernel
theorem dX8_isDead_18 : decode cX8_isDead 18 = .ok (.getfield 83, 3) := by decide +kernel
theorem dX8_isDead_21 : decode cX8_isDead 21 = .ok (.iload_n 1, 1) := by decide +kernel
theorem dX8_isDead_22 : decode cX8_isDead 22 = .ok (.aaload, 1) := by decide +kernel
theorem dX8_isDead_23 : decode cX8_isDead 23 = .ok (.getfield 98, 3) := by decide +kernel
theorem dX8_isDead_26 : decode cX8_isDead 26 = .ok (.if_icmp .lt 13, 3) := by decide +kernel
theorem dX8_isDead_29 : decode cX8_isDead 29 = .ok (.new 171, 3) := by decide +kernel
theorem dX8_isDead_32 : decode cX8_isDead 32 = .ok (.dup, 1) := by decide +kernel
theorem dX8_isDead_33 : decode cX8_isDead 33 = .ok (.ldc 173, 2) := by decide +kernel
theorem dX8_isDead_35 : decode cX8_isDead 35 = .ok (.invokespecial 175, 3) := by decide +kernel
theorem dX8_isDead_38 : decode cX8_isDead 38 = .ok (.athrow, 1) := by decide +kernel
theorem dX8_isDead_39 : decode cX8_isDead 39 = .ok (.aload_n 0, 1) := by decide +kernel
theorem dX8_isDead_40 : decode cX8_isDead 40 = .ok (.getfield 26, 3) := by decide +kernel
theorem dX8_isDead_43 : decode cX8_isDead 43 = .ok (.getfield 152, 3) := by decide +kernel
theorem dX8_isDead_46 : decode cX8_isDead 46 = .ok (.iload_n 1, 1) := by decide +kernel
theorem dX8_isDead_47 : decode cX8_isDead 47 = .ok (.aaload, 1) := by decide +kernel
theorem dX8_isDead_48 : decode cX8_isDead 48 = .ok (.getfield 176, 3) := by decide +kernel
theorem dX8_isDead_51 : decode cX8_isDead 51 = .ok (.iload_n 2, 1) := by decide +kernel
theorem dX8_isDead_52 : decode cX8_isDead 52 = .ok (.aaload, 1) := by decide +kernel
theorem dX8_isDead_53 : decode cX8_isDead 53 = .ok (.getfield 161, 3) := by decide +kernel
theorem dX8_isDead_56 : decode cX8_isDead 56 = .ok (.ireturn, 1) := by decide +kernel
set_option maxRecDepth 20000 in
theorem ggX8_deadEdges_X8_requireAnalysis : GoodIn wsX8_deadEdges wsX8_requireAnalysis := goodIn_ca (goodIn_r _ [11, 12, 13, 14, 23, 24, 25, 26, 27] (by decide +kernel) (by decide +kernel)) (goodIn_sub (fun _ h => List.mem_cons_of_mem _ (List.mem_append_right _ h)) (by decide +kernel))
set_option maxRecDepth 20000 in
theorem gX8_deadEdges_X8_requireAnalysis : GoodIn wsX8_deadEdges (wsV RX8 149 RX8 yX8_requireAnalysis wsX8_requireAnalysis) := goodIn_app (goodIn_of _ (by decide +kernel)) ggX8_deadEdges_X8_requireAnalysis
set_option maxRecDepth 20000 in
theorem ggX8_deadEdges_X4_countDeadEdges : GoodIn wsX8_deadEdges wsX4_countDeadEdges := goodIn_r _ [19, 20, 21, 22, 44, 45, 46, 47, 48, 49, 50] (by decide +kernel) (by decide +kernel)
set_option maxRecDepth 20000 in
theorem gX8_deadEdges_X4_countDeadEdges : GoodIn wsX8_deadEdges (wsV RX8 180 RX4 yX4_countDeadEdges wsX4_countDeadEdges) := goodIn_app (goodIn_of _ (by decide +kernel)) ggX8_deadEdges_X4_countDeadEdges
theorem dX8_deadEdges_0 : decode cX8_deadEdges 0 = .ok (.aload_n 0, 1) := by decide +kernel
theorem dX8_deadEdges_1 : decode cX8_deadEdges 1 = .ok (.invokevirtual 149, 3) := by decide +kernel
theorem dX8_deadEdges_4 : decode cX8_deadEdges 4 = .ok (.iconst 0, 1) := by decide +kernel
theorem dX8_deadEdges_5 : decode cX8_deadEdges 5 = .ok (.istore_n 1, 1) := by decide +kernel
theorem dX8_deadEdges_6 : decode cX8_deadEdges 6 = .ok (.iconst 0, 1) := by decide +kernel
theorem dX8_deadEdges_7 : decode cX8_deadEdges 7 = .ok (.istore_n 2, 1) := by decide +kernel
theorem dX8_deadEdges_8 : decode cX8_deadEdges 8 = .ok (.iload_n 2, 1) := by decide +kernel
theorem dX8_deadEdges_9 : decode cX8_deadEdges 9 = .ok (.aload_n 0, 1) := by decide +kernel
theorem dX8_deadEdges_10 : decode cX8_deadEdges 10 = .ok (.getfield 10, 3) := by decide +kernel
theorem dX8_deadEdges_13 : decode cX8_deadEdges 13 = .ok (.getfield 41, 3) := by decide +kernel
theorem dX8_deadEdges_16 : decode cX8_deadEdges 16 = .ok (.if_icmp .ge 36, 3) := by decide +kernel
theorem dX8_deadEdges_19 : decode cX8_deadEdges 19 = .ok (.iload_n 1, 1) := by decide +kernel
theorem dX8_deadEdges_20 : decode cX8_deadEdges 20 = .ok (.aload_n 0, 1) := by decide +kernel
theorem dX8_deadEdges_21 : decode cX8_deadEdges 21 = .ok (.getfield 26, 3) := by decide +kernel
theorem dX8_deadEdges_24 : decode cX8_deadEdges 24 = .ok (.getfield 152, 3) := by decide +kernel
theorem dX8_deadEdges_27 : decode cX8_deadEdges 27 = .ok (.iload_n 2, 1) := by decide +kernel
theorem dX8_deadEdges_28 : decode cX8_deadEdges 28 = .ok (.aaload, 1) := by decide +kernel
theorem dX8_deadEdges_29 : decode cX8_deadEdges 29 = .ok (.aload_n 0, 1) := by decide +kernel
theorem dX8_deadEdges_30 : decode cX8_deadEdges 30 = .ok (.getfield 10, 3) := by decide +kernel
theorem dX8_deadEdges_33 : decode cX8_deadEdges 33 = .ok (.getfield 83, 3) := by decide +kernel
theorem dX8_deadEdges_36 : decode cX8_deadEdges 36 = .ok (.iload_n 2, 1) := by decide +kernel
theorem dX8_deadEdges_37 : decode cX8_deadEdges 37 = .ok (.aaload, 1) := by decide +kernel
theorem dX8_deadEdges_38 : decode cX8_deadEdges 38 = .ok (.getfield 98, 3) := by decide +kernel
theorem dX8_deadEdges_41 : decode cX8_deadEdges 41 = .ok (.invokevirtual 180, 3) := by decide +kernel
theorem dX8_deadEdges_44 : decode cX8_deadEdges 44 = .ok (.iadd, 1) := by decide +kernel
theorem dX8_deadEdges_45 : decode cX8_deadEdges 45 = .ok (.istore_n 1, 1) := by decide +kernel
theorem dX8_deadEdges_46 : decode cX8_deadEdges 46 = .ok (.iinc 2 1, 3) := by decide +kernel
theorem dX8_deadEdges_49 : decode cX8_deadEdges 49 = .ok (.goto (-41), 3) := by decide +kernel
theorem dX8_deadEdges_52 : decode cX8_deadEdges 52 = .ok (.iload_n 1, 1) := by decide +kernel
theorem dX8_deadEdges_53 : decode cX8_deadEdges 53 = .ok (.ireturn, 1) := by decide +kernel
set_option maxRecDepth 20000 in
theorem ggX8_constants_X8_requireAnalysis : GoodIn wsX8_constants wsX8_requireAnalysis := goodIn_ca (goodIn_r _ [8, 9, 10, 11, 32, 33, 34, 35, 36] (by decide +kernel) (by decide +kernel)) (goodIn_sub (fun _ h => List.mem_cons_of_mem _ (List.mem_append_left _ (List.mem_append_right _ h))) (by decide +kernel))
set_option maxRecDepth 20000 in
theorem gX8_constants_X8_requireAnalysis : GoodIn wsX8_constants (wsV RX8 149 RX8 yX8_requireAnalysis wsX8_requireAnalysis) := goodIn_app (goodIn_of _ (by decide +kernel)) ggX8_constants_X8_requireAnalysis
set_option maxRecDepth 20000 in
theorem ggX8_constants_X8_requireBlock : GoodIn wsX8_constants wsX8_requireBlock := goodIn_ca (goodIn_r _ [15, 16, 17, 18, 19, 32, 33, 34, 35, 36, 44, 45, 46] (by decide +kernel) (by decide +kernel)) (goodIn_sub (fun _ h => List.mem_cons_of_mem _ (List.mem_append_right _ h)) (by decide +kernel))
set_option maxRecDepth 20000 in
theorem gX8_constants_X8_requireBlock : GoodIn wsX8_constants (wsV RX8 77 RX8 yX8_requireBlock wsX8_requireBlock) := goodIn_app (goodIn_of _ (by decide +kernel)) ggX8_constants_X8_requireBlock
set_option maxRecDepth 20000 in
theorem ggX8_constants_X7_countConstants : GoodIn wsX8_constants wsX7_countConstants := goodIn_r _ [24, 25, 26, 27, 28, 23, 29, 30, 31, 47, 48, 49] (by decide +kernel) (by decide +kernel)
set_option maxRecDepth 20000 in
theorem gX8_constants_X7_countConstants : GoodIn wsX8_constants (wsV RX8 184 RX7 yX7_countConstants wsX7_countConstants) := goodIn_app (goodIn_of _ (by decide +kernel)) ggX8_constants_X7_countConstants
theorem dX8_constants_0 : decode cX8_constants 0 = .ok (.aload_n 0, 1) := by decide +kernel
theorem dX8_constants_1 : decode cX8_constants 1 = .ok (.invokevirtual 149, 3) := by decide +kernel
theorem dX8_constants_4 : decode cX8_constants 4 = .ok (.aload_n 0, 1) := by decide +kernel
theorem dX8_constants_5 : decode cX8_constants 5 = .ok (.iload_n 1, 1) := by decide +kernel
theorem dX8_constants_6 : decode cX8_constants 6 = .ok (.invokevirtual 77, 3) := by decide +kernel
theorem dX8_constants_9 : decode cX8_constants 9 = .ok (.aload_n 0, 1) := by decide +kernel
theorem dX8_constants_10 : decode cX8_constants 10 = .ok (.getfield 26, 3) := by decide +kernel
theorem dX8_constants_13 : decode cX8_constants 13 = .ok (.getfield 152, 3) := by decide +kernel
theorem dX8_constants_16 : decode cX8_constants 16 = .ok (.iload_n 1, 1) := by decide +kernel
theorem dX8_constants_17 : decode cX8_constants 17 = .ok (.aaload, 1) := by decide +kernel
theorem dX8_constants_18 : decode cX8_constants 18 = .ok (.getfield 168, 3) := by decide +kernel
theorem dX8_constants_21 : decode cX8_constants 21 = .ok (.invokevirtual 184, 3) := by decide +kernel
theorem dX8_constants_24 : decode cX8_constants 24 = .ok (.ireturn, 1) := by decide +kernel
set_option maxRecDepth 20000 in
theorem ggX8_visits_X8_requireAnalysis : GoodIn wsX8_visits wsX8_requireAnalysis := goodIn_ca (goodIn_r _ [8, 9, 10, 11, 20, 21, 22, 23, 24] (by decide +kernel) (by decide +kernel)) (goodIn_sub (fun _ h => List.mem_cons_of_mem _ (List.mem_append_left _ (List.mem_append_right _ h))) (by decide +kernel))
set_option maxRecDepth 20000 in
theorem gX8_visits_X8_requireAnalysis : GoodIn wsX8_visits (wsV RX8 149 RX8 yX8_requireAnalysis wsX8_requireAnalysis) := goodIn_app (goodIn_of _ (by decide +kernel)) ggX8_visits_X8_requireAnalysis
set_option maxRecDepth 20000 in
theorem ggX8_visits_X8_requireBlock : GoodIn wsX8_visits wsX8_requireBlock := goodIn_ca (goodIn_r _ [15, 16, 17, 18, 19, 20, 21, 22, 23, 24, 32, 33, 34] (by decide +kernel) (by decide +kernel)) (goodIn_sub (fun _ h => List.mem_cons_of_mem _ (List.mem_append_right _ h)) (by decide +kernel))
set_option maxRecDepth 20000 in
theorem gX8_visits_X8_requireBlock : GoodIn wsX8_visits (wsV RX8 77 RX8 yX8_requireBlock wsX8_requireBlock) := goodIn_app (goodIn_of _ (by decide +kernel)) ggX8_visits_X8_requireBlock
theorem dX8_visits_0 : decode cX8_visits 0 = .ok (.aload_n 0, 1) := by decide +kernel
theorem dX8_visits_1 : decode cX8_visits 1 = .ok (.invokevirtual 149, 3) := by decide +kernel
theorem dX8_visits_4 : decode cX8_visits 4 = .ok (.aload_n 0, 1) := by decide +kernel
theorem dX8_visits_5 : decode cX8_visits 5 = .ok (.iload_n 1, 1) := by decide +kernel
theorem dX8_visits_6 : decode cX8_visits 6 = .ok (.invokevirtual 77, 3) := by decide +kernel
theorem dX8_visits_9 : decode cX8_visits 9 = .ok (.aload_n 0, 1) := by decide +kernel
theorem dX8_visits_10 : decode cX8_visits 10 = .ok (.getfield 26, 3) := by decide +kernel
theorem dX8_visits_13 : decode cX8_visits 13 = .ok (.getfield 152, 3) := by decide +kernel
theorem dX8_visits_16 : decode cX8_visits 16 = .ok (.iload_n 1, 1) := by decide +kernel
theorem dX8_visits_17 : decode cX8_visits 17 = .ok (.aaload, 1) := by decide +kernel
theorem dX8_visits_18 : decode cX8_visits 18 = .ok (.getfield 188, 3) := by decide +kernel
theorem dX8_visits_21 : decode cX8_visits 21 = .ok (.ireturn, 1) := by decide +kernel
set_option maxRecDepth 20000 in
theorem ggX8_run_X3_execute : GoodIn wsX8_run wsX3_execute := goodIn_r _ [10, 11, 12, 13, 14, 15, 16, 17, 18, 19, 20, 21, 9, 22, 23, 24, 25, 26, 27, 28, 29, 30, 31, 32, 33, 34, 35, 36, 37, 38, 39, 40, 41, 42, 43, 44, 45, 46, 47, 48, 49, 50, 51, 52, 53, 54, 55, 56, 57, 58, 59, 60, 61, 62, 63, 64, 65, 66, 67, 68, 69, 70, 71, 72, 73, 74, 75, 76, 77, 78, 79, 80, 81, 87, 88, 89, 90, 91, 92, 93, 94, 95, 96, 97, 98, 99, 100, 101, 102, 103, 104, 105, 106, 107] (by decide +kernel) (by decide +kernel)
set_option maxRecDepth 20000 in
theorem gX8_run_X3_execute : GoodIn wsX8_run (wsV RX8 193 RX3 yX3_execute wsX3_execute) := goodIn_app (goodIn_of _ (by decide +kernel)) ggX8_run_X3_execute
theorem dX8_run_0 : decode cX8_run 0 = .ok (.iload_n 3, 1) := by decide +kernel
theorem dX8_run_1 : decode cX8_run 1 = .ok (.iconst 1, 1) := by decide +kernel
theorem dX8_run_2 : decode cX8_run 2 = .ok (.if_icmp .lt 10, 3) := by decide +kernel
theorem dX8_run_5 : decode cX8_run 5 = .ok (.iload_n 3, 1) := by decide +kernel
theorem dX8_run_6 : decode cX8_run 6 = .ok (.sipush 300, 3) := by decide +kernel
theorem dX8_run_9 : decode cX8_run 9 = .ok (.if_icmp .le 13, 3) := by decide +kernel
theorem dX8_run_12 : decode cX8_run 12 = .ok (.new 93, 3) := by decide +kernel
theorem dX8_run_15 : decode cX8_run 15 = .ok (.dup, 1) := by decide +kernel
theorem dX8_run_16 : decode cX8_run 16 = .ok (.ldc 191, 2) := by decide +kernel
theorem dX8_run_18 : decode cX8_run 18 = .ok (.invokespecial 97, 3) := by decide +kernel
theorem dX8_run_21 : decode cX8_run 21 = .ok (.athrow, 1) := by decide +kernel
theorem dX8_run_22 : decode cX8_run 22 = .ok (.aload_n 0, 1) := by decide +kernel
theorem dX8_run_23 : decode cX8_run 23 = .ok (.getfield 33, 3) := by decide +kernel
theorem dX8_run_26 : decode cX8_run 26 = .ok (.aload_n 0, 1) := by decide +kernel
theorem dX8_run_27 : decode cX8_run 27 = .ok (.getfield 10, 3) := by decide +kernel
theorem dX8_run_30 : decode cX8_run 30 = .ok (.lload_n 1, 1) := by decide +kernel
theorem dX8_run_31 : decode cX8_run 31 = .ok (.iload_n 3, 1) := by decide +kernel
theorem dX8_run_32 : decode cX8_run 32 = .ok (.invokevirtual 193, 3) := by decide +kernel
theorem dX8_run_35 : decode cX8_run 35 = .ok (.aload_n 0, 1) := by decide +kernel
theorem dX8_run_36 : decode cX8_run 36 = .ok (.getfield 33, 3) := by decide +kernel
theorem dX8_run_39 : decode cX8_run 39 = .ok (.getfield 197, 3) := by decide +kernel
theorem dX8_run_42 : decode cX8_run 42 = .ok (.ireturn, 1) := by decide +kernel
set_option maxRecDepth 20000 in
theorem ggX8_enteredBlock_X8_requireStep : GoodIn wsX8_enteredBlock wsX8_requireStep := goodIn_ca (goodIn_r _ [7, 8, 9, 1, 10, 11, 12, 13, 14, 15, 16, 17, 18, 19, 20] (by decide +kernel) (by decide +kernel)) (goodIn_sub (fun _ h => List.mem_cons_of_mem _ (List.mem_append_right _ h)) (by decide +kernel))
set_option maxRecDepth 20000 in
theorem gX8_enteredBlock_X8_requireStep : GoodIn wsX8_enteredBlock (wsV RX8 200 RX8 yX8_requireStep wsX8_requireStep) := goodIn_app (goodIn_of _ (by decide +kernel)) ggX8_enteredBlock_X8_requireStep
theorem dX8_enteredBlock_0 : decode cX8_enteredBlock 0 = .ok (.aload_n 0, 1) := by decide +kernel
theorem dX8_enteredBlock_1 : decode cX8_enteredBlock 1 = .ok (.iload_n 1, 1) := by decide +kernel
theorem dX8_enteredBlock_2 : decode cX8_enteredBlock 2 = .ok (.invokevirtual 200, 3) := by decide +kernel
theorem dX8_enteredBlock_5 : decode cX8_enteredBlock 5 = .ok (.aload_n 0, 1) := by decide +kernel
theorem dX8_enteredBlock_6 : decode cX8_enteredBlock 6 = .ok (.getfield 33, 3) := by decide +kernel
theorem dX8_enteredBlock_9 : decode cX8_enteredBlock 9 = .ok (.getfield 203, 3) := by decide +kernel
theorem dX8_enteredBlock_12 : decode cX8_enteredBlock 12 = .ok (.iload_n 1, 1) := by decide +kernel
theorem dX8_enteredBlock_13 : decode cX8_enteredBlock 13 = .ok (.iaload, 1) := by decide +kernel
theorem dX8_enteredBlock_14 : decode cX8_enteredBlock 14 = .ok (.ireturn, 1) := by decide +kernel
set_option maxRecDepth 20000 in
theorem ggX8_enteredWith_X8_requireStep : GoodIn wsX8_enteredWith wsX8_requireStep := goodIn_ca (goodIn_r _ [7, 8, 9, 1, 10, 14, 15, 16, 17, 18, 19, 20, 21, 22, 23] (by decide +kernel) (by decide +kernel)) (goodIn_sub (fun _ h => List.mem_cons_of_mem _ (List.mem_append_right _ h)) (by decide +kernel))
set_option maxRecDepth 20000 in
theorem gX8_enteredWith_X8_requireStep : GoodIn wsX8_enteredWith (wsV RX8 200 RX8 yX8_requireStep wsX8_requireStep) := goodIn_app (goodIn_of _ (by decide +kernel)) ggX8_enteredWith_X8_requireStep
set_option maxRecDepth 20000 in
theorem ggX8_enteredWith_X8_requireVariable : GoodIn wsX8_enteredWith wsX8_requireVariable := goodIn_ca (goodIn_r _ [13, 8, 9] (by decide +kernel) (by decide +kernel)) (goodIn_sub (fun _ h => List.mem_cons_of_mem _ (List.mem_append_right _ h)) (by decide +kernel))
set_option maxRecDepth 20000 in
theorem gX8_enteredWith_X8_requireVariable : GoodIn wsX8_enteredWith (va_wsS RX8 52 yX8_requireVariable wsX8_requireVariable) := goodIn_app (goodIn_of _ (by decide +kernel)) ggX8_enteredWith_X8_requireVariable
theorem dX8_enteredWith_0 : decode cX8_enteredWith 0 = .ok (.aload_n 0, 1) := by decide +kernel
theorem dX8_enteredWith_1 : decode cX8_enteredWith 1 = .ok (.iload_n 1, 1) := by decide +kernel
theorem dX8_enteredWith_2 : decode cX8_enteredWith 2 = .ok (.invokevirtual 200, 3) := by decide +kernel
theorem dX8_enteredWith_5 : decode cX8_enteredWith 5 = .ok (.iload_n 2, 1) := by decide +kernel
theorem dX8_enteredWith_6 : decode cX8_enteredWith 6 = .ok (.invokestatic 52, 3) := by decide +kernel
theorem dX8_enteredWith_9 : decode cX8_enteredWith 9 = .ok (.aload_n 0, 1) := by decide +kernel
theorem dX8_enteredWith_10 : decode cX8_enteredWith 10 = .ok (.getfield 33, 3) := by decide +kernel
theorem dX8_enteredWith_13 : decode cX8_enteredWith 13 = .ok (.getfield 206, 3) := by decide +kernel
theorem dX8_enteredWith_16 : decode cX8_enteredWith 16 = .ok (.iload_n 1, 1) := by decide +kernel
theorem dX8_enteredWith_17 : decode cX8_enteredWith 17 = .ok (.bipush 6, 2) := by decide +kernel
theorem dX8_enteredWith_19 : decode cX8_enteredWith 19 = .ok (.imul, 1) := by decide +kernel
theorem dX8_enteredWith_20 : decode cX8_enteredWith 20 = .ok (.iload_n 2, 1) := by decide +kernel
theorem dX8_enteredWith_21 : decode cX8_enteredWith 21 = .ok (.iadd, 1) := by decide +kernel
theorem dX8_enteredWith_22 : decode cX8_enteredWith 22 = .ok (.iaload, 1) := by decide +kernel
theorem dX8_enteredWith_23 : decode cX8_enteredWith 23 = .ok (.ireturn, 1) := by decide +kernel
set_option maxRecDepth 20000 in
theorem ggX8_result_X8_requireVariable : GoodIn wsX8_result wsX8_requireVariable := goodIn_ca (goodIn_r _ [6, 7, 8] (by decide +kernel) (by decide +kernel)) (goodIn_sub (fun _ h => List.mem_cons_of_mem _ (List.mem_append_right _ h)) (by decide +kernel))
set_option maxRecDepth 20000 in
theorem gX8_result_X8_requireVariable : GoodIn wsX8_result (va_wsS RX8 52 yX8_requireVariable wsX8_requireVariable) := goodIn_app (goodIn_of _ (by decide +kernel)) ggX8_result_X8_requireVariable
theorem dX8_result_0 : decode cX8_result 0 = .ok (.iload_n 1, 1) := by decide +kernel
theorem dX8_result_1 : decode cX8_result 1 = .ok (.invokestatic 52, 3) := by decide +kernel
theorem dX8_result_4 : decode cX8_result 4 = .ok (.aload_n 0, 1) := by decide +kernel
theorem dX8_result_5 : decode cX8_result 5 = .ok (.getfield 33, 3) := by decide +kernel
theorem dX8_result_8 : decode cX8_result 8 = .ok (.getfield 209, 3) := by decide +kernel
theorem dX8_result_11 : decode cX8_result 11 = .ok (.iload_n 1, 1) := by decide +kernel
theorem dX8_result_12 : decode cX8_result 12 = .ok (.iaload, 1) := by decide +kernel
theorem dX8_result_13 : decode cX8_result 13 = .ok (.ireturn, 1) := by decide +kernel
set_option maxRecDepth 20000 in
theorem ggX8_digest_X8_digestProgram : GoodIn wsX8_digest wsX8_digestProgram := goodIn_r _ [14, 2, 15, 16, 17, 18, 19, 34, 35, 36, 37, 38, 48, 49, 50, 51, 52, 53, 54, 55, 56, 57, 58, 59, 60] (by decide +kernel) (by decide +kernel)
set_option maxRecDepth 20000 in
theorem gX8_digest_X8_digestProgram : GoodIn wsX8_digest (wsV RX8 214 RX8 yX8_digestProgram wsX8_digestProgram) := goodIn_app (goodIn_of _ (by decide +kernel)) ggX8_digest_X8_digestProgram
set_option maxRecDepth 20000 in
theorem ggX8_digest_X8_digestAnalysis : GoodIn wsX8_digest wsX8_digestAnalysis := goodIn_r _ [23, 15, 16, 24, 25, 2, 26, 27, 28, 29, 30, 13, 31, 32, 33, 34, 35, 36, 37, 38, 48, 49, 50, 61, 62, 63, 64, 65, 66, 67, 68, 69, 70] (by decide +kernel) (by decide +kernel)
set_option maxRecDepth 20000 in
theorem gX8_digest_X8_digestAnalysis : GoodIn wsX8_digest (wsV RX8 220 RX8 yX8_digestAnalysis wsX8_digestAnalysis) := goodIn_app (goodIn_of _ (by decide +kernel)) ggX8_digest_X8_digestAnalysis
theorem dX8_digest_0 : decode cX8_digest 0 = .ok (.ldc2_w 212, 3) := by decide +kernel
theorem dX8_digest_3 : decode cX8_digest 3 = .ok (.lstore_n 1, 1) := by decide +kernel
theorem dX8_digest_4 : decode cX8_digest 4 = .ok (.aload_n 0, 1) := by decide +kernel
theorem dX8_digest_5 : decode cX8_digest 5 = .ok (.lload_n 1, 1) := by decide +kernel
theorem dX8_digest_6 : decode cX8_digest 6 = .ok (.invokevirtual 214, 3) := by decide +kernel
theorem dX8_digest_9 : decode cX8_digest 9 = .ok (.lstore_n 1, 1) := by decide +kernel
theorem dX8_digest_10 : decode cX8_digest 10 = .ok (.lload_n 1, 1) := by decide +kernel
theorem dX8_digest_11 : decode cX8_digest 11 = .ok (.ldc2_w 218, 3) := by decide +kernel
theorem dX8_digest_14 : decode cX8_digest 14 = .ok (.lmul, 1) := by decide +kernel
theorem dX8_digest_15 : decode cX8_digest 15 = .ok (.aload_n 0, 1) := by decide +kernel
theorem dX8_digest_16 : decode cX8_digest 16 = .ok (.getfield 19, 3) := by decide +kernel
theorem dX8_digest_19 : decode cX8_digest 19 = .ok (.getfield 120, 3) := by decide +kernel
theorem dX8_digest_22 : decode cX8_digest 22 = .ok (.i2l, 1) := by decide +kernel
theorem dX8_digest_23 : decode cX8_digest 23 = .ok (.ladd, 1) := by decide +kernel
theorem dX8_digest_24 : decode cX8_digest 24 = .ok (.lstore_n 1, 1) := by decide +kernel
theorem dX8_digest_25 : decode cX8_digest 25 = .ok (.lload_n 1, 1) := by decide +kernel
theorem dX8_digest_26 : decode cX8_digest 26 = .ok (.ldc2_w 218, 3) := by decide +kernel
theorem dX8_digest_29 : decode cX8_digest 29 = .ok (.lmul, 1) := by decide +kernel
theorem dX8_digest_30 : decode cX8_digest 30 = .ok (.aload_n 0, 1) := by decide +kernel
theorem dX8_digest_31 : decode cX8_digest 31 = .ok (.getfield 19, 3) := by decide +kernel
theorem dX8_digest_34 : decode cX8_digest 34 = .ok (.getfield 123, 3) := by decide +kernel
theorem dX8_digest_37 : decode cX8_digest 37 = .ok (.i2l, 1) := by decide +kernel
theorem dX8_digest_38 : decode cX8_digest 38 = .ok (.ladd, 1) := by decide +kernel
theorem dX8_digest_39 : decode cX8_digest 39 = .ok (.lstore_n 1, 1) := by decide +kernel
theorem dX8_digest_40 : decode cX8_digest 40 = .ok (.lload_n 1, 1) := by decide +kernel
theorem dX8_digest_41 : decode cX8_digest 41 = .ok (.ldc2_w 218, 3) := by decide +kernel
theorem dX8_digest_44 : decode cX8_digest 44 = .ok (.lmul, 1) := by decide +kernel
theorem dX8_digest_45 : decode cX8_digest 45 = .ok (.aload_n 0, 1) := by decide +kernel
theorem dX8_digest_46 : decode cX8_digest 46 = .ok (.getfield 19, 3) := by decide +kernel
theorem dX8_digest_49 : decode cX8_digest 49 = .ok (.getfield 130, 3) := by decide +kernel
theorem dX8_digest_52 : decode cX8_digest 52 = .ok (.i2l, 1) := by decide +kernel
theorem dX8_digest_53 : decode cX8_digest 53 = .ok (.ladd, 1) := by decide +kernel
theorem dX8_digest_54 : decode cX8_digest 54 = .ok (.lstore_n 1, 1) := by decide +kernel
theorem dX8_digest_55 : decode cX8_digest 55 = .ok (.aload_n 0, 1) := by decide +kernel
theorem dX8_digest_56 : decode cX8_digest 56 = .ok (.getfield 37, 3) := by decide +kernel
theorem dX8_digest_59 : decode cX8_digest 59 = .ok (.ifCond .eq 9, 3) := by decide +kernel
theorem dX8_digest_62 : decode cX8_digest 62 = .ok (.aload_n 0, 1) := by decide +kernel
theorem dX8_digest_63 : decode cX8_digest 63 = .ok (.lload_n 1, 1) := by decide +kernel
theorem dX8_digest_64 : decode cX8_digest 64 = .ok (.invokevirtual 220, 3) := by decide +kernel
theorem dX8_digest_67 : decode cX8_digest 67 = .ok (.lstore_n 1, 1) := by decide +kernel
theorem dX8_digest_68 : decode cX8_digest 68 = .ok (.iconst 0, 1) := by decide +kernel
theorem dX8_digest_69 : decode cX8_digest 69 = .ok (.istore_n 3, 1) := by decide +kernel
theorem dX8_digest_70 : decode cX8_digest 70 = .ok (.iload_n 3, 1) := by decide +kernel
theorem dX8_digest_71 : decode cX8_digest 71 = .ok (.bipush 6, 2) := by decide +kernel
theorem dX8_digest_73 : decode cX8_digest 73 = .ok (.if_icmp .ge 26, 3) := by decide +kernel
theorem dX8_digest_76 : decode cX8_digest 76 = .ok (.lload_n 1, 1) := by decide +kernel
theorem dX8_digest_77 : decode cX8_digest 77 = .ok (.ldc2_w 218, 3) := by decide +kernel
theorem dX8_digest_80 : decode cX8_digest 80 = .ok (.lmul, 1) := by decide +kernel
theorem dX8_digest_81 : decode cX8_digest 81 = .ok (.aload_n 0, 1) := by decide +kernel
theorem dX8_digest_82 : decode cX8_digest 82 = .ok (.getfield 33, 3) := by decide +kernel
theorem dX8_digest_85 : decode cX8_digest 85 = .ok (.getfield 209, 3) := by decide +kernel
theorem dX8_digest_88 : decode cX8_digest 88 = .ok (.iload_n 3, 1) := by decide +kernel
theorem dX8_digest_89 : decode cX8_digest 89 = .ok (.iaload, 1) := by decide +kernel
theorem dX8_digest_90 : decode cX8_digest 90 = .ok (.i2l, 1) := by decide +kernel
theorem dX8_digest_91 : decode cX8_digest 91 = .ok (.ladd, 1) := by decide +kernel
theorem dX8_digest_92 : decode cX8_digest 92 = .ok (.lstore_n 1, 1) := by decide +kernel
theorem dX8_digest_93 : decode cX8_digest 93 = .ok (.iinc 3 1, 3) := by decide +kernel
theorem dX8_digest_96 : decode cX8_digest 96 = .ok (.goto (-26), 3) := by decide +kernel
theorem dX8_digest_99 : decode cX8_digest 99 = .ok (.lload_n 1, 1) := by decide +kernel
theorem dX8_digest_100 : decode cX8_digest 100 = .ok (.lreturn, 1) := by decide +kernel
theorem dX8_digestProgram_0 : decode cX8_digestProgram 0 = .ok (.lload_n 1, 1) := by decide +kernel
theorem dX8_digestProgram_1 : decode cX8_digestProgram 1 = .ok (.ldc2_w 218, 3) := by decide +kernel
theorem dX8_digestProgram_4 : decode cX8_digestProgram 4 = .ok (.lmul, 1) := by decide +kernel
theorem dX8_digestProgram_5 : decode cX8_digestProgram 5 = .ok (.aload_n 0, 1) := by decide +kernel
theorem dX8_digestProgram_6 : decode cX8_digestProgram 6 = .ok (.getfield 10, 3) := by decide +kernel
theorem dX8_digestProgram_9 : decode cX8_digestProgram 9 = .ok (.getfield 41, 3) := by decide +kernel
theorem dX8_digestProgram_12 : decode cX8_digestProgram 12 = .ok (.i2l, 1) := by decide +kernel
theorem dX8_digestProgram_13 : decode cX8_digestProgram 13 = .ok (.ladd, 1) := by decide +kernel
theorem dX8_digestProgram_14 : decode cX8_digestProgram 14 = .ok (.lstore_n 3, 1) := by decide +kernel
theorem dX8_digestProgram_15 : decode cX8_digestProgram 15 = .ok (.iconst 0, 1) := by decide +kernel
theorem dX8_digestProgram_16 : decode cX8_digestProgram 16 = .ok (.istore 5, 2) := by decide +kernel
theorem dX8_digestProgram_18 : decode cX8_digestProgram 18 = .ok (.iload 5, 2) := by decide +kernel
theorem dX8_digestProgram_20 : decode cX8_digestProgram 20 = .ok (.aload_n 0, 1) := by decide +kernel
theorem dX8_digestProgram_21 : decode cX8_digestProgram 21 = .ok (.getfield 10, 3) := by decide +kernel
theorem dX8_digestProgram_24 : decode cX8_digestProgram 24 = .ok (.getfield 41, 3) := by decide +kernel
theorem dX8_digestProgram_27 : decode cX8_digestProgram 27 = .ok (.if_icmp .ge 51, 3) := by decide +kernel
theorem dX8_digestProgram_30 : decode cX8_digestProgram 30 = .ok (.lload_n 3, 1) := by decide +kernel
theorem dX8_digestProgram_31 : decode cX8_digestProgram 31 = .ok (.ldc2_w 218, 3) := by decide +kernel
theorem dX8_digestProgram_34 : decode cX8_digestProgram 34 = .ok (.lmul, 1) := by decide +kernel
theorem dX8_digestProgram_35 : decode cX8_digestProgram 35 = .ok (.aload_n 0, 1) := by decide +kernel
theorem dX8_digestProgram_36 : decode cX8_digestProgram 36 = .ok (.getfield 10, 3) := by decide +kernel
theorem dX8_digestProgram_39 : decode cX8_digestProgram 39 = .ok (.getfield 83, 3) := by decide +kernel
theorem dX8_digestProgram_42 : decode cX8_digestProgram 42 = .ok (.iload 5, 2) := by decide +kernel
theorem dX8_digestProgram_44 : decode cX8_digestProgram 44 = .ok (.aaload, 1) := by decide +kernel
theorem dX8_digestProgram_45 : decode cX8_digestProgram 45 = .ok (.getfield 110, 3) := by decide +kernel
theorem dX8_digestProgram_48 : decode cX8_digestProgram 48 = .ok (.i2l, 1) := by decide +kernel
theorem dX8_digestProgram_49 : decode cX8_digestProgram 49 = .ok (.ladd, 1) := by decide +kernel
theorem dX8_digestProgram_50 : decode cX8_digestProgram 50 = .ok (.lstore_n 3, 1) := by decide +kernel
theorem dX8_digestProgram_51 : decode cX8_digestProgram 51 = .ok (.lload_n 3, 1) := by decide +kernel
theorem dX8_digestProgram_52 : decode cX8_digestProgram 52 = .ok (.ldc2_w 218, 3) := by decide +kernel
theorem dX8_digestProgram_55 : decode cX8_digestProgram 55 = .ok (.lmul, 1) := by decide +kernel
theorem dX8_digestProgram_56 : decode cX8_digestProgram 56 = .ok (.aload_n 0, 1) := by decide +kernel
theorem dX8_digestProgram_57 : decode cX8_digestProgram 57 = .ok (.getfield 10, 3) := by decide +kernel
theorem dX8_digestProgram_60 : decode cX8_digestProgram 60 = .ok (.getfield 83, 3) := by decide +kernel
theorem dX8_digestProgram_63 : decode cX8_digestProgram 63 = .ok (.iload 5, 2) := by decide +kernel
theorem dX8_digestProgram_65 : decode cX8_digestProgram 65 = .ok (.aaload, 1) := by decide +kernel
theorem dX8_digestProgram_66 : decode cX8_digestProgram 66 = .ok (.getfield 98, 3) := by decide +kernel
theorem dX8_digestProgram_69 : decode cX8_digestProgram 69 = .ok (.i2l, 1) := by decide +kernel
theorem dX8_digestProgram_70 : decode cX8_digestProgram 70 = .ok (.ladd, 1) := by decide +kernel
theorem dX8_digestProgram_71 : decode cX8_digestProgram 71 = .ok (.lstore_n 3, 1) := by decide +kernel
theorem dX8_digestProgram_72 : decode cX8_digestProgram 72 = .ok (.iinc 5 1, 3) := by decide +kernel
theorem dX8_digestProgram_75 : decode cX8_digestProgram 75 = .ok (.goto (-57), 3) := by decide +kernel
theorem dX8_digestProgram_78 : decode cX8_digestProgram 78 = .ok (.lload_n 3, 1) := by decide +kernel
theorem dX8_digestProgram_79 : decode cX8_digestProgram 79 = .ok (.lreturn, 1) := by decide +kernel
set_option maxRecDepth 20000 in
theorem ggX8_digestAnalysis_X8_digestRanges : GoodIn wsX8_digestAnalysis wsX8_digestRanges := goodIn_r _ [12, 5, 13, 14, 30, 31, 32] (by decide +kernel) (by decide +kernel)
set_option maxRecDepth 20000 in
theorem gX8_digestAnalysis_X8_digestRanges : GoodIn wsX8_digestAnalysis (va_wsS RX8 223 yX8_digestRanges wsX8_digestRanges) := goodIn_app (goodIn_of _ (by decide +kernel)) ggX8_digestAnalysis_X8_digestRanges
theorem dX8_digestAnalysis_0 : decode cX8_digestAnalysis 0 = .ok (.lload_n 1, 1) := by decide +kernel
theorem dX8_digestAnalysis_1 : decode cX8_digestAnalysis 1 = .ok (.lstore_n 3, 1) := by decide +kernel
theorem dX8_digestAnalysis_2 : decode cX8_digestAnalysis 2 = .ok (.iconst 0, 1) := by decide +kernel
theorem dX8_digestAnalysis_3 : decode cX8_digestAnalysis 3 = .ok (.istore 5, 2) := by decide +kernel
theorem dX8_digestAnalysis_5 : decode cX8_digestAnalysis 5 = .ok (.iload 5, 2) := by decide +kernel
theorem dX8_digestAnalysis_7 : decode cX8_digestAnalysis 7 = .ok (.aload_n 0, 1) := by decide +kernel
theorem dX8_digestAnalysis_8 : decode cX8_digestAnalysis 8 = .ok (.getfield 10, 3) := by decide +kernel
theorem dX8_digestAnalysis_11 : decode cX8_digestAnalysis 11 = .ok (.getfield 41, 3) := by decide +kernel
theorem dX8_digestAnalysis_14 : decode cX8_digestAnalysis 14 = .ok (.if_icmp .ge 55, 3) := by decide +kernel
theorem dX8_digestAnalysis_17 : decode cX8_digestAnalysis 17 = .ok (.aload_n 0, 1) := by decide +kernel
theorem dX8_digestAnalysis_18 : decode cX8_digestAnalysis 18 = .ok (.getfield 26, 3) := by decide +kernel
theorem dX8_digestAnalysis_21 : decode cX8_digestAnalysis 21 = .ok (.getfield 152, 3) := by decide +kernel
theorem dX8_digestAnalysis_24 : decode cX8_digestAnalysis 24 = .ok (.iload 5, 2) := by decide +kernel
theorem dX8_digestAnalysis_26 : decode cX8_digestAnalysis 26 = .ok (.aaload, 1) := by decide +kernel
theorem dX8_digestAnalysis_27 : decode cX8_digestAnalysis 27 = .ok (.astore 6, 2) := by decide +kernel
theorem dX8_digestAnalysis_29 : decode cX8_digestAnalysis 29 = .ok (.lload_n 3, 1) := by decide +kernel
theorem dX8_digestAnalysis_30 : decode cX8_digestAnalysis 30 = .ok (.ldc2_w 218, 3) := by decide +kernel
theorem dX8_digestAnalysis_33 : decode cX8_digestAnalysis 33 = .ok (.lmul, 1) := by decide +kernel
theorem dX8_digestAnalysis_34 : decode cX8_digestAnalysis 34 = .ok (.aload 6, 2) := by decide +kernel
theorem dX8_digestAnalysis_36 : decode cX8_digestAnalysis 36 = .ok (.getfield 188, 3) := by decide +kernel
theorem dX8_digestAnalysis_39 : decode cX8_digestAnalysis 39 = .ok (.i2l, 1) := by decide +kernel
theorem dX8_digestAnalysis_40 : decode cX8_digestAnalysis 40 = .ok (.ladd, 1) := by decide +kernel
theorem dX8_digestAnalysis_41 : decode cX8_digestAnalysis 41 = .ok (.lstore_n 3, 1) := by decide +kernel
theorem dX8_digestAnalysis_42 : decode cX8_digestAnalysis 42 = .ok (.aload 6, 2) := by decide +kernel
theorem dX8_digestAnalysis_44 : decode cX8_digestAnalysis 44 = .ok (.getfield 156, 3) := by decide +kernel
theorem dX8_digestAnalysis_47 : decode cX8_digestAnalysis 47 = .ok (.getfield 161, 3) := by decide +kernel
theorem dX8_digestAnalysis_50 : decode cX8_digestAnalysis 50 = .ok (.ifCond .ne 13, 3) := by decide +kernel
theorem dX8_digestAnalysis_53 : decode cX8_digestAnalysis 53 = .ok (.lload_n 3, 1) := by decide +kernel
theorem dX8_digestAnalysis_54 : decode cX8_digestAnalysis 54 = .ok (.aload 6, 2) := by decide +kernel
theorem dX8_digestAnalysis_56 : decode cX8_digestAnalysis 56 = .ok (.getfield 156, 3) := by decide +kernel
theorem dX8_digestAnalysis_59 : decode cX8_digestAnalysis 59 = .ok (.invokestatic 223, 3) := by decide +kernel
theorem dX8_digestAnalysis_62 : decode cX8_digestAnalysis 62 = .ok (.lstore_n 3, 1) := by decide +kernel
theorem dX8_digestAnalysis_63 : decode cX8_digestAnalysis 63 = .ok (.iinc 5 1, 3) := by decide +kernel
theorem dX8_digestAnalysis_66 : decode cX8_digestAnalysis 66 = .ok (.goto (-61), 3) := by decide +kernel
theorem dX8_digestAnalysis_69 : decode cX8_digestAnalysis 69 = .ok (.lload_n 3, 1) := by decide +kernel
theorem dX8_digestAnalysis_70 : decode cX8_digestAnalysis 70 = .ok (.lreturn, 1) := by decide +kernel
theorem dX8_digestRanges_0 : decode cX8_digestRanges 0 = .ok (.lload_n 0, 1) := by decide +kernel
theorem dX8_digestRanges_1 : decode cX8_digestRanges 1 = .ok (.lstore_n 3, 1) := by decide +kernel
theorem dX8_digestRanges_2 : decode cX8_digestRanges 2 = .ok (.iconst 0, 1) := by decide +kernel
theorem dX8_digestRanges_3 : decode cX8_digestRanges 3 = .ok (.istore 5, 2) := by decide +kernel
theorem dX8_digestRanges_5 : decode cX8_digestRanges 5 = .ok (.iload 5, 2) := by decide +kernel
theorem dX8_digestRanges_7 : decode cX8_digestRanges 7 = .ok (.bipush 6, 2) := by decide +kernel
theorem dX8_digestRanges_9 : decode cX8_digestRanges 9 = .ok (.if_icmp .ge 39, 3) := by decide +kernel
theorem dX8_digestRanges_12 : decode cX8_digestRanges 12 = .ok (.lload_n 3, 1) := by decide +kernel
theorem dX8_digestRanges_13 : decode cX8_digestRanges 13 = .ok (.ldc2_w 218, 3) := by decide +kernel
theorem dX8_digestRanges_16 : decode cX8_digestRanges 16 = .ok (.lmul, 1) := by decide +kernel
theorem dX8_digestRanges_17 : decode cX8_digestRanges 17 = .ok (.aload_n 2, 1) := by decide +kernel
theorem dX8_digestRanges_18 : decode cX8_digestRanges 18 = .ok (.getfield 64, 3) := by decide +kernel
theorem dX8_digestRanges_21 : decode cX8_digestRanges 21 = .ok (.iload 5, 2) := by decide +kernel
theorem dX8_digestRanges_23 : decode cX8_digestRanges 23 = .ok (.iaload, 1) := by decide +kernel
theorem dX8_digestRanges_24 : decode cX8_digestRanges 24 = .ok (.i2l, 1) := by decide +kernel
theorem dX8_digestRanges_25 : decode cX8_digestRanges 25 = .ok (.ladd, 1) := by decide +kernel
theorem dX8_digestRanges_26 : decode cX8_digestRanges 26 = .ok (.lstore_n 3, 1) := by decide +kernel
theorem dX8_digestRanges_27 : decode cX8_digestRanges 27 = .ok (.lload_n 3, 1) := by decide +kernel
theorem dX8_digestRanges_28 : decode cX8_digestRanges 28 = .ok (.ldc2_w 218, 3) := by decide +kernel
theorem dX8_digestRanges_31 : decode cX8_digestRanges 31 = .ok (.lmul, 1) := by decide +kernel
theorem dX8_digestRanges_32 : decode cX8_digestRanges 32 = .ok (.aload_n 2, 1) := by decide +kernel
theorem dX8_digestRanges_33 : decode cX8_digestRanges 33 = .ok (.getfield 70, 3) := by decide +kernel
theorem dX8_digestRanges_36 : decode cX8_digestRanges 36 = .ok (.iload 5, 2) := by decide +kernel
theorem dX8_digestRanges_38 : decode cX8_digestRanges 38 = .ok (.iaload, 1) := by decide +kernel
theorem dX8_digestRanges_39 : decode cX8_digestRanges 39 = .ok (.i2l, 1) := by decide +kernel
theorem dX8_digestRanges_40 : decode cX8_digestRanges 40 = .ok (.ladd, 1) := by decide +kernel
theorem dX8_digestRanges_41 : decode cX8_digestRanges 41 = .ok (.lstore_n 3, 1) := by decide +kernel
theorem dX8_digestRanges_42 : decode cX8_digestRanges 42 = .ok (.iinc 5 1, 3) := by decide +kernel
theorem dX8_digestRanges_45 : decode cX8_digestRanges 45 = .ok (.goto (-40), 3) := by decide +kernel
theorem dX8_digestRanges_48 : decode cX8_digestRanges 48 = .ok (.lload_n 3, 1) := by decide +kernel
theorem dX8_digestRanges_49 : decode cX8_digestRanges 49 = .ok (.lreturn, 1) := by decide +kernel
theorem dX8_endOfRange_0 : decode cX8_endOfRange 0 = .ok (.aload_n 0, 1) := by decide +kernel
theorem dX8_endOfRange_1 : decode cX8_endOfRange 1 = .ok (.getfield 161, 3) := by decide +kernel
theorem dX8_endOfRange_4 : decode cX8_endOfRange 4 = .ok (.ifCond .eq 13, 3) := by decide +kernel
theorem dX8_endOfRange_7 : decode cX8_endOfRange 7 = .ok (.new 227, 3) := by decide +kernel
theorem dX8_endOfRange_10 : decode cX8_endOfRange 10 = .ok (.dup, 1) := by decide +kernel
theorem dX8_endOfRange_11 : decode cX8_endOfRange 11 = .ok (.ldc 229, 2) := by decide +kernel
theorem dX8_endOfRange_13 : decode cX8_endOfRange 13 = .ok (.invokespecial 231, 3) := by decide +kernel
theorem dX8_endOfRange_16 : decode cX8_endOfRange 16 = .ok (.athrow, 1) := by decide +kernel
theorem dX8_endOfRange_17 : decode cX8_endOfRange 17 = .ok (.iload_n 2, 1) := by decide +kernel
theorem dX8_endOfRange_18 : decode cX8_endOfRange 18 = .ok (.ifCond .eq 12, 3) := by decide +kernel
theorem dX8_endOfRange_21 : decode cX8_endOfRange 21 = .ok (.aload_n 0, 1) := by decide +kernel
theorem dX8_endOfRange_22 : decode cX8_endOfRange 22 = .ok (.getfield 70, 3) := by decide +kernel
theorem dX8_endOfRange_25 : decode cX8_endOfRange 25 = .ok (.iload_n 1, 1) := by decide +kernel
theorem dX8_endOfRange_26 : decode cX8_endOfRange 26 = .ok (.iaload, 1) := by decide +kernel
theorem dX8_endOfRange_27 : decode cX8_endOfRange 27 = .ok (.goto 9, 3) := by decide +kernel
theorem dX8_endOfRange_30 : decode cX8_endOfRange 30 = .ok (.aload_n 0, 1) := by decide +kernel
theorem dX8_endOfRange_31 : decode cX8_endOfRange 31 = .ok (.getfield 64, 3) := by decide +kernel
theorem dX8_endOfRange_34 : decode cX8_endOfRange 34 = .ok (.iload_n 1, 1) := by decide +kernel
theorem dX8_endOfRange_35 : decode cX8_endOfRange 35 = .ok (.iaload, 1) := by decide +kernel
theorem dX8_endOfRange_36 : decode cX8_endOfRange 36 = .ok (.ireturn, 1) := by decide +kernel
theorem dX8_requireBlock_0 : decode cX8_requireBlock 0 = .ok (.iload_n 1, 1) := by decide +kernel
theorem dX8_requireBlock_1 : decode cX8_requireBlock 1 = .ok (.ifCond .lt 14, 3) := by decide +kernel
theorem dX8_requireBlock_4 : decode cX8_requireBlock 4 = .ok (.iload_n 1, 1) := by decide +kernel
theorem dX8_requireBlock_5 : decode cX8_requireBlock 5 = .ok (.aload_n 0, 1) := by decide +kernel
theorem dX8_requireBlock_6 : decode cX8_requireBlock 6 = .ok (.getfield 10, 3) := by decide +kernel
theorem dX8_requireBlock_9 : decode cX8_requireBlock 9 = .ok (.getfield 41, 3) := by decide +kernel
theorem dX8_requireBlock_12 : decode cX8_requireBlock 12 = .ok (.if_icmp .lt 13, 3) := by decide +kernel
theorem dX8_requireBlock_15 : decode cX8_requireBlock 15 = .ok (.new 171, 3) := by decide +kernel
theorem dX8_requireBlock_18 : decode cX8_requireBlock 18 = .ok (.dup, 1) := by decide +kernel
theorem dX8_requireBlock_19 : decode cX8_requireBlock 19 = .ok (.ldc 232, 2) := by decide +kernel
theorem dX8_requireBlock_21 : decode cX8_requireBlock 21 = .ok (.invokespecial 175, 3) := by decide +kernel
theorem dX8_requireBlock_24 : decode cX8_requireBlock 24 = .ok (.athrow, 1) := by decide +kernel
theorem dX8_requireBlock_25 : decode cX8_requireBlock 25 = .ok (.return_, 1) := by decide +kernel
theorem dX8_requireRoom_0 : decode cX8_requireRoom 0 = .ok (.aload_n 0, 1) := by decide +kernel
theorem dX8_requireRoom_1 : decode cX8_requireRoom 1 = .ok (.getfield 10, 3) := by decide +kernel
theorem dX8_requireRoom_4 : decode cX8_requireRoom 4 = .ok (.getfield 83, 3) := by decide +kernel
theorem dX8_requireRoom_7 : decode cX8_requireRoom 7 = .ok (.iload_n 1, 1) := by decide +kernel
theorem dX8_requireRoom_8 : decode cX8_requireRoom 8 = .ok (.aaload, 1) := by decide +kernel
theorem dX8_requireRoom_9 : decode cX8_requireRoom 9 = .ok (.getfield 110, 3) := by decide +kernel
theorem dX8_requireRoom_12 : decode cX8_requireRoom 12 = .ok (.bipush 8, 2) := by decide +kernel
theorem dX8_requireRoom_14 : decode cX8_requireRoom 14 = .ok (.if_icmp .lt 13, 3) := by decide +kernel
theorem dX8_requireRoom_17 : decode cX8_requireRoom 17 = .ok (.new 45, 3) := by decide +kernel
theorem dX8_requireRoom_20 : decode cX8_requireRoom 20 = .ok (.dup, 1) := by decide +kernel
theorem dX8_requireRoom_21 : decode cX8_requireRoom 21 = .ok (.ldc 234, 2) := by decide +kernel
theorem dX8_requireRoom_23 : decode cX8_requireRoom 23 = .ok (.invokespecial 49, 3) := by decide +kernel
theorem dX8_requireRoom_26 : decode cX8_requireRoom 26 = .ok (.athrow, 1) := by decide +kernel
theorem dX8_requireRoom_27 : decode cX8_requireRoom 27 = .ok (.return_, 1) := by decide +kernel
theorem dX8_requireStep_0 : decode cX8_requireStep 0 = .ok (.iload_n 1, 1) := by decide +kernel
theorem dX8_requireStep_1 : decode cX8_requireStep 1 = .ok (.ifCond .lt 14, 3) := by decide +kernel
theorem dX8_requireStep_4 : decode cX8_requireStep 4 = .ok (.iload_n 1, 1) := by decide +kernel
theorem dX8_requireStep_5 : decode cX8_requireStep 5 = .ok (.aload_n 0, 1) := by decide +kernel
theorem dX8_requireStep_6 : decode cX8_requireStep 6 = .ok (.getfield 33, 3) := by decide +kernel
theorem dX8_requireStep_9 : decode cX8_requireStep 9 = .ok (.getfield 197, 3) := by decide +kernel
theorem dX8_requireStep_12 : decode cX8_requireStep 12 = .ok (.if_icmp .lt 13, 3) := by decide +kernel
theorem dX8_requireStep_15 : decode cX8_requireStep 15 = .ok (.new 171, 3) := by decide +kernel
theorem dX8_requireStep_18 : decode cX8_requireStep 18 = .ok (.dup, 1) := by decide +kernel
theorem dX8_requireStep_19 : decode cX8_requireStep 19 = .ok (.ldc 236, 2) := by decide +kernel
theorem dX8_requireStep_21 : decode cX8_requireStep 21 = .ok (.invokespecial 175, 3) := by decide +kernel
theorem dX8_requireStep_24 : decode cX8_requireStep 24 = .ok (.athrow, 1) := by decide +kernel
theorem dX8_requireStep_25 : decode cX8_requireStep 25 = .ok (.return_, 1) := by decide +kernel
theorem dX8_requireAnalysis_0 : decode cX8_requireAnalysis 0 = .ok (.aload_n 0, 1) := by decide +kernel
theorem dX8_requireAnalysis_1 : decode cX8_requireAnalysis 1 = .ok (.getfield 37, 3) := by decide +kernel
theorem dX8_requireAnalysis_4 : decode cX8_requireAnalysis 4 = .ok (.ifCond .ne 13, 3) := by decide +kernel
theorem dX8_requireAnalysis_7 : decode cX8_requireAnalysis 7 = .ok (.new 45, 3) := by decide +kernel
theorem dX8_requireAnalysis_10 : decode cX8_requireAnalysis 10 = .ok (.dup, 1) := by decide +kernel
theorem dX8_requireAnalysis_11 : decode cX8_requireAnalysis 11 = .ok (.ldc 238, 2) := by decide +kernel
theorem dX8_requireAnalysis_13 : decode cX8_requireAnalysis 13 = .ok (.invokespecial 49, 3) := by decide +kernel
theorem dX8_requireAnalysis_16 : decode cX8_requireAnalysis 16 = .ok (.athrow, 1) := by decide +kernel
theorem dX8_requireAnalysis_17 : decode cX8_requireAnalysis 17 = .ok (.return_, 1) := by decide +kernel
theorem dX8_requireVariable_0 : decode cX8_requireVariable 0 = .ok (.iload_n 0, 1) := by decide +kernel
theorem dX8_requireVariable_1 : decode cX8_requireVariable 1 = .ok (.ifCond .lt 9, 3) := by decide +kernel
theorem dX8_requireVariable_4 : decode cX8_requireVariable 4 = .ok (.iload_n 0, 1) := by decide +kernel
theorem dX8_requireVariable_5 : decode cX8_requireVariable 5 = .ok (.bipush 6, 2) := by decide +kernel
theorem dX8_requireVariable_7 : decode cX8_requireVariable 7 = .ok (.if_icmp .lt 13, 3) := by decide +kernel
theorem dX8_requireVariable_10 : decode cX8_requireVariable 10 = .ok (.new 171, 3) := by decide +kernel
theorem dX8_requireVariable_13 : decode cX8_requireVariable 13 = .ok (.dup, 1) := by decide +kernel
theorem dX8_requireVariable_14 : decode cX8_requireVariable 14 = .ok (.ldc 240, 2) := by decide +kernel
theorem dX8_requireVariable_16 : decode cX8_requireVariable 16 = .ok (.invokespecial 175, 3) := by decide +kernel
theorem dX8_requireVariable_19 : decode cX8_requireVariable 19 = .ok (.athrow, 1) := by decide +kernel
theorem dX8_requireVariable_20 : decode cX8_requireVariable 20 = .ok (.return_, 1) := by decide +kernel
theorem dX8_requireRange_0 : decode cX8_requireRange 0 = .ok (.iload_n 0, 1) := by decide +kernel
theorem dX8_requireRange_1 : decode cX8_requireRange 1 = .ok (.ldc 126, 2) := by decide +kernel
theorem dX8_requireRange_3 : decode cX8_requireRange 3 = .ok (.if_icmp .lt 14, 3) := by decide +kernel
theorem dX8_requireRange_6 : decode cX8_requireRange 6 = .ok (.iload_n 1, 1) := by decide +kernel
theorem dX8_requireRange_7 : decode cX8_requireRange 7 = .ok (.ldc 127, 2) := by decide +kernel
theorem dX8_requireRange_9 : decode cX8_requireRange 9 = .ok (.if_icmp .gt 8, 3) := by decide +kernel
theorem dX8_requireRange_12 : decode cX8_requireRange 12 = .ok (.iload_n 0, 1) := by decide +kernel
theorem dX8_requireRange_13 : decode cX8_requireRange 13 = .ok (.iload_n 1, 1) := by decide +kernel
theorem dX8_requireRange_14 : decode cX8_requireRange 14 = .ok (.if_icmp .le 13, 3) := by decide +kernel
theorem dX8_requireRange_17 : decode cX8_requireRange 17 = .ok (.new 93, 3) := by decide +kernel
theorem dX8_requireRange_20 : decode cX8_requireRange 20 = .ok (.dup, 1) := by decide +kernel
theorem dX8_requireRange_21 : decode cX8_requireRange 21 = .ok (.ldc 242, 2) := by decide +kernel
theorem dX8_requireRange_23 : decode cX8_requireRange 23 = .ok (.invokespecial 97, 3) := by decide +kernel
theorem dX8_requireRange_26 : decode cX8_requireRange 26 = .ok (.athrow, 1) := by decide +kernel
theorem dX8_requireRange_27 : decode cX8_requireRange 27 = .ok (.return_, 1) := by decide +kernel
