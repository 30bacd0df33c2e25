theorem dX3_isGot_52 : decode cX3_isGot 52 = .ok (.aload_n 0, 1) := by decide +kernel
theorem dX3_isGot_53 : decode cX3_isGot 53 = .ok (.getfield 17, 3) := by decide +kernel
theorem dX3_isGot_56 : decode cX3_isGot 56 = .ok (.iload_n 1, 1) := by decide +kernel
theorem dX3_isGot_57 : decode cX3_isGot 57 = .ok (.iaload, 1) := by decide +kernel
theorem dX3_isGot_58 : decode cX3_isGot 58 = .ok (.if_icmp .ne 23, 3) := by decide +kernel
theorem dX3_isGot_61 : decode cX3_isGot 61 = .ok (.aload_n 0, 1) := by decide +kernel
theorem dX3_isGot_62 : decode cX3_isGot 62 = .ok (.getfield 84, 3) := by decide +kernel
theorem dX3_isGot_65 : decode cX3_isGot 65 = .ok (.iload_n 3, 1) := by decide +kernel
theorem dX3_isGot_66 : decode cX3_isGot 66 = .ok (.laload, 1) := by decide +kernel
theorem dX3_isGot_67 : decode cX3_isGot 67 = .ok (.aload_n 0, 1) := by decide +kernel
theorem dX3_isGot_68 : decode cX3_isGot 68 = .ok (.getfield 21, 3) := by decide +kernel
theorem dX3_isGot_71 : decode cX3_isGot 71 = .ok (.iload_n 1, 1) := by decide +kernel
theorem dX3_isGot_72 : decode cX3_isGot 72 = .ok (.laload, 1) := by decide +kernel
theorem dX3_isGot_73 : decode cX3_isGot 73 = .ok (.lcmp, 1) := by decide +kernel
theorem dX3_isGot_74 : decode cX3_isGot 74 = .ok (.ifCond .ne 7, 3) := by decide +kernel
theorem dX3_isGot_77 : decode cX3_isGot 77 = .ok (.iconst 1, 1) := by decide +kernel
theorem dX3_isGot_78 : decode cX3_isGot 78 = .ok (.goto 4, 3) := by decide +kernel
theorem dX3_isGot_81 : decode cX3_isGot 81 = .ok (.iconst 0, 1) := by decide +kernel
theorem dX3_isGot_82 : decode cX3_isGot 82 = .ok (.istore_n 2, 1) := by decide +kernel
theorem dX3_isGot_83 : decode cX3_isGot 83 = .ok (.iinc 3 1, 3) := by decide +kernel
theorem dX3_isGot_86 : decode cX3_isGot 86 = .ok (.goto (-82), 3) := by decide +kernel
theorem dX3_isGot_89 : decode cX3_isGot 89 = .ok (.iload_n 2, 1) := by decide +kernel
theorem dX3_isGot_90 : decode cX3_isGot 90 = .ok (.ireturn, 1) := by decide +kernel
set_option maxRecDepth 20000 in
theorem ggX3_back_X3_isGot : GoodIn wsX3_back wsX3_isGot := goodIn_r _ [7, 8, 9, 10, 11, 12, 13, 14, 15, 42, 43, 44, 45, 46, 47, 48, 49, 50, 51, 52, 53, 54, 55, 56, 57, 58, 59, 60, 61, 62, 63, 64, 65, 66, 67, 68, 69, 70, 71, 72, 73] (by decide +kernel) (by decide +kernel)
set_option maxRecDepth 20000 in
theorem gX3_back_X3_isGot : GoodIn wsX3_back (wsV RX3 174 RX3 yX3_isGot wsX3_isGot) := goodIn_app (goodIn_of _ (by decide +kernel)) ggX3_back_X3_isGot
set_option maxRecDepth 20000 in
theorem ggX3_back_X3_hand : GoodIn wsX3_back wsX3_hand := goodIn_r _ [19, 20, 1, 21, 11, 22, 13, 23, 15, 42, 43, 44, 45, 46, 47, 48, 49, 50, 51, 52, 53, 54, 55, 56, 57, 58, 59, 60, 61, 62, 63, 64, 65, 66, 67, 68, 69, 70, 71, 72, 73] (by decide +kernel) (by decide +kernel)
set_option maxRecDepth 20000 in
theorem gX3_back_X3_hand : GoodIn wsX3_back (wsV RX3 160 RX3 yX3_hand wsX3_hand) := goodIn_app (goodIn_of _ (by decide +kernel)) ggX3_back_X3_hand
set_option maxRecDepth 20000 in
theorem ggX3_back_X3_send : GoodIn wsX3_back wsX3_send := goodIn_r _ [27, 28, 29, 1, 30, 31, 32, 33, 34, 35, 36, 37, 38, 20, 39, 21, 40, 22, 41, 23, 42, 43, 44, 45, 46, 47, 48, 49, 50, 51, 52, 53, 54, 55, 56, 57, 58, 59, 60, 61, 62, 63, 64, 65, 66, 67, 68, 69, 70, 71, 72, 73] (by decide +kernel) (by decide +kernel)
set_option maxRecDepth 20000 in
theorem gX3_back_X3_send : GoodIn wsX3_back (wsV RX3 156 RX3 yX3_send wsX3_send) := goodIn_app (goodIn_of _ (by decide +kernel)) ggX3_back_X3_send
theorem dX3_back_0 : decode cX3_back 0 = .ok (.aload_n 0, 1) := by decide +kernel
theorem dX3_back_1 : decode cX3_back 1 = .ok (.iconst 0, 1) := by decide +kernel
theorem dX3_back_2 : decode cX3_back 2 = .ok (.putfield 150, 3) := by decide +kernel
theorem dX3_back_5 : decode cX3_back 5 = .ok (.iconst 4, 1) := by decide +kernel
theorem dX3_back_6 : decode cX3_back 6 = .ok (.iload_n 2, 1) := by decide +kernel
theorem dX3_back_7 : decode cX3_back 7 = .ok (.imul, 1) := by decide +kernel
theorem dX3_back_8 : decode cX3_back 8 = .ok (.istore_n 3, 1) := by decide +kernel
theorem dX3_back_9 : decode cX3_back 9 = .ok (.iload_n 3, 1) := by decide +kernel
theorem dX3_back_10 : decode cX3_back 10 = .ok (.iconst 4, 1) := by decide +kernel
theorem dX3_back_11 : decode cX3_back 11 = .ok (.iload_n 2, 1) := by decide +kernel
theorem dX3_back_12 : decode cX3_back 12 = .ok (.imul, 1) := by decide +kernel
theorem dX3_back_13 : decode cX3_back 13 = .ok (.iconst 4, 1) := by decide +kernel
theorem dX3_back_14 : decode cX3_back 14 = .ok (.iadd, 1) := by decide +kernel
theorem dX3_back_15 : decode cX3_back 15 = .ok (.if_icmp .ge 43, 3) := by decide +kernel
theorem dX3_back_18 : decode cX3_back 18 = .ok (.sipush 256, 3) := by decide +kernel
theorem dX3_back_21 : decode cX3_back 21 = .ok (.iload_n 1, 1) := by decide +kernel
theorem dX3_back_22 : decode cX3_back 22 = .ok (.imul, 1) := by decide +kernel
theorem dX3_back_23 : decode cX3_back 23 = .ok (.iload_n 3, 1) := by decide +kernel
theorem dX3_back_24 : decode cX3_back 24 = .ok (.iadd, 1) := by decide +kernel
theorem dX3_back_25 : decode cX3_back 25 = .ok (.istore 4, 2) := by decide +kernel
theorem dX3_back_27 : decode cX3_back 27 = .ok (.aload_n 0, 1) := by decide +kernel
theorem dX3_back_28 : decode cX3_back 28 = .ok (.getfield 7, 3) := by decide +kernel
theorem dX3_back_31 : decode cX3_back 31 = .ok (.iload 4, 2) := by decide +kernel
theorem dX3_back_33 : decode cX3_back 33 = .ok (.baload, 1) := by decide +kernel
theorem dX3_back_34 : decode cX3_back 34 = .ok (.ifCond .eq 18, 3) := by decide +kernel
theorem dX3_back_37 : decode cX3_back 37 = .ok (.aload_n 0, 1) := by decide +kernel
theorem dX3_back_38 : decode cX3_back 38 = .ok (.iload 4, 2) := by decide +kernel
theorem dX3_back_40 : decode cX3_back 40 = .ok (.invokevirtual 174, 3) := by decide +kernel
theorem dX3_back_43 : decode cX3_back 43 = .ok (.ifCond .ne 9, 3) := by decide +kernel
theorem dX3_back_46 : decode cX3_back 46 = .ok (.aload_n 0, 1) := by decide +kernel
theorem dX3_back_47 : decode cX3_back 47 = .ok (.iload 4, 2) := by decide +kernel
theorem dX3_back_49 : decode cX3_back 49 = .ok (.invokevirtual 160, 3) := by decide +kernel
theorem dX3_back_52 : decode cX3_back 52 = .ok (.iinc 3 1, 3) := by decide +kernel
theorem dX3_back_55 : decode cX3_back 55 = .ok (.goto (-46), 3) := by decide +kernel
theorem dX3_back_58 : decode cX3_back 58 = .ok (.aload_n 0, 1) := by decide +kernel
theorem dX3_back_59 : decode cX3_back 59 = .ok (.getfield 150, 3) := by decide +kernel
theorem dX3_back_62 : decode cX3_back 62 = .ok (.ifCond .le 14, 3) := by decide +kernel
theorem dX3_back_65 : decode cX3_back 65 = .ok (.aload_n 0, 1) := by decide +kernel
theorem dX3_back_66 : decode cX3_back 66 = .ok (.iconst 1, 1) := by decide +kernel
theorem dX3_back_67 : decode cX3_back 67 = .ok (.iload_n 1, 1) := by decide +kernel
theorem dX3_back_68 : decode cX3_back 68 = .ok (.isub, 1) := by decide +kernel
theorem dX3_back_69 : decode cX3_back 69 = .ok (.iconst 3, 1) := by decide +kernel
theorem dX3_back_70 : decode cX3_back 70 = .ok (.iconst 3, 1) := by decide +kernel
theorem dX3_back_71 : decode cX3_back 71 = .ok (.iload_n 2, 1) := by decide +kernel
theorem dX3_back_72 : decode cX3_back 72 = .ok (.invokevirtual 156, 3) := by decide +kernel
theorem dX3_back_75 : decode cX3_back 75 = .ok (.pop, 1) := by decide +kernel
theorem dX3_back_76 : decode cX3_back 76 = .ok (.return_, 1) := by decide +kernel
set_option maxRecDepth 20000 in
theorem ggX3_take_X3_drop : GoodIn wsX3_take wsX3_drop := goodIn_r _ [21, 22, 1, 2, 3, 4, 7, 9, 11, 13, 15, 107, 108, 109, 110, 111, 112, 113, 114, 115, 116, 117, 118, 119, 120, 121, 122, 123, 124, 125, 126, 127, 128, 129, 130, 131, 132, 133, 134, 135, 136, 137, 138] (by decide +kernel) (by decide +kernel)
set_option maxRecDepth 20000 in
theorem gX3_take_X3_drop : GoodIn wsX3_take (wsV RX3 177 RX3 yX3_drop wsX3_drop) := goodIn_app (goodIn_of _ (by decide +kernel)) ggX3_take_X3_drop
set_option maxRecDepth 20000 in
theorem ggX3_take_X3_hashAll : GoodIn wsX3_take wsX3_hashAll := goodIn_r _ [26, 16, 27, 28, 29, 30, 31, 20, 32, 33, 34, 35, 36, 37, 38, 39, 40, 41, 42, 43, 44, 45, 46, 47, 48, 49, 50, 51, 52, 53, 54, 107, 108, 109, 110, 111, 112, 113, 114, 115, 116, 117, 118, 119, 120, 121, 122, 123, 124, 125, 126, 127, 128, 129, 130, 131, 132, 133, 134, 135, 136, 137, 138] (by decide +kernel) (by decide +kernel)
set_option maxRecDepth 20000 in
theorem gX3_take_X3_hashAll : GoodIn wsX3_take (wsV RX3 141 RX3 yX3_hashAll wsX3_hashAll) := goodIn_app (goodIn_of _ (by decide +kernel)) ggX3_take_X3_hashAll
set_option maxRecDepth 20000 in
theorem ggX3_take_X3_sendList : GoodIn wsX3_take wsX3_sendList := goodIn_r _ [58, 59, 16, 60, 52, 53, 20, 54, 61, 62, 63, 64, 65, 66, 22, 67, 1, 2, 3, 4, 7, 9, 68, 11, 69, 13, 70, 15, 71, 107, 108, 109, 110, 111, 112, 113, 114, 115, 116, 117, 118, 119, 120, 121, 122, 123, 124, 125, 126, 127, 128, 129, 130, 131, 132, 133, 134, 135, 136, 137, 138] (by decide +kernel) (by decide +kernel)
set_option maxRecDepth 20000 in
theorem gX3_take_X3_sendList : GoodIn wsX3_take (wsV RX3 167 RX3 yX3_sendList wsX3_sendList) := goodIn_app (goodIn_of _ (by decide +kernel)) ggX3_take_X3_sendList
set_option maxRecDepth 20000 in
theorem ggX3_take_X3_gotList : GoodIn wsX3_take wsX3_gotList := goodIn_r _ [75, 16, 6, 23, 24, 25, 20, 26, 27, 28, 29, 30, 31, 32, 33, 34, 35, 36, 37, 38, 39, 40, 41, 42, 43, 44, 45, 46, 47, 48, 49, 50, 51, 52, 53, 54, 76, 77, 78, 79, 60, 80, 81, 82, 83, 68, 69, 70, 71, 61, 62, 63, 64, 65, 66, 22, 67, 1, 2, 3, 4, 7, 59, 9, 11, 13, 15, 55, 56, 57, 58, 107, 108, 109, 110, 111, 112, 113, 114, 115, 116, 117, 118, 119, 120, 121, 122, 123, 124, 125, 126, 127, 128, 129, 130, 131, 132, 133, 134, 135, 136, 137, 138] (by decide +kernel) (by decide +kernel)
set_option maxRecDepth 20000 in
theorem gX3_take_X3_gotList : GoodIn wsX3_take (wsV RX3 180 RX3 yX3_gotList wsX3_gotList) := goodIn_app (goodIn_of _ (by decide +kernel)) ggX3_take_X3_gotList
set_option maxRecDepth 20000 in
theorem ggX3_take_X3_mergeAll : GoodIn wsX3_take wsX3_mergeAll := goodIn_r _ [87, 5, 8, 10, 12, 14, 88, 89, 90, 20, 91, 33, 34, 35, 36, 92, 93, 94, 95, 46, 47, 48, 96, 97, 98, 107, 108, 109, 110, 111, 112, 113, 114, 115, 116, 117, 118, 119, 120, 121, 122, 123, 124, 125, 126, 127, 128, 129, 130, 131, 132, 133, 134, 135, 136, 137, 138] (by decide +kernel) (by decide +kernel)
set_option maxRecDepth 20000 in
theorem gX3_take_X3_mergeAll : GoodIn wsX3_take (wsV RX3 182 RX3 yX3_mergeAll wsX3_mergeAll) := goodIn_app (goodIn_of _ (by decide +kernel)) ggX3_take_X3_mergeAll
set_option maxRecDepth 20000 in
theorem ggX3_take_X3_back : GoodIn wsX3_take wsX3_back := goodIn_r _ [102, 60, 33, 103, 104, 105, 20, 106, 5, 8, 10, 34, 12, 35, 14, 36, 80, 81, 82, 83, 68, 69, 70, 71, 61, 62, 63, 64, 65, 66, 22, 67, 1, 2, 3, 4, 7, 59, 9, 11, 13, 15, 107, 108, 109, 110, 111, 112, 113, 114, 115, 116, 117, 118, 119, 120, 121, 122, 123, 124, 125, 126, 127, 128, 129, 130, 131, 132, 133, 134, 135, 136, 137, 138] (by decide +kernel) (by decide +kernel)
set_option maxRecDepth 20000 in
theorem gX3_take_X3_back : GoodIn wsX3_take (wsV RX3 185 RX3 yX3_back wsX3_back) := goodIn_app (goodIn_of _ (by decide +kernel)) ggX3_take_X3_back
theorem dX3_take_0 : decode cX3_take 0 = .ok (.bipush 100, 2) := by decide +kernel
theorem dX3_take_2 : decode cX3_take 2 = .ok (.iload_n 1, 1) := by decide +kernel
theorem dX3_take_3 : decode cX3_take 3 = .ok (.imul, 1) := by decide +kernel
theorem dX3_take_4 : decode cX3_take 4 = .ok (.istore_n 2, 1) := by decide +kernel
theorem dX3_take_5 : decode cX3_take 5 = .ok (.aload_n 0, 1) := by decide +kernel
theorem dX3_take_6 : decode cX3_take 6 = .ok (.getfield 30, 3) := by decide +kernel
theorem dX3_take_9 : decode cX3_take 9 = .ok (.iload_n 2, 1) := by decide +kernel
theorem dX3_take_10 : decode cX3_take 10 = .ok (.iaload, 1) := by decide +kernel
theorem dX3_take_11 : decode cX3_take 11 = .ok (.istore_n 3, 1) := by decide +kernel
theorem dX3_take_12 : decode cX3_take 12 = .ok (.aload_n 0, 1) := by decide +kernel
theorem dX3_take_13 : decode cX3_take 13 = .ok (.getfield 33, 3) := by decide +kernel
theorem dX3_take_16 : decode cX3_take 16 = .ok (.iload_n 2, 1) := by decide +kernel
theorem dX3_take_17 : decode cX3_take 17 = .ok (.iaload, 1) := by decide +kernel
theorem dX3_take_18 : decode cX3_take 18 = .ok (.istore 4, 2) := by decide +kernel
theorem dX3_take_20 : decode cX3_take 20 = .ok (.aload_n 0, 1) := by decide +kernel
theorem dX3_take_21 : decode cX3_take 21 = .ok (.getfield 36, 3) := by decide +kernel
theorem dX3_take_24 : decode cX3_take 24 = .ok (.iload_n 2, 1) := by decide +kernel
theorem dX3_take_25 : decode cX3_take 25 = .ok (.iaload, 1) := by decide +kernel
theorem dX3_take_26 : decode cX3_take 26 = .ok (.istore 5, 2) := by decide +kernel
theorem dX3_take_28 : decode cX3_take 28 = .ok (.aload_n 0, 1) := by decide +kernel
theorem dX3_take_29 : decode cX3_take 29 = .ok (.aload_n 0, 1) := by decide +kernel
theorem dX3_take_30 : decode cX3_take 30 = .ok (.getfield 42, 3) := by decide +kernel
theorem dX3_take_33 : decode cX3_take 33 = .ok (.iload_n 2, 1) := by decide +kernel
theorem dX3_take_34 : decode cX3_take 34 = .ok (.iaload, 1) := by decide +kernel
theorem dX3_take_35 : decode cX3_take 35 = .ok (.putfield 171, 3) := by decide +kernel
theorem dX3_take_38 : decode cX3_take 38 = .ok (.iconst 0, 1) := by decide +kernel
theorem dX3_take_39 : decode cX3_take 39 = .ok (.istore 6, 2) := by decide +kernel
theorem dX3_take_41 : decode cX3_take 41 = .ok (.iload 6, 2) := by decide +kernel
theorem dX3_take_43 : decode cX3_take 43 = .ok (.iconst 4, 1) := by decide +kernel
theorem dX3_take_44 : decode cX3_take 44 = .ok (.if_icmp .ge 99, 3) := by decide +kernel
theorem dX3_take_47 : decode cX3_take 47 = .ok (.aload_n 0, 1) := by decide +kernel
theorem dX3_take_48 : decode cX3_take 48 = .ok (.getfield 72, 3) := by decide +kernel
theorem dX3_take_51 : decode cX3_take 51 = .ok (.iload 6, 2) := by decide +kernel
theorem dX3_take_53 : decode cX3_take 53 = .ok (.aload_n 0, 1) := by decide +kernel
theorem dX3_take_54 : decode cX3_take 54 = .ok (.getfield 39, 3) := by decide +kernel
theorem dX3_take_57 : decode cX3_take 57 = .ok (.iconst 4, 1) := by decide +kernel
theorem dX3_take_58 : decode cX3_take 58 = .ok (.iload_n 2, 1) := by decide +kernel
theorem dX3_take_59 : decode cX3_take 59 = .ok (.imul, 1) := by decide +kernel
theorem dX3_take_60 : decode cX3_take 60 = .ok (.iload 6, 2) := by decide +kernel
theorem dX3_take_62 : decode cX3_take 62 = .ok (.iadd, 1) := by decide +kernel
theorem dX3_take_63 : decode cX3_take 63 = .ok (.laload, 1) := by decide +kernel
theorem dX3_take_64 : decode cX3_take 64 = .ok (.lastore, 1) := by decide +kernel
theorem dX3_take_65 : decode cX3_take 65 = .ok (.aload_n 0, 1) := by decide +kernel
theorem dX3_take_66 : decode cX3_take 66 = .ok (.getfield 75, 3) := by decide +kernel
theorem dX3_take_69 : decode cX3_take 69 = .ok (.iload 6, 2) := by decide +kernel
theorem dX3_take_71 : decode cX3_take 71 = .ok (.aload_n 0, 1) := by decide +kernel
theorem dX3_take_72 : decode cX3_take 72 = .ok (.getfield 45, 3) := by decide +kernel
theorem dX3_take_75 : decode cX3_take 75 = .ok (.iconst 4, 1) := by decide +kernel
theorem dX3_take_76 : decode cX3_take 76 = .ok (.iload_n 2, 1) := by decide +kernel
theorem dX3_take_77 : decode cX3_take 77 = .ok (.imul, 1) := by decide +kernel
theorem dX3_take_78 : decode cX3_take 78 = .ok (.iload 6, 2) := by decide +kernel
theorem dX3_take_80 : decode cX3_take 80 = .ok (.iadd, 1) := by decide +kernel
theorem dX3_take_81 : decode cX3_take 81 = .ok (.iaload, 1) := by decide +kernel
theorem dX3_take_82 : decode cX3_take 82 = .ok (.iastore, 1) := by decide +kernel
theorem dX3_take_83 : decode cX3_take 83 = .ok (.aload_n 0, 1) := by decide +kernel
theorem dX3_take_84 : decode cX3_take 84 = .ok (.getfield 78, 3) := by decide +kernel
theorem dX3_take_87 : decode cX3_take 87 = .ok (.iload 6, 2) := by decide +kernel
theorem dX3_take_89 : decode cX3_take 89 = .ok (.aload_n 0, 1) := by decide +kernel
theorem dX3_take_90 : decode cX3_take 90 = .ok (.getfield 48, 3) := by decide +kernel
theorem dX3_take_93 : decode cX3_take 93 = .ok (.iconst 4, 1) := by decide +kernel
theorem dX3_take_94 : decode cX3_take 94 = .ok (.iload_n 2, 1) := by decide +kernel
theorem dX3_take_95 : decode cX3_take 95 = .ok (.imul, 1) := by decide +kernel
theorem dX3_take_96 : decode cX3_take 96 = .ok (.iload 6, 2) := by decide +kernel
theorem dX3_take_98 : decode cX3_take 98 = .ok (.iadd, 1) := by decide +kernel
theorem dX3_take_99 : decode cX3_take 99 = .ok (.laload, 1) := by decide +kernel
theorem dX3_take_100 : decode cX3_take 100 = .ok (.lastore, 1) := by decide +kernel
theorem dX3_take_101 : decode cX3_take 101 = .ok (.aload_n 0, 1) := by decide +kernel
theorem dX3_take_102 : decode cX3_take 102 = .ok (.getfield 81, 3) := by decide +kernel
theorem dX3_take_105 : decode cX3_take 105 = .ok (.iload 6, 2) := by decide +kernel
theorem dX3_take_107 : decode cX3_take 107 = .ok (.aload_n 0, 1) := by decide +kernel
theorem dX3_take_108 : decode cX3_take 108 = .ok (.getfield 51, 3) := by decide +kernel
theorem dX3_take_111 : decode cX3_take 111 = .ok (.iconst 4, 1) := by decide +kernel
theorem dX3_take_112 : decode cX3_take 112 = .ok (.iload_n 2, 1) := by decide +kernel
theorem dX3_take_113 : decode cX3_take 113 = .ok (.imul, 1) := by decide +kernel
theorem dX3_take_114 : decode cX3_take 114 = .ok (.iload 6, 2) := by decide +kernel
theorem dX3_take_116 : decode cX3_take 116 = .ok (.iadd, 1) := by decide +kernel
theorem dX3_take_117 : decode cX3_take 117 = .ok (.iaload, 1) := by decide +kernel
theorem dX3_take_118 : decode cX3_take 118 = .ok (.iastore, 1) := by decide +kernel
theorem dX3_take_119 : decode cX3_take 119 = .ok (.aload_n 0, 1) := by decide +kernel
theorem dX3_take_120 : decode cX3_take 120 = .ok (.getfield 84, 3) := by decide +kernel
theorem dX3_take_123 : decode cX3_take 123 = .ok (.iload 6, 2) := by decide +kernel
theorem dX3_take_125 : decode cX3_take 125 = .ok (.aload_n 0, 1) := by decide +kernel
theorem dX3_take_126 : decode cX3_take 126 = .ok (.getfield 54, 3) := by decide +kernel
theorem dX3_take_129 : decode cX3_take 129 = .ok (.iconst 4, 1) := by decide +kernel
theorem dX3_take_130 : decode cX3_take 130 = .ok (.iload_n 2, 1) := by decide +kernel
theorem dX3_take_131 : decode cX3_take 131 = .ok (.imul, 1) := by decide +kernel
theorem dX3_take_132 : decode cX3_take 132 = .ok (.iload 6, 2) := by decide +kernel
theorem dX3_take_134 : decode cX3_take 134 = .ok (.iadd, 1) := by decide +kernel
theorem dX3_take_135 : decode cX3_take 135 = .ok (.laload, 1) := by decide +kernel
theorem dX3_take_136 : decode cX3_take 136 = .ok (.lastore, 1) := by decide +kernel
theorem dX3_take_137 : decode cX3_take 137 = .ok (.iinc 6 1, 3) := by decide +kernel
theorem dX3_take_140 : decode cX3_take 140 = .ok (.goto (-99), 3) := by decide +kernel
theorem dX3_take_143 : decode cX3_take 143 = .ok (.aload_n 0, 1) := by decide +kernel
theorem dX3_take_144 : decode cX3_take 144 = .ok (.iload_n 1, 1) := by decide +kernel
theorem dX3_take_145 : decode cX3_take 145 = .ok (.invokevirtual 177, 3) := by decide +kernel
theorem dX3_take_148 : decode cX3_take 148 = .ok (.iload_n 3, 1) := by decide +kernel
theorem dX3_take_149 : decode cX3_take 149 = .ok (.ifCond .ne 34, 3) := by decide +kernel
theorem dX3_take_152 : decode cX3_take 152 = .ok (.aload_n 0, 1) := by decide +kernel
theorem dX3_take_153 : decode cX3_take 153 = .ok (.iload_n 1, 1) := by decide +kernel
theorem dX3_take_154 : decode cX3_take 154 = .ok (.invokevirtual 141, 3) := by decide +kernel
theorem dX3_take_157 : decode cX3_take 157 = .ok (.aload_n 0, 1) := by decide +kernel
theorem dX3_take_158 : decode cX3_take 158 = .ok (.getfield 24, 3) := by decide +kernel
theorem dX3_take_161 : decode cX3_take 161 = .ok (.iconst 0, 1) := by decide +kernel
theorem dX3_take_162 : decode cX3_take 162 = .ok (.laload, 1) := by decide +kernel
theorem dX3_take_163 : decode cX3_take 163 = .ok (.aload_n 0, 1) := by decide +kernel
theorem dX3_take_164 : decode cX3_take 164 = .ok (.getfield 72, 3) := by decide +kernel
theorem dX3_take_167 : decode cX3_take 167 = .ok (.iconst 0, 1) := by decide +kernel
theorem dX3_take_168 : decode cX3_take 168 = .ok (.laload, 1) := by decide +kernel
theorem dX3_take_169 : decode cX3_take 169 = .ok (.lcmp, 1) := by decide +kernel
theorem dX3_take_170 : decode cX3_take 170 = .ok (.ifCond .eq 47, 3) := by decide +kernel
theorem dX3_take_173 : decode cX3_take 173 = .ok (.aload_n 0, 1) := by decide +kernel
theorem dX3_take_174 : decode cX3_take 174 = .ok (.iload_n 1, 1) := by decide +kernel
theorem dX3_take_175 : decode cX3_take 175 = .ok (.iconst 0, 1) := by decide +kernel
theorem dX3_take_176 : decode cX3_take 176 = .ok (.iconst 0, 1) := by decide +kernel
theorem dX3_take_177 : decode cX3_take 177 = .ok (.invokevirtual 167, 3) := by decide +kernel
theorem dX3_take_180 : decode cX3_take 180 = .ok (.goto 37, 3) := by decide +kernel
theorem dX3_take_183 : decode cX3_take 183 = .ok (.iload_n 3, 1) := by decide +kernel
theorem dX3_take_184 : decode cX3_take 184 = .ok (.iconst 1, 1) := by decide +kernel
theorem dX3_take_185 : decode cX3_take 185 = .ok (.if_icmp .ne 15, 3) := by decide +kernel
theorem dX3_take_188 : decode cX3_take 188 = .ok (.aload_n 0, 1) := by decide +kernel
theorem dX3_take_189 : decode cX3_take 189 = .ok (.iload_n 1, 1) := by decide +kernel
theorem dX3_take_190 : decode cX3_take 190 = .ok (.iload 4, 2) := by decide +kernel
theorem dX3_take_192 : decode cX3_take 192 = .ok (.iload 5, 2) := by decide +kernel
theorem dX3_take_194 : decode cX3_take 194 = .ok (.invokevirtual 180, 3) := by decide +kernel
theorem dX3_take_197 : decode cX3_take 197 = .ok (.goto 20, 3) := by decide +kernel
theorem dX3_take_200 : decode cX3_take 200 = .ok (.aload_n 0, 1) := by decide +kernel
theorem dX3_take_201 : decode cX3_take 201 = .ok (.iload_n 1, 1) := by decide +kernel
theorem dX3_take_202 : decode cX3_take 202 = .ok (.invokevirtual 182, 3) := by decide +kernel
theorem dX3_take_205 : decode cX3_take 205 = .ok (.iload_n 3, 1) := by decide +kernel
theorem dX3_take_206 : decode cX3_take 206 = .ok (.iconst 2, 1) := by decide +kernel
theorem dX3_take_207 : decode cX3_take 207 = .ok (.if_icmp .ne 10, 3) := by decide +kernel
theorem dX3_take_210 : decode cX3_take 210 = .ok (.aload_n 0, 1) := by decide +kernel
theorem dX3_take_211 : decode cX3_take 211 = .ok (.iload_n 1, 1) := by decide +kernel
theorem dX3_take_212 : decode cX3_take 212 = .ok (.iload 5, 2) := by decide +kernel
theorem dX3_take_214 : decode cX3_take 214 = .ok (.invokevirtual 185, 3) := by decide +kernel
theorem dX3_take_217 : decode cX3_take 217 = .ok (.iload_n 3, 1) := by decide +kernel
theorem dX3_take_218 : decode cX3_take 218 = .ok (.ireturn, 1) := by decide +kernel
set_option maxRecDepth 20000 in
theorem ggX3_step_X3_isStore : GoodIn wsX3_step wsX3_isStore := goodIn_r _ [6] (by decide +kernel) (by decide +kernel)
set_option maxRecDepth 20000 in
theorem gX3_step_X3_isStore : GoodIn wsX3_step (va_wsS RX3 103 yX3_isStore wsX3_isStore) := goodIn_app (goodIn_of _ (by decide +kernel)) ggX3_step_X3_isStore
set_option maxRecDepth 20000 in
theorem ggX3_step_X3_take : GoodIn wsX3_step wsX3_take := goodIn_r _ [10, 11, 12, 13, 14, 15, 16, 17, 18, 19, 20, 21, 22, 23, 24, 25, 26, 27, 28, 29, 5, 30, 2, 31, 32, 33, 34, 35, 36, 37, 38, 39, 40, 41, 42, 43, 44, 45, 46, 47, 48, 49, 50, 51, 52, 53, 54, 55, 56, 57, 58, 59, 60, 61, 62, 63, 64, 65, 66, 67, 68, 69, 70, 71, 72, 73, 74, 75, 76, 77, 78, 79, 80, 81, 82, 83, 84, 85, 86, 87, 88, 89, 90, 91, 92, 93, 94, 95, 96, 97, 98, 99, 100, 101, 102, 103, 104, 105, 106, 107, 108, 109, 110, 111, 112, 113, 114, 115, 116, 117, 118, 119, 120, 121, 122, 123, 124, 125, 126, 127, 128, 129, 130, 131, 132, 133, 134, 135, 136, 137, 138, 139, 140, 141, 142, 143, 144, 145, 146] (by decide +kernel) (by decide +kernel)
set_option maxRecDepth 20000 in
theorem gX3_step_X3_take : GoodIn wsX3_step (wsV RX3 188 RX3 yX3_take wsX3_take) := goodIn_app (goodIn_of _ (by decide +kernel)) ggX3_step_X3_take
theorem dX3_step_0 : decode cX3_step 0 = .ok (.aload_n 0, 1) := by decide +kernel
theorem dX3_step_1 : decode cX3_step 1 = .ok (.iload_n 1, 1) := by decide +kernel
theorem dX3_step_2 : decode cX3_step 2 = .ok (.invokestatic 103, 3) := by decide +kernel
theorem dX3_step_5 : decode cX3_step 5 = .ok (.ifCond .eq 7, 3) := by decide +kernel
theorem dX3_step_8 : decode cX3_step 8 = .ok (.iconst 0, 1) := by decide +kernel
theorem dX3_step_9 : decode cX3_step 9 = .ok (.goto 4, 3) := by decide +kernel
theorem dX3_step_12 : decode cX3_step 12 = .ok (.iconst 1, 1) := by decide +kernel
theorem dX3_step_13 : decode cX3_step 13 = .ok (.putfield 87, 3) := by decide +kernel
theorem dX3_step_16 : decode cX3_step 16 = .ok (.aload_n 0, 1) := by decide +kernel
theorem dX3_step_17 : decode cX3_step 17 = .ok (.getfield 87, 3) := by decide +kernel
theorem dX3_step_20 : decode cX3_step 20 = .ok (.ifCond .le 7, 3) := by decide +kernel
theorem dX3_step_23 : decode cX3_step 23 = .ok (.iconst 0, 1) := by decide +kernel
theorem dX3_step_24 : decode cX3_step 24 = .ok (.goto 21, 3) := by decide +kernel
theorem dX3_step_27 : decode cX3_step 27 = .ok (.aload_n 0, 1) := by decide +kernel
theorem dX3_step_28 : decode cX3_step 28 = .ok (.getfield 27, 3) := by decide +kernel
theorem dX3_step_31 : decode cX3_step 31 = .ok (.iload_n 1, 1) := by decide +kernel
theorem dX3_step_32 : decode cX3_step 32 = .ok (.iaload, 1) := by decide +kernel
theorem dX3_step_33 : decode cX3_step 33 = .ok (.ifCond .ne 7, 3) := by decide +kernel
theorem dX3_step_36 : decode cX3_step 36 = .ok (.iconst (-1), 1) := by decide +kernel
theorem dX3_step_37 : decode cX3_step 37 = .ok (.goto 8, 3) := by decide +kernel
theorem dX3_step_40 : decode cX3_step 40 = .ok (.aload_n 0, 1) := by decide +kernel
theorem dX3_step_41 : decode cX3_step 41 = .ok (.iload_n 1, 1) := by decide +kernel
theorem dX3_step_42 : decode cX3_step 42 = .ok (.invokevirtual 188, 3) := by decide +kernel
theorem dX3_step_45 : decode cX3_step 45 = .ok (.ireturn, 1) := by decide +kernel
set_option maxRecDepth 20000 in
theorem ggX3_lose_X3_isStore : GoodIn wsX3_lose wsX3_isStore := goodIn_r _ [7] (by decide +kernel) (by decide +kernel)
set_option maxRecDepth 20000 in
theorem gX3_lose_X3_isStore : GoodIn wsX3_lose (va_wsS RX3 103 yX3_isStore wsX3_isStore) := goodIn_app (goodIn_of _ (by decide +kernel)) ggX3_lose_X3_isStore
set_option maxRecDepth 20000 in
theorem ggX3_lose_X3_drop : GoodIn wsX3_lose wsX3_drop := goodIn_r _ [11, 2, 3, 12, 13, 14, 15, 16, 17, 18, 19, 20, 21, 22, 23, 24, 25, 26, 27, 28, 29, 30, 31, 32, 33, 34, 35, 36, 37, 38, 39, 40, 41, 42, 43, 44, 45, 46, 47, 48, 49, 50, 51] (by decide +kernel) (by decide +kernel)
set_option maxRecDepth 20000 in
theorem gX3_lose_X3_drop : GoodIn wsX3_lose (wsV RX3 177 RX3 yX3_drop wsX3_drop) := goodIn_app (goodIn_of _ (by decide +kernel)) ggX3_lose_X3_drop
theorem dX3_lose_0 : decode cX3_lose 0 = .ok (.aload_n 0, 1) := by decide +kernel
theorem dX3_lose_1 : decode cX3_lose 1 = .ok (.iload_n 1, 1) := by decide +kernel
theorem dX3_lose_2 : decode cX3_lose 2 = .ok (.invokestatic 103, 3) := by decide +kernel
theorem dX3_lose_5 : decode cX3_lose 5 = .ok (.ifCond .eq 7, 3) := by decide +kernel
theorem dX3_lose_8 : decode cX3_lose 8 = .ok (.iconst 0, 1) := by decide +kernel
theorem dX3_lose_9 : decode cX3_lose 9 = .ok (.goto 4, 3) := by decide +kernel
theorem dX3_lose_12 : decode cX3_lose 12 = .ok (.iconst 1, 1) := by decide +kernel
theorem dX3_lose_13 : decode cX3_lose 13 = .ok (.putfield 87, 3) := by decide +kernel
theorem dX3_lose_16 : decode cX3_lose 16 = .ok (.aload_n 0, 1) := by decide +kernel
theorem dX3_lose_17 : decode cX3_lose 17 = .ok (.getfield 87, 3) := by decide +kernel
theorem dX3_lose_20 : decode cX3_lose 20 = .ok (.ifCond .gt 12, 3) := by decide +kernel
theorem dX3_lose_23 : decode cX3_lose 23 = .ok (.aload_n 0, 1) := by decide +kernel
theorem dX3_lose_24 : decode cX3_lose 24 = .ok (.getfield 27, 3) := by decide +kernel
theorem dX3_lose_27 : decode cX3_lose 27 = .ok (.iload_n 1, 1) := by decide +kernel
theorem dX3_lose_28 : decode cX3_lose 28 = .ok (.iaload, 1) := by decide +kernel
theorem dX3_lose_29 : decode cX3_lose 29 = .ok (.ifCond .ne 16, 3) := by decide +kernel
theorem dX3_lose_32 : decode cX3_lose 32 = .ok (.aload_n 0, 1) := by decide +kernel
theorem dX3_lose_33 : decode cX3_lose 33 = .ok (.getfield 87, 3) := by decide +kernel
theorem dX3_lose_36 : decode cX3_lose 36 = .ok (.ifCond .le 7, 3) := by decide +kernel
theorem dX3_lose_39 : decode cX3_lose 39 = .ok (.iconst 0, 1) := by decide +kernel
theorem dX3_lose_40 : decode cX3_lose 40 = .ok (.goto 4, 3) := by decide +kernel
theorem dX3_lose_43 : decode cX3_lose 43 = .ok (.iconst (-1), 1) := by decide +kernel
theorem dX3_lose_44 : decode cX3_lose 44 = .ok (.ireturn, 1) := by decide +kernel
theorem dX3_lose_45 : decode cX3_lose 45 = .ok (.aload_n 0, 1) := by decide +kernel
theorem dX3_lose_46 : decode cX3_lose 46 = .ok (.getfield 30, 3) := by decide +kernel
theorem dX3_lose_49 : decode cX3_lose 49 = .ok (.bipush 100, 2) := by decide +kernel
theorem dX3_lose_51 : decode cX3_lose 51 = .ok (.iload_n 1, 1) := by decide +kernel
theorem dX3_lose_52 : decode cX3_lose 52 = .ok (.imul, 1) := by decide +kernel
theorem dX3_lose_53 : decode cX3_lose 53 = .ok (.iaload, 1) := by decide +kernel
theorem dX3_lose_54 : decode cX3_lose 54 = .ok (.istore_n 2, 1) := by decide +kernel
theorem dX3_lose_55 : decode cX3_lose 55 = .ok (.aload_n 0, 1) := by decide +kernel
theorem dX3_lose_56 : decode cX3_lose 56 = .ok (.iload_n 1, 1) := by decide +kernel
theorem dX3_lose_57 : decode cX3_lose 57 = .ok (.invokevirtual 177, 3) := by decide +kernel
theorem dX3_lose_60 : decode cX3_lose 60 = .ok (.iload_n 2, 1) := by decide +kernel
theorem dX3_lose_61 : decode cX3_lose 61 = .ok (.ireturn, 1) := by decide +kernel
set_option maxRecDepth 20000 in
theorem ggX3_run_X3_take : GoodIn wsX3_run wsX3_take := goodIn_r _ [7, 8, 9, 10, 11, 12, 13, 14, 15, 16, 17, 18, 19, 20, 21, 22, 23, 24, 25, 26, 6, 27, 2, 28, 29, 30, 31, 32, 33, 34, 35, 36, 37, 38, 39, 40, 41, 42, 43, 44, 45, 46, 47, 48, 49, 50, 51, 52, 53, 54, 55, 56, 57, 58, 59, 60, 61, 62, 63, 64, 65, 66, 67, 68, 69, 70, 71, 72, 73, 74, 75, 76, 77, 78, 79, 80, 81, 82, 83, 84, 85, 86, 87, 88, 89, 90, 91, 92, 93, 94, 95, 96, 97, 98, 99, 100, 101, 102, 103, 104, 105, 106, 107, 108, 109, 110, 111, 112, 113, 114, 115, 116, 117, 118, 119, 120, 121, 122, 123, 124, 125, 126, 127, 128, 129, 130, 131, 132, 133, 134, 135, 136, 137, 138, 139, 140, 141, 142, 143] (by decide +kernel) (by decide +kernel)
set_option maxRecDepth 20000 in
theorem gX3_run_X3_take : GoodIn wsX3_run (wsV RX3 188 RX3 yX3_take wsX3_take) := goodIn_app (goodIn_of _ (by decide +kernel)) ggX3_run_X3_take
theorem dX3_run_0 : decode cX3_run 0 = .ok (.aload_n 0, 1) := by decide +kernel
theorem dX3_run_1 : decode cX3_run 1 = .ok (.iload_n 1, 1) := by decide +kernel
theorem dX3_run_2 : decode cX3_run 2 = .ok (.ifCond .lt 10, 3) := by decide +kernel
theorem dX3_run_5 : decode cX3_run 5 = .ok (.iload_n 1, 1) := by decide +kernel
theorem dX3_run_6 : decode cX3_run 6 = .ok (.sipush 1000, 3) := by decide +kernel
theorem dX3_run_9 : decode cX3_run 9 = .ok (.if_icmp .le 7, 3) := by decide +kernel
theorem dX3_run_12 : decode cX3_run 12 = .ok (.iconst 1, 1) := by decide +kernel
theorem dX3_run_13 : decode cX3_run 13 = .ok (.goto 4, 3) := by decide +kernel
theorem dX3_run_16 : decode cX3_run 16 = .ok (.iconst 0, 1) := by decide +kernel
theorem dX3_run_17 : decode cX3_run 17 = .ok (.putfield 87, 3) := by decide +kernel
theorem dX3_run_20 : decode cX3_run 20 = .ok (.iconst 0, 1) := by decide +kernel
theorem dX3_run_21 : decode cX3_run 21 = .ok (.istore_n 2, 1) := by decide +kernel
theorem dX3_run_22 : decode cX3_run 22 = .ok (.iconst 0, 1) := by decide +kernel
theorem dX3_run_23 : decode cX3_run 23 = .ok (.istore_n 3, 1) := by decide +kernel
theorem dX3_run_24 : decode cX3_run 24 = .ok (.aload_n 0, 1) := by decide +kernel
theorem dX3_run_25 : decode cX3_run 25 = .ok (.getfield 87, 3) := by decide +kernel
theorem dX3_run_28 : decode cX3_run 28 = .ok (.ifCond .ne 49, 3) := by decide +kernel
theorem dX3_run_31 : decode cX3_run 31 = .ok (.iload_n 2, 1) := by decide +kernel
theorem dX3_run_32 : decode cX3_run 32 = .ok (.iload_n 1, 1) := by decide +kernel
theorem dX3_run_33 : decode cX3_run 33 = .ok (.if_icmp .ge 44, 3) := by decide +kernel
theorem dX3_run_36 : decode cX3_run 36 = .ok (.aload_n 0, 1) := by decide +kernel
theorem dX3_run_37 : decode cX3_run 37 = .ok (.getfield 27, 3) := by decide +kernel
theorem dX3_run_40 : decode cX3_run 40 = .ok (.iconst 0, 1) := by decide +kernel
theorem dX3_run_41 : decode cX3_run 41 = .ok (.iaload, 1) := by decide +kernel
theorem dX3_run_42 : decode cX3_run 42 = .ok (.aload_n 0, 1) := by decide +kernel
theorem dX3_run_43 : decode cX3_run 43 = .ok (.getfield 27, 3) := by decide +kernel
theorem dX3_run_46 : decode cX3_run 46 = .ok (.iconst 1, 1) := by decide +kernel
theorem dX3_run_47 : decode cX3_run 47 = .ok (.iaload, 1) := by decide +kernel
theorem dX3_run_48 : decode cX3_run 48 = .ok (.iadd, 1) := by decide +kernel
theorem dX3_run_49 : decode cX3_run 49 = .ok (.ifCond .le 28, 3) := by decide +kernel
theorem dX3_run_52 : decode cX3_run 52 = .ok (.aload_n 0, 1) := by decide +kernel
theorem dX3_run_53 : decode cX3_run 53 = .ok (.getfield 27, 3) := by decide +kernel
theorem dX3_run_56 : decode cX3_run 56 = .ok (.iload_n 3, 1) := by decide +kernel
theorem dX3_run_57 : decode cX3_run 57 = .ok (.iaload, 1) := by decide +kernel
theorem dX3_run_58 : decode cX3_run 58 = .ok (.ifCond .le 12, 3) := by decide +kernel
theorem dX3_run_61 : decode cX3_run 61 = .ok (.aload_n 0, 1) := by decide +kernel
theorem dX3_run_62 : decode cX3_run 62 = .ok (.iload_n 3, 1) := by decide +kernel
theorem dX3_run_63 : decode cX3_run 63 = .ok (.invokevirtual 188, 3) := by decide +kernel
theorem dX3_run_66 : decode cX3_run 66 = .ok (.pop, 1) := by decide +kernel
theorem dX3_run_67 : decode cX3_run 67 = .ok (.iinc 2 1, 3) := by decide +kernel
theorem dX3_run_70 : decode cX3_run 70 = .ok (.iconst 1, 1) := by decide +kernel
theorem dX3_run_71 : decode cX3_run 71 = .ok (.iload_n 3, 1) := by decide +kernel
theorem dX3_run_72 : decode cX3_run 72 = .ok (.isub, 1) := by decide +kernel
theorem dX3_run_73 : decode cX3_run 73 = .ok (.istore_n 3, 1) := by decide +kernel
theorem dX3_run_74 : decode cX3_run 74 = .ok (.goto (-50), 3) := by decide +kernel
theorem dX3_run_77 : decode cX3_run 77 = .ok (.iload_n 2, 1) := by decide +kernel
theorem dX3_run_78 : decode cX3_run 78 = .ok (.ireturn, 1) := by decide +kernel
set_option maxRecDepth 20000 in
theorem ggX3_message_X3_isStore : GoodIn wsX3_message wsX3_isStore := goodIn_r _ [11] (by decide +kernel) (by decide +kernel)
set_option maxRecDepth 20000 in
theorem gX3_message_X3_isStore : GoodIn wsX3_message (va_wsS RX3 103 yX3_isStore wsX3_isStore) := goodIn_app (goodIn_of _ (by decide +kernel)) ggX3_message_X3_isStore
theorem dX3_message_0 : decode cX3_message 0 = .ok (.aload_n 0, 1) := by decide +kernel
theorem dX3_message_1 : decode cX3_message 1 = .ok (.iload_n 1, 1) := by decide +kernel
theorem dX3_message_2 : decode cX3_message 2 = .ok (.invokestatic 103, 3) := by decide +kernel
theorem dX3_message_5 : decode cX3_message 5 = .ok (.ifCond .eq 38, 3) := by decide +kernel
theorem dX3_message_8 : decode cX3_message 8 = .ok (.iload_n 2, 1) := by decide +kernel
theorem dX3_message_9 : decode cX3_message 9 = .ok (.ifCond .lt 34, 3) := by decide +kernel
theorem dX3_message_12 : decode cX3_message 12 = .ok (.iload_n 2, 1) := by decide +kernel
theorem dX3_message_13 : decode cX3_message 13 = .ok (.iload_n 1, 1) := by decide +kernel
theorem dX3_message_14 : decode cX3_message 14 = .ok (.invokestatic 103, 3) := by decide +kernel
theorem dX3_message_17 : decode cX3_message 17 = .ok (.ifCond .eq 12, 3) := by decide +kernel
theorem dX3_message_20 : decode cX3_message 20 = .ok (.aload_n 0, 1) := by decide +kernel
theorem dX3_message_21 : decode cX3_message 21 = .ok (.getfield 27, 3) := by decide +kernel
theorem dX3_message_24 : decode cX3_message 24 = .ok (.iload_n 1, 1) := by decide +kernel
theorem dX3_message_25 : decode cX3_message 25 = .ok (.iaload, 1) := by decide +kernel
theorem dX3_message_26 : decode cX3_message 26 = .ok (.goto 4, 3) := by decide +kernel
theorem dX3_message_29 : decode cX3_message 29 = .ok (.iconst 0, 1) := by decide +kernel
theorem dX3_message_30 : decode cX3_message 30 = .ok (.if_icmp .ge 13, 3) := by decide +kernel
theorem dX3_message_33 : decode cX3_message 33 = .ok (.iload_n 3, 1) := by decide +kernel
theorem dX3_message_34 : decode cX3_message 34 = .ok (.ifCond .lt 9, 3) := by decide +kernel
theorem dX3_message_37 : decode cX3_message 37 = .ok (.iload_n 3, 1) := by decide +kernel
theorem dX3_message_38 : decode cX3_message 38 = .ok (.bipush 7, 2) := by decide +kernel
theorem dX3_message_40 : decode cX3_message 40 = .ok (.if_icmp .le 7, 3) := by decide +kernel
theorem dX3_message_43 : decode cX3_message 43 = .ok (.iconst 1, 1) := by decide +kernel
theorem dX3_message_44 : decode cX3_message 44 = .ok (.goto 4, 3) := by decide +kernel
theorem dX3_message_47 : decode cX3_message 47 = .ok (.iconst 0, 1) := by decide +kernel
theorem dX3_message_48 : decode cX3_message 48 = .ok (.putfield 87, 3) := by decide +kernel
theorem dX3_message_51 : decode cX3_message 51 = .ok (.aload_n 0, 1) := by decide +kernel
theorem dX3_message_52 : decode cX3_message 52 = .ok (.getfield 87, 3) := by decide +kernel
theorem dX3_message_55 : decode cX3_message 55 = .ok (.ifCond .le 5, 3) := by decide +kernel
theorem dX3_message_58 : decode cX3_message 58 = .ok (.iconst 0, 1) := by decide +kernel
theorem dX3_message_59 : decode cX3_message 59 = .ok (.ireturn, 1) := by decide +kernel
theorem dX3_message_60 : decode cX3_message 60 = .ok (.bipush 100, 2) := by decide +kernel
theorem dX3_message_62 : decode cX3_message 62 = .ok (.iload_n 1, 1) := by decide +kernel
theorem dX3_message_63 : decode cX3_message 63 = .ok (.imul, 1) := by decide +kernel
theorem dX3_message_64 : decode cX3_message 64 = .ok (.iload_n 2, 1) := by decide +kernel
theorem dX3_message_65 : decode cX3_message 65 = .ok (.iadd, 1) := by decide +kernel
theorem dX3_message_66 : decode cX3_message 66 = .ok (.istore 4, 2) := by decide +kernel
theorem dX3_message_68 : decode cX3_message 68 = .ok (.iload_n 3, 1) := by decide +kernel
theorem dX3_message_69 : decode cX3_message 69 = .ok (.ifCond .ne 13, 3) := by decide +kernel
theorem dX3_message_72 : decode cX3_message 72 = .ok (.aload_n 0, 1) := by decide +kernel
theorem dX3_message_73 : decode cX3_message 73 = .ok (.getfield 30, 3) := by decide +kernel
theorem dX3_message_76 : decode cX3_message 76 = .ok (.iload 4, 2) := by decide +kernel
theorem dX3_message_78 : decode cX3_message 78 = .ok (.iaload, 1) := by decide +kernel
theorem dX3_message_79 : decode cX3_message 79 = .ok (.goto 78, 3) := by decide +kernel
theorem dX3_message_82 : decode cX3_message 82 = .ok (.iload_n 3, 1) := by decide +kernel
theorem dX3_message_83 : decode cX3_message 83 = .ok (.iconst 1, 1) := by decide +kernel
theorem dX3_message_84 : decode cX3_message 84 = .ok (.if_icmp .ne 13, 3) := by decide +kernel
theorem dX3_message_87 : decode cX3_message 87 = .ok (.aload_n 0, 1) := by decide +kernel
theorem dX3_message_88 : decode cX3_message 88 = .ok (.getfield 33, 3) := by decide +kernel
theorem dX3_message_91 : decode cX3_message 91 = .ok (.iload 4, 2) := by decide +kernel
theorem dX3_message_93 : decode cX3_message 93 = .ok (.iaload, 1) := by decide +kernel
theorem dX3_message_94 : decode cX3_message 94 = .ok (.goto 63, 3) := by decide +kernel
theorem dX3_message_97 : decode cX3_message 97 = .ok (.iload_n 3, 1) := by decide +kernel
theorem dX3_message_98 : decode cX3_message 98 = .ok (.iconst 2, 1) := by decide +kernel
theorem dX3_message_99 : decode cX3_message 99 = .ok (.if_icmp .ne 13, 3) := by decide +kernel
theorem dX3_message_102 : decode cX3_message 102 = .ok (.aload_n 0, 1) := by decide +kernel
theorem dX3_message_103 : decode cX3_message 103 = .ok (.getfield 36, 3) := by decide +kernel
theorem dX3_message_106 : decode cX3_message 106 = .ok (.iload 4, 2) := by decide +kernel
theorem dX3_message_108 : decode cX3_message 108 = .ok (.iaload, 1) := by decide +kernel
theorem dX3_message_109 : decode cX3_message 109 = .ok (.goto 48, 3) := by decide +kernel
theorem dX3_message_112 : decode cX3_message 112 = .ok (.iload_n 3, 1) := by decide +kernel
theorem dX3_message_113 : decode cX3_message 113 = .ok (.iconst 3, 1) := by decide +kernel
theorem dX3_message_114 : decode cX3_message 114 = .ok (.if_icmp .ne 13, 3) := by decide +kernel
theorem dX3_message_117 : decode cX3_message 117 = .ok (.aload_n 0, 1) := by decide +kernel
theorem dX3_message_118 : decode cX3_message 118 = .ok (.getfield 42, 3) := by decide +kernel
theorem dX3_message_121 : decode cX3_message 121 = .ok (.iload 4, 2) := by decide +kernel
theorem dX3_message_123 : decode cX3_message 123 = .ok (.iaload, 1) := by decide +kernel
theorem dX3_message_124 : decode cX3_message 124 = .ok (.goto 33, 3) := by decide +kernel
theorem dX3_message_127 : decode cX3_message 127 = .ok (.iload_n 3, 1) := by decide +kernel
theorem dX3_message_128 : decode cX3_message 128 = .ok (.iconst 4, 1) := by decide +kernel
theorem dX3_message_129 : decode cX3_message 129 = .ok (.isub, 1) := by decide +kernel
theorem dX3_message_130 : decode cX3_message 130 = .ok (.aload_n 0, 1) := by decide +kernel
theorem dX3_message_131 : decode cX3_message 131 = .ok (.getfield 42, 3) := by decide +kernel
theorem dX3_message_134 : decode cX3_message 134 = .ok (.iload 4, 2) := by decide +kernel
theorem dX3_message_136 : decode cX3_message 136 = .ok (.iaload, 1) := by decide +kernel
theorem dX3_message_137 : decode cX3_message 137 = .ok (.if_icmp .ge 19, 3) := by decide +kernel
theorem dX3_message_140 : decode cX3_message 140 = .ok (.aload_n 0, 1) := by decide +kernel
theorem dX3_message_141 : decode cX3_message 141 = .ok (.getfield 45, 3) := by decide +kernel
theorem dX3_message_144 : decode cX3_message 144 = .ok (.iconst 4, 1) := by decide +kernel
theorem dX3_message_145 : decode cX3_message 145 = .ok (.iload 4, 2) := by decide +kernel
theorem dX3_message_147 : decode cX3_message 147 = .ok (.imul, 1) := by decide +kernel
theorem dX3_message_148 : decode cX3_message 148 = .ok (.iload_n 3, 1) := by decide +kernel
theorem dX3_message_149 : decode cX3_message 149 = .ok (.iadd, 1) := by decide +kernel
theorem dX3_message_150 : decode cX3_message 150 = .ok (.iconst 4, 1) := by decide +kernel
theorem dX3_message_151 : decode cX3_message 151 = .ok (.isub, 1) := by decide +kernel
theorem dX3_message_152 : decode cX3_message 152 = .ok (.iaload, 1) := by decide +kernel
theorem dX3_message_153 : decode cX3_message 153 = .ok (.goto 4, 3) := by decide +kernel
theorem dX3_message_156 : decode cX3_message 156 = .ok (.iconst (-1), 1) := by decide +kernel
theorem dX3_message_157 : decode cX3_message 157 = .ok (.ireturn, 1) := by decide +kernel
theorem dX3_size_0 : decode cX3_size 0 = .ok (.iconst 0, 1) := by decide +kernel
theorem dX3_size_1 : decode cX3_size 1 = .ok (.istore_n 2, 1) := by decide +kernel
theorem dX3_size_2 : decode cX3_size 2 = .ok (.iconst 0, 1) := by decide +kernel
theorem dX3_size_3 : decode cX3_size 3 = .ok (.istore_n 3, 1) := by decide +kernel
theorem dX3_size_4 : decode cX3_size 4 = .ok (.iload_n 3, 1) := by decide +kernel
theorem dX3_size_5 : decode cX3_size 5 = .ok (.sipush 256, 3) := by decide +kernel
theorem dX3_size_8 : decode cX3_size 8 = .ok (.if_icmp .ge 32, 3) := by decide +kernel
theorem dX3_size_11 : decode cX3_size 11 = .ok (.iload_n 2, 1) := by decide +kernel
theorem dX3_size_12 : decode cX3_size 12 = .ok (.aload_n 0, 1) := by decide +kernel
theorem dX3_size_13 : decode cX3_size 13 = .ok (.getfield 7, 3) := by decide +kernel
theorem dX3_size_16 : decode cX3_size 16 = .ok (.sipush 256, 3) := by decide +kernel
theorem dX3_size_19 : decode cX3_size 19 = .ok (.iload_n 1, 1) := by decide +kernel
theorem dX3_size_20 : decode cX3_size 20 = .ok (.imul, 1) := by decide +kernel
theorem dX3_size_21 : decode cX3_size 21 = .ok (.iload_n 3, 1) := by decide +kernel
theorem dX3_size_22 : decode cX3_size 22 = .ok (.iadd, 1) := by decide +kernel
theorem dX3_size_23 : decode cX3_size 23 = .ok (.baload, 1) := by decide +kernel
theorem dX3_size_24 : decode cX3_size 24 = .ok (.ifCond .eq 7, 3) := by decide +kernel
theorem dX3_size_27 : decode cX3_size 27 = .ok (.iconst 1, 1) := by decide +kernel
theorem dX3_size_28 : decode cX3_size 28 = .ok (.goto 4, 3) := by decide +kernel
theorem dX3_size_31 : decode cX3_size 31 = .ok (.iconst 0, 1) := by decide +kernel
theorem dX3_size_32 : decode cX3_size 32 = .ok (.iadd, 1) := by decide +kernel
theorem dX3_size_33 : decode cX3_size 33 = .ok (.istore_n 2, 1) := by decide +kernel
theorem dX3_size_34 : decode cX3_size 34 = .ok (.iinc 3 1, 3) := by decide +kernel
theorem dX3_size_37 : decode cX3_size 37 = .ok (.goto (-33), 3) := by decide +kernel
theorem dX3_size_40 : decode cX3_size 40 = .ok (.iload_n 2, 1) := by decide +kernel
theorem dX3_size_41 : decode cX3_size 41 = .ok (.ireturn, 1) := by decide +kernel
set_option maxRecDepth 20000 in
theorem ggX3_count_X3_size : GoodIn wsX3_count wsX3_size := goodIn_r _ [10, 11, 12, 13, 14, 15, 16, 17, 18, 19, 20, 21, 22, 23, 24, 25, 26, 27, 28, 29, 30, 31, 32, 33, 34, 35, 36, 37, 38, 39, 40, 41, 42, 43] (by decide +kernel) (by decide +kernel)
set_option maxRecDepth 20000 in
theorem gX3_count_X3_size : GoodIn wsX3_count (wsV RX3 191 RX3 yX3_size wsX3_size) := goodIn_app (goodIn_of _ (by decide +kernel)) ggX3_count_X3_size
theorem dX3_count_0 : decode cX3_count 0 = .ok (.aload_n 0, 1) := by decide +kernel
theorem dX3_count_1 : decode cX3_count 1 = .ok (.iload_n 1, 1) := by decide +kernel
theorem dX3_count_2 : decode cX3_count 2 = .ok (.ifCond .lt 9, 3) := by decide +kernel
theorem dX3_count_5 : decode cX3_count 5 = .ok (.iload_n 1, 1) := by decide +kernel
theorem dX3_count_6 : decode cX3_count 6 = .ok (.bipush 6, 2) := by decide +kernel
theorem dX3_count_8 : decode cX3_count 8 = .ok (.if_icmp .le 7, 3) := by decide +kernel
theorem dX3_count_11 : decode cX3_count 11 = .ok (.iconst 1, 1) := by decide +kernel
theorem dX3_count_12 : decode cX3_count 12 = .ok (.goto 4, 3) := by decide +kernel
theorem dX3_count_15 : decode cX3_count 15 = .ok (.iconst 0, 1) := by decide +kernel
theorem dX3_count_16 : decode cX3_count 16 = .ok (.putfield 87, 3) := by decide +kernel
theorem dX3_count_19 : decode cX3_count 19 = .ok (.aload_n 0, 1) := by decide +kernel
theorem dX3_count_20 : decode cX3_count 20 = .ok (.getfield 87, 3) := by decide +kernel
theorem dX3_count_23 : decode cX3_count 23 = .ok (.ifCond .le 7, 3) := by decide +kernel
theorem dX3_count_26 : decode cX3_count 26 = .ok (.iconst 0, 1) := by decide +kernel
theorem dX3_count_27 : decode cX3_count 27 = .ok (.goto 61, 3) := by decide +kernel
theorem dX3_count_30 : decode cX3_count 30 = .ok (.iload_n 1, 1) := by decide +kernel
theorem dX3_count_31 : decode cX3_count 31 = .ok (.ifCond .ne 10, 3) := by decide +kernel
theorem dX3_count_34 : decode cX3_count 34 = .ok (.aload_n 0, 1) := by decide +kernel
theorem dX3_count_35 : decode cX3_count 35 = .ok (.getfield 144, 3) := by decide +kernel
theorem dX3_count_38 : decode cX3_count 38 = .ok (.goto 50, 3) := by decide +kernel
theorem dX3_count_41 : decode cX3_count 41 = .ok (.iload_n 1, 1) := by decide +kernel
theorem dX3_count_42 : decode cX3_count 42 = .ok (.iconst 1, 1) := by decide +kernel
theorem dX3_count_43 : decode cX3_count 43 = .ok (.if_icmp .ne 10, 3) := by decide +kernel
theorem dX3_count_46 : decode cX3_count 46 = .ok (.aload_n 0, 1) := by decide +kernel
theorem dX3_count_47 : decode cX3_count 47 = .ok (.getfield 153, 3) := by decide +kernel
theorem dX3_count_50 : decode cX3_count 50 = .ok (.goto 38, 3) := by decide +kernel
theorem dX3_count_53 : decode cX3_count 53 = .ok (.iload_n 1, 1) := by decide +kernel
theorem dX3_count_54 : decode cX3_count 54 = .ok (.iconst 2, 1) := by decide +kernel
theorem dX3_count_55 : decode cX3_count 55 = .ok (.if_icmp .ne 10, 3) := by decide +kernel
theorem dX3_count_58 : decode cX3_count 58 = .ok (.aload_n 0, 1) := by decide +kernel
theorem dX3_count_59 : decode cX3_count 59 = .ok (.getfield 147, 3) := by decide +kernel
theorem dX3_count_62 : decode cX3_count 62 = .ok (.goto 26, 3) := by decide +kernel
theorem dX3_count_65 : decode cX3_count 65 = .ok (.iload_n 1, 1) := by decide +kernel
theorem dX3_count_66 : decode cX3_count 66 = .ok (.iconst 5, 1) := by decide +kernel
theorem dX3_count_67 : decode cX3_count 67 = .ok (.if_icmp .ge 14, 3) := by decide +kernel
theorem dX3_count_70 : decode cX3_count 70 = .ok (.aload_n 0, 1) := by decide +kernel
theorem dX3_count_71 : decode cX3_count 71 = .ok (.getfield 27, 3) := by decide +kernel
theorem dX3_count_74 : decode cX3_count 74 = .ok (.iload_n 1, 1) := by decide +kernel
theorem dX3_count_75 : decode cX3_count 75 = .ok (.iconst 3, 1) := by decide +kernel
theorem dX3_count_76 : decode cX3_count 76 = .ok (.isub, 1) := by decide +kernel
theorem dX3_count_77 : decode cX3_count 77 = .ok (.iaload, 1) := by decide +kernel
theorem dX3_count_78 : decode cX3_count 78 = .ok (.goto 10, 3) := by decide +kernel
theorem dX3_count_81 : decode cX3_count 81 = .ok (.aload_n 0, 1) := by decide +kernel
theorem dX3_count_82 : decode cX3_count 82 = .ok (.iload_n 1, 1) := by decide +kernel
theorem dX3_count_83 : decode cX3_count 83 = .ok (.iconst 5, 1) := by decide +kernel
theorem dX3_count_84 : decode cX3_count 84 = .ok (.isub, 1) := by decide +kernel
theorem dX3_count_85 : decode cX3_count 85 = .ok (.invokevirtual 191, 3) := by decide +kernel
theorem dX3_count_88 : decode cX3_count 88 = .ok (.ireturn, 1) := by decide +kernel
theorem dX3_same_0 : decode cX3_same 0 = .ok (.aload_n 0, 1) := by decide +kernel
theorem dX3_same_1 : decode cX3_same 1 = .ok (.iconst 0, 1) := by decide +kernel
theorem dX3_same_2 : decode cX3_same 2 = .ok (.putfield 87, 3) := by decide +kernel
theorem dX3_same_5 : decode cX3_same 5 = .ok (.iconst 1, 1) := by decide +kernel
theorem dX3_same_6 : decode cX3_same 6 = .ok (.istore_n 1, 1) := by decide +kernel
theorem dX3_same_7 : decode cX3_same 7 = .ok (.iconst 0, 1) := by decide +kernel
theorem dX3_same_8 : decode cX3_same 8 = .ok (.istore_n 2, 1) := by decide +kernel
theorem dX3_same_9 : decode cX3_same 9 = .ok (.iload_n 2, 1) := by decide +kernel
theorem dX3_same_10 : decode cX3_same 10 = .ok (.sipush 256, 3) := by decide +kernel
theorem dX3_same_13 : decode cX3_same 13 = .ok (.if_icmp .ge 106, 3) := by decide +kernel
theorem dX3_same_16 : decode cX3_same 16 = .ok (.iload_n 1, 1) := by decide +kernel
theorem dX3_same_17 : decode cX3_same 17 = .ok (.ifCond .eq 94, 3) := by decide +kernel
theorem dX3_same_20 : decode cX3_same 20 = .ok (.aload_n 0, 1) := by decide +kernel
theorem dX3_same_21 : decode cX3_same 21 = .ok (.getfield 7, 3) := by decide +kernel
theorem dX3_same_24 : decode cX3_same 24 = .ok (.iload_n 2, 1) := by decide +kernel
theorem dX3_same_25 : decode cX3_same 25 = .ok (.baload, 1) := by decide +kernel
theorem dX3_same_26 : decode cX3_same 26 = .ok (.aload_n 0, 1) := by decide +kernel
theorem dX3_same_27 : decode cX3_same 27 = .ok (.getfield 7, 3) := by decide +kernel
theorem dX3_same_30 : decode cX3_same 30 = .ok (.sipush 256, 3) := by decide +kernel
theorem dX3_same_33 : decode cX3_same 33 = .ok (.iload_n 2, 1) := by decide +kernel
theorem dX3_same_34 : decode cX3_same 34 = .ok (.iadd, 1) := by decide +kernel
theorem dX3_same_35 : decode cX3_same 35 = .ok (.baload, 1) := by decide +kernel
theorem dX3_same_36 : decode cX3_same 36 = .ok (.if_icmp .ne 75, 3) := by decide +kernel
theorem dX3_same_39 : decode cX3_same 39 = .ok (.aload_n 0, 1) := by decide +kernel
theorem dX3_same_40 : decode cX3_same 40 = .ok (.getfield 7, 3) := by decide +kernel
theorem dX3_same_43 : decode cX3_same 43 = .ok (.iload_n 2, 1) := by decide +kernel
theorem dX3_same_44 : decode cX3_same 44 = .ok (.baload, 1) := by decide +kernel
theorem dX3_same_45 : decode cX3_same 45 = .ok (.ifCond .eq 62, 3) := by decide +kernel
theorem dX3_same_48 : decode cX3_same 48 = .ok (.aload_n 0, 1) := by decide +kernel
theorem dX3_same_49 : decode cX3_same 49 = .ok (.getfield 13, 3) := by decide +kernel
theorem dX3_same_52 : decode cX3_same 52 = .ok (.iload_n 2, 1) := by decide +kernel
theorem dX3_same_53 : decode cX3_same 53 = .ok (.laload, 1) := by decide +kernel
theorem dX3_same_54 : decode cX3_same 54 = .ok (.aload_n 0, 1) := by decide +kernel
theorem dX3_same_55 : decode cX3_same 55 = .ok (.getfield 13, 3) := by decide +kernel
theorem dX3_same_58 : decode cX3_same 58 = .ok (.sipush 256, 3) := by decide +kernel
theorem dX3_same_61 : decode cX3_same 61 = .ok (.iload_n 2, 1) := by decide +kernel
theorem dX3_same_62 : decode cX3_same 62 = .ok (.iadd, 1) := by decide +kernel
theorem dX3_same_63 : decode cX3_same 63 = .ok (.laload, 1) := by decide +kernel
theorem dX3_same_64 : decode cX3_same 64 = .ok (.lcmp, 1) := by decide +kernel
theorem dX3_same_65 : decode cX3_same 65 = .ok (.ifCond .ne 46, 3) := by decide +kernel
theorem dX3_same_68 : decode cX3_same 68 = .ok (.aload_n 0, 1) := by decide +kernel
theorem dX3_same_69 : decode cX3_same 69 = .ok (.getfield 17, 3) := by decide +kernel
theorem dX3_same_72 : decode cX3_same 72 = .ok (.iload_n 2, 1) := by decide +kernel
theorem dX3_same_73 : decode cX3_same 73 = .ok (.iaload, 1) := by decide +kernel
theorem dX3_same_74 : decode cX3_same 74 = .ok (.aload_n 0, 1) := by decide +kernel
theorem dX3_same_75 : decode cX3_same 75 = .ok (.getfield 17, 3) := by decide +kernel
theorem dX3_same_78 : decode cX3_same 78 = .ok (.sipush 256, 3) := by decide +kernel
theorem dX3_same_81 : decode cX3_same 81 = .ok (.iload_n 2, 1) := by decide +kernel
theorem dX3_same_82 : decode cX3_same 82 = .ok (.iadd, 1) := by decide +kernel
theorem dX3_same_83 : decode cX3_same 83 = .ok (.iaload, 1) := by decide +kernel
theorem dX3_same_84 : decode cX3_same 84 = .ok (.if_icmp .ne 27, 3) := by decide +kernel
theorem dX3_same_87 : decode cX3_same 87 = .ok (.aload_n 0, 1) := by decide +kernel
theorem dX3_same_88 : decode cX3_same 88 = .ok (.getfield 21, 3) := by decide +kernel
theorem dX3_same_91 : decode cX3_same 91 = .ok (.iload_n 2, 1) := by decide +kernel
theorem dX3_same_92 : decode cX3_same 92 = .ok (.laload, 1) := by decide +kernel
theorem dX3_same_93 : decode cX3_same 93 = .ok (.aload_n 0, 1) := by decide +kernel
theorem dX3_same_94 : decode cX3_same 94 = .ok (.getfield 21, 3) := by decide +kernel
theorem dX3_same_97 : decode cX3_same 97 = .ok (.sipush 256, 3) := by decide +kernel
theorem dX3_same_100 : decode cX3_same 100 = .ok (.iload_n 2, 1) := by decide +kernel
theorem dX3_same_101 : decode cX3_same 101 = .ok (.iadd, 1) := by decide +kernel
theorem dX3_same_102 : decode cX3_same 102 = .ok (.laload, 1) := by decide +kernel
theorem dX3_same_103 : decode cX3_same 103 = .ok (.lcmp, 1) := by decide +kernel
theorem dX3_same_104 : decode cX3_same 104 = .ok (.ifCond .ne 7, 3) := by decide +kernel
theorem dX3_same_107 : decode cX3_same 107 = .ok (.iconst 1, 1) := by decide +kernel
theorem dX3_same_108 : decode cX3_same 108 = .ok (.goto 4, 3) := by decide +kernel
theorem dX3_same_111 : decode cX3_same 111 = .ok (.iconst 0, 1) := by decide +kernel
theorem dX3_same_112 : decode cX3_same 112 = .ok (.istore_n 1, 1) := by decide +kernel
theorem dX3_same_113 : decode cX3_same 113 = .ok (.iinc 2 1, 3) := by decide +kernel
theorem dX3_same_116 : decode cX3_same 116 = .ok (.goto (-107), 3) := by decide +kernel
theorem dX3_same_119 : decode cX3_same 119 = .ok (.iload_n 1, 1) := by decide +kernel
theorem dX3_same_120 : decode cX3_same 120 = .ok (.ireturn, 1) := by decide +kernel
theorem dX3_clear_0 : decode cX3_clear 0 = .ok (.aload_n 0, 1) := by decide +kernel
theorem dX3_clear_1 : decode cX3_clear 1 = .ok (.iconst 0, 1) := by decide +kernel
theorem dX3_clear_2 : decode cX3_clear 2 = .ok (.putfield 87, 3) := by decide +kernel
theorem dX3_clear_5 : decode cX3_clear 5 = .ok (.iconst 0, 1) := by decide +kernel
theorem dX3_clear_6 : decode cX3_clear 6 = .ok (.istore_n 1, 1) := by decide +kernel
theorem dX3_clear_7 : decode cX3_clear 7 = .ok (.iload_n 1, 1) := by decide +kernel
theorem dX3_clear_8 : decode cX3_clear 8 = .ok (.sipush 512, 3) := by decide +kernel
theorem dX3_clear_11 : decode cX3_clear 11 = .ok (.if_icmp .ge 16, 3) := by decide +kernel
theorem dX3_clear_14 : decode cX3_clear 14 = .ok (.aload_n 0, 1) := by decide +kernel
theorem dX3_clear_15 : decode cX3_clear 15 = .ok (.getfield 7, 3) := by decide +kernel
theorem dX3_clear_18 : decode cX3_clear 18 = .ok (.iload_n 1, 1) := by decide +kernel
theorem dX3_clear_19 : decode cX3_clear 19 = .ok (.iconst 0, 1) := by decide +kernel
theorem dX3_clear_20 : decode cX3_clear 20 = .ok (.bastore, 1) := by decide +kernel
theorem dX3_clear_21 : decode cX3_clear 21 = .ok (.iinc 1 1, 3) := by decide +kernel
theorem dX3_clear_24 : decode cX3_clear 24 = .ok (.goto (-17), 3) := by decide +kernel
theorem dX3_clear_27 : decode cX3_clear 27 = .ok (.aload_n 0, 1) := by decide +kernel
theorem dX3_clear_28 : decode cX3_clear 28 = .ok (.getfield 27, 3) := by decide +kernel
theorem dX3_clear_31 : decode cX3_clear 31 = .ok (.iconst 0, 1) := by decide +kernel
theorem dX3_clear_32 : decode cX3_clear 32 = .ok (.iconst 0, 1) := by decide +kernel
theorem dX3_clear_33 : decode cX3_clear 33 = .ok (.iastore, 1) := by decide +kernel
theorem dX3_clear_34 : decode cX3_clear 34 = .ok (.aload_n 0, 1) := by decide +kernel
theorem dX3_clear_35 : decode cX3_clear 35 = .ok (.getfield 27, 3) := by decide +kernel
theorem dX3_clear_38 : decode cX3_clear 38 = .ok (.iconst 1, 1) := by decide +kernel
theorem dX3_clear_39 : decode cX3_clear 39 = .ok (.iconst 0, 1) := by decide +kernel
theorem dX3_clear_40 : decode cX3_clear 40 = .ok (.iastore, 1) := by decide +kernel
theorem dX3_clear_41 : decode cX3_clear 41 = .ok (.aload_n 0, 1) := by decide +kernel
theorem dX3_clear_42 : decode cX3_clear 42 = .ok (.iconst 0, 1) := by decide +kernel
theorem dX3_clear_43 : decode cX3_clear 43 = .ok (.putfield 144, 3) := by decide +kernel
theorem dX3_clear_46 : decode cX3_clear 46 = .ok (.aload_n 0, 1) := by decide +kernel
theorem dX3_clear_47 : decode cX3_clear 47 = .ok (.iconst 0, 1) := by decide +kernel
theorem dX3_clear_48 : decode cX3_clear 48 = .ok (.putfield 153, 3) := by decide +kernel
theorem dX3_clear_51 : decode cX3_clear 51 = .ok (.aload_n 0, 1) := by decide +kernel
theorem dX3_clear_52 : decode cX3_clear 52 = .ok (.iconst 0, 1) := by decide +kernel
theorem dX3_clear_53 : decode cX3_clear 53 = .ok (.putfield 147, 3) := by decide +kernel
theorem dX3_clear_56 : decode cX3_clear 56 = .ok (.return_, 1) := by decide +kernel
