set_option maxRecDepth 20000 in
theorem gX2_receive_X2_mergeEntries : GoodIn wsX2_receive (wsV RX2 150 RX2 yX2_mergeEntries wsX2_mergeEntries) := goodIn_app (goodIn_of _ (by decide +kernel)) ggX2_receive_X2_mergeEntries
set_option maxRecDepth 20000 in
theorem ggX2_receive_X2_answerGive : GoodIn wsX2_receive wsX2_answerGive := goodIn_r _ [147, 1, 63, 21, 64, 65, 66, 67, 68, 69, 70, 71, 72, 73, 148, 149, 150, 18, 151, 96, 97, 98, 99, 89, 90, 7, 91, 51, 152, 153, 154, 155, 105, 106, 74, 75, 76, 77, 27, 28, 29, 30, 31, 32, 33, 34, 35, 36, 37, 38, 39, 40, 41, 42, 43, 44, 45, 46, 47, 10, 48, 49, 50, 11, 12, 13, 14, 9, 78, 79, 80, 81, 82, 83, 84, 85, 86, 87, 88, 156, 157, 158, 159, 160, 161, 162, 163, 164, 165, 166, 167, 168, 169, 170, 171, 172, 173, 174, 175] (by decide +kernel) (by decide +kernel)
set_option maxRecDepth 20000 in
theorem gX2_receive_X2_answerGive : GoodIn wsX2_receive (wsV RX2 153 RX2 yX2_answerGive wsX2_answerGive) := goodIn_app (goodIn_of _ (by decide +kernel)) ggX2_receive_X2_answerGive
theorem dX2_receive_0 : decode cX2_receive 0 = .ok (.aload_n 0, 1) := by decide +kernel
theorem dX2_receive_1 : decode cX2_receive 1 = .ok (.getfield 17, 3) := by decide +kernel
theorem dX2_receive_4 : decode cX2_receive 4 = .ok (.iload_n 1, 1) := by decide +kernel
theorem dX2_receive_5 : decode cX2_receive 5 = .ok (.aaload, 1) := by decide +kernel
theorem dX2_receive_6 : decode cX2_receive 6 = .ok (.astore_n 2, 1) := by decide +kernel
theorem dX2_receive_7 : decode cX2_receive 7 = .ok (.aload_n 2, 1) := by decide +kernel
theorem dX2_receive_8 : decode cX2_receive 8 = .ok (.getfield 93, 3) := by decide +kernel
theorem dX2_receive_11 : decode cX2_receive 11 = .ok (.ifCond .ne 5, 3) := by decide +kernel
theorem dX2_receive_14 : decode cX2_receive 14 = .ok (.iconst (-1), 1) := by decide +kernel
theorem dX2_receive_15 : decode cX2_receive 15 = .ok (.ireturn, 1) := by decide +kernel
theorem dX2_receive_16 : decode cX2_receive 16 = .ok (.aload_n 2, 1) := by decide +kernel
theorem dX2_receive_17 : decode cX2_receive 17 = .ok (.invokevirtual 99, 3) := by decide +kernel
theorem dX2_receive_20 : decode cX2_receive 20 = .ok (.istore_n 3, 1) := by decide +kernel
theorem dX2_receive_21 : decode cX2_receive 21 = .ok (.aload_n 2, 1) := by decide +kernel
theorem dX2_receive_22 : decode cX2_receive 22 = .ok (.getfield 96, 3) := by decide +kernel
theorem dX2_receive_25 : decode cX2_receive 25 = .ok (.iload_n 3, 1) := by decide +kernel
theorem dX2_receive_26 : decode cX2_receive 26 = .ok (.iaload, 1) := by decide +kernel
theorem dX2_receive_27 : decode cX2_receive 27 = .ok (.istore 4, 2) := by decide +kernel
theorem dX2_receive_29 : decode cX2_receive 29 = .ok (.iload 4, 2) := by decide +kernel
theorem dX2_receive_31 : decode cX2_receive 31 = .ok (.tableswitch 58 0 2 #[25, 34, 43], 25) := by decide +kernel
theorem dX2_receive_56 : decode cX2_receive 56 = .ok (.aload_n 0, 1) := by decide +kernel
theorem dX2_receive_57 : decode cX2_receive 57 = .ok (.iload_n 1, 1) := by decide +kernel
theorem dX2_receive_58 : decode cX2_receive 58 = .ok (.iload_n 3, 1) := by decide +kernel
theorem dX2_receive_59 : decode cX2_receive 59 = .ok (.invokevirtual 144, 3) := by decide +kernel
theorem dX2_receive_62 : decode cX2_receive 62 = .ok (.goto 33, 3) := by decide +kernel
theorem dX2_receive_65 : decode cX2_receive 65 = .ok (.aload_n 0, 1) := by decide +kernel
theorem dX2_receive_66 : decode cX2_receive 66 = .ok (.iload_n 1, 1) := by decide +kernel
theorem dX2_receive_67 : decode cX2_receive 67 = .ok (.iload_n 3, 1) := by decide +kernel
theorem dX2_receive_68 : decode cX2_receive 68 = .ok (.invokevirtual 147, 3) := by decide +kernel
theorem dX2_receive_71 : decode cX2_receive 71 = .ok (.goto 24, 3) := by decide +kernel
theorem dX2_receive_74 : decode cX2_receive 74 = .ok (.aload_n 0, 1) := by decide +kernel
theorem dX2_receive_75 : decode cX2_receive 75 = .ok (.iload_n 1, 1) := by decide +kernel
theorem dX2_receive_76 : decode cX2_receive 76 = .ok (.iload_n 3, 1) := by decide +kernel
theorem dX2_receive_77 : decode cX2_receive 77 = .ok (.invokevirtual 150, 3) := by decide +kernel
theorem dX2_receive_80 : decode cX2_receive 80 = .ok (.aload_n 0, 1) := by decide +kernel
theorem dX2_receive_81 : decode cX2_receive 81 = .ok (.iload_n 1, 1) := by decide +kernel
theorem dX2_receive_82 : decode cX2_receive 82 = .ok (.iload_n 3, 1) := by decide +kernel
theorem dX2_receive_83 : decode cX2_receive 83 = .ok (.invokevirtual 153, 3) := by decide +kernel
theorem dX2_receive_86 : decode cX2_receive 86 = .ok (.goto 9, 3) := by decide +kernel
theorem dX2_receive_89 : decode cX2_receive 89 = .ok (.aload_n 0, 1) := by decide +kernel
theorem dX2_receive_90 : decode cX2_receive 90 = .ok (.iload_n 1, 1) := by decide +kernel
theorem dX2_receive_91 : decode cX2_receive 91 = .ok (.iload_n 3, 1) := by decide +kernel
theorem dX2_receive_92 : decode cX2_receive 92 = .ok (.invokevirtual 150, 3) := by decide +kernel
theorem dX2_receive_95 : decode cX2_receive 95 = .ok (.iload 4, 2) := by decide +kernel
theorem dX2_receive_97 : decode cX2_receive 97 = .ok (.ireturn, 1) := by decide +kernel
set_option maxRecDepth 20000 in
theorem ggX2_answerAsk_X2_sendList : GoodIn wsX2_answerAsk wsX2_sendList := goodIn_r _ [9, 1, 2, 3, 4, 10, 11, 12, 8, 13, 14, 15, 16, 17, 18, 19, 20, 21, 22, 23, 24, 25, 26, 27, 28, 29, 30, 31, 32, 33, 34, 35, 36, 37, 38, 39, 40, 41, 42, 43, 44, 45, 46, 47, 48, 49, 50, 51, 52, 53, 54, 55, 56, 57, 58, 59, 60, 61, 62, 63, 64, 65, 66, 67] (by decide +kernel) (by decide +kernel)
set_option maxRecDepth 20000 in
theorem gX2_answerAsk_X2_sendList : GoodIn wsX2_answerAsk (wsV RX2 156 RX2 yX2_sendList wsX2_sendList) := goodIn_app (goodIn_of _ (by decide +kernel)) ggX2_answerAsk_X2_sendList
theorem dX2_answerAsk_0 : decode cX2_answerAsk 0 = .ok (.aload_n 0, 1) := by decide +kernel
theorem dX2_answerAsk_1 : decode cX2_answerAsk 1 = .ok (.getfield 17, 3) := by decide +kernel
theorem dX2_answerAsk_4 : decode cX2_answerAsk 4 = .ok (.iload_n 1, 1) := by decide +kernel
theorem dX2_answerAsk_5 : decode cX2_answerAsk 5 = .ok (.aaload, 1) := by decide +kernel
theorem dX2_answerAsk_6 : decode cX2_answerAsk 6 = .ok (.getfield 89, 3) := by decide +kernel
theorem dX2_answerAsk_9 : decode cX2_answerAsk 9 = .ok (.iload_n 2, 1) := by decide +kernel
theorem dX2_answerAsk_10 : decode cX2_answerAsk 10 = .ok (.iconst 4, 1) := by decide +kernel
theorem dX2_answerAsk_11 : decode cX2_answerAsk 11 = .ok (.imul, 1) := by decide +kernel
theorem dX2_answerAsk_12 : decode cX2_answerAsk 12 = .ok (.laload, 1) := by decide +kernel
theorem dX2_answerAsk_13 : decode cX2_answerAsk 13 = .ok (.aload_n 0, 1) := by decide +kernel
theorem dX2_answerAsk_14 : decode cX2_answerAsk 14 = .ok (.getfield 11, 3) := by decide +kernel
theorem dX2_answerAsk_17 : decode cX2_answerAsk 17 = .ok (.iload_n 1, 1) := by decide +kernel
theorem dX2_answerAsk_18 : decode cX2_answerAsk 18 = .ok (.aaload, 1) := by decide +kernel
theorem dX2_answerAsk_19 : decode cX2_answerAsk 19 = .ok (.getfield 75, 3) := by decide +kernel
theorem dX2_answerAsk_22 : decode cX2_answerAsk 22 = .ok (.iconst 0, 1) := by decide +kernel
theorem dX2_answerAsk_23 : decode cX2_answerAsk 23 = .ok (.laload, 1) := by decide +kernel
theorem dX2_answerAsk_24 : decode cX2_answerAsk 24 = .ok (.lcmp, 1) := by decide +kernel
theorem dX2_answerAsk_25 : decode cX2_answerAsk 25 = .ok (.ifCond .eq 10, 3) := by decide +kernel
theorem dX2_answerAsk_28 : decode cX2_answerAsk 28 = .ok (.aload_n 0, 1) := by decide +kernel
theorem dX2_answerAsk_29 : decode cX2_answerAsk 29 = .ok (.iload_n 1, 1) := by decide +kernel
theorem dX2_answerAsk_30 : decode cX2_answerAsk 30 = .ok (.iconst 0, 1) := by decide +kernel
theorem dX2_answerAsk_31 : decode cX2_answerAsk 31 = .ok (.iconst 0, 1) := by decide +kernel
theorem dX2_answerAsk_32 : decode cX2_answerAsk 32 = .ok (.invokevirtual 156, 3) := by decide +kernel
theorem dX2_answerAsk_35 : decode cX2_answerAsk 35 = .ok (.return_, 1) := by decide +kernel
set_option maxRecDepth 20000 in
theorem ggX2_answerList_X2_treePlace : GoodIn wsX2_answerList wsX2_treePlace := goodIn_r _ [10, 11, 12, 9, 13] (by decide +kernel) (by decide +kernel)
set_option maxRecDepth 20000 in
theorem gX2_answerList_X2_treePlace : GoodIn wsX2_answerList (va_wsS RX2 78 yX2_treePlace wsX2_treePlace) := goodIn_app (goodIn_of _ (by decide +kernel)) ggX2_answerList_X2_treePlace
set_option maxRecDepth 20000 in
theorem ggX2_answerList_X1_maskOfLeaf : GoodIn wsX2_answerList wsX1_maskOfLeaf := goodIn_r _ [18, 19, 20, 21, 17, 22, 23, 93, 94, 95, 96, 97] (by decide +kernel) (by decide +kernel)
set_option maxRecDepth 20000 in
theorem gX2_answerList_X1_maskOfLeaf : GoodIn wsX2_answerList (wsV RX2 160 RX1 yX1_maskOfLeaf wsX1_maskOfLeaf) := goodIn_app (goodIn_of _ (by decide +kernel)) ggX2_answerList_X1_maskOfLeaf
set_option maxRecDepth 20000 in
theorem ggX2_answerList_X2_sendEntries : GoodIn wsX2_answerList wsX2_sendEntries := goodIn_r _ [27, 1, 2, 28, 29, 30, 9, 31, 32, 33, 34, 35, 36, 37, 38, 39, 40, 41, 42, 43, 44, 45, 46, 47, 48, 49, 50, 51, 52, 53, 54, 55, 56, 57, 58, 59, 60, 61, 62, 63, 64, 65, 66, 67, 68, 69, 70, 71, 72, 73, 78, 79, 80, 81, 82, 83, 84, 85, 86, 87, 88, 89, 90, 91, 92, 93, 94, 95, 96, 97] (by decide +kernel) (by decide +kernel)
set_option maxRecDepth 20000 in
theorem gX2_answerList_X2_sendEntries : GoodIn wsX2_answerList (wsV RX2 163 RX2 yX2_sendEntries wsX2_sendEntries) := goodIn_app (goodIn_of _ (by decide +kernel)) ggX2_answerList_X2_sendEntries
set_option maxRecDepth 20000 in
theorem ggX2_answerList_X2_sendList : GoodIn wsX2_answerList wsX2_sendList := goodIn_r _ [77, 1, 5, 2, 6, 28, 29, 30, 9, 31, 32, 33, 34, 35, 36, 37, 38, 39, 40, 41, 42, 43, 44, 45, 46, 47, 48, 49, 50, 51, 52, 53, 54, 55, 56, 57, 58, 59, 7, 8, 10, 11, 12, 13, 78, 79, 80, 81, 82, 83, 84, 85, 86, 87, 88, 89, 90, 91, 92, 93, 94, 95, 96, 97] (by decide +kernel) (by decide +kernel)
set_option maxRecDepth 20000 in
theorem gX2_answerList_X2_sendList : GoodIn wsX2_answerList (wsV RX2 156 RX2 yX2_sendList wsX2_sendList) := goodIn_app (goodIn_of _ (by decide +kernel)) ggX2_answerList_X2_sendList
theorem dX2_answerList_0 : decode cX2_answerList 0 = .ok (.aload_n 0, 1) := by decide +kernel
theorem dX2_answerList_1 : decode cX2_answerList 1 = .ok (.getfield 17, 3) := by decide +kernel
theorem dX2_answerList_4 : decode cX2_answerList 4 = .ok (.iload_n 1, 1) := by decide +kernel
theorem dX2_answerList_5 : decode cX2_answerList 5 = .ok (.aaload, 1) := by decide +kernel
theorem dX2_answerList_6 : decode cX2_answerList 6 = .ok (.astore_n 3, 1) := by decide +kernel
theorem dX2_answerList_7 : decode cX2_answerList 7 = .ok (.aload_n 0, 1) := by decide +kernel
theorem dX2_answerList_8 : decode cX2_answerList 8 = .ok (.getfield 11, 3) := by decide +kernel
theorem dX2_answerList_11 : decode cX2_answerList 11 = .ok (.iload_n 1, 1) := by decide +kernel
theorem dX2_answerList_12 : decode cX2_answerList 12 = .ok (.aaload, 1) := by decide +kernel
theorem dX2_answerList_13 : decode cX2_answerList 13 = .ok (.astore 4, 2) := by decide +kernel
theorem dX2_answerList_15 : decode cX2_answerList 15 = .ok (.aload_n 3, 1) := by decide +kernel
theorem dX2_answerList_16 : decode cX2_answerList 16 = .ok (.getfield 112, 3) := by decide +kernel
theorem dX2_answerList_19 : decode cX2_answerList 19 = .ok (.iload_n 2, 1) := by decide +kernel
theorem dX2_answerList_20 : decode cX2_answerList 20 = .ok (.iaload, 1) := by decide +kernel
theorem dX2_answerList_21 : decode cX2_answerList 21 = .ok (.iconst 1, 1) := by decide +kernel
theorem dX2_answerList_22 : decode cX2_answerList 22 = .ok (.iadd, 1) := by decide +kernel
theorem dX2_answerList_23 : decode cX2_answerList 23 = .ok (.istore 5, 2) := by decide +kernel
theorem dX2_answerList_25 : decode cX2_answerList 25 = .ok (.iconst 0, 1) := by decide +kernel
theorem dX2_answerList_26 : decode cX2_answerList 26 = .ok (.istore 6, 2) := by decide +kernel
theorem dX2_answerList_28 : decode cX2_answerList 28 = .ok (.iload 6, 2) := by decide +kernel
theorem dX2_answerList_30 : decode cX2_answerList 30 = .ok (.iconst 4, 1) := by decide +kernel
theorem dX2_answerList_31 : decode cX2_answerList 31 = .ok (.if_icmp .ge 86, 3) := by decide +kernel
theorem dX2_answerList_34 : decode cX2_answerList 34 = .ok (.aload_n 3, 1) := by decide +kernel
theorem dX2_answerList_35 : decode cX2_answerList 35 = .ok (.getfield 115, 3) := by decide +kernel
theorem dX2_answerList_38 : decode cX2_answerList 38 = .ok (.iload_n 2, 1) := by decide +kernel
theorem dX2_answerList_39 : decode cX2_answerList 39 = .ok (.iaload, 1) := by decide +kernel
theorem dX2_answerList_40 : decode cX2_answerList 40 = .ok (.iconst 4, 1) := by decide +kernel
theorem dX2_answerList_41 : decode cX2_answerList 41 = .ok (.imul, 1) := by decide +kernel
theorem dX2_answerList_42 : decode cX2_answerList 42 = .ok (.iload 6, 2) := by decide +kernel
theorem dX2_answerList_44 : decode cX2_answerList 44 = .ok (.iadd, 1) := by decide +kernel
theorem dX2_answerList_45 : decode cX2_answerList 45 = .ok (.istore 7, 2) := by decide +kernel
theorem dX2_answerList_47 : decode cX2_answerList 47 = .ok (.aload_n 3, 1) := by decide +kernel
theorem dX2_answerList_48 : decode cX2_answerList 48 = .ok (.getfield 89, 3) := by decide +kernel
theorem dX2_answerList_51 : decode cX2_answerList 51 = .ok (.iload_n 2, 1) := by decide +kernel
theorem dX2_answerList_52 : decode cX2_answerList 52 = .ok (.iconst 4, 1) := by decide +kernel
theorem dX2_answerList_53 : decode cX2_answerList 53 = .ok (.imul, 1) := by decide +kernel
theorem dX2_answerList_54 : decode cX2_answerList 54 = .ok (.iload 6, 2) := by decide +kernel
theorem dX2_answerList_56 : decode cX2_answerList 56 = .ok (.iadd, 1) := by decide +kernel
theorem dX2_answerList_57 : decode cX2_answerList 57 = .ok (.laload, 1) := by decide +kernel
theorem dX2_answerList_58 : decode cX2_answerList 58 = .ok (.aload 4, 2) := by decide +kernel
theorem dX2_answerList_60 : decode cX2_answerList 60 = .ok (.getfield 75, 3) := by decide +kernel
theorem dX2_answerList_63 : decode cX2_answerList 63 = .ok (.iload 5, 2) := by decide +kernel
theorem dX2_answerList_65 : decode cX2_answerList 65 = .ok (.iload 7, 2) := by decide +kernel
theorem dX2_answerList_67 : decode cX2_answerList 67 = .ok (.invokestatic 78, 3) := by decide +kernel
theorem dX2_answerList_70 : decode cX2_answerList 70 = .ok (.laload, 1) := by decide +kernel
theorem dX2_answerList_71 : decode cX2_answerList 71 = .ok (.lcmp, 1) := by decide +kernel
theorem dX2_answerList_72 : decode cX2_answerList 72 = .ok (.ifCond .ne 6, 3) := by decide +kernel
theorem dX2_answerList_75 : decode cX2_answerList 75 = .ok (.goto 36, 3) := by decide +kernel
theorem dX2_answerList_78 : decode cX2_answerList 78 = .ok (.iload 5, 2) := by decide +kernel
theorem dX2_answerList_80 : decode cX2_answerList 80 = .ok (.iconst 3, 1) := by decide +kernel
theorem dX2_answerList_81 : decode cX2_answerList 81 = .ok (.if_icmp .ne 21, 3) := by decide +kernel
theorem dX2_answerList_84 : decode cX2_answerList 84 = .ok (.aload_n 0, 1) := by decide +kernel
theorem dX2_answerList_85 : decode cX2_answerList 85 = .ok (.iload_n 1, 1) := by decide +kernel
theorem dX2_answerList_86 : decode cX2_answerList 86 = .ok (.iconst 2, 1) := by decide +kernel
theorem dX2_answerList_87 : decode cX2_answerList 87 = .ok (.iload 7, 2) := by decide +kernel
theorem dX2_answerList_89 : decode cX2_answerList 89 = .ok (.aload 4, 2) := by decide +kernel
theorem dX2_answerList_91 : decode cX2_answerList 91 = .ok (.iload 7, 2) := by decide +kernel
theorem dX2_answerList_93 : decode cX2_answerList 93 = .ok (.invokevirtual 160, 3) := by decide +kernel
theorem dX2_answerList_96 : decode cX2_answerList 96 = .ok (.invokevirtual 163, 3) := by decide +kernel
theorem dX2_answerList_99 : decode cX2_answerList 99 = .ok (.goto 12, 3) := by decide +kernel
theorem dX2_answerList_102 : decode cX2_answerList 102 = .ok (.aload_n 0, 1) := by decide +kernel
theorem dX2_answerList_103 : decode cX2_answerList 103 = .ok (.iload_n 1, 1) := by decide +kernel
theorem dX2_answerList_104 : decode cX2_answerList 104 = .ok (.iload 5, 2) := by decide +kernel
theorem dX2_answerList_106 : decode cX2_answerList 106 = .ok (.iload 7, 2) := by decide +kernel
theorem dX2_answerList_108 : decode cX2_answerList 108 = .ok (.invokevirtual 156, 3) := by decide +kernel
theorem dX2_answerList_111 : decode cX2_answerList 111 = .ok (.iinc 6 1, 3) := by decide +kernel
theorem dX2_answerList_114 : decode cX2_answerList 114 = .ok (.goto (-86), 3) := by decide +kernel
theorem dX2_answerList_117 : decode cX2_answerList 117 = .ok (.return_, 1) := by decide +kernel
set_option maxRecDepth 20000 in
theorem ggX2_answerGive_X1_maskOfLeaf : GoodIn wsX2_answerGive wsX1_maskOfLeaf := goodIn_r _ [8, 9, 10, 11, 7, 12, 13, 94, 95, 96, 97, 98] (by decide +kernel) (by decide +kernel)
set_option maxRecDepth 20000 in
theorem gX2_answerGive_X1_maskOfLeaf : GoodIn wsX2_answerGive (wsV RX2 160 RX1 yX1_maskOfLeaf wsX1_maskOfLeaf) := goodIn_app (goodIn_of _ (by decide +kernel)) ggX2_answerGive_X1_maskOfLeaf
set_option maxRecDepth 20000 in
theorem ggX2_answerGive_X2_maskOfKnown : GoodIn wsX2_answerGive wsX2_maskOfKnown := goodIn_r _ [18, 1, 2, 3, 19, 20, 21, 22, 23, 24, 25, 26, 27, 28, 29, 30, 7, 31, 13, 32, 33, 79, 80, 81, 82, 83, 84, 85, 86, 87, 88, 89, 90, 91, 92, 93, 94, 95, 96, 97, 98] (by decide +kernel) (by decide +kernel)
set_option maxRecDepth 20000 in
theorem gX2_answerGive_X2_maskOfKnown : GoodIn wsX2_answerGive (wsV RX2 167 RX2 yX2_maskOfKnown wsX2_maskOfKnown) := goodIn_app (goodIn_of _ (by decide +kernel)) ggX2_answerGive_X2_maskOfKnown
set_option maxRecDepth 20000 in
theorem ggX2_answerGive_X2_sendEntries : GoodIn wsX2_answerGive wsX2_sendEntries := goodIn_r _ [37, 1, 3, 38, 39, 40, 17, 41, 42, 43, 44, 45, 46, 47, 48, 49, 50, 51, 52, 53, 54, 55, 56, 57, 25, 58, 59, 60, 61, 62, 27, 63, 64, 65, 66, 67, 68, 69, 70, 71, 72, 73, 74, 75, 76, 77, 78, 23, 24, 26, 79, 80, 81, 82, 83, 84, 85, 86, 87, 88, 89, 90, 91, 92, 93, 94, 95, 96, 97, 98] (by decide +kernel) (by decide +kernel)
set_option maxRecDepth 20000 in
theorem gX2_answerGive_X2_sendEntries : GoodIn wsX2_answerGive (wsV RX2 163 RX2 yX2_sendEntries wsX2_sendEntries) := goodIn_app (goodIn_of _ (by decide +kernel)) ggX2_answerGive_X2_sendEntries
theorem dX2_answerGive_0 : decode cX2_answerGive 0 = .ok (.aload_n 0, 1) := by decide +kernel
theorem dX2_answerGive_1 : decode cX2_answerGive 1 = .ok (.getfield 17, 3) := by decide +kernel
theorem dX2_answerGive_4 : decode cX2_answerGive 4 = .ok (.iload_n 1, 1) := by decide +kernel
theorem dX2_answerGive_5 : decode cX2_answerGive 5 = .ok (.aaload, 1) := by decide +kernel
theorem dX2_answerGive_6 : decode cX2_answerGive 6 = .ok (.astore_n 3, 1) := by decide +kernel
theorem dX2_answerGive_7 : decode cX2_answerGive 7 = .ok (.aload_n 3, 1) := by decide +kernel
theorem dX2_answerGive_8 : decode cX2_answerGive 8 = .ok (.getfield 115, 3) := by decide +kernel
theorem dX2_answerGive_11 : decode cX2_answerGive 11 = .ok (.iload_n 2, 1) := by decide +kernel
theorem dX2_answerGive_12 : decode cX2_answerGive 12 = .ok (.iaload, 1) := by decide +kernel
theorem dX2_answerGive_13 : decode cX2_answerGive 13 = .ok (.istore 4, 2) := by decide +kernel
theorem dX2_answerGive_15 : decode cX2_answerGive 15 = .ok (.aload_n 0, 1) := by decide +kernel
theorem dX2_answerGive_16 : decode cX2_answerGive 16 = .ok (.getfield 11, 3) := by decide +kernel
theorem dX2_answerGive_19 : decode cX2_answerGive 19 = .ok (.iload_n 1, 1) := by decide +kernel
theorem dX2_answerGive_20 : decode cX2_answerGive 20 = .ok (.aaload, 1) := by decide +kernel
theorem dX2_answerGive_21 : decode cX2_answerGive 21 = .ok (.iload 4, 2) := by decide +kernel
theorem dX2_answerGive_23 : decode cX2_answerGive 23 = .ok (.invokevirtual 160, 3) := by decide +kernel
theorem dX2_answerGive_26 : decode cX2_answerGive 26 = .ok (.aload_n 0, 1) := by decide +kernel
theorem dX2_answerGive_27 : decode cX2_answerGive 27 = .ok (.iload_n 1, 1) := by decide +kernel
theorem dX2_answerGive_28 : decode cX2_answerGive 28 = .ok (.iload_n 2, 1) := by decide +kernel
theorem dX2_answerGive_29 : decode cX2_answerGive 29 = .ok (.invokevirtual 167, 3) := by decide +kernel
theorem dX2_answerGive_32 : decode cX2_answerGive 32 = .ok (.iconst (-1), 1) := by decide +kernel
theorem dX2_answerGive_33 : decode cX2_answerGive 33 = .ok (.ixor, 1) := by decide +kernel
theorem dX2_answerGive_34 : decode cX2_answerGive 34 = .ok (.iand, 1) := by decide +kernel
theorem dX2_answerGive_35 : decode cX2_answerGive 35 = .ok (.istore 5, 2) := by decide +kernel
theorem dX2_answerGive_37 : decode cX2_answerGive 37 = .ok (.iload 5, 2) := by decide +kernel
theorem dX2_answerGive_39 : decode cX2_answerGive 39 = .ok (.ifCond .eq 13, 3) := by decide +kernel
theorem dX2_answerGive_42 : decode cX2_answerGive 42 = .ok (.aload_n 0, 1) := by decide +kernel
theorem dX2_answerGive_43 : decode cX2_answerGive 43 = .ok (.iload_n 1, 1) := by decide +kernel
theorem dX2_answerGive_44 : decode cX2_answerGive 44 = .ok (.iconst 3, 1) := by decide +kernel
theorem dX2_answerGive_45 : decode cX2_answerGive 45 = .ok (.iload 4, 2) := by decide +kernel
theorem dX2_answerGive_47 : decode cX2_answerGive 47 = .ok (.iload 5, 2) := by decide +kernel
theorem dX2_answerGive_49 : decode cX2_answerGive 49 = .ok (.invokevirtual 163, 3) := by decide +kernel
theorem dX2_answerGive_52 : decode cX2_answerGive 52 = .ok (.return_, 1) := by decide +kernel
set_option maxRecDepth 20000 in
theorem ggX2_maskOfKnown_X0_hasEntry : GoodIn wsX2_maskOfKnown wsX0_hasEntry := goodIn_r _ [11, 12, 26, 27, 28, 29, 30, 31, 32, 33, 34, 35] (by decide +kernel) (by decide +kernel)
set_option maxRecDepth 20000 in
theorem gX2_maskOfKnown_X0_hasEntry : GoodIn wsX2_maskOfKnown (wsV RX2 170 RX0 yX0_hasEntry wsX0_hasEntry) := goodIn_app (goodIn_of _ (by decide +kernel)) ggX2_maskOfKnown_X0_hasEntry
set_option maxRecDepth 20000 in
theorem ggX2_maskOfKnown_X1_hasJustSo : GoodIn wsX2_maskOfKnown wsX1_hasJustSo := goodIn_r _ [17, 18, 19, 20, 36, 37, 38, 39, 40] (by decide +kernel) (by decide +kernel)
set_option maxRecDepth 20000 in
theorem gX2_maskOfKnown_X1_hasJustSo : GoodIn wsX2_maskOfKnown (wsV RX2 137 RX1 yX1_hasJustSo wsX1_hasJustSo) := goodIn_app (goodIn_of _ (by decide +kernel)) ggX2_maskOfKnown_X1_hasJustSo
theorem dX2_maskOfKnown_0 : decode cX2_maskOfKnown 0 = .ok (.aload_n 0, 1) := by decide +kernel
theorem dX2_maskOfKnown_1 : decode cX2_maskOfKnown 1 = .ok (.getfield 17, 3) := by decide +kernel
theorem dX2_maskOfKnown_4 : decode cX2_maskOfKnown 4 = .ok (.iload_n 1, 1) := by decide +kernel
theorem dX2_maskOfKnown_5 : decode cX2_maskOfKnown 5 = .ok (.aaload, 1) := by decide +kernel
theorem dX2_maskOfKnown_6 : decode cX2_maskOfKnown 6 = .ok (.astore_n 3, 1) := by decide +kernel
theorem dX2_maskOfKnown_7 : decode cX2_maskOfKnown 7 = .ok (.iconst 0, 1) := by decide +kernel
theorem dX2_maskOfKnown_8 : decode cX2_maskOfKnown 8 = .ok (.istore 4, 2) := by decide +kernel
theorem dX2_maskOfKnown_10 : decode cX2_maskOfKnown 10 = .ok (.iconst 0, 1) := by decide +kernel
theorem dX2_maskOfKnown_11 : decode cX2_maskOfKnown 11 = .ok (.istore 5, 2) := by decide +kernel
theorem dX2_maskOfKnown_13 : decode cX2_maskOfKnown 13 = .ok (.iload 5, 2) := by decide +kernel
theorem dX2_maskOfKnown_15 : decode cX2_maskOfKnown 15 = .ok (.iconst 4, 1) := by decide +kernel
theorem dX2_maskOfKnown_16 : decode cX2_maskOfKnown 16 = .ok (.if_icmp .ge 84, 3) := by decide +kernel
theorem dX2_maskOfKnown_19 : decode cX2_maskOfKnown 19 = .ok (.aload_n 3, 1) := by decide +kernel
theorem dX2_maskOfKnown_20 : decode cX2_maskOfKnown 20 = .ok (.getfield 115, 3) := by decide +kernel
theorem dX2_maskOfKnown_23 : decode cX2_maskOfKnown 23 = .ok (.iload_n 2, 1) := by decide +kernel
theorem dX2_maskOfKnown_24 : decode cX2_maskOfKnown 24 = .ok (.iaload, 1) := by decide +kernel
theorem dX2_maskOfKnown_25 : decode cX2_maskOfKnown 25 = .ok (.iconst 4, 1) := by decide +kernel
theorem dX2_maskOfKnown_26 : decode cX2_maskOfKnown 26 = .ok (.imul, 1) := by decide +kernel
theorem dX2_maskOfKnown_27 : decode cX2_maskOfKnown 27 = .ok (.iload 5, 2) := by decide +kernel
theorem dX2_maskOfKnown_29 : decode cX2_maskOfKnown 29 = .ok (.iadd, 1) := by decide +kernel
theorem dX2_maskOfKnown_30 : decode cX2_maskOfKnown 30 = .ok (.istore 6, 2) := by decide +kernel
theorem dX2_maskOfKnown_32 : decode cX2_maskOfKnown 32 = .ok (.iload_n 2, 1) := by decide +kernel
theorem dX2_maskOfKnown_33 : decode cX2_maskOfKnown 33 = .ok (.iconst 4, 1) := by decide +kernel
theorem dX2_maskOfKnown_34 : decode cX2_maskOfKnown 34 = .ok (.imul, 1) := by decide +kernel
theorem dX2_maskOfKnown_35 : decode cX2_maskOfKnown 35 = .ok (.iload 5, 2) := by decide +kernel
theorem dX2_maskOfKnown_37 : decode cX2_maskOfKnown 37 = .ok (.iadd, 1) := by decide +kernel
theorem dX2_maskOfKnown_38 : decode cX2_maskOfKnown 38 = .ok (.istore 7, 2) := by decide +kernel
theorem dX2_maskOfKnown_40 : decode cX2_maskOfKnown 40 = .ok (.aload_n 3, 1) := by decide +kernel
theorem dX2_maskOfKnown_41 : decode cX2_maskOfKnown 41 = .ok (.iload_n 2, 1) := by decide +kernel
theorem dX2_maskOfKnown_42 : decode cX2_maskOfKnown 42 = .ok (.iload 5, 2) := by decide +kernel
theorem dX2_maskOfKnown_44 : decode cX2_maskOfKnown 44 = .ok (.invokevirtual 170, 3) := by decide +kernel
theorem dX2_maskOfKnown_47 : decode cX2_maskOfKnown 47 = .ok (.ifCond .eq 47, 3) := by decide +kernel
theorem dX2_maskOfKnown_50 : decode cX2_maskOfKnown 50 = .ok (.aload_n 0, 1) := by decide +kernel
theorem dX2_maskOfKnown_51 : decode cX2_maskOfKnown 51 = .ok (.getfield 11, 3) := by decide +kernel
theorem dX2_maskOfKnown_54 : decode cX2_maskOfKnown 54 = .ok (.iload_n 1, 1) := by decide +kernel
theorem dX2_maskOfKnown_55 : decode cX2_maskOfKnown 55 = .ok (.aaload, 1) := by decide +kernel
theorem dX2_maskOfKnown_56 : decode cX2_maskOfKnown 56 = .ok (.iload 6, 2) := by decide +kernel
theorem dX2_maskOfKnown_58 : decode cX2_maskOfKnown 58 = .ok (.aload_n 3, 1) := by decide +kernel
theorem dX2_maskOfKnown_59 : decode cX2_maskOfKnown 59 = .ok (.getfield 174, 3) := by decide +kernel
theorem dX2_maskOfKnown_62 : decode cX2_maskOfKnown 62 = .ok (.iload 7, 2) := by decide +kernel
theorem dX2_maskOfKnown_64 : decode cX2_maskOfKnown 64 = .ok (.laload, 1) := by decide +kernel
theorem dX2_maskOfKnown_65 : decode cX2_maskOfKnown 65 = .ok (.aload_n 3, 1) := by decide +kernel
theorem dX2_maskOfKnown_66 : decode cX2_maskOfKnown 66 = .ok (.getfield 175, 3) := by decide +kernel
theorem dX2_maskOfKnown_69 : decode cX2_maskOfKnown 69 = .ok (.iload 7, 2) := by decide +kernel
theorem dX2_maskOfKnown_71 : decode cX2_maskOfKnown 71 = .ok (.laload, 1) := by decide +kernel
theorem dX2_maskOfKnown_72 : decode cX2_maskOfKnown 72 = .ok (.aload_n 3, 1) := by decide +kernel
theorem dX2_maskOfKnown_73 : decode cX2_maskOfKnown 73 = .ok (.getfield 176, 3) := by decide +kernel
theorem dX2_maskOfKnown_76 : decode cX2_maskOfKnown 76 = .ok (.iload 7, 2) := by decide +kernel
theorem dX2_maskOfKnown_78 : decode cX2_maskOfKnown 78 = .ok (.iaload, 1) := by decide +kernel
theorem dX2_maskOfKnown_79 : decode cX2_maskOfKnown 79 = .ok (.invokevirtual 137, 3) := by decide +kernel
theorem dX2_maskOfKnown_82 : decode cX2_maskOfKnown 82 = .ok (.ifCond .eq 12, 3) := by decide +kernel
theorem dX2_maskOfKnown_85 : decode cX2_maskOfKnown 85 = .ok (.iload 4, 2) := by decide +kernel
theorem dX2_maskOfKnown_87 : decode cX2_maskOfKnown 87 = .ok (.iconst 1, 1) := by decide +kernel
theorem dX2_maskOfKnown_88 : decode cX2_maskOfKnown 88 = .ok (.iload 5, 2) := by decide +kernel
theorem dX2_maskOfKnown_90 : decode cX2_maskOfKnown 90 = .ok (.ishl, 1) := by decide +kernel
theorem dX2_maskOfKnown_91 : decode cX2_maskOfKnown 91 = .ok (.ior, 1) := by decide +kernel
theorem dX2_maskOfKnown_92 : decode cX2_maskOfKnown 92 = .ok (.istore 4, 2) := by decide +kernel
theorem dX2_maskOfKnown_94 : decode cX2_maskOfKnown 94 = .ok (.iinc 5 1, 3) := by decide +kernel
theorem dX2_maskOfKnown_97 : decode cX2_maskOfKnown 97 = .ok (.goto (-84), 3) := by decide +kernel
theorem dX2_maskOfKnown_100 : decode cX2_maskOfKnown 100 = .ok (.iload 4, 2) := by decide +kernel
theorem dX2_maskOfKnown_102 : decode cX2_maskOfKnown 102 = .ok (.ireturn, 1) := by decide +kernel
set_option maxRecDepth 20000 in
theorem ggX2_mergeEntries_X0_hasEntry : GoodIn wsX2_mergeEntries wsX0_hasEntry := goodIn_r _ [11, 12, 68, 69, 70, 71, 72, 73, 74, 75, 76, 77] (by decide +kernel) (by decide +kernel)
set_option maxRecDepth 20000 in
theorem gX2_mergeEntries_X0_hasEntry : GoodIn wsX2_mergeEntries (wsV RX2 170 RX0 yX0_hasEntry wsX0_hasEntry) := goodIn_app (goodIn_of _ (by decide +kernel)) ggX2_mergeEntries_X0_hasEntry
set_option maxRecDepth 20000 in
theorem ggX2_mergeEntries_X1_merge : GoodIn wsX2_mergeEntries wsX1_merge := goodIn_r _ [17, 18, 19, 20, 21, 22, 23, 24, 16, 25, 26, 27, 28, 29, 30, 31, 32, 33, 34, 35, 36, 37, 38, 39, 40, 41, 42, 43, 44, 45, 46, 47, 48, 49, 50, 51, 52, 53, 54, 55, 56, 57, 58, 59, 60, 61, 62, 78, 79, 80, 81, 82] (by decide +kernel) (by decide +kernel)
set_option maxRecDepth 20000 in
theorem gX2_mergeEntries_X1_merge : GoodIn wsX2_mergeEntries (wsV RX2 48 RX1 yX1_merge wsX1_merge) := goodIn_app (goodIn_of _ (by decide +kernel)) ggX2_mergeEntries_X1_merge
theorem dX2_mergeEntries_0 : decode cX2_mergeEntries 0 = .ok (.aload_n 0, 1) := by decide +kernel
theorem dX2_mergeEntries_1 : decode cX2_mergeEntries 1 = .ok (.getfield 17, 3) := by decide +kernel
theorem dX2_mergeEntries_4 : decode cX2_mergeEntries 4 = .ok (.iload_n 1, 1) := by decide +kernel
theorem dX2_mergeEntries_5 : decode cX2_mergeEntries 5 = .ok (.aaload, 1) := by decide +kernel
theorem dX2_mergeEntries_6 : decode cX2_mergeEntries 6 = .ok (.astore_n 3, 1) := by decide +kernel
theorem dX2_mergeEntries_7 : decode cX2_mergeEntries 7 = .ok (.iconst 0, 1) := by decide +kernel
theorem dX2_mergeEntries_8 : decode cX2_mergeEntries 8 = .ok (.istore 4, 2) := by decide +kernel
theorem dX2_mergeEntries_10 : decode cX2_mergeEntries 10 = .ok (.iload 4, 2) := by decide +kernel
theorem dX2_mergeEntries_12 : decode cX2_mergeEntries 12 = .ok (.iconst 4, 1) := by decide +kernel
theorem dX2_mergeEntries_13 : decode cX2_mergeEntries 13 = .ok (.if_icmp .ge 73, 3) := by decide +kernel
theorem dX2_mergeEntries_16 : decode cX2_mergeEntries 16 = .ok (.aload_n 3, 1) := by decide +kernel
theorem dX2_mergeEntries_17 : decode cX2_mergeEntries 17 = .ok (.iload_n 2, 1) := by decide +kernel
theorem dX2_mergeEntries_18 : decode cX2_mergeEntries 18 = .ok (.iload 4, 2) := by decide +kernel
theorem dX2_mergeEntries_20 : decode cX2_mergeEntries 20 = .ok (.invokevirtual 170, 3) := by decide +kernel
theorem dX2_mergeEntries_23 : decode cX2_mergeEntries 23 = .ok (.ifCond .eq 57, 3) := by decide +kernel
theorem dX2_mergeEntries_26 : decode cX2_mergeEntries 26 = .ok (.iload_n 2, 1) := by decide +kernel
theorem dX2_mergeEntries_27 : decode cX2_mergeEntries 27 = .ok (.iconst 4, 1) := by decide +kernel
theorem dX2_mergeEntries_28 : decode cX2_mergeEntries 28 = .ok (.imul, 1) := by decide +kernel
theorem dX2_mergeEntries_29 : decode cX2_mergeEntries 29 = .ok (.iload 4, 2) := by decide +kernel
theorem dX2_mergeEntries_31 : decode cX2_mergeEntries 31 = .ok (.iadd, 1) := by decide +kernel
theorem dX2_mergeEntries_32 : decode cX2_mergeEntries 32 = .ok (.istore 5, 2) := by decide +kernel
theorem dX2_mergeEntries_34 : decode cX2_mergeEntries 34 = .ok (.aload_n 3, 1) := by decide +kernel
theorem dX2_mergeEntries_35 : decode cX2_mergeEntries 35 = .ok (.getfield 115, 3) := by decide +kernel
theorem dX2_mergeEntries_38 : decode cX2_mergeEntries 38 = .ok (.iload_n 2, 1) := by decide +kernel
theorem dX2_mergeEntries_39 : decode cX2_mergeEntries 39 = .ok (.iaload, 1) := by decide +kernel
theorem dX2_mergeEntries_40 : decode cX2_mergeEntries 40 = .ok (.iconst 4, 1) := by decide +kernel
theorem dX2_mergeEntries_41 : decode cX2_mergeEntries 41 = .ok (.imul, 1) := by decide +kernel
theorem dX2_mergeEntries_42 : decode cX2_mergeEntries 42 = .ok (.iload 4, 2) := by decide +kernel
theorem dX2_mergeEntries_44 : decode cX2_mergeEntries 44 = .ok (.iadd, 1) := by decide +kernel
theorem dX2_mergeEntries_45 : decode cX2_mergeEntries 45 = .ok (.istore 6, 2) := by decide +kernel
theorem dX2_mergeEntries_47 : decode cX2_mergeEntries 47 = .ok (.aload_n 0, 1) := by decide +kernel
theorem dX2_mergeEntries_48 : decode cX2_mergeEntries 48 = .ok (.getfield 11, 3) := by decide +kernel
theorem dX2_mergeEntries_51 : decode cX2_mergeEntries 51 = .ok (.iload_n 1, 1) := by decide +kernel
theorem dX2_mergeEntries_52 : decode cX2_mergeEntries 52 = .ok (.aaload, 1) := by decide +kernel
theorem dX2_mergeEntries_53 : decode cX2_mergeEntries 53 = .ok (.iload 6, 2) := by decide +kernel
theorem dX2_mergeEntries_55 : decode cX2_mergeEntries 55 = .ok (.aload_n 3, 1) := by decide +kernel
theorem dX2_mergeEntries_56 : decode cX2_mergeEntries 56 = .ok (.getfield 174, 3) := by decide +kernel
theorem dX2_mergeEntries_59 : decode cX2_mergeEntries 59 = .ok (.iload 5, 2) := by decide +kernel
theorem dX2_mergeEntries_61 : decode cX2_mergeEntries 61 = .ok (.laload, 1) := by decide +kernel
theorem dX2_mergeEntries_62 : decode cX2_mergeEntries 62 = .ok (.aload_n 3, 1) := by decide +kernel
theorem dX2_mergeEntries_63 : decode cX2_mergeEntries 63 = .ok (.getfield 175, 3) := by decide +kernel
theorem dX2_mergeEntries_66 : decode cX2_mergeEntries 66 = .ok (.iload 5, 2) := by decide +kernel
theorem dX2_mergeEntries_68 : decode cX2_mergeEntries 68 = .ok (.laload, 1) := by decide +kernel
theorem dX2_mergeEntries_69 : decode cX2_mergeEntries 69 = .ok (.aload_n 3, 1) := by decide +kernel
theorem dX2_mergeEntries_70 : decode cX2_mergeEntries 70 = .ok (.getfield 176, 3) := by decide +kernel
theorem dX2_mergeEntries_73 : decode cX2_mergeEntries 73 = .ok (.iload 5, 2) := by decide +kernel
theorem dX2_mergeEntries_75 : decode cX2_mergeEntries 75 = .ok (.iaload, 1) := by decide +kernel
theorem dX2_mergeEntries_76 : decode cX2_mergeEntries 76 = .ok (.invokevirtual 48, 3) := by decide +kernel
theorem dX2_mergeEntries_79 : decode cX2_mergeEntries 79 = .ok (.pop, 1) := by decide +kernel
theorem dX2_mergeEntries_80 : decode cX2_mergeEntries 80 = .ok (.iinc 4 1, 3) := by decide +kernel
theorem dX2_mergeEntries_83 : decode cX2_mergeEntries 83 = .ok (.goto (-73), 3) := by decide +kernel
theorem dX2_mergeEntries_86 : decode cX2_mergeEntries 86 = .ok (.return_, 1) := by decide +kernel
set_option maxRecDepth 20000 in
theorem ggX2_sendList_X2_send : GoodIn wsX2_sendList wsX2_send := goodIn_r _ [9, 10, 11, 1, 12, 13, 14, 15, 16, 17, 18, 19, 20, 21, 8, 22, 23, 24, 25, 26, 27, 28, 29, 30, 31, 32, 33, 34, 35, 36, 37, 44, 45, 46, 47, 48, 49, 50, 51, 52, 53, 54, 55, 56, 57, 58] (by decide +kernel) (by decide +kernel)
set_option maxRecDepth 20000 in
theorem gX2_sendList_X2_send : GoodIn wsX2_sendList (wsV RX2 82 RX2 yX2_send wsX2_send) := goodIn_app (goodIn_of _ (by decide +kernel)) ggX2_sendList_X2_send
set_option maxRecDepth 20000 in
theorem ggX2_sendList_X2_treePlace : GoodIn wsX2_sendList wsX2_treePlace := goodIn_r _ [40, 41, 42, 8, 43] (by decide +kernel) (by decide +kernel)
set_option maxRecDepth 20000 in
theorem gX2_sendList_X2_treePlace : GoodIn wsX2_sendList (va_wsS RX2 78 yX2_treePlace wsX2_treePlace) := goodIn_app (goodIn_of _ (by decide +kernel)) ggX2_sendList_X2_treePlace
set_option maxRecDepth 20000 in
theorem ggX2_sendList_X2_other : GoodIn wsX2_sendList wsX2_other := goodIn_r _ [22] (by decide +kernel) (by decide +kernel)
set_option maxRecDepth 20000 in
theorem gX2_sendList_X2_other : GoodIn wsX2_sendList (va_wsS RX2 86 yX2_other wsX2_other) := goodIn_app (goodIn_of _ (by decide +kernel)) ggX2_sendList_X2_other
theorem dX2_sendList_0 : decode cX2_sendList 0 = .ok (.aload_n 0, 1) := by decide +kernel
theorem dX2_sendList_1 : decode cX2_sendList 1 = .ok (.iload_n 1, 1) := by decide +kernel
theorem dX2_sendList_2 : decode cX2_sendList 2 = .ok (.iconst 1, 1) := by decide +kernel
theorem dX2_sendList_3 : decode cX2_sendList 3 = .ok (.iload_n 2, 1) := by decide +kernel
theorem dX2_sendList_4 : decode cX2_sendList 4 = .ok (.iload_n 3, 1) := by decide +kernel
theorem dX2_sendList_5 : decode cX2_sendList 5 = .ok (.iconst 0, 1) := by decide +kernel
theorem dX2_sendList_6 : decode cX2_sendList 6 = .ok (.invokevirtual 82, 3) := by decide +kernel
theorem dX2_sendList_9 : decode cX2_sendList 9 = .ok (.istore 4, 2) := by decide +kernel
theorem dX2_sendList_11 : decode cX2_sendList 11 = .ok (.iload 4, 2) := by decide +kernel
theorem dX2_sendList_13 : decode cX2_sendList 13 = .ok (.iconst (-1), 1) := by decide +kernel
theorem dX2_sendList_14 : decode cX2_sendList 14 = .ok (.if_icmp .ne 4, 3) := by decide +kernel
theorem dX2_sendList_17 : decode cX2_sendList 17 = .ok (.return_, 1) := by decide +kernel
theorem dX2_sendList_18 : decode cX2_sendList 18 = .ok (.iload_n 2, 1) := by decide +kernel
theorem dX2_sendList_19 : decode cX2_sendList 19 = .ok (.iconst 1, 1) := by decide +kernel
theorem dX2_sendList_20 : decode cX2_sendList 20 = .ok (.iadd, 1) := by decide +kernel
theorem dX2_sendList_21 : decode cX2_sendList 21 = .ok (.iload_n 3, 1) := by decide +kernel
theorem dX2_sendList_22 : decode cX2_sendList 22 = .ok (.iconst 4, 1) := by decide +kernel
theorem dX2_sendList_23 : decode cX2_sendList 23 = .ok (.imul, 1) := by decide +kernel
theorem dX2_sendList_24 : decode cX2_sendList 24 = .ok (.invokestatic 78, 3) := by decide +kernel
theorem dX2_sendList_27 : decode cX2_sendList 27 = .ok (.istore 5, 2) := by decide +kernel
theorem dX2_sendList_29 : decode cX2_sendList 29 = .ok (.iconst 0, 1) := by decide +kernel
theorem dX2_sendList_30 : decode cX2_sendList 30 = .ok (.istore 6, 2) := by decide +kernel
theorem dX2_sendList_32 : decode cX2_sendList 32 = .ok (.iload 6, 2) := by decide +kernel
theorem dX2_sendList_34 : decode cX2_sendList 34 = .ok (.iconst 4, 1) := by decide +kernel
theorem dX2_sendList_35 : decode cX2_sendList 35 = .ok (.if_icmp .ge 44, 3) := by decide +kernel
theorem dX2_sendList_38 : decode cX2_sendList 38 = .ok (.aload_n 0, 1) := by decide +kernel
theorem dX2_sendList_39 : decode cX2_sendList 39 = .ok (.getfield 17, 3) := by decide +kernel
theorem dX2_sendList_42 : decode cX2_sendList 42 = .ok (.iload_n 1, 1) := by decide +kernel
theorem dX2_sendList_43 : decode cX2_sendList 43 = .ok (.invokestatic 86, 3) := by decide +kernel
theorem dX2_sendList_46 : decode cX2_sendList 46 = .ok (.aaload, 1) := by decide +kernel
theorem dX2_sendList_47 : decode cX2_sendList 47 = .ok (.getfield 89, 3) := by decide +kernel
theorem dX2_sendList_50 : decode cX2_sendList 50 = .ok (.iload 4, 2) := by decide +kernel
theorem dX2_sendList_52 : decode cX2_sendList 52 = .ok (.iconst 4, 1) := by decide +kernel
theorem dX2_sendList_53 : decode cX2_sendList 53 = .ok (.imul, 1) := by decide +kernel
theorem dX2_sendList_54 : decode cX2_sendList 54 = .ok (.iload 6, 2) := by decide +kernel
theorem dX2_sendList_56 : decode cX2_sendList 56 = .ok (.iadd, 1) := by decide +kernel
theorem dX2_sendList_57 : decode cX2_sendList 57 = .ok (.aload_n 0, 1) := by decide +kernel
theorem dX2_sendList_58 : decode cX2_sendList 58 = .ok (.getfield 11, 3) := by decide +kernel
theorem dX2_sendList_61 : decode cX2_sendList 61 = .ok (.iload_n 1, 1) := by decide +kernel
theorem dX2_sendList_62 : decode cX2_sendList 62 = .ok (.aaload, 1) := by decide +kernel
theorem dX2_sendList_63 : decode cX2_sendList 63 = .ok (.getfield 75, 3) := by decide +kernel
theorem dX2_sendList_66 : decode cX2_sendList 66 = .ok (.iload 5, 2) := by decide +kernel
theorem dX2_sendList_68 : decode cX2_sendList 68 = .ok (.iload 6, 2) := by decide +kernel
theorem dX2_sendList_70 : decode cX2_sendList 70 = .ok (.iadd, 1) := by decide +kernel
theorem dX2_sendList_71 : decode cX2_sendList 71 = .ok (.laload, 1) := by decide +kernel
theorem dX2_sendList_72 : decode cX2_sendList 72 = .ok (.lastore, 1) := by decide +kernel
theorem dX2_sendList_73 : decode cX2_sendList 73 = .ok (.iinc 6 1, 3) := by decide +kernel
theorem dX2_sendList_76 : decode cX2_sendList 76 = .ok (.goto (-44), 3) := by decide +kernel
theorem dX2_sendList_79 : decode cX2_sendList 79 = .ok (.return_, 1) := by decide +kernel
set_option maxRecDepth 20000 in
theorem ggX2_sendEntries_X2_send : GoodIn wsX2_sendEntries wsX2_send := goodIn_r _ [7, 8, 9, 1, 10, 11, 12, 13, 14, 15, 16, 17, 18, 19, 6, 20, 21, 22, 23, 24, 25, 26, 27, 28, 29, 30, 31, 32, 33, 34, 35, 50, 51, 52, 53, 54, 55, 56, 57, 58, 59, 60, 61, 62, 63, 64] (by decide +kernel) (by decide +kernel)
set_option maxRecDepth 20000 in
theorem gX2_sendEntries_X2_send : GoodIn wsX2_sendEntries (wsV RX2 82 RX2 yX2_send wsX2_send) := goodIn_app (goodIn_of _ (by decide +kernel)) ggX2_sendEntries_X2_send
set_option maxRecDepth 20000 in
theorem ggX2_sendEntries_X2_other : GoodIn wsX2_sendEntries wsX2_other := goodIn_r _ [20] (by decide +kernel) (by decide +kernel)
set_option maxRecDepth 20000 in
theorem gX2_sendEntries_X2_other : GoodIn wsX2_sendEntries (va_wsS RX2 86 yX2_other wsX2_other) := goodIn_app (goodIn_of _ (by decide +kernel)) ggX2_sendEntries_X2_other
set_option maxRecDepth 20000 in
theorem ggX2_sendEntries_X0_copyEntries : GoodIn wsX2_sendEntries wsX0_copyEntries := goodIn_r _ [39, 29, 40, 41, 42, 43, 44, 45, 46, 47, 48, 24, 49, 30, 55, 56, 57, 58, 59, 60, 61, 62, 63, 64, 65, 66, 67, 68, 69] (by decide +kernel) (by decide +kernel)
set_option maxRecDepth 20000 in
theorem gX2_sendEntries_X0_copyEntries : GoodIn wsX2_sendEntries (wsV RX2 177 RX0 yX0_copyEntries wsX0_copyEntries) := goodIn_app (goodIn_of _ (by decide +kernel)) ggX2_sendEntries_X0_copyEntries
theorem dX2_sendEntries_0 : decode cX2_sendEntries 0 = .ok (.aload_n 0, 1) := by decide +kernel
theorem dX2_sendEntries_1 : decode cX2_sendEntries 1 = .ok (.iload_n 1, 1) := by decide +kernel
theorem dX2_sendEntries_2 : decode cX2_sendEntries 2 = .ok (.iload_n 2, 1) := by decide +kernel
theorem dX2_sendEntries_3 : decode cX2_sendEntries 3 = .ok (.iconst 3, 1) := by decide +kernel
theorem dX2_sendEntries_4 : decode cX2_sendEntries 4 = .ok (.iload_n 3, 1) := by decide +kernel
theorem dX2_sendEntries_5 : decode cX2_sendEntries 5 = .ok (.iload 4, 2) := by decide +kernel
theorem dX2_sendEntries_7 : decode cX2_sendEntries 7 = .ok (.invokevirtual 82, 3) := by decide +kernel
theorem dX2_sendEntries_10 : decode cX2_sendEntries 10 = .ok (.istore 5, 2) := by decide +kernel
theorem dX2_sendEntries_12 : decode cX2_sendEntries 12 = .ok (.iload 5, 2) := by decide +kernel
theorem dX2_sendEntries_14 : decode cX2_sendEntries 14 = .ok (.iconst (-1), 1) := by decide +kernel
theorem dX2_sendEntries_15 : decode cX2_sendEntries 15 = .ok (.if_icmp .eq 23, 3) := by decide +kernel
theorem dX2_sendEntries_18 : decode cX2_sendEntries 18 = .ok (.aload_n 0, 1) := by decide +kernel
theorem dX2_sendEntries_19 : decode cX2_sendEntries 19 = .ok (.getfield 17, 3) := by decide +kernel
theorem dX2_sendEntries_22 : decode cX2_sendEntries 22 = .ok (.iload_n 1, 1) := by decide +kernel
theorem dX2_sendEntries_23 : decode cX2_sendEntries 23 = .ok (.invokestatic 86, 3) := by decide +kernel
theorem dX2_sendEntries_26 : decode cX2_sendEntries 26 = .ok (.aaload, 1) := by decide +kernel
theorem dX2_sendEntries_27 : decode cX2_sendEntries 27 = .ok (.iload 5, 2) := by decide +kernel
theorem dX2_sendEntries_29 : decode cX2_sendEntries 29 = .ok (.aload_n 0, 1) := by decide +kernel
theorem dX2_sendEntries_30 : decode cX2_sendEntries 30 = .ok (.getfield 11, 3) := by decide +kernel
theorem dX2_sendEntries_33 : decode cX2_sendEntries 33 = .ok (.iload_n 1, 1) := by decide +kernel
theorem dX2_sendEntries_34 : decode cX2_sendEntries 34 = .ok (.aaload, 1) := by decide +kernel
theorem dX2_sendEntries_35 : decode cX2_sendEntries 35 = .ok (.invokevirtual 177, 3) := by decide +kernel
theorem dX2_sendEntries_38 : decode cX2_sendEntries 38 = .ok (.return_, 1) := by decide +kernel
set_option maxRecDepth 20000 in
theorem ggX2_send_J6_bitCount_0f7a4 : GoodIn wsX2_send wsJ6_bitCount_0f7a4 := goodIn_r _ [8, 9, 10, 11] (by decide +kernel) (by decide +kernel)
set_option maxRecDepth 20000 in
theorem gX2_send_J6_bitCount_0f7a4 : GoodIn wsX2_send (va_wsS RX2 121 yJ6_bitCount_0f7a4 wsJ6_bitCount_0f7a4) := goodIn_app (goodIn_of _ (by decide +kernel)) ggX2_send_J6_bitCount_0f7a4
set_option maxRecDepth 20000 in
theorem ggX2_send_X2_other : GoodIn wsX2_send wsX2_other := goodIn_r _ [15] (by decide +kernel) (by decide +kernel)
set_option maxRecDepth 20000 in
theorem gX2_send_X2_other : GoodIn wsX2_send (va_wsS RX2 86 yX2_other wsX2_other) := goodIn_app (goodIn_of _ (by decide +kernel)) ggX2_send_X2_other
set_option maxRecDepth 20000 in
theorem ggX2_send_X0_add : GoodIn wsX2_send wsX0_add := goodIn_r _ [20, 21, 22, 23, 24, 25, 26, 27, 28, 19, 29, 30, 36, 37, 38, 39, 40, 41, 42, 43, 44, 45] (by decide +kernel) (by decide +kernel)
set_option maxRecDepth 20000 in
theorem gX2_send_X0_add : GoodIn wsX2_send (wsV RX2 181 RX0 yX0_add wsX0_add) := goodIn_app (goodIn_of _ (by decide +kernel)) ggX2_send_X0_add
theorem dX2_send_0 : decode cX2_send 0 = .ok (.aload_n 0, 1) := by decide +kernel
theorem dX2_send_1 : decode cX2_send 1 = .ok (.dup, 1) := by decide +kernel
theorem dX2_send_2 : decode cX2_send 2 = .ok (.getfield 23, 3) := by decide +kernel
theorem dX2_send_5 : decode cX2_send 5 = .ok (.iconst 1, 1) := by decide +kernel
theorem dX2_send_6 : decode cX2_send 6 = .ok (.iadd, 1) := by decide +kernel
theorem dX2_send_7 : decode cX2_send 7 = .ok (.putfield 23, 3) := by decide +kernel
theorem dX2_send_10 : decode cX2_send 10 = .ok (.aload_n 0, 1) := by decide +kernel
theorem dX2_send_11 : decode cX2_send 11 = .ok (.dup, 1) := by decide +kernel
theorem dX2_send_12 : decode cX2_send 12 = .ok (.getfield 30, 3) := by decide +kernel
theorem dX2_send_15 : decode cX2_send 15 = .ok (.iload 5, 2) := by decide +kernel
theorem dX2_send_17 : decode cX2_send 17 = .ok (.invokestatic 121, 3) := by decide +kernel
theorem dX2_send_20 : decode cX2_send 20 = .ok (.iadd, 1) := by decide +kernel
theorem dX2_send_21 : decode cX2_send 21 = .ok (.putfield 30, 3) := by decide +kernel
theorem dX2_send_24 : decode cX2_send 24 = .ok (.aload_n 0, 1) := by decide +kernel
theorem dX2_send_25 : decode cX2_send 25 = .ok (.getfield 17, 3) := by decide +kernel
theorem dX2_send_28 : decode cX2_send 28 = .ok (.iload_n 1, 1) := by decide +kernel
theorem dX2_send_29 : decode cX2_send 29 = .ok (.invokestatic 86, 3) := by decide +kernel
theorem dX2_send_32 : decode cX2_send 32 = .ok (.aaload, 1) := by decide +kernel
theorem dX2_send_33 : decode cX2_send 33 = .ok (.iload_n 2, 1) := by decide +kernel
theorem dX2_send_34 : decode cX2_send 34 = .ok (.iload_n 3, 1) := by decide +kernel
theorem dX2_send_35 : decode cX2_send 35 = .ok (.iload 4, 2) := by decide +kernel
theorem dX2_send_37 : decode cX2_send 37 = .ok (.iload 5, 2) := by decide +kernel
theorem dX2_send_39 : decode cX2_send 39 = .ok (.invokevirtual 181, 3) := by decide +kernel
theorem dX2_send_42 : decode cX2_send 42 = .ok (.istore 6, 2) := by decide +kernel
theorem dX2_send_44 : decode cX2_send 44 = .ok (.iload 6, 2) := by decide +kernel
theorem dX2_send_46 : decode cX2_send 46 = .ok (.iconst (-1), 1) := by decide +kernel
theorem dX2_send_47 : decode cX2_send 47 = .ok (.if_icmp .ne 13, 3) := by decide +kernel
theorem dX2_send_50 : decode cX2_send 50 = .ok (.aload_n 0, 1) := by decide +kernel
theorem dX2_send_51 : decode cX2_send 51 = .ok (.dup, 1) := by decide +kernel
theorem dX2_send_52 : decode cX2_send 52 = .ok (.getfield 27, 3) := by decide +kernel
theorem dX2_send_55 : decode cX2_send 55 = .ok (.iconst 1, 1) := by decide +kernel
theorem dX2_send_56 : decode cX2_send 56 = .ok (.iadd, 1) := by decide +kernel
theorem dX2_send_57 : decode cX2_send 57 = .ok (.putfield 27, 3) := by decide +kernel
theorem dX2_send_60 : decode cX2_send 60 = .ok (.iload 6, 2) := by decide +kernel
theorem dX2_send_62 : decode cX2_send 62 = .ok (.ireturn, 1) := by decide +kernel
theorem dX2_other_0 : decode cX2_other 0 = .ok (.iconst 1, 1) := by decide +kernel
theorem dX2_other_1 : decode cX2_other 1 = .ok (.iload_n 0, 1) := by decide +kernel
theorem dX2_other_2 : decode cX2_other 2 = .ok (.isub, 1) := by decide +kernel
theorem dX2_other_3 : decode cX2_other 3 = .ok (.ireturn, 1) := by decide +kernel
theorem dX2_nodesOf_0 : decode cX2_nodesOf 0 = .ok (.iconst 1, 1) := by decide +kernel
theorem dX2_nodesOf_1 : decode cX2_nodesOf 1 = .ok (.iconst 2, 1) := by decide +kernel
theorem dX2_nodesOf_2 : decode cX2_nodesOf 2 = .ok (.iload_n 0, 1) := by decide +kernel
theorem dX2_nodesOf_3 : decode cX2_nodesOf 3 = .ok (.imul, 1) := by decide +kernel
theorem dX2_nodesOf_4 : decode cX2_nodesOf 4 = .ok (.ishl, 1) := by decide +kernel
theorem dX2_nodesOf_5 : decode cX2_nodesOf 5 = .ok (.ireturn, 1) := by decide +kernel
set_option maxRecDepth 20000 in
theorem ggX2_treePlace_X2_nodesOf : GoodIn wsX2_treePlace wsX2_nodesOf := goodIn_r _ [4] (by decide +kernel) (by decide +kernel)
set_option maxRecDepth 20000 in
theorem gX2_treePlace_X2_nodesOf : GoodIn wsX2_treePlace (va_wsS RX2 71 yX2_nodesOf wsX2_nodesOf) := goodIn_app (goodIn_of _ (by decide +kernel)) ggX2_treePlace_X2_nodesOf
theorem dX2_treePlace_0 : decode cX2_treePlace 0 = .ok (.iload_n 0, 1) := by decide +kernel
theorem dX2_treePlace_1 : decode cX2_treePlace 1 = .ok (.invokestatic 71, 3) := by decide +kernel
theorem dX2_treePlace_4 : decode cX2_treePlace 4 = .ok (.iconst 1, 1) := by decide +kernel
theorem dX2_treePlace_5 : decode cX2_treePlace 5 = .ok (.isub, 1) := by decide +kernel
theorem dX2_treePlace_6 : decode cX2_treePlace 6 = .ok (.iconst 3, 1) := by decide +kernel
theorem dX2_treePlace_7 : decode cX2_treePlace 7 = .ok (.idiv, 1) := by decide +kernel
theorem dX2_treePlace_8 : decode cX2_treePlace 8 = .ok (.iload_n 1, 1) := by decide +kernel
theorem dX2_treePlace_9 : decode cX2_treePlace 9 = .ok (.iadd, 1) := by decide +kernel
theorem dX2_treePlace_10 : decode cX2_treePlace 10 = .ok (.ireturn, 1) := by decide +kernel
theorem dX2_checkIndex_0 : decode cX2_checkIndex 0 = .ok (.iload_n 0, 1) := by decide +kernel
theorem dX2_checkIndex_1 : decode cX2_checkIndex 1 = .ok (.ifCond .lt 8, 3) := by decide +kernel
theorem dX2_checkIndex_4 : decode cX2_checkIndex 4 = .ok (.iload_n 0, 1) := by decide +kernel
theorem dX2_checkIndex_5 : decode cX2_checkIndex 5 = .ok (.iload_n 1, 1) := by decide +kernel
theorem dX2_checkIndex_6 : decode cX2_checkIndex 6 = .ok (.if_icmp .lt 13, 3) := by decide +kernel
theorem dX2_checkIndex_9 : decode cX2_checkIndex 9 = .ok (.new 132, 3) := by decide +kernel
theorem dX2_checkIndex_12 : decode cX2_checkIndex 12 = .ok (.dup, 1) := by decide +kernel
theorem dX2_checkIndex_13 : decode cX2_checkIndex 13 = .ok (.ldc 185, 2) := by decide +kernel
theorem dX2_checkIndex_15 : decode cX2_checkIndex 15 = .ok (.invokespecial 136, 3) := by decide +kernel
theorem dX2_checkIndex_18 : decode cX2_checkIndex 18 = .ok (.athrow, 1) := by decide +kernel
theorem dX2_checkIndex_19 : decode cX2_checkIndex 19 = .ok (.return_, 1) := by decide +kernel
theorem dX2_byteAt_0 : decode cX2_byteAt 0 = .ok (.lload_n 0, 1) := by decide +kernel
theorem dX2_byteAt_1 : decode cX2_byteAt 1 = .ok (.bipush 56, 2) := by decide +kernel
theorem dX2_byteAt_3 : decode cX2_byteAt 3 = .ok (.bipush 8, 2) := by decide +kernel
theorem dX2_byteAt_5 : decode cX2_byteAt 5 = .ok (.iload_n 2, 1) := by decide +kernel
theorem dX2_byteAt_6 : decode cX2_byteAt 6 = .ok (.imul, 1) := by decide +kernel
theorem dX2_byteAt_7 : decode cX2_byteAt 7 = .ok (.isub, 1) := by decide +kernel
theorem dX2_byteAt_8 : decode cX2_byteAt 8 = .ok (.lushr, 1) := by decide +kernel
theorem dX2_byteAt_9 : decode cX2_byteAt 9 = .ok (.l2i, 1) := by decide +kernel
theorem dX2_byteAt_10 : decode cX2_byteAt 10 = .ok (.sipush 255, 3) := by decide +kernel
theorem dX2_byteAt_13 : decode cX2_byteAt 13 = .ok (.iand, 1) := by decide +kernel
theorem dX2_byteAt_14 : decode cX2_byteAt 14 = .ok (.ireturn, 1) := by decide +kernel
theorem dX2_highestBytes_0 : decode cX2_highestBytes 0 = .ok (.iload_n 2, 1) := by decide +kernel
theorem dX2_highestBytes_1 : decode cX2_highestBytes 1 = .ok (.ifCond .ne 7, 3) := by decide +kernel
theorem dX2_highestBytes_4 : decode cX2_highestBytes 4 = .ok (.lconst 0, 1) := by decide +kernel
theorem dX2_highestBytes_5 : decode cX2_highestBytes 5 = .ok (.goto 16, 3) := by decide +kernel
theorem dX2_highestBytes_8 : decode cX2_highestBytes 8 = .ok (.lload_n 0, 1) := by decide +kernel
theorem dX2_highestBytes_9 : decode cX2_highestBytes 9 = .ok (.ldc2_w 187, 3) := by decide +kernel
theorem dX2_highestBytes_12 : decode cX2_highestBytes 12 = .ok (.bipush 64, 2) := by decide +kernel
theorem dX2_highestBytes_14 : decode cX2_highestBytes 14 = .ok (.bipush 8, 2) := by decide +kernel
theorem dX2_highestBytes_16 : decode cX2_highestBytes 16 = .ok (.iload_n 2, 1) := by decide +kernel
theorem dX2_highestBytes_17 : decode cX2_highestBytes 17 = .ok (.imul, 1) := by decide +kernel
theorem dX2_highestBytes_18 : decode cX2_highestBytes 18 = .ok (.isub, 1) := by decide +kernel
theorem dX2_highestBytes_19 : decode cX2_highestBytes 19 = .ok (.lshl, 1) := by decide +kernel
theorem dX2_highestBytes_20 : decode cX2_highestBytes 20 = .ok (.land, 1) := by decide +kernel
theorem dX2_highestBytes_21 : decode cX2_highestBytes 21 = .ok (.lreturn, 1) := by decide +kernel
