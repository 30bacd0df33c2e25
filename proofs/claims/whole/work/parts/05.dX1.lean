set_option maxRecDepth 20000 in
theorem ggX1_init_X1_becomeEmpty : GoodIn wsX1_init wsX1_becomeEmpty := goodIn_r _ [14, 5, 6, 8, 15, 16, 17, 18, 13, 19, 9, 20, 21, 22, 23, 24, 25, 26, 27, 28, 29, 30, 31, 32, 33, 34, 35, 36, 37, 38, 39, 40, 41, 42, 43, 44, 45, 46, 47, 48, 49, 50, 51, 52, 53, 54] (by decide +kernel) (by decide +kernel)
set_option maxRecDepth 20000 in
theorem gX1_init_X1_becomeEmpty : GoodIn wsX1_init (wsV RX1 25 RX1 yX1_becomeEmpty wsX1_becomeEmpty) := goodIn_app (goodIn_of _ (by decide +kernel)) ggX1_init_X1_becomeEmpty
theorem dX1_init_0 : decode cX1_init 0 = .ok (.aload_n 0, 1) := by decide +kernel
theorem dX1_init_1 : decode cX1_init 1 = .ok (.invokespecial 3, 3) := by decide +kernel
theorem dX1_init_4 : decode cX1_init 4 = .ok (.aload_n 0, 1) := by decide +kernel
theorem dX1_init_5 : decode cX1_init 5 = .ok (.sipush 256, 3) := by decide +kernel
theorem dX1_init_8 : decode cX1_init 8 = .ok (.newarray .long, 2) := by decide +kernel
theorem dX1_init_10 : decode cX1_init 10 = .ok (.putfield 9, 3) := by decide +kernel
theorem dX1_init_13 : decode cX1_init 13 = .ok (.aload_n 0, 1) := by decide +kernel
theorem dX1_init_14 : decode cX1_init 14 = .ok (.sipush 256, 3) := by decide +kernel
theorem dX1_init_17 : decode cX1_init 17 = .ok (.newarray .long, 2) := by decide +kernel
theorem dX1_init_19 : decode cX1_init 19 = .ok (.putfield 15, 3) := by decide +kernel
theorem dX1_init_22 : decode cX1_init 22 = .ok (.aload_n 0, 1) := by decide +kernel
theorem dX1_init_23 : decode cX1_init 23 = .ok (.sipush 256, 3) := by decide +kernel
theorem dX1_init_26 : decode cX1_init 26 = .ok (.newarray .int, 2) := by decide +kernel
theorem dX1_init_28 : decode cX1_init 28 = .ok (.putfield 18, 3) := by decide +kernel
theorem dX1_init_31 : decode cX1_init 31 = .ok (.aload_n 0, 1) := by decide +kernel
theorem dX1_init_32 : decode cX1_init 32 = .ok (.bipush 85, 2) := by decide +kernel
theorem dX1_init_34 : decode cX1_init 34 = .ok (.newarray .long, 2) := by decide +kernel
theorem dX1_init_36 : decode cX1_init 36 = .ok (.putfield 22, 3) := by decide +kernel
theorem dX1_init_39 : decode cX1_init 39 = .ok (.aload_n 0, 1) := by decide +kernel
theorem dX1_init_40 : decode cX1_init 40 = .ok (.invokevirtual 25, 3) := by decide +kernel
theorem dX1_init_43 : decode cX1_init 43 = .ok (.return_, 1) := by decide +kernel
set_option maxRecDepth 20000 in
theorem ggX1_becomeEmpty_X1_hashEmptyTree : GoodIn wsX1_becomeEmpty wsX1_hashEmptyTree := goodIn_r _ [9, 10, 11, 12, 13, 14, 15, 16, 17, 18, 19, 8, 20, 21, 1, 3, 2, 22, 23, 24, 25, 26, 27, 28, 29, 30, 31, 32, 33, 34, 35, 36, 37, 38, 39, 40, 41, 42, 43, 44, 45] (by decide +kernel) (by decide +kernel)
set_option maxRecDepth 20000 in
theorem gX1_becomeEmpty_X1_hashEmptyTree : GoodIn wsX1_becomeEmpty (wsV RX1 32 RX1 yX1_hashEmptyTree wsX1_hashEmptyTree) := goodIn_app (goodIn_of _ (by decide +kernel)) ggX1_becomeEmpty_X1_hashEmptyTree
theorem dX1_becomeEmpty_0 : decode cX1_becomeEmpty 0 = .ok (.iconst 0, 1) := by decide +kernel
theorem dX1_becomeEmpty_1 : decode cX1_becomeEmpty 1 = .ok (.istore_n 1, 1) := by decide +kernel
theorem dX1_becomeEmpty_2 : decode cX1_becomeEmpty 2 = .ok (.iload_n 1, 1) := by decide +kernel
theorem dX1_becomeEmpty_3 : decode cX1_becomeEmpty 3 = .ok (.sipush 256, 3) := by decide +kernel
theorem dX1_becomeEmpty_6 : decode cX1_becomeEmpty 6 = .ok (.if_icmp .ge 30, 3) := by decide +kernel
theorem dX1_becomeEmpty_9 : decode cX1_becomeEmpty 9 = .ok (.aload_n 0, 1) := by decide +kernel
theorem dX1_becomeEmpty_10 : decode cX1_becomeEmpty 10 = .ok (.getfield 9, 3) := by decide +kernel
theorem dX1_becomeEmpty_13 : decode cX1_becomeEmpty 13 = .ok (.iload_n 1, 1) := by decide +kernel
theorem dX1_becomeEmpty_14 : decode cX1_becomeEmpty 14 = .ok (.lconst 0, 1) := by decide +kernel
theorem dX1_becomeEmpty_15 : decode cX1_becomeEmpty 15 = .ok (.lastore, 1) := by decide +kernel
theorem dX1_becomeEmpty_16 : decode cX1_becomeEmpty 16 = .ok (.aload_n 0, 1) := by decide +kernel
theorem dX1_becomeEmpty_17 : decode cX1_becomeEmpty 17 = .ok (.getfield 15, 3) := by decide +kernel
theorem dX1_becomeEmpty_20 : decode cX1_becomeEmpty 20 = .ok (.iload_n 1, 1) := by decide +kernel
theorem dX1_becomeEmpty_21 : decode cX1_becomeEmpty 21 = .ok (.lconst 0, 1) := by decide +kernel
theorem dX1_becomeEmpty_22 : decode cX1_becomeEmpty 22 = .ok (.lastore, 1) := by decide +kernel
theorem dX1_becomeEmpty_23 : decode cX1_becomeEmpty 23 = .ok (.aload_n 0, 1) := by decide +kernel
theorem dX1_becomeEmpty_24 : decode cX1_becomeEmpty 24 = .ok (.getfield 18, 3) := by decide +kernel
theorem dX1_becomeEmpty_27 : decode cX1_becomeEmpty 27 = .ok (.iload_n 1, 1) := by decide +kernel
theorem dX1_becomeEmpty_28 : decode cX1_becomeEmpty 28 = .ok (.iconst (-1), 1) := by decide +kernel
theorem dX1_becomeEmpty_29 : decode cX1_becomeEmpty 29 = .ok (.iastore, 1) := by decide +kernel
theorem dX1_becomeEmpty_30 : decode cX1_becomeEmpty 30 = .ok (.iinc 1 1, 3) := by decide +kernel
theorem dX1_becomeEmpty_33 : decode cX1_becomeEmpty 33 = .ok (.goto (-31), 3) := by decide +kernel
theorem dX1_becomeEmpty_36 : decode cX1_becomeEmpty 36 = .ok (.aload_n 0, 1) := by decide +kernel
theorem dX1_becomeEmpty_37 : decode cX1_becomeEmpty 37 = .ok (.iconst 0, 1) := by decide +kernel
theorem dX1_becomeEmpty_38 : decode cX1_becomeEmpty 38 = .ok (.putfield 28, 3) := by decide +kernel
theorem dX1_becomeEmpty_41 : decode cX1_becomeEmpty 41 = .ok (.aload_n 0, 1) := by decide +kernel
theorem dX1_becomeEmpty_42 : decode cX1_becomeEmpty 42 = .ok (.invokevirtual 32, 3) := by decide +kernel
theorem dX1_becomeEmpty_45 : decode cX1_becomeEmpty 45 = .ok (.return_, 1) := by decide +kernel
set_option maxRecDepth 20000 in
theorem ggX1_hashEmptyTree_X2_treePlace : GoodIn wsX1_hashEmptyTree wsX2_treePlace := goodIn_r _ [4, 5, 6, 3, 7] (by decide +kernel) (by decide +kernel)
set_option maxRecDepth 20000 in
theorem gX1_hashEmptyTree_X2_treePlace_n35 : GoodIn wsX1_hashEmptyTree (wsX2_treePlace) := ggX1_hashEmptyTree_X2_treePlace
set_option maxRecDepth 20000 in
theorem ggX1_hashEmptyTree_X1_hashOfLeaf : GoodIn wsX1_hashEmptyTree wsX1_hashOfLeaf := goodIn_r _ [12, 13, 14, 15, 16, 17, 18, 19, 11, 20, 21, 22, 23, 24, 25, 26, 27, 28, 29, 30, 31, 36, 37, 38, 39, 40] (by decide +kernel) (by decide +kernel)
set_option maxRecDepth 20000 in
theorem gX1_hashEmptyTree_X1_hashOfLeaf : GoodIn wsX1_hashEmptyTree (wsV RX1 39 RX1 yX1_hashOfLeaf wsX1_hashOfLeaf) := goodIn_app (goodIn_of _ (by decide +kernel)) ggX1_hashEmptyTree_X1_hashOfLeaf
set_option maxRecDepth 20000 in
theorem ggX1_hashEmptyTree_X1_hashOfChildren : GoodIn wsX1_hashEmptyTree wsX1_hashOfChildren := goodIn_r _ [35, 13, 1, 24, 25, 11, 26, 27, 28, 29, 30, 31, 36, 37, 38, 39, 40] (by decide +kernel) (by decide +kernel)
set_option maxRecDepth 20000 in
theorem gX1_hashEmptyTree_X1_hashOfChildren : GoodIn wsX1_hashEmptyTree (wsV RX1 43 RX1 yX1_hashOfChildren wsX1_hashOfChildren) := goodIn_app (goodIn_of _ (by decide +kernel)) ggX1_hashEmptyTree_X1_hashOfChildren
set_option maxRecDepth 20000 in
theorem ggX1_hashEmptyTree_X2_nodesOf : GoodIn wsX1_hashEmptyTree wsX2_nodesOf := goodIn_r _ [7] (by decide +kernel) (by decide +kernel)
set_option maxRecDepth 20000 in
theorem gX1_hashEmptyTree_X2_nodesOf_n46 : GoodIn wsX1_hashEmptyTree (wsX2_nodesOf) := ggX1_hashEmptyTree_X2_nodesOf
theorem dX1_hashEmptyTree_0 : decode cX1_hashEmptyTree 0 = .ok (.iconst 3, 1) := by decide +kernel
theorem dX1_hashEmptyTree_1 : decode cX1_hashEmptyTree 1 = .ok (.istore_n 1, 1) := by decide +kernel
theorem dX1_hashEmptyTree_2 : decode cX1_hashEmptyTree 2 = .ok (.iload_n 1, 1) := by decide +kernel
theorem dX1_hashEmptyTree_3 : decode cX1_hashEmptyTree 3 = .ok (.ifCond .lt 62, 3) := by decide +kernel
theorem dX1_hashEmptyTree_6 : decode cX1_hashEmptyTree 6 = .ok (.iload_n 1, 1) := by decide +kernel
theorem dX1_hashEmptyTree_7 : decode cX1_hashEmptyTree 7 = .ok (.iconst 0, 1) := by decide +kernel
theorem dX1_hashEmptyTree_8 : decode cX1_hashEmptyTree 8 = .ok (.invokestatic 35, 3) := by decide +kernel
theorem dX1_hashEmptyTree_11 : decode cX1_hashEmptyTree 11 = .ok (.istore_n 2, 1) := by decide +kernel
theorem dX1_hashEmptyTree_12 : decode cX1_hashEmptyTree 12 = .ok (.iload_n 1, 1) := by decide +kernel
theorem dX1_hashEmptyTree_13 : decode cX1_hashEmptyTree 13 = .ok (.iconst 3, 1) := by decide +kernel
theorem dX1_hashEmptyTree_14 : decode cX1_hashEmptyTree 14 = .ok (.if_icmp .ne 11, 3) := by decide +kernel
theorem dX1_hashEmptyTree_17 : decode cX1_hashEmptyTree 17 = .ok (.aload_n 0, 1) := by decide +kernel
theorem dX1_hashEmptyTree_18 : decode cX1_hashEmptyTree 18 = .ok (.iconst 0, 1) := by decide +kernel
theorem dX1_hashEmptyTree_19 : decode cX1_hashEmptyTree 19 = .ok (.invokevirtual 39, 3) := by decide +kernel
theorem dX1_hashEmptyTree_22 : decode cX1_hashEmptyTree 22 = .ok (.goto 8, 3) := by decide +kernel
theorem dX1_hashEmptyTree_25 : decode cX1_hashEmptyTree 25 = .ok (.aload_n 0, 1) := by decide +kernel
theorem dX1_hashEmptyTree_26 : decode cX1_hashEmptyTree 26 = .ok (.iload_n 2, 1) := by decide +kernel
theorem dX1_hashEmptyTree_27 : decode cX1_hashEmptyTree 27 = .ok (.invokevirtual 43, 3) := by decide +kernel
theorem dX1_hashEmptyTree_30 : decode cX1_hashEmptyTree 30 = .ok (.lstore_n 3, 1) := by decide +kernel
theorem dX1_hashEmptyTree_31 : decode cX1_hashEmptyTree 31 = .ok (.iconst 0, 1) := by decide +kernel
theorem dX1_hashEmptyTree_32 : decode cX1_hashEmptyTree 32 = .ok (.istore 5, 2) := by decide +kernel
theorem dX1_hashEmptyTree_34 : decode cX1_hashEmptyTree 34 = .ok (.iload 5, 2) := by decide +kernel
theorem dX1_hashEmptyTree_36 : decode cX1_hashEmptyTree 36 = .ok (.iload_n 1, 1) := by decide +kernel
theorem dX1_hashEmptyTree_37 : decode cX1_hashEmptyTree 37 = .ok (.invokestatic 46, 3) := by decide +kernel
theorem dX1_hashEmptyTree_40 : decode cX1_hashEmptyTree 40 = .ok (.if_icmp .ge 19, 3) := by decide +kernel
theorem dX1_hashEmptyTree_43 : decode cX1_hashEmptyTree 43 = .ok (.aload_n 0, 1) := by decide +kernel
theorem dX1_hashEmptyTree_44 : decode cX1_hashEmptyTree 44 = .ok (.getfield 22, 3) := by decide +kernel
theorem dX1_hashEmptyTree_47 : decode cX1_hashEmptyTree 47 = .ok (.iload_n 2, 1) := by decide +kernel
theorem dX1_hashEmptyTree_48 : decode cX1_hashEmptyTree 48 = .ok (.iload 5, 2) := by decide +kernel
theorem dX1_hashEmptyTree_50 : decode cX1_hashEmptyTree 50 = .ok (.iadd, 1) := by decide +kernel
theorem dX1_hashEmptyTree_51 : decode cX1_hashEmptyTree 51 = .ok (.lload_n 3, 1) := by decide +kernel
theorem dX1_hashEmptyTree_52 : decode cX1_hashEmptyTree 52 = .ok (.lastore, 1) := by decide +kernel
theorem dX1_hashEmptyTree_53 : decode cX1_hashEmptyTree 53 = .ok (.iinc 5 1, 3) := by decide +kernel
theorem dX1_hashEmptyTree_56 : decode cX1_hashEmptyTree 56 = .ok (.goto (-22), 3) := by decide +kernel
theorem dX1_hashEmptyTree_59 : decode cX1_hashEmptyTree 59 = .ok (.iinc 1 (-1), 3) := by decide +kernel
theorem dX1_hashEmptyTree_62 : decode cX1_hashEmptyTree 62 = .ok (.goto (-60), 3) := by decide +kernel
theorem dX1_hashEmptyTree_65 : decode cX1_hashEmptyTree 65 = .ok (.return_, 1) := by decide +kernel
theorem dX1_has_0 : decode cX1_has 0 = .ok (.aload_n 0, 1) := by decide +kernel
theorem dX1_has_1 : decode cX1_has 1 = .ok (.getfield 18, 3) := by decide +kernel
theorem dX1_has_4 : decode cX1_has 4 = .ok (.iload_n 1, 1) := by decide +kernel
theorem dX1_has_5 : decode cX1_has 5 = .ok (.iaload, 1) := by decide +kernel
theorem dX1_has_6 : decode cX1_has 6 = .ok (.iconst (-1), 1) := by decide +kernel
theorem dX1_has_7 : decode cX1_has 7 = .ok (.if_icmp .eq 7, 3) := by decide +kernel
theorem dX1_has_10 : decode cX1_has 10 = .ok (.iconst 1, 1) := by decide +kernel
theorem dX1_has_11 : decode cX1_has 11 = .ok (.goto 4, 3) := by decide +kernel
theorem dX1_has_14 : decode cX1_has 14 = .ok (.iconst 0, 1) := by decide +kernel
theorem dX1_has_15 : decode cX1_has 15 = .ok (.ireturn, 1) := by decide +kernel
theorem dX1_hasJustSo_0 : decode cX1_hasJustSo 0 = .ok (.aload_n 0, 1) := by decide +kernel
theorem dX1_hasJustSo_1 : decode cX1_hasJustSo 1 = .ok (.getfield 18, 3) := by decide +kernel
theorem dX1_hasJustSo_4 : decode cX1_hasJustSo 4 = .ok (.iload_n 1, 1) := by decide +kernel
theorem dX1_hasJustSo_5 : decode cX1_hasJustSo 5 = .ok (.iaload, 1) := by decide +kernel
theorem dX1_hasJustSo_6 : decode cX1_hasJustSo 6 = .ok (.iload 6, 2) := by decide +kernel
theorem dX1_hasJustSo_8 : decode cX1_hasJustSo 8 = .ok (.if_icmp .ne 30, 3) := by decide +kernel
theorem dX1_hasJustSo_11 : decode cX1_hasJustSo 11 = .ok (.aload_n 0, 1) := by decide +kernel
theorem dX1_hasJustSo_12 : decode cX1_hasJustSo 12 = .ok (.getfield 9, 3) := by decide +kernel
theorem dX1_hasJustSo_15 : decode cX1_hasJustSo 15 = .ok (.iload_n 1, 1) := by decide +kernel
theorem dX1_hasJustSo_16 : decode cX1_hasJustSo 16 = .ok (.laload, 1) := by decide +kernel
theorem dX1_hasJustSo_17 : decode cX1_hasJustSo 17 = .ok (.lload_n 2, 1) := by decide +kernel
theorem dX1_hasJustSo_18 : decode cX1_hasJustSo 18 = .ok (.lcmp, 1) := by decide +kernel
theorem dX1_hasJustSo_19 : decode cX1_hasJustSo 19 = .ok (.ifCond .ne 19, 3) := by decide +kernel
theorem dX1_hasJustSo_22 : decode cX1_hasJustSo 22 = .ok (.aload_n 0, 1) := by decide +kernel
theorem dX1_hasJustSo_23 : decode cX1_hasJustSo 23 = .ok (.getfield 15, 3) := by decide +kernel
theorem dX1_hasJustSo_26 : decode cX1_hasJustSo 26 = .ok (.iload_n 1, 1) := by decide +kernel
theorem dX1_hasJustSo_27 : decode cX1_hasJustSo 27 = .ok (.laload, 1) := by decide +kernel
theorem dX1_hasJustSo_28 : decode cX1_hasJustSo 28 = .ok (.lload 4, 2) := by decide +kernel
theorem dX1_hasJustSo_30 : decode cX1_hasJustSo 30 = .ok (.lcmp, 1) := by decide +kernel
theorem dX1_hasJustSo_31 : decode cX1_hasJustSo 31 = .ok (.ifCond .ne 7, 3) := by decide +kernel
theorem dX1_hasJustSo_34 : decode cX1_hasJustSo 34 = .ok (.iconst 1, 1) := by decide +kernel
theorem dX1_hasJustSo_35 : decode cX1_hasJustSo 35 = .ok (.goto 4, 3) := by decide +kernel
theorem dX1_hasJustSo_38 : decode cX1_hasJustSo 38 = .ok (.iconst 0, 1) := by decide +kernel
theorem dX1_hasJustSo_39 : decode cX1_hasJustSo 39 = .ok (.ireturn, 1) := by decide +kernel
set_option maxRecDepth 20000 in
theorem ggX1_merge_X1_has : GoodIn wsX1_merge wsX1_has := goodIn_r _ [9, 4, 47, 48, 49, 50, 51] (by decide +kernel) (by decide +kernel)
set_option maxRecDepth 20000 in
theorem gX1_merge_X1_has : GoodIn wsX1_merge (wsV RX1 50 RX1 yX1_has wsX1_has) := goodIn_app (goodIn_of _ (by decide +kernel)) ggX1_merge_X1_has
set_option maxRecDepth 20000 in
theorem ggX1_merge_X1_isNewer : GoodIn wsX1_merge wsX1_isNewer := goodIn_r _ [13, 2, 4, 3, 14, 15, 16, 17, 18, 19, 20, 21, 47, 48, 49, 50, 51] (by decide +kernel) (by decide +kernel)
set_option maxRecDepth 20000 in
theorem gX1_merge_X1_isNewer : GoodIn wsX1_merge (wsV RX1 54 RX1 yX1_isNewer wsX1_isNewer) := goodIn_app (goodIn_of _ (by decide +kernel)) ggX1_merge_X1_isNewer
set_option maxRecDepth 20000 in
theorem ggX1_merge_X1_rehashAbove : GoodIn wsX1_merge wsX1_rehashAbove := goodIn_r _ [25, 26, 27, 28, 29, 8, 30, 31, 2, 4, 3, 5, 6, 7, 9, 32, 33, 34, 35, 36, 37, 38, 39, 40, 41, 42, 43, 44, 45, 46, 47, 48, 49, 50, 51] (by decide +kernel) (by decide +kernel)
set_option maxRecDepth 20000 in
theorem gX1_merge_X1_rehashAbove : GoodIn wsX1_merge (wsV RX1 58 RX1 yX1_rehashAbove wsX1_rehashAbove) := goodIn_app (goodIn_of _ (by decide +kernel)) ggX1_merge_X1_rehashAbove
theorem dX1_merge_0 : decode cX1_merge 0 = .ok (.aload_n 0, 1) := by decide +kernel
theorem dX1_merge_1 : decode cX1_merge 1 = .ok (.iload_n 1, 1) := by decide +kernel
theorem dX1_merge_2 : decode cX1_merge 2 = .ok (.invokevirtual 50, 3) := by decide +kernel
theorem dX1_merge_5 : decode cX1_merge 5 = .ok (.ifCond .eq 18, 3) := by decide +kernel
theorem dX1_merge_8 : decode cX1_merge 8 = .ok (.aload_n 0, 1) := by decide +kernel
theorem dX1_merge_9 : decode cX1_merge 9 = .ok (.iload_n 1, 1) := by decide +kernel
theorem dX1_merge_10 : decode cX1_merge 10 = .ok (.lload_n 2, 1) := by decide +kernel
theorem dX1_merge_11 : decode cX1_merge 11 = .ok (.lload 4, 2) := by decide +kernel
theorem dX1_merge_13 : decode cX1_merge 13 = .ok (.iload 6, 2) := by decide +kernel
theorem dX1_merge_15 : decode cX1_merge 15 = .ok (.invokevirtual 54, 3) := by decide +kernel
theorem dX1_merge_18 : decode cX1_merge 18 = .ok (.ifCond .ne 5, 3) := by decide +kernel
theorem dX1_merge_21 : decode cX1_merge 21 = .ok (.iconst 0, 1) := by decide +kernel
theorem dX1_merge_22 : decode cX1_merge 22 = .ok (.ireturn, 1) := by decide +kernel
theorem dX1_merge_23 : decode cX1_merge 23 = .ok (.aload_n 0, 1) := by decide +kernel
theorem dX1_merge_24 : decode cX1_merge 24 = .ok (.iload_n 1, 1) := by decide +kernel
theorem dX1_merge_25 : decode cX1_merge 25 = .ok (.invokevirtual 50, 3) := by decide +kernel
theorem dX1_merge_28 : decode cX1_merge 28 = .ok (.ifCond .ne 13, 3) := by decide +kernel
theorem dX1_merge_31 : decode cX1_merge 31 = .ok (.aload_n 0, 1) := by decide +kernel
theorem dX1_merge_32 : decode cX1_merge 32 = .ok (.dup, 1) := by decide +kernel
theorem dX1_merge_33 : decode cX1_merge 33 = .ok (.getfield 28, 3) := by decide +kernel
theorem dX1_merge_36 : decode cX1_merge 36 = .ok (.iconst 1, 1) := by decide +kernel
theorem dX1_merge_37 : decode cX1_merge 37 = .ok (.iadd, 1) := by decide +kernel
theorem dX1_merge_38 : decode cX1_merge 38 = .ok (.putfield 28, 3) := by decide +kernel
theorem dX1_merge_41 : decode cX1_merge 41 = .ok (.aload_n 0, 1) := by decide +kernel
theorem dX1_merge_42 : decode cX1_merge 42 = .ok (.getfield 9, 3) := by decide +kernel
theorem dX1_merge_45 : decode cX1_merge 45 = .ok (.iload_n 1, 1) := by decide +kernel
theorem dX1_merge_46 : decode cX1_merge 46 = .ok (.lload_n 2, 1) := by decide +kernel
theorem dX1_merge_47 : decode cX1_merge 47 = .ok (.lastore, 1) := by decide +kernel
theorem dX1_merge_48 : decode cX1_merge 48 = .ok (.aload_n 0, 1) := by decide +kernel
theorem dX1_merge_49 : decode cX1_merge 49 = .ok (.getfield 15, 3) := by decide +kernel
theorem dX1_merge_52 : decode cX1_merge 52 = .ok (.iload_n 1, 1) := by decide +kernel
theorem dX1_merge_53 : decode cX1_merge 53 = .ok (.lload 4, 2) := by decide +kernel
theorem dX1_merge_55 : decode cX1_merge 55 = .ok (.lastore, 1) := by decide +kernel
theorem dX1_merge_56 : decode cX1_merge 56 = .ok (.aload_n 0, 1) := by decide +kernel
theorem dX1_merge_57 : decode cX1_merge 57 = .ok (.getfield 18, 3) := by decide +kernel
theorem dX1_merge_60 : decode cX1_merge 60 = .ok (.iload_n 1, 1) := by decide +kernel
theorem dX1_merge_61 : decode cX1_merge 61 = .ok (.iload 6, 2) := by decide +kernel
theorem dX1_merge_63 : decode cX1_merge 63 = .ok (.iastore, 1) := by decide +kernel
theorem dX1_merge_64 : decode cX1_merge 64 = .ok (.aload_n 0, 1) := by decide +kernel
theorem dX1_merge_65 : decode cX1_merge 65 = .ok (.iload_n 1, 1) := by decide +kernel
theorem dX1_merge_66 : decode cX1_merge 66 = .ok (.invokevirtual 58, 3) := by decide +kernel
theorem dX1_merge_69 : decode cX1_merge 69 = .ok (.iconst 1, 1) := by decide +kernel
theorem dX1_merge_70 : decode cX1_merge 70 = .ok (.ireturn, 1) := by decide +kernel
set_option maxRecDepth 20000 in
theorem ggX1_isNewer_J13_compareUnsigned_74951 : GoodIn wsX1_isNewer wsJ13_compareUnsigned_74951 := goodIn_r _ [7, 8, 9, 10, 6, 11] (by decide +kernel) (by decide +kernel)
set_option maxRecDepth 20000 in
theorem gX1_isNewer_J13_compareUnsigned_74951 : GoodIn wsX1_isNewer (va_wsS RX1 62 yJ13_compareUnsigned_74951 wsJ13_compareUnsigned_74951) := goodIn_app (goodIn_of _ (by decide +kernel)) ggX1_isNewer_J13_compareUnsigned_74951
theorem dX1_isNewer_0 : decode cX1_isNewer 0 = .ok (.lload_n 2, 1) := by decide +kernel
theorem dX1_isNewer_1 : decode cX1_isNewer 1 = .ok (.aload_n 0, 1) := by decide +kernel
theorem dX1_isNewer_2 : decode cX1_isNewer 2 = .ok (.getfield 9, 3) := by decide +kernel
theorem dX1_isNewer_5 : decode cX1_isNewer 5 = .ok (.iload_n 1, 1) := by decide +kernel
theorem dX1_isNewer_6 : decode cX1_isNewer 6 = .ok (.laload, 1) := by decide +kernel
theorem dX1_isNewer_7 : decode cX1_isNewer 7 = .ok (.lcmp, 1) := by decide +kernel
theorem dX1_isNewer_8 : decode cX1_isNewer 8 = .ok (.ifCond .eq 20, 3) := by decide +kernel
theorem dX1_isNewer_11 : decode cX1_isNewer 11 = .ok (.lload_n 2, 1) := by decide +kernel
theorem dX1_isNewer_12 : decode cX1_isNewer 12 = .ok (.aload_n 0, 1) := by decide +kernel
theorem dX1_isNewer_13 : decode cX1_isNewer 13 = .ok (.getfield 9, 3) := by decide +kernel
theorem dX1_isNewer_16 : decode cX1_isNewer 16 = .ok (.iload_n 1, 1) := by decide +kernel
theorem dX1_isNewer_17 : decode cX1_isNewer 17 = .ok (.laload, 1) := by decide +kernel
theorem dX1_isNewer_18 : decode cX1_isNewer 18 = .ok (.lcmp, 1) := by decide +kernel
theorem dX1_isNewer_19 : decode cX1_isNewer 19 = .ok (.ifCond .le 7, 3) := by decide +kernel
theorem dX1_isNewer_22 : decode cX1_isNewer 22 = .ok (.iconst 1, 1) := by decide +kernel
theorem dX1_isNewer_23 : decode cX1_isNewer 23 = .ok (.goto 4, 3) := by decide +kernel
theorem dX1_isNewer_26 : decode cX1_isNewer 26 = .ok (.iconst 0, 1) := by decide +kernel
theorem dX1_isNewer_27 : decode cX1_isNewer 27 = .ok (.ireturn, 1) := by decide +kernel
theorem dX1_isNewer_28 : decode cX1_isNewer 28 = .ok (.iload 6, 2) := by decide +kernel
theorem dX1_isNewer_30 : decode cX1_isNewer 30 = .ok (.aload_n 0, 1) := by decide +kernel
theorem dX1_isNewer_31 : decode cX1_isNewer 31 = .ok (.getfield 18, 3) := by decide +kernel
theorem dX1_isNewer_34 : decode cX1_isNewer 34 = .ok (.iload_n 1, 1) := by decide +kernel
theorem dX1_isNewer_35 : decode cX1_isNewer 35 = .ok (.iaload, 1) := by decide +kernel
theorem dX1_isNewer_36 : decode cX1_isNewer 36 = .ok (.if_icmp .eq 20, 3) := by decide +kernel
theorem dX1_isNewer_39 : decode cX1_isNewer 39 = .ok (.iload 6, 2) := by decide +kernel
theorem dX1_isNewer_41 : decode cX1_isNewer 41 = .ok (.aload_n 0, 1) := by decide +kernel
theorem dX1_isNewer_42 : decode cX1_isNewer 42 = .ok (.getfield 18, 3) := by decide +kernel
theorem dX1_isNewer_45 : decode cX1_isNewer 45 = .ok (.iload_n 1, 1) := by decide +kernel
theorem dX1_isNewer_46 : decode cX1_isNewer 46 = .ok (.iaload, 1) := by decide +kernel
theorem dX1_isNewer_47 : decode cX1_isNewer 47 = .ok (.if_icmp .le 7, 3) := by decide +kernel
theorem dX1_isNewer_50 : decode cX1_isNewer 50 = .ok (.iconst 1, 1) := by decide +kernel
theorem dX1_isNewer_51 : decode cX1_isNewer 51 = .ok (.goto 4, 3) := by decide +kernel
theorem dX1_isNewer_54 : decode cX1_isNewer 54 = .ok (.iconst 0, 1) := by decide +kernel
theorem dX1_isNewer_55 : decode cX1_isNewer 55 = .ok (.ireturn, 1) := by decide +kernel
theorem dX1_isNewer_56 : decode cX1_isNewer 56 = .ok (.lload 4, 2) := by decide +kernel
theorem dX1_isNewer_58 : decode cX1_isNewer 58 = .ok (.aload_n 0, 1) := by decide +kernel
theorem dX1_isNewer_59 : decode cX1_isNewer 59 = .ok (.getfield 15, 3) := by decide +kernel
theorem dX1_isNewer_62 : decode cX1_isNewer 62 = .ok (.iload_n 1, 1) := by decide +kernel
theorem dX1_isNewer_63 : decode cX1_isNewer 63 = .ok (.laload, 1) := by decide +kernel
theorem dX1_isNewer_64 : decode cX1_isNewer 64 = .ok (.invokestatic 62, 3) := by decide +kernel
theorem dX1_isNewer_67 : decode cX1_isNewer 67 = .ok (.ifCond .le 7, 3) := by decide +kernel
theorem dX1_isNewer_70 : decode cX1_isNewer 70 = .ok (.iconst 1, 1) := by decide +kernel
theorem dX1_isNewer_71 : decode cX1_isNewer 71 = .ok (.goto 4, 3) := by decide +kernel
theorem dX1_isNewer_74 : decode cX1_isNewer 74 = .ok (.iconst 0, 1) := by decide +kernel
theorem dX1_isNewer_75 : decode cX1_isNewer 75 = .ok (.ireturn, 1) := by decide +kernel
set_option maxRecDepth 20000 in
theorem ggX1_maskOfLeaf_X1_has : GoodIn wsX1_maskOfLeaf wsX1_has := goodIn_r _ [5, 6, 7, 8, 9, 10, 11] (by decide +kernel) (by decide +kernel)
set_option maxRecDepth 20000 in
theorem gX1_maskOfLeaf_X1_has : GoodIn wsX1_maskOfLeaf (wsV RX1 50 RX1 yX1_has wsX1_has) := goodIn_app (goodIn_of _ (by decide +kernel)) ggX1_maskOfLeaf_X1_has
theorem dX1_maskOfLeaf_0 : decode cX1_maskOfLeaf 0 = .ok (.iconst 0, 1) := by decide +kernel
theorem dX1_maskOfLeaf_1 : decode cX1_maskOfLeaf 1 = .ok (.istore_n 2, 1) := by decide +kernel
theorem dX1_maskOfLeaf_2 : decode cX1_maskOfLeaf 2 = .ok (.iconst 0, 1) := by decide +kernel
theorem dX1_maskOfLeaf_3 : decode cX1_maskOfLeaf 3 = .ok (.istore_n 3, 1) := by decide +kernel
theorem dX1_maskOfLeaf_4 : decode cX1_maskOfLeaf 4 = .ok (.iload_n 3, 1) := by decide +kernel
theorem dX1_maskOfLeaf_5 : decode cX1_maskOfLeaf 5 = .ok (.iconst 4, 1) := by decide +kernel
theorem dX1_maskOfLeaf_6 : decode cX1_maskOfLeaf 6 = .ok (.if_icmp .ge 27, 3) := by decide +kernel
theorem dX1_maskOfLeaf_9 : decode cX1_maskOfLeaf 9 = .ok (.aload_n 0, 1) := by decide +kernel
theorem dX1_maskOfLeaf_10 : decode cX1_maskOfLeaf 10 = .ok (.iload_n 1, 1) := by decide +kernel
theorem dX1_maskOfLeaf_11 : decode cX1_maskOfLeaf 11 = .ok (.iconst 4, 1) := by decide +kernel
theorem dX1_maskOfLeaf_12 : decode cX1_maskOfLeaf 12 = .ok (.imul, 1) := by decide +kernel
theorem dX1_maskOfLeaf_13 : decode cX1_maskOfLeaf 13 = .ok (.iload_n 3, 1) := by decide +kernel
theorem dX1_maskOfLeaf_14 : decode cX1_maskOfLeaf 14 = .ok (.iadd, 1) := by decide +kernel
theorem dX1_maskOfLeaf_15 : decode cX1_maskOfLeaf 15 = .ok (.invokevirtual 50, 3) := by decide +kernel
theorem dX1_maskOfLeaf_18 : decode cX1_maskOfLeaf 18 = .ok (.ifCond .eq 9, 3) := by decide +kernel
theorem dX1_maskOfLeaf_21 : decode cX1_maskOfLeaf 21 = .ok (.iload_n 2, 1) := by decide +kernel
theorem dX1_maskOfLeaf_22 : decode cX1_maskOfLeaf 22 = .ok (.iconst 1, 1) := by decide +kernel
theorem dX1_maskOfLeaf_23 : decode cX1_maskOfLeaf 23 = .ok (.iload_n 3, 1) := by decide +kernel
theorem dX1_maskOfLeaf_24 : decode cX1_maskOfLeaf 24 = .ok (.ishl, 1) := by decide +kernel
theorem dX1_maskOfLeaf_25 : decode cX1_maskOfLeaf 25 = .ok (.ior, 1) := by decide +kernel
theorem dX1_maskOfLeaf_26 : decode cX1_maskOfLeaf 26 = .ok (.istore_n 2, 1) := by decide +kernel
theorem dX1_maskOfLeaf_27 : decode cX1_maskOfLeaf 27 = .ok (.iinc 3 1, 3) := by decide +kernel
theorem dX1_maskOfLeaf_30 : decode cX1_maskOfLeaf 30 = .ok (.goto (-26), 3) := by decide +kernel
theorem dX1_maskOfLeaf_33 : decode cX1_maskOfLeaf 33 = .ok (.iload_n 2, 1) := by decide +kernel
theorem dX1_maskOfLeaf_34 : decode cX1_maskOfLeaf 34 = .ok (.ireturn, 1) := by decide +kernel
set_option maxRecDepth 20000 in
theorem ggX1_rehashAbove_X1_hashOfLeaf : GoodIn wsX1_rehashAbove wsX1_hashOfLeaf := goodIn_r _ [6, 7, 8, 9, 10, 11, 12, 13, 5, 14, 15, 16, 17, 18, 19, 20, 21, 22, 23, 24, 25, 30, 31, 32, 33, 34] (by decide +kernel) (by decide +kernel)
set_option maxRecDepth 20000 in
theorem gX1_rehashAbove_X1_hashOfLeaf : GoodIn wsX1_rehashAbove (wsV RX1 39 RX1 yX1_hashOfLeaf wsX1_hashOfLeaf) := goodIn_app (goodIn_of _ (by decide +kernel)) ggX1_rehashAbove_X1_hashOfLeaf
set_option maxRecDepth 20000 in
theorem ggX1_rehashAbove_X1_hashOfChildren : GoodIn wsX1_rehashAbove wsX1_hashOfChildren := goodIn_r _ [29, 7, 1, 18, 19, 5, 20, 21, 22, 23, 24, 25, 30, 31, 32, 33, 34] (by decide +kernel) (by decide +kernel)
set_option maxRecDepth 20000 in
theorem gX1_rehashAbove_X1_hashOfChildren : GoodIn wsX1_rehashAbove (wsV RX1 43 RX1 yX1_hashOfChildren wsX1_hashOfChildren) := goodIn_app (goodIn_of _ (by decide +kernel)) ggX1_rehashAbove_X1_hashOfChildren
theorem dX1_rehashAbove_0 : decode cX1_rehashAbove 0 = .ok (.iload_n 1, 1) := by decide +kernel
theorem dX1_rehashAbove_1 : decode cX1_rehashAbove 1 = .ok (.iconst 4, 1) := by decide +kernel
theorem dX1_rehashAbove_2 : decode cX1_rehashAbove 2 = .ok (.idiv, 1) := by decide +kernel
theorem dX1_rehashAbove_3 : decode cX1_rehashAbove 3 = .ok (.istore_n 2, 1) := by decide +kernel
theorem dX1_rehashAbove_4 : decode cX1_rehashAbove 4 = .ok (.bipush 21, 2) := by decide +kernel
theorem dX1_rehashAbove_6 : decode cX1_rehashAbove 6 = .ok (.iload_n 2, 1) := by decide +kernel
theorem dX1_rehashAbove_7 : decode cX1_rehashAbove 7 = .ok (.iadd, 1) := by decide +kernel
theorem dX1_rehashAbove_8 : decode cX1_rehashAbove 8 = .ok (.istore_n 3, 1) := by decide +kernel
theorem dX1_rehashAbove_9 : decode cX1_rehashAbove 9 = .ok (.aload_n 0, 1) := by decide +kernel
theorem dX1_rehashAbove_10 : decode cX1_rehashAbove 10 = .ok (.getfield 22, 3) := by decide +kernel
theorem dX1_rehashAbove_13 : decode cX1_rehashAbove 13 = .ok (.iload_n 3, 1) := by decide +kernel
theorem dX1_rehashAbove_14 : decode cX1_rehashAbove 14 = .ok (.aload_n 0, 1) := by decide +kernel
theorem dX1_rehashAbove_15 : decode cX1_rehashAbove 15 = .ok (.iload_n 2, 1) := by decide +kernel
theorem dX1_rehashAbove_16 : decode cX1_rehashAbove 16 = .ok (.invokevirtual 39, 3) := by decide +kernel
theorem dX1_rehashAbove_19 : decode cX1_rehashAbove 19 = .ok (.lastore, 1) := by decide +kernel
theorem dX1_rehashAbove_20 : decode cX1_rehashAbove 20 = .ok (.iconst 3, 1) := by decide +kernel
theorem dX1_rehashAbove_21 : decode cX1_rehashAbove 21 = .ok (.istore 4, 2) := by decide +kernel
theorem dX1_rehashAbove_23 : decode cX1_rehashAbove 23 = .ok (.iload 4, 2) := by decide +kernel
theorem dX1_rehashAbove_25 : decode cX1_rehashAbove 25 = .ok (.ifCond .le 26, 3) := by decide +kernel
theorem dX1_rehashAbove_28 : decode cX1_rehashAbove 28 = .ok (.iload_n 3, 1) := by decide +kernel
theorem dX1_rehashAbove_29 : decode cX1_rehashAbove 29 = .ok (.iconst 1, 1) := by decide +kernel
theorem dX1_rehashAbove_30 : decode cX1_rehashAbove 30 = .ok (.isub, 1) := by decide +kernel
theorem dX1_rehashAbove_31 : decode cX1_rehashAbove 31 = .ok (.iconst 4, 1) := by decide +kernel
theorem dX1_rehashAbove_32 : decode cX1_rehashAbove 32 = .ok (.idiv, 1) := by decide +kernel
theorem dX1_rehashAbove_33 : decode cX1_rehashAbove 33 = .ok (.istore_n 3, 1) := by decide +kernel
theorem dX1_rehashAbove_34 : decode cX1_rehashAbove 34 = .ok (.aload_n 0, 1) := by decide +kernel
theorem dX1_rehashAbove_35 : decode cX1_rehashAbove 35 = .ok (.getfield 22, 3) := by decide +kernel
theorem dX1_rehashAbove_38 : decode cX1_rehashAbove 38 = .ok (.iload_n 3, 1) := by decide +kernel
theorem dX1_rehashAbove_39 : decode cX1_rehashAbove 39 = .ok (.aload_n 0, 1) := by decide +kernel
theorem dX1_rehashAbove_40 : decode cX1_rehashAbove 40 = .ok (.iload_n 3, 1) := by decide +kernel
theorem dX1_rehashAbove_41 : decode cX1_rehashAbove 41 = .ok (.invokevirtual 43, 3) := by decide +kernel
theorem dX1_rehashAbove_44 : decode cX1_rehashAbove 44 = .ok (.lastore, 1) := by decide +kernel
theorem dX1_rehashAbove_45 : decode cX1_rehashAbove 45 = .ok (.iinc 4 (-1), 3) := by decide +kernel
theorem dX1_rehashAbove_48 : decode cX1_rehashAbove 48 = .ok (.goto (-25), 3) := by decide +kernel
theorem dX1_rehashAbove_51 : decode cX1_rehashAbove 51 = .ok (.return_, 1) := by decide +kernel
set_option maxRecDepth 20000 in
theorem ggX1_hashOfLeaf_X1_has : GoodIn wsX1_hashOfLeaf wsX1_has := goodIn_r _ [9, 3, 21, 22, 23, 24, 25] (by decide +kernel) (by decide +kernel)
set_option maxRecDepth 20000 in
theorem gX1_hashOfLeaf_X1_has : GoodIn wsX1_hashOfLeaf (wsV RX1 50 RX1 yX1_has wsX1_has) := goodIn_app (goodIn_of _ (by decide +kernel)) ggX1_hashOfLeaf_X1_has
set_option maxRecDepth 20000 in
theorem ggX1_hashOfLeaf_X1_asHighestByte : GoodIn wsX1_hashOfLeaf wsX1_asHighestByte := goodIn_r _ [12] (by decide +kernel) (by decide +kernel)
set_option maxRecDepth 20000 in
theorem gX1_hashOfLeaf_X1_asHighestByte : GoodIn wsX1_hashOfLeaf (va_wsS RX1 70 yX1_asHighestByte wsX1_asHighestByte) := goodIn_app (goodIn_of _ (by decide +kernel)) ggX1_hashOfLeaf_X1_asHighestByte
set_option maxRecDepth 20000 in
theorem ggX1_hashOfLeaf_X1_withBytes : GoodIn wsX1_hashOfLeaf wsX1_withBytes := goodIn_r _ [15, 16, 17] (by decide +kernel) (by decide +kernel)
set_option maxRecDepth 20000 in
theorem gX1_hashOfLeaf_X1_withBytes : GoodIn wsX1_hashOfLeaf (va_wsS RX1 73 yX1_withBytes wsX1_withBytes) := goodIn_app (goodIn_of _ (by decide +kernel)) ggX1_hashOfLeaf_X1_withBytes
set_option maxRecDepth 20000 in
theorem ggX1_hashOfLeaf_X1_finished : GoodIn wsX1_hashOfLeaf wsX1_finished := goodIn_r _ [20] (by decide +kernel) (by decide +kernel)
set_option maxRecDepth 20000 in
theorem gX1_hashOfLeaf_X1_finished : GoodIn wsX1_hashOfLeaf (va_wsS RX1 77 yX1_finished wsX1_finished) := goodIn_app (goodIn_of _ (by decide +kernel)) ggX1_hashOfLeaf_X1_finished
theorem dX1_hashOfLeaf_0 : decode cX1_hashOfLeaf 0 = .ok (.ldc2_w 68, 3) := by decide +kernel
theorem dX1_hashOfLeaf_3 : decode cX1_hashOfLeaf 3 = .ok (.lstore_n 2, 1) := by decide +kernel
theorem dX1_hashOfLeaf_4 : decode cX1_hashOfLeaf 4 = .ok (.iconst 0, 1) := by decide +kernel
theorem dX1_hashOfLeaf_5 : decode cX1_hashOfLeaf 5 = .ok (.istore 4, 2) := by decide +kernel
theorem dX1_hashOfLeaf_7 : decode cX1_hashOfLeaf 7 = .ok (.iload 4, 2) := by decide +kernel
theorem dX1_hashOfLeaf_9 : decode cX1_hashOfLeaf 9 = .ok (.iconst 4, 1) := by decide +kernel
theorem dX1_hashOfLeaf_10 : decode cX1_hashOfLeaf 10 = .ok (.if_icmp .ge 86, 3) := by decide +kernel
theorem dX1_hashOfLeaf_13 : decode cX1_hashOfLeaf 13 = .ok (.iload_n 1, 1) := by decide +kernel
theorem dX1_hashOfLeaf_14 : decode cX1_hashOfLeaf 14 = .ok (.iconst 4, 1) := by decide +kernel
theorem dX1_hashOfLeaf_15 : decode cX1_hashOfLeaf 15 = .ok (.imul, 1) := by decide +kernel
theorem dX1_hashOfLeaf_16 : decode cX1_hashOfLeaf 16 = .ok (.iload 4, 2) := by decide +kernel
theorem dX1_hashOfLeaf_18 : decode cX1_hashOfLeaf 18 = .ok (.iadd, 1) := by decide +kernel
theorem dX1_hashOfLeaf_19 : decode cX1_hashOfLeaf 19 = .ok (.istore 5, 2) := by decide +kernel
theorem dX1_hashOfLeaf_21 : decode cX1_hashOfLeaf 21 = .ok (.aload_n 0, 1) := by decide +kernel
theorem dX1_hashOfLeaf_22 : decode cX1_hashOfLeaf 22 = .ok (.iload 5, 2) := by decide +kernel
theorem dX1_hashOfLeaf_24 : decode cX1_hashOfLeaf 24 = .ok (.invokevirtual 50, 3) := by decide +kernel
theorem dX1_hashOfLeaf_27 : decode cX1_hashOfLeaf 27 = .ok (.ifCond .eq 63, 3) := by decide +kernel
theorem dX1_hashOfLeaf_30 : decode cX1_hashOfLeaf 30 = .ok (.lload_n 2, 1) := by decide +kernel
theorem dX1_hashOfLeaf_31 : decode cX1_hashOfLeaf 31 = .ok (.iload 5, 2) := by decide +kernel
theorem dX1_hashOfLeaf_33 : decode cX1_hashOfLeaf 33 = .ok (.invokestatic 70, 3) := by decide +kernel
theorem dX1_hashOfLeaf_36 : decode cX1_hashOfLeaf 36 = .ok (.iconst 1, 1) := by decide +kernel
theorem dX1_hashOfLeaf_37 : decode cX1_hashOfLeaf 37 = .ok (.invokestatic 73, 3) := by decide +kernel
theorem dX1_hashOfLeaf_40 : decode cX1_hashOfLeaf 40 = .ok (.lstore_n 2, 1) := by decide +kernel
theorem dX1_hashOfLeaf_41 : decode cX1_hashOfLeaf 41 = .ok (.lload_n 2, 1) := by decide +kernel
theorem dX1_hashOfLeaf_42 : decode cX1_hashOfLeaf 42 = .ok (.aload_n 0, 1) := by decide +kernel
theorem dX1_hashOfLeaf_43 : decode cX1_hashOfLeaf 43 = .ok (.getfield 9, 3) := by decide +kernel
theorem dX1_hashOfLeaf_46 : decode cX1_hashOfLeaf 46 = .ok (.iload 5, 2) := by decide +kernel
theorem dX1_hashOfLeaf_48 : decode cX1_hashOfLeaf 48 = .ok (.laload, 1) := by decide +kernel
theorem dX1_hashOfLeaf_49 : decode cX1_hashOfLeaf 49 = .ok (.bipush 8, 2) := by decide +kernel
theorem dX1_hashOfLeaf_51 : decode cX1_hashOfLeaf 51 = .ok (.invokestatic 73, 3) := by decide +kernel
theorem dX1_hashOfLeaf_54 : decode cX1_hashOfLeaf 54 = .ok (.lstore_n 2, 1) := by decide +kernel
theorem dX1_hashOfLeaf_55 : decode cX1_hashOfLeaf 55 = .ok (.lload_n 2, 1) := by decide +kernel
theorem dX1_hashOfLeaf_56 : decode cX1_hashOfLeaf 56 = .ok (.aload_n 0, 1) := by decide +kernel
theorem dX1_hashOfLeaf_57 : decode cX1_hashOfLeaf 57 = .ok (.getfield 18, 3) := by decide +kernel
theorem dX1_hashOfLeaf_60 : decode cX1_hashOfLeaf 60 = .ok (.iload 5, 2) := by decide +kernel
theorem dX1_hashOfLeaf_62 : decode cX1_hashOfLeaf 62 = .ok (.iaload, 1) := by decide +kernel
theorem dX1_hashOfLeaf_63 : decode cX1_hashOfLeaf 63 = .ok (.invokestatic 70, 3) := by decide +kernel
theorem dX1_hashOfLeaf_66 : decode cX1_hashOfLeaf 66 = .ok (.iconst 1, 1) := by decide +kernel
theorem dX1_hashOfLeaf_67 : decode cX1_hashOfLeaf 67 = .ok (.invokestatic 73, 3) := by decide +kernel
theorem dX1_hashOfLeaf_70 : decode cX1_hashOfLeaf 70 = .ok (.lstore_n 2, 1) := by decide +kernel
theorem dX1_hashOfLeaf_71 : decode cX1_hashOfLeaf 71 = .ok (.lload_n 2, 1) := by decide +kernel
theorem dX1_hashOfLeaf_72 : decode cX1_hashOfLeaf 72 = .ok (.aload_n 0, 1) := by decide +kernel
theorem dX1_hashOfLeaf_73 : decode cX1_hashOfLeaf 73 = .ok (.getfield 15, 3) := by decide +kernel
theorem dX1_hashOfLeaf_76 : decode cX1_hashOfLeaf 76 = .ok (.iload 5, 2) := by decide +kernel
theorem dX1_hashOfLeaf_78 : decode cX1_hashOfLeaf 78 = .ok (.laload, 1) := by decide +kernel
theorem dX1_hashOfLeaf_79 : decode cX1_hashOfLeaf 79 = .ok (.aload_n 0, 1) := by decide +kernel
theorem dX1_hashOfLeaf_80 : decode cX1_hashOfLeaf 80 = .ok (.getfield 18, 3) := by decide +kernel
theorem dX1_hashOfLeaf_83 : decode cX1_hashOfLeaf 83 = .ok (.iload 5, 2) := by decide +kernel
theorem dX1_hashOfLeaf_85 : decode cX1_hashOfLeaf 85 = .ok (.iaload, 1) := by decide +kernel
theorem dX1_hashOfLeaf_86 : decode cX1_hashOfLeaf 86 = .ok (.invokestatic 73, 3) := by decide +kernel
theorem dX1_hashOfLeaf_89 : decode cX1_hashOfLeaf 89 = .ok (.lstore_n 2, 1) := by decide +kernel
theorem dX1_hashOfLeaf_90 : decode cX1_hashOfLeaf 90 = .ok (.iinc 4 1, 3) := by decide +kernel
theorem dX1_hashOfLeaf_93 : decode cX1_hashOfLeaf 93 = .ok (.goto (-86), 3) := by decide +kernel
theorem dX1_hashOfLeaf_96 : decode cX1_hashOfLeaf 96 = .ok (.lload_n 2, 1) := by decide +kernel
theorem dX1_hashOfLeaf_97 : decode cX1_hashOfLeaf 97 = .ok (.invokestatic 77, 3) := by decide +kernel
theorem dX1_hashOfLeaf_100 : decode cX1_hashOfLeaf 100 = .ok (.lreturn, 1) := by decide +kernel
set_option maxRecDepth 20000 in
theorem ggX1_hashOfChildren_X1_withBytes : GoodIn wsX1_hashOfChildren wsX1_withBytes := goodIn_r _ [6, 7, 8] (by decide +kernel) (by decide +kernel)
set_option maxRecDepth 20000 in
theorem gX1_hashOfChildren_X1_withBytes : GoodIn wsX1_hashOfChildren (va_wsS RX1 73 yX1_withBytes wsX1_withBytes) := goodIn_app (goodIn_of _ (by decide +kernel)) ggX1_hashOfChildren_X1_withBytes
set_option maxRecDepth 20000 in
theorem ggX1_hashOfChildren_X1_finished : GoodIn wsX1_hashOfChildren wsX1_finished := goodIn_r _ [11] (by decide +kernel) (by decide +kernel)
set_option maxRecDepth 20000 in
theorem gX1_hashOfChildren_X1_finished : GoodIn wsX1_hashOfChildren (va_wsS RX1 77 yX1_finished wsX1_finished) := goodIn_app (goodIn_of _ (by decide +kernel)) ggX1_hashOfChildren_X1_finished
theorem dX1_hashOfChildren_0 : decode cX1_hashOfChildren 0 = .ok (.ldc2_w 68, 3) := by decide +kernel
theorem dX1_hashOfChildren_3 : decode cX1_hashOfChildren 3 = .ok (.lstore_n 2, 1) := by decide +kernel
theorem dX1_hashOfChildren_4 : decode cX1_hashOfChildren 4 = .ok (.iconst 0, 1) := by decide +kernel
theorem dX1_hashOfChildren_5 : decode cX1_hashOfChildren 5 = .ok (.istore 4, 2) := by decide +kernel
theorem dX1_hashOfChildren_7 : decode cX1_hashOfChildren 7 = .ok (.iload 4, 2) := by decide +kernel
theorem dX1_hashOfChildren_9 : decode cX1_hashOfChildren 9 = .ok (.iconst 4, 1) := by decide +kernel
theorem dX1_hashOfChildren_10 : decode cX1_hashOfChildren 10 = .ok (.if_icmp .ge 29, 3) := by decide +kernel
theorem dX1_hashOfChildren_13 : decode cX1_hashOfChildren 13 = .ok (.lload_n 2, 1) := by decide +kernel
theorem dX1_hashOfChildren_14 : decode cX1_hashOfChildren 14 = .ok (.aload_n 0, 1) := by decide +kernel
theorem dX1_hashOfChildren_15 : decode cX1_hashOfChildren 15 = .ok (.getfield 22, 3) := by decide +kernel
theorem dX1_hashOfChildren_18 : decode cX1_hashOfChildren 18 = .ok (.iload_n 1, 1) := by decide +kernel
theorem dX1_hashOfChildren_19 : decode cX1_hashOfChildren 19 = .ok (.iconst 4, 1) := by decide +kernel
theorem dX1_hashOfChildren_20 : decode cX1_hashOfChildren 20 = .ok (.imul, 1) := by decide +kernel
theorem dX1_hashOfChildren_21 : decode cX1_hashOfChildren 21 = .ok (.iconst 1, 1) := by decide +kernel
theorem dX1_hashOfChildren_22 : decode cX1_hashOfChildren 22 = .ok (.iadd, 1) := by decide +kernel
theorem dX1_hashOfChildren_23 : decode cX1_hashOfChildren 23 = .ok (.iload 4, 2) := by decide +kernel
theorem dX1_hashOfChildren_25 : decode cX1_hashOfChildren 25 = .ok (.iadd, 1) := by decide +kernel
theorem dX1_hashOfChildren_26 : decode cX1_hashOfChildren 26 = .ok (.laload, 1) := by decide +kernel
theorem dX1_hashOfChildren_27 : decode cX1_hashOfChildren 27 = .ok (.bipush 8, 2) := by decide +kernel
theorem dX1_hashOfChildren_29 : decode cX1_hashOfChildren 29 = .ok (.invokestatic 73, 3) := by decide +kernel
theorem dX1_hashOfChildren_32 : decode cX1_hashOfChildren 32 = .ok (.lstore_n 2, 1) := by decide +kernel
theorem dX1_hashOfChildren_33 : decode cX1_hashOfChildren 33 = .ok (.iinc 4 1, 3) := by decide +kernel
theorem dX1_hashOfChildren_36 : decode cX1_hashOfChildren 36 = .ok (.goto (-29), 3) := by decide +kernel
theorem dX1_hashOfChildren_39 : decode cX1_hashOfChildren 39 = .ok (.lload_n 2, 1) := by decide +kernel
theorem dX1_hashOfChildren_40 : decode cX1_hashOfChildren 40 = .ok (.invokestatic 77, 3) := by decide +kernel
theorem dX1_hashOfChildren_43 : decode cX1_hashOfChildren 43 = .ok (.lreturn, 1) := by decide +kernel
theorem dX1_asHighestByte_0 : decode cX1_asHighestByte 0 = .ok (.iload_n 0, 1) := by decide +kernel
theorem dX1_asHighestByte_1 : decode cX1_asHighestByte 1 = .ok (.i2l, 1) := by decide +kernel
theorem dX1_asHighestByte_2 : decode cX1_asHighestByte 2 = .ok (.bipush 56, 2) := by decide +kernel
theorem dX1_asHighestByte_4 : decode cX1_asHighestByte 4 = .ok (.lshl, 1) := by decide +kernel
theorem dX1_asHighestByte_5 : decode cX1_asHighestByte 5 = .ok (.lreturn, 1) := by decide +kernel
theorem dX1_withBytes_0 : decode cX1_withBytes 0 = .ok (.lload_n 0, 1) := by decide +kernel
theorem dX1_withBytes_1 : decode cX1_withBytes 1 = .ok (.lstore 5, 2) := by decide +kernel
theorem dX1_withBytes_3 : decode cX1_withBytes 3 = .ok (.iconst 0, 1) := by decide +kernel
theorem dX1_withBytes_4 : decode cX1_withBytes 4 = .ok (.istore 7, 2) := by decide +kernel
theorem dX1_withBytes_6 : decode cX1_withBytes 6 = .ok (.iload 7, 2) := by decide +kernel
theorem dX1_withBytes_8 : decode cX1_withBytes 8 = .ok (.iload 4, 2) := by decide +kernel
theorem dX1_withBytes_10 : decode cX1_withBytes 10 = .ok (.if_icmp .ge 45, 3) := by decide +kernel
theorem dX1_withBytes_13 : decode cX1_withBytes 13 = .ok (.lload 5, 2) := by decide +kernel
theorem dX1_withBytes_15 : decode cX1_withBytes 15 = .ok (.lload_n 2, 1) := by decide +kernel
theorem dX1_withBytes_16 : decode cX1_withBytes 16 = .ok (.bipush 56, 2) := by decide +kernel
theorem dX1_withBytes_18 : decode cX1_withBytes 18 = .ok (.bipush 8, 2) := by decide +kernel
theorem dX1_withBytes_20 : decode cX1_withBytes 20 = .ok (.iload 7, 2) := by decide +kernel
theorem dX1_withBytes_22 : decode cX1_withBytes 22 = .ok (.imul, 1) := by decide +kernel
theorem dX1_withBytes_23 : decode cX1_withBytes 23 = .ok (.isub, 1) := by decide +kernel
theorem dX1_withBytes_24 : decode cX1_withBytes 24 = .ok (.lushr, 1) := by decide +kernel
theorem dX1_withBytes_25 : decode cX1_withBytes 25 = .ok (.ldc2_w 81, 3) := by decide +kernel
theorem dX1_withBytes_28 : decode cX1_withBytes 28 = .ok (.land, 1) := by decide +kernel
theorem dX1_withBytes_29 : decode cX1_withBytes 29 = .ok (.lxor, 1) := by decide +kernel
theorem dX1_withBytes_30 : decode cX1_withBytes 30 = .ok (.ldc2_w 83, 3) := by decide +kernel
theorem dX1_withBytes_33 : decode cX1_withBytes 33 = .ok (.lmul, 1) := by decide +kernel
theorem dX1_withBytes_34 : decode cX1_withBytes 34 = .ok (.lstore 8, 2) := by decide +kernel
theorem dX1_withBytes_36 : decode cX1_withBytes 36 = .ok (.lload 8, 2) := by decide +kernel
theorem dX1_withBytes_38 : decode cX1_withBytes 38 = .ok (.bipush 23, 2) := by decide +kernel
theorem dX1_withBytes_40 : decode cX1_withBytes 40 = .ok (.lshl, 1) := by decide +kernel
theorem dX1_withBytes_41 : decode cX1_withBytes 41 = .ok (.lload 8, 2) := by decide +kernel
theorem dX1_withBytes_43 : decode cX1_withBytes 43 = .ok (.bipush 41, 2) := by decide +kernel
theorem dX1_withBytes_45 : decode cX1_withBytes 45 = .ok (.lushr, 1) := by decide +kernel
theorem dX1_withBytes_46 : decode cX1_withBytes 46 = .ok (.lor, 1) := by decide +kernel
theorem dX1_withBytes_47 : decode cX1_withBytes 47 = .ok (.lstore 5, 2) := by decide +kernel
theorem dX1_withBytes_49 : decode cX1_withBytes 49 = .ok (.iinc 7 1, 3) := by decide +kernel
theorem dX1_withBytes_52 : decode cX1_withBytes 52 = .ok (.goto (-46), 3) := by decide +kernel
theorem dX1_withBytes_55 : decode cX1_withBytes 55 = .ok (.lload 5, 2) := by decide +kernel
theorem dX1_withBytes_57 : decode cX1_withBytes 57 = .ok (.lreturn, 1) := by decide +kernel
theorem dX1_finished_0 : decode cX1_finished 0 = .ok (.lload_n 0, 1) := by decide +kernel
theorem dX1_finished_1 : decode cX1_finished 1 = .ok (.lload_n 0, 1) := by decide +kernel
theorem dX1_finished_2 : decode cX1_finished 2 = .ok (.bipush 31, 2) := by decide +kernel
theorem dX1_finished_4 : decode cX1_finished 4 = .ok (.lushr, 1) := by decide +kernel
theorem dX1_finished_5 : decode cX1_finished 5 = .ok (.lxor, 1) := by decide +kernel
theorem dX1_finished_6 : decode cX1_finished 6 = .ok (.lreturn, 1) := by decide +kernel
