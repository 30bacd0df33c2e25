set_option maxRecDepth 20000 in
theorem ggX2_init_X1_init : GoodIn wsX2_init wsX1_init := goodIn_r _ [17, 18, 2, 3, 19, 20, 21, 22, 23, 24, 25, 26, 27, 9, 28, 29, 30, 31, 32, 33, 34, 35, 36, 37, 38, 39, 40, 41, 42, 43, 44, 45, 46, 47, 48, 49, 50, 51, 52, 53, 54, 55, 56, 57, 58, 59, 60, 61, 62, 63, 87, 88, 89, 90, 91] (by decide +kernel) (by decide +kernel)
set_option maxRecDepth 20000 in
theorem gX2_init_X1_init : GoodIn wsX2_init (wsX1_init) := ggX2_init_X1_init
set_option maxRecDepth 20000 in
theorem ggX2_init_X0_init : GoodIn wsX2_init wsX0_init := goodIn_r _ [66, 67, 2, 3, 22, 68, 69, 70, 71, 19, 72, 73, 74, 75, 76, 77, 78, 11, 79, 80, 81, 92, 93, 94, 95, 96, 97, 98, 99, 100, 101] (by decide +kernel) (by decide +kernel)
set_option maxRecDepth 20000 in
theorem gX2_init_X0_init : GoodIn wsX2_init (wsX0_init) := ggX2_init_X0_init
theorem dX2_init_0 : decode cX2_init 0 = .ok (.aload_n 0, 1) := by decide +kernel
theorem dX2_init_1 : decode cX2_init 1 = .ok (.invokespecial 1, 3) := by decide +kernel
theorem dX2_init_4 : decode cX2_init 4 = .ok (.aload_n 0, 1) := by decide +kernel
theorem dX2_init_5 : decode cX2_init 5 = .ok (.iconst 2, 1) := by decide +kernel
theorem dX2_init_6 : decode cX2_init 6 = .ok (.anewarray 9, 3) := by decide +kernel
theorem dX2_init_9 : decode cX2_init 9 = .ok (.putfield 11, 3) := by decide +kernel
theorem dX2_init_12 : decode cX2_init 12 = .ok (.aload_n 0, 1) := by decide +kernel
theorem dX2_init_13 : decode cX2_init 13 = .ok (.iconst 2, 1) := by decide +kernel
theorem dX2_init_14 : decode cX2_init 14 = .ok (.anewarray 15, 3) := by decide +kernel
theorem dX2_init_17 : decode cX2_init 17 = .ok (.putfield 17, 3) := by decide +kernel
theorem dX2_init_20 : decode cX2_init 20 = .ok (.iconst 0, 1) := by decide +kernel
theorem dX2_init_21 : decode cX2_init 21 = .ok (.istore_n 1, 1) := by decide +kernel
theorem dX2_init_22 : decode cX2_init 22 = .ok (.iload_n 1, 1) := by decide +kernel
theorem dX2_init_23 : decode cX2_init 23 = .ok (.iconst 2, 1) := by decide +kernel
theorem dX2_init_24 : decode cX2_init 24 = .ok (.if_icmp .ge 35, 3) := by decide +kernel
theorem dX2_init_27 : decode cX2_init 27 = .ok (.aload_n 0, 1) := by decide +kernel
theorem dX2_init_28 : decode cX2_init 28 = .ok (.getfield 11, 3) := by decide +kernel
theorem dX2_init_31 : decode cX2_init 31 = .ok (.iload_n 1, 1) := by decide +kernel
theorem dX2_init_32 : decode cX2_init 32 = .ok (.new 9, 3) := by decide +kernel
theorem dX2_init_35 : decode cX2_init 35 = .ok (.dup, 1) := by decide +kernel
theorem dX2_init_36 : decode cX2_init 36 = .ok (.invokespecial 21, 3) := by decide +kernel
theorem dX2_init_39 : decode cX2_init 39 = .ok (.aastore, 1) := by decide +kernel
theorem dX2_init_40 : decode cX2_init 40 = .ok (.aload_n 0, 1) := by decide +kernel
theorem dX2_init_41 : decode cX2_init 41 = .ok (.getfield 17, 3) := by decide +kernel
theorem dX2_init_44 : decode cX2_init 44 = .ok (.iload_n 1, 1) := by decide +kernel
theorem dX2_init_45 : decode cX2_init 45 = .ok (.new 15, 3) := by decide +kernel
theorem dX2_init_48 : decode cX2_init 48 = .ok (.dup, 1) := by decide +kernel
theorem dX2_init_49 : decode cX2_init 49 = .ok (.invokespecial 22, 3) := by decide +kernel
theorem dX2_init_52 : decode cX2_init 52 = .ok (.aastore, 1) := by decide +kernel
theorem dX2_init_53 : decode cX2_init 53 = .ok (.iinc 1 1, 3) := by decide +kernel
theorem dX2_init_56 : decode cX2_init 56 = .ok (.goto (-34), 3) := by decide +kernel
theorem dX2_init_59 : decode cX2_init 59 = .ok (.aload_n 0, 1) := by decide +kernel
theorem dX2_init_60 : decode cX2_init 60 = .ok (.iconst 0, 1) := by decide +kernel
theorem dX2_init_61 : decode cX2_init 61 = .ok (.putfield 23, 3) := by decide +kernel
theorem dX2_init_64 : decode cX2_init 64 = .ok (.aload_n 0, 1) := by decide +kernel
theorem dX2_init_65 : decode cX2_init 65 = .ok (.iconst 0, 1) := by decide +kernel
theorem dX2_init_66 : decode cX2_init 66 = .ok (.putfield 27, 3) := by decide +kernel
theorem dX2_init_69 : decode cX2_init 69 = .ok (.aload_n 0, 1) := by decide +kernel
theorem dX2_init_70 : decode cX2_init 70 = .ok (.iconst 0, 1) := by decide +kernel
theorem dX2_init_71 : decode cX2_init 71 = .ok (.putfield 30, 3) := by decide +kernel
theorem dX2_init_74 : decode cX2_init 74 = .ok (.return_, 1) := by decide +kernel
set_option maxRecDepth 20000 in
theorem ggX2_put_X2_checkIndex : GoodIn wsX2_put wsX2_checkIndex := goodIn_ca (goodIn_r _ [7, 8, 9] (by decide +kernel) (by decide +kernel)) (goodIn_sub (fun _ h => List.mem_cons_of_mem _ (List.mem_append_right _ h)) (by decide +kernel))
set_option maxRecDepth 20000 in
theorem gX2_put_X2_checkIndex : GoodIn wsX2_put (va_wsS RX2 33 yX2_checkIndex wsX2_checkIndex) := goodIn_app (goodIn_of _ (by decide +kernel)) ggX2_put_X2_checkIndex
set_option maxRecDepth 20000 in
theorem ggX2_put_X2_highestBytes : GoodIn wsX2_put wsX2_highestBytes := goodIn_r _ [12, 13] (by decide +kernel) (by decide +kernel)
set_option maxRecDepth 20000 in
theorem gX2_put_X2_highestBytes : GoodIn wsX2_put (va_wsS RX2 44 yX2_highestBytes wsX2_highestBytes) := goodIn_app (goodIn_of _ (by decide +kernel)) ggX2_put_X2_highestBytes
set_option maxRecDepth 20000 in
theorem ggX2_put_X1_merge : GoodIn wsX2_put wsX1_merge := goodIn_r _ [18, 19, 20, 21, 22, 23, 24, 25, 17, 26, 27, 28, 29, 30, 31, 32, 33, 34, 35, 36, 37, 38, 39, 40, 41, 42, 43, 44, 45, 46, 47, 48, 49, 50, 51, 52, 53, 54, 55, 56, 57, 58, 59, 60, 61, 62, 63, 69, 70, 71, 72, 73] (by decide +kernel) (by decide +kernel)
set_option maxRecDepth 20000 in
theorem gX2_put_X1_merge : GoodIn wsX2_put (wsV RX2 48 RX1 yX1_merge wsX1_merge) := goodIn_app (goodIn_of _ (by decide +kernel)) ggX2_put_X1_merge
theorem dX2_put_0 : decode cX2_put 0 = .ok (.iload_n 1, 1) := by decide +kernel
theorem dX2_put_1 : decode cX2_put 1 = .ok (.iconst 2, 1) := by decide +kernel
theorem dX2_put_2 : decode cX2_put 2 = .ok (.invokestatic 33, 3) := by decide +kernel
theorem dX2_put_5 : decode cX2_put 5 = .ok (.iload_n 2, 1) := by decide +kernel
theorem dX2_put_6 : decode cX2_put 6 = .ok (.sipush 256, 3) := by decide +kernel
theorem dX2_put_9 : decode cX2_put 9 = .ok (.invokestatic 33, 3) := by decide +kernel
theorem dX2_put_12 : decode cX2_put 12 = .ok (.iload 7, 2) := by decide +kernel
theorem dX2_put_14 : decode cX2_put 14 = .ok (.ifCond .lt 10, 3) := by decide +kernel
theorem dX2_put_17 : decode cX2_put 17 = .ok (.iload 7, 2) := by decide +kernel
theorem dX2_put_19 : decode cX2_put 19 = .ok (.bipush 8, 2) := by decide +kernel
theorem dX2_put_21 : decode cX2_put 21 = .ok (.if_icmp .le 13, 3) := by decide +kernel
theorem dX2_put_24 : decode cX2_put 24 = .ok (.new 37, 3) := by decide +kernel
theorem dX2_put_27 : decode cX2_put 27 = .ok (.dup, 1) := by decide +kernel
theorem dX2_put_28 : decode cX2_put 28 = .ok (.ldc 39, 2) := by decide +kernel
theorem dX2_put_30 : decode cX2_put 30 = .ok (.invokespecial 41, 3) := by decide +kernel
theorem dX2_put_33 : decode cX2_put 33 = .ok (.athrow, 1) := by decide +kernel
theorem dX2_put_34 : decode cX2_put 34 = .ok (.aload_n 0, 1) := by decide +kernel
theorem dX2_put_35 : decode cX2_put 35 = .ok (.getfield 11, 3) := by decide +kernel
theorem dX2_put_38 : decode cX2_put 38 = .ok (.iload_n 1, 1) := by decide +kernel
theorem dX2_put_39 : decode cX2_put 39 = .ok (.aaload, 1) := by decide +kernel
theorem dX2_put_40 : decode cX2_put 40 = .ok (.iload_n 2, 1) := by decide +kernel
theorem dX2_put_41 : decode cX2_put 41 = .ok (.lload_n 3, 1) := by decide +kernel
theorem dX2_put_42 : decode cX2_put 42 = .ok (.lload 5, 2) := by decide +kernel
theorem dX2_put_44 : decode cX2_put 44 = .ok (.iload 7, 2) := by decide +kernel
theorem dX2_put_46 : decode cX2_put 46 = .ok (.invokestatic 44, 3) := by decide +kernel
theorem dX2_put_49 : decode cX2_put 49 = .ok (.iload 7, 2) := by decide +kernel
theorem dX2_put_51 : decode cX2_put 51 = .ok (.invokevirtual 48, 3) := by decide +kernel
theorem dX2_put_54 : decode cX2_put 54 = .ok (.ireturn, 1) := by decide +kernel
set_option maxRecDepth 20000 in
theorem ggX2_get_X2_checkIndex : GoodIn wsX2_get wsX2_checkIndex := goodIn_ca (goodIn_r _ [7, 8, 9] (by decide +kernel) (by decide +kernel)) (goodIn_sub (fun _ h => List.mem_cons_of_mem _ (List.mem_append_right _ h)) (by decide +kernel))
set_option maxRecDepth 20000 in
theorem gX2_get_X2_checkIndex : GoodIn wsX2_get (va_wsS RX2 33 yX2_checkIndex wsX2_checkIndex) := goodIn_app (goodIn_of _ (by decide +kernel)) ggX2_get_X2_checkIndex
set_option maxRecDepth 20000 in
theorem ggX2_get_X2_byteAt : GoodIn wsX2_get wsX2_byteAt := goodIn_r _ [12] (by decide +kernel) (by decide +kernel)
set_option maxRecDepth 20000 in
theorem gX2_get_X2_byteAt : GoodIn wsX2_get (va_wsS RX2 60 yX2_byteAt wsX2_byteAt) := goodIn_app (goodIn_of _ (by decide +kernel)) ggX2_get_X2_byteAt
theorem dX2_get_0 : decode cX2_get 0 = .ok (.iload_n 1, 1) := by decide +kernel
theorem dX2_get_1 : decode cX2_get 1 = .ok (.iconst 2, 1) := by decide +kernel
theorem dX2_get_2 : decode cX2_get 2 = .ok (.invokestatic 33, 3) := by decide +kernel
theorem dX2_get_5 : decode cX2_get 5 = .ok (.iload_n 2, 1) := by decide +kernel
theorem dX2_get_6 : decode cX2_get 6 = .ok (.sipush 256, 3) := by decide +kernel
theorem dX2_get_9 : decode cX2_get 9 = .ok (.invokestatic 33, 3) := by decide +kernel
theorem dX2_get_12 : decode cX2_get 12 = .ok (.iload_n 3, 1) := by decide +kernel
theorem dX2_get_13 : decode cX2_get 13 = .ok (.bipush 9, 2) := by decide +kernel
theorem dX2_get_15 : decode cX2_get 15 = .ok (.invokestatic 33, 3) := by decide +kernel
theorem dX2_get_18 : decode cX2_get 18 = .ok (.aload_n 0, 1) := by decide +kernel
theorem dX2_get_19 : decode cX2_get 19 = .ok (.getfield 11, 3) := by decide +kernel
theorem dX2_get_22 : decode cX2_get 22 = .ok (.iload_n 1, 1) := by decide +kernel
theorem dX2_get_23 : decode cX2_get 23 = .ok (.aaload, 1) := by decide +kernel
theorem dX2_get_24 : decode cX2_get 24 = .ok (.astore 4, 2) := by decide +kernel
theorem dX2_get_26 : decode cX2_get 26 = .ok (.iload_n 3, 1) := by decide +kernel
theorem dX2_get_27 : decode cX2_get 27 = .ok (.ifCond .ne 11, 3) := by decide +kernel
theorem dX2_get_30 : decode cX2_get 30 = .ok (.aload 4, 2) := by decide +kernel
theorem dX2_get_32 : decode cX2_get 32 = .ok (.getfield 52, 3) := by decide +kernel
theorem dX2_get_35 : decode cX2_get 35 = .ok (.iload_n 2, 1) := by decide +kernel
theorem dX2_get_36 : decode cX2_get 36 = .ok (.iaload, 1) := by decide +kernel
theorem dX2_get_37 : decode cX2_get 37 = .ok (.ireturn, 1) := by decide +kernel
theorem dX2_get_38 : decode cX2_get 38 = .ok (.iload_n 3, 1) := by decide +kernel
theorem dX2_get_39 : decode cX2_get 39 = .ok (.aload 4, 2) := by decide +kernel
theorem dX2_get_41 : decode cX2_get 41 = .ok (.getfield 52, 3) := by decide +kernel
theorem dX2_get_44 : decode cX2_get 44 = .ok (.iload_n 2, 1) := by decide +kernel
theorem dX2_get_45 : decode cX2_get 45 = .ok (.iaload, 1) := by decide +kernel
theorem dX2_get_46 : decode cX2_get 46 = .ok (.if_icmp .le 7, 3) := by decide +kernel
theorem dX2_get_49 : decode cX2_get 49 = .ok (.iconst (-1), 1) := by decide +kernel
theorem dX2_get_50 : decode cX2_get 50 = .ok (.goto 16, 3) := by decide +kernel
theorem dX2_get_53 : decode cX2_get 53 = .ok (.aload 4, 2) := by decide +kernel
theorem dX2_get_55 : decode cX2_get 55 = .ok (.getfield 56, 3) := by decide +kernel
theorem dX2_get_58 : decode cX2_get 58 = .ok (.iload_n 2, 1) := by decide +kernel
theorem dX2_get_59 : decode cX2_get 59 = .ok (.laload, 1) := by decide +kernel
theorem dX2_get_60 : decode cX2_get 60 = .ok (.iload_n 3, 1) := by decide +kernel
theorem dX2_get_61 : decode cX2_get 61 = .ok (.iconst 1, 1) := by decide +kernel
theorem dX2_get_62 : decode cX2_get 62 = .ok (.isub, 1) := by decide +kernel
theorem dX2_get_63 : decode cX2_get 63 = .ok (.invokestatic 60, 3) := by decide +kernel
theorem dX2_get_66 : decode cX2_get 66 = .ok (.ireturn, 1) := by decide +kernel
set_option maxRecDepth 20000 in
theorem ggX2_stamp_X2_checkIndex : GoodIn wsX2_stamp wsX2_checkIndex := goodIn_ca (goodIn_r _ [6, 7, 8] (by decide +kernel) (by decide +kernel)) (goodIn_sub (fun _ h => List.mem_cons_of_mem _ (List.mem_append_right _ h)) (by decide +kernel))
set_option maxRecDepth 20000 in
theorem gX2_stamp_X2_checkIndex : GoodIn wsX2_stamp (va_wsS RX2 33 yX2_checkIndex wsX2_checkIndex) := goodIn_app (goodIn_of _ (by decide +kernel)) ggX2_stamp_X2_checkIndex
set_option maxRecDepth 20000 in
theorem ggX2_stamp_X1_has : GoodIn wsX2_stamp wsX1_has := goodIn_r _ [13, 14, 20, 21, 22, 23, 24] (by decide +kernel) (by decide +kernel)
set_option maxRecDepth 20000 in
theorem gX2_stamp_X1_has : GoodIn wsX2_stamp (wsV RX2 64 RX1 yX1_has wsX1_has) := goodIn_app (goodIn_of _ (by decide +kernel)) ggX2_stamp_X1_has
theorem dX2_stamp_0 : decode cX2_stamp 0 = .ok (.iload_n 1, 1) := by decide +kernel
theorem dX2_stamp_1 : decode cX2_stamp 1 = .ok (.iconst 2, 1) := by decide +kernel
theorem dX2_stamp_2 : decode cX2_stamp 2 = .ok (.invokestatic 33, 3) := by decide +kernel
theorem dX2_stamp_5 : decode cX2_stamp 5 = .ok (.iload_n 2, 1) := by decide +kernel
theorem dX2_stamp_6 : decode cX2_stamp 6 = .ok (.sipush 256, 3) := by decide +kernel
theorem dX2_stamp_9 : decode cX2_stamp 9 = .ok (.invokestatic 33, 3) := by decide +kernel
theorem dX2_stamp_12 : decode cX2_stamp 12 = .ok (.aload_n 0, 1) := by decide +kernel
theorem dX2_stamp_13 : decode cX2_stamp 13 = .ok (.getfield 11, 3) := by decide +kernel
theorem dX2_stamp_16 : decode cX2_stamp 16 = .ok (.iload_n 1, 1) := by decide +kernel
theorem dX2_stamp_17 : decode cX2_stamp 17 = .ok (.aaload, 1) := by decide +kernel
theorem dX2_stamp_18 : decode cX2_stamp 18 = .ok (.astore_n 3, 1) := by decide +kernel
theorem dX2_stamp_19 : decode cX2_stamp 19 = .ok (.aload_n 3, 1) := by decide +kernel
theorem dX2_stamp_20 : decode cX2_stamp 20 = .ok (.iload_n 2, 1) := by decide +kernel
theorem dX2_stamp_21 : decode cX2_stamp 21 = .ok (.invokevirtual 64, 3) := by decide +kernel
theorem dX2_stamp_24 : decode cX2_stamp 24 = .ok (.ifCond .eq 12, 3) := by decide +kernel
theorem dX2_stamp_27 : decode cX2_stamp 27 = .ok (.aload_n 3, 1) := by decide +kernel
theorem dX2_stamp_28 : decode cX2_stamp 28 = .ok (.getfield 68, 3) := by decide +kernel
theorem dX2_stamp_31 : decode cX2_stamp 31 = .ok (.iload_n 2, 1) := by decide +kernel
theorem dX2_stamp_32 : decode cX2_stamp 32 = .ok (.laload, 1) := by decide +kernel
theorem dX2_stamp_33 : decode cX2_stamp 33 = .ok (.goto 4, 3) := by decide +kernel
theorem dX2_stamp_36 : decode cX2_stamp 36 = .ok (.lconst 0, 1) := by decide +kernel
theorem dX2_stamp_37 : decode cX2_stamp 37 = .ok (.lreturn, 1) := by decide +kernel
set_option maxRecDepth 20000 in
theorem ggX2_hash_X2_checkIndex : GoodIn wsX2_hash wsX2_checkIndex := goodIn_ca (goodIn_r _ [6, 7, 8] (by decide +kernel) (by decide +kernel)) (goodIn_sub (fun _ h => List.mem_cons_of_mem _ (List.mem_append_right _ h)) (by decide +kernel))
set_option maxRecDepth 20000 in
theorem gX2_hash_X2_checkIndex : GoodIn wsX2_hash (va_wsS RX2 33 yX2_checkIndex wsX2_checkIndex) := goodIn_app (goodIn_of _ (by decide +kernel)) ggX2_hash_X2_checkIndex
set_option maxRecDepth 20000 in
theorem ggX2_hash_X2_nodesOf : GoodIn wsX2_hash wsX2_nodesOf := goodIn_r _ [11] (by decide +kernel) (by decide +kernel)
set_option maxRecDepth 20000 in
theorem gX2_hash_X2_nodesOf : GoodIn wsX2_hash (va_wsS RX2 71 yX2_nodesOf wsX2_nodesOf) := goodIn_app (goodIn_of _ (by decide +kernel)) ggX2_hash_X2_nodesOf
set_option maxRecDepth 20000 in
theorem ggX2_hash_X2_treePlace : GoodIn wsX2_hash wsX2_treePlace := goodIn_r _ [14, 9, 10, 5, 11] (by decide +kernel) (by decide +kernel)
set_option maxRecDepth 20000 in
theorem gX2_hash_X2_treePlace : GoodIn wsX2_hash (va_wsS RX2 78 yX2_treePlace wsX2_treePlace) := goodIn_app (goodIn_of _ (by decide +kernel)) ggX2_hash_X2_treePlace
theorem dX2_hash_0 : decode cX2_hash 0 = .ok (.iload_n 1, 1) := by decide +kernel
theorem dX2_hash_1 : decode cX2_hash 1 = .ok (.iconst 2, 1) := by decide +kernel
theorem dX2_hash_2 : decode cX2_hash 2 = .ok (.invokestatic 33, 3) := by decide +kernel
theorem dX2_hash_5 : decode cX2_hash 5 = .ok (.iload_n 2, 1) := by decide +kernel
theorem dX2_hash_6 : decode cX2_hash 6 = .ok (.iconst 4, 1) := by decide +kernel
theorem dX2_hash_7 : decode cX2_hash 7 = .ok (.invokestatic 33, 3) := by decide +kernel
theorem dX2_hash_10 : decode cX2_hash 10 = .ok (.iload_n 3, 1) := by decide +kernel
theorem dX2_hash_11 : decode cX2_hash 11 = .ok (.iload_n 2, 1) := by decide +kernel
theorem dX2_hash_12 : decode cX2_hash 12 = .ok (.invokestatic 71, 3) := by decide +kernel
theorem dX2_hash_15 : decode cX2_hash 15 = .ok (.invokestatic 33, 3) := by decide +kernel
theorem dX2_hash_18 : decode cX2_hash 18 = .ok (.aload_n 0, 1) := by decide +kernel
theorem dX2_hash_19 : decode cX2_hash 19 = .ok (.getfield 11, 3) := by decide +kernel
theorem dX2_hash_22 : decode cX2_hash 22 = .ok (.iload_n 1, 1) := by decide +kernel
theorem dX2_hash_23 : decode cX2_hash 23 = .ok (.aaload, 1) := by decide +kernel
theorem dX2_hash_24 : decode cX2_hash 24 = .ok (.getfield 75, 3) := by decide +kernel
theorem dX2_hash_27 : decode cX2_hash 27 = .ok (.iload_n 2, 1) := by decide +kernel
theorem dX2_hash_28 : decode cX2_hash 28 = .ok (.iload_n 3, 1) := by decide +kernel
theorem dX2_hash_29 : decode cX2_hash 29 = .ok (.invokestatic 78, 3) := by decide +kernel
theorem dX2_hash_32 : decode cX2_hash 32 = .ok (.laload, 1) := by decide +kernel
theorem dX2_hash_33 : decode cX2_hash 33 = .ok (.lreturn, 1) := by decide +kernel
set_option maxRecDepth 20000 in
theorem ggX2_start_X2_checkIndex : GoodIn wsX2_start wsX2_checkIndex := goodIn_ca (goodIn_r _ [8, 9, 10] (by decide +kernel) (by decide +kernel)) (goodIn_sub (fun _ h => List.mem_cons_of_mem _ (List.mem_append_right _ h)) (by decide +kernel))
set_option maxRecDepth 20000 in
theorem gX2_start_X2_checkIndex : GoodIn wsX2_start (va_wsS RX2 33 yX2_checkIndex wsX2_checkIndex) := goodIn_app (goodIn_of _ (by decide +kernel)) ggX2_start_X2_checkIndex
set_option maxRecDepth 20000 in
theorem ggX2_start_X2_send : GoodIn wsX2_start wsX2_send := goodIn_r _ [14, 15, 16, 1, 17, 18, 19, 20, 21, 22, 23, 24, 25, 26, 7, 27, 28, 29, 30, 31, 32, 33, 34, 35, 36, 37, 38, 39, 40, 41, 42, 43, 44, 45, 46, 47, 48, 49, 50, 51, 52, 53, 54, 55, 56, 57] (by decide +kernel) (by decide +kernel)
set_option maxRecDepth 20000 in
theorem gX2_start_X2_send : GoodIn wsX2_start (wsV RX2 82 RX2 yX2_send wsX2_send) := goodIn_app (goodIn_of _ (by decide +kernel)) ggX2_start_X2_send
set_option maxRecDepth 20000 in
theorem ggX2_start_X2_other : GoodIn wsX2_start wsX2_other := goodIn_r _ [27] (by decide +kernel) (by decide +kernel)
set_option maxRecDepth 20000 in
theorem gX2_start_X2_other : GoodIn wsX2_start (va_wsS RX2 86 yX2_other wsX2_other) := goodIn_app (goodIn_of _ (by decide +kernel)) ggX2_start_X2_other
theorem dX2_start_0 : decode cX2_start 0 = .ok (.iload_n 1, 1) := by decide +kernel
theorem dX2_start_1 : decode cX2_start 1 = .ok (.iconst 2, 1) := by decide +kernel
theorem dX2_start_2 : decode cX2_start 2 = .ok (.invokestatic 33, 3) := by decide +kernel
theorem dX2_start_5 : decode cX2_start 5 = .ok (.aload_n 0, 1) := by decide +kernel
theorem dX2_start_6 : decode cX2_start 6 = .ok (.iload_n 1, 1) := by decide +kernel
theorem dX2_start_7 : decode cX2_start 7 = .ok (.iconst 0, 1) := by decide +kernel
theorem dX2_start_8 : decode cX2_start 8 = .ok (.iconst 0, 1) := by decide +kernel
theorem dX2_start_9 : decode cX2_start 9 = .ok (.iconst 0, 1) := by decide +kernel
theorem dX2_start_10 : decode cX2_start 10 = .ok (.iconst 0, 1) := by decide +kernel
theorem dX2_start_11 : decode cX2_start 11 = .ok (.invokevirtual 82, 3) := by decide +kernel
theorem dX2_start_14 : decode cX2_start 14 = .ok (.istore_n 2, 1) := by decide +kernel
theorem dX2_start_15 : decode cX2_start 15 = .ok (.iload_n 2, 1) := by decide +kernel
theorem dX2_start_16 : decode cX2_start 16 = .ok (.iconst (-1), 1) := by decide +kernel
theorem dX2_start_17 : decode cX2_start 17 = .ok (.if_icmp .ne 5, 3) := by decide +kernel
theorem dX2_start_20 : decode cX2_start 20 = .ok (.iconst 0, 1) := by decide +kernel
theorem dX2_start_21 : decode cX2_start 21 = .ok (.ireturn, 1) := by decide +kernel
theorem dX2_start_22 : decode cX2_start 22 = .ok (.aload_n 0, 1) := by decide +kernel
theorem dX2_start_23 : decode cX2_start 23 = .ok (.getfield 17, 3) := by decide +kernel
theorem dX2_start_26 : decode cX2_start 26 = .ok (.iload_n 1, 1) := by decide +kernel
theorem dX2_start_27 : decode cX2_start 27 = .ok (.invokestatic 86, 3) := by decide +kernel
theorem dX2_start_30 : decode cX2_start 30 = .ok (.aaload, 1) := by decide +kernel
theorem dX2_start_31 : decode cX2_start 31 = .ok (.getfield 89, 3) := by decide +kernel
theorem dX2_start_34 : decode cX2_start 34 = .ok (.iload_n 2, 1) := by decide +kernel
theorem dX2_start_35 : decode cX2_start 35 = .ok (.iconst 4, 1) := by decide +kernel
theorem dX2_start_36 : decode cX2_start 36 = .ok (.imul, 1) := by decide +kernel
theorem dX2_start_37 : decode cX2_start 37 = .ok (.aload_n 0, 1) := by decide +kernel
theorem dX2_start_38 : decode cX2_start 38 = .ok (.getfield 11, 3) := by decide +kernel
theorem dX2_start_41 : decode cX2_start 41 = .ok (.iload_n 1, 1) := by decide +kernel
theorem dX2_start_42 : decode cX2_start 42 = .ok (.aaload, 1) := by decide +kernel
theorem dX2_start_43 : decode cX2_start 43 = .ok (.getfield 75, 3) := by decide +kernel
theorem dX2_start_46 : decode cX2_start 46 = .ok (.iconst 0, 1) := by decide +kernel
theorem dX2_start_47 : decode cX2_start 47 = .ok (.laload, 1) := by decide +kernel
theorem dX2_start_48 : decode cX2_start 48 = .ok (.lastore, 1) := by decide +kernel
theorem dX2_start_49 : decode cX2_start 49 = .ok (.iconst 1, 1) := by decide +kernel
theorem dX2_start_50 : decode cX2_start 50 = .ok (.ireturn, 1) := by decide +kernel
set_option maxRecDepth 20000 in
theorem ggX2_step_X2_checkIndex : GoodIn wsX2_step wsX2_checkIndex := goodIn_ca (goodIn_r _ [4, 5, 6] (by decide +kernel) (by decide +kernel)) (goodIn_sub (fun _ h => List.mem_cons_of_mem _ (List.mem_append_right _ h)) (by decide +kernel))
set_option maxRecDepth 20000 in
theorem gX2_step_X2_checkIndex : GoodIn wsX2_step (va_wsS RX2 33 yX2_checkIndex wsX2_checkIndex) := goodIn_app (goodIn_of _ (by decide +kernel)) ggX2_step_X2_checkIndex
set_option maxRecDepth 20000 in
theorem ggX2_step_X2_receive : GoodIn wsX2_step wsX2_receive := goodIn_r _ [10, 11, 12, 13, 14, 15, 16, 17, 18, 19, 20, 21, 22, 23, 24, 25, 26, 27, 3, 28, 29, 30, 31, 32, 33, 34, 35, 36, 37, 38, 39, 40, 41, 42, 43, 44, 45, 46, 47, 48, 49, 50, 51, 52, 53, 54, 55, 56, 57, 58, 59, 60, 61, 62, 63, 64, 65, 66, 67, 68, 69, 70, 71, 72, 73, 74, 75, 76, 77, 78, 79, 80, 81, 82, 83, 84, 85, 86, 87, 88, 89, 90, 91, 92, 93, 94, 95, 96, 97, 98, 99, 100, 101, 102, 103, 104, 105, 106, 107, 108, 109, 110, 111, 112, 113, 114, 115, 116, 117, 118, 119, 120, 121, 122, 123, 124, 125, 126, 127, 128, 129, 130, 131, 132, 133, 134, 135, 136, 137, 138, 139, 140, 141, 142, 143, 144, 145, 146, 147, 148, 149, 150, 151, 152, 153, 154, 155, 156, 157, 158, 159, 160, 161, 162, 163, 164, 165, 166, 167, 168, 169, 170, 171, 172, 173, 174, 175, 176, 177, 178, 179, 180, 181, 182, 183, 184] (by decide +kernel) (by decide +kernel)
set_option maxRecDepth 20000 in
theorem gX2_step_X2_receive : GoodIn wsX2_step (wsV RX2 90 RX2 yX2_receive wsX2_receive) := goodIn_app (goodIn_of _ (by decide +kernel)) ggX2_step_X2_receive
theorem dX2_step_0 : decode cX2_step 0 = .ok (.iload_n 1, 1) := by decide +kernel
theorem dX2_step_1 : decode cX2_step 1 = .ok (.iconst 2, 1) := by decide +kernel
theorem dX2_step_2 : decode cX2_step 2 = .ok (.invokestatic 33, 3) := by decide +kernel
theorem dX2_step_5 : decode cX2_step 5 = .ok (.aload_n 0, 1) := by decide +kernel
theorem dX2_step_6 : decode cX2_step 6 = .ok (.iload_n 1, 1) := by decide +kernel
theorem dX2_step_7 : decode cX2_step 7 = .ok (.invokevirtual 90, 3) := by decide +kernel
theorem dX2_step_10 : decode cX2_step 10 = .ok (.ireturn, 1) := by decide +kernel
set_option maxRecDepth 20000 in
theorem ggX2_lose_X2_checkIndex : GoodIn wsX2_lose wsX2_checkIndex := goodIn_ca (goodIn_r _ [7, 8, 9] (by decide +kernel) (by decide +kernel)) (goodIn_sub (fun _ h => List.mem_cons_of_mem _ (List.mem_append_right _ h)) (by decide +kernel))
set_option maxRecDepth 20000 in
theorem gX2_lose_X2_checkIndex : GoodIn wsX2_lose (va_wsS RX2 33 yX2_checkIndex wsX2_checkIndex) := goodIn_app (goodIn_of _ (by decide +kernel)) ggX2_lose_X2_checkIndex
set_option maxRecDepth 20000 in
theorem ggX2_lose_X0_takeOldest : GoodIn wsX2_lose wsX0_takeOldest := goodIn_r _ [14, 15, 16, 17, 18, 19, 13, 20, 26, 27, 28, 29, 30, 31, 32, 33, 34, 35] (by decide +kernel) (by decide +kernel)
set_option maxRecDepth 20000 in
theorem gX2_lose_X0_takeOldest : GoodIn wsX2_lose (wsV RX2 99 RX0 yX0_takeOldest wsX0_takeOldest) := goodIn_app (goodIn_of _ (by decide +kernel)) ggX2_lose_X0_takeOldest
theorem dX2_lose_0 : decode cX2_lose 0 = .ok (.iload_n 1, 1) := by decide +kernel
theorem dX2_lose_1 : decode cX2_lose 1 = .ok (.iconst 2, 1) := by decide +kernel
theorem dX2_lose_2 : decode cX2_lose 2 = .ok (.invokestatic 33, 3) := by decide +kernel
theorem dX2_lose_5 : decode cX2_lose 5 = .ok (.aload_n 0, 1) := by decide +kernel
theorem dX2_lose_6 : decode cX2_lose 6 = .ok (.getfield 17, 3) := by decide +kernel
theorem dX2_lose_9 : decode cX2_lose 9 = .ok (.iload_n 1, 1) := by decide +kernel
theorem dX2_lose_10 : decode cX2_lose 10 = .ok (.aaload, 1) := by decide +kernel
theorem dX2_lose_11 : decode cX2_lose 11 = .ok (.astore_n 2, 1) := by decide +kernel
theorem dX2_lose_12 : decode cX2_lose 12 = .ok (.aload_n 2, 1) := by decide +kernel
theorem dX2_lose_13 : decode cX2_lose 13 = .ok (.getfield 93, 3) := by decide +kernel
theorem dX2_lose_16 : decode cX2_lose 16 = .ok (.ifCond .ne 5, 3) := by decide +kernel
theorem dX2_lose_19 : decode cX2_lose 19 = .ok (.iconst (-1), 1) := by decide +kernel
theorem dX2_lose_20 : decode cX2_lose 20 = .ok (.ireturn, 1) := by decide +kernel
theorem dX2_lose_21 : decode cX2_lose 21 = .ok (.aload_n 2, 1) := by decide +kernel
theorem dX2_lose_22 : decode cX2_lose 22 = .ok (.getfield 96, 3) := by decide +kernel
theorem dX2_lose_25 : decode cX2_lose 25 = .ok (.aload_n 2, 1) := by decide +kernel
theorem dX2_lose_26 : decode cX2_lose 26 = .ok (.invokevirtual 99, 3) := by decide +kernel
theorem dX2_lose_29 : decode cX2_lose 29 = .ok (.iaload, 1) := by decide +kernel
theorem dX2_lose_30 : decode cX2_lose 30 = .ok (.ireturn, 1) := by decide +kernel
set_option maxRecDepth 20000 in
theorem ggX2_run_X2_messagesLeft : GoodIn wsX2_run wsX2_messagesLeft := goodIn_r _ [7, 8, 9, 166, 167, 168, 169, 170, 171, 172, 173, 174, 175, 176, 177, 178, 179, 180] (by decide +kernel) (by decide +kernel)
set_option maxRecDepth 20000 in
theorem gX2_run_X2_messagesLeft : GoodIn wsX2_run (wsV RX2 105 RX2 yX2_messagesLeft wsX2_messagesLeft) := goodIn_app (goodIn_of _ (by decide +kernel)) ggX2_run_X2_messagesLeft
set_option maxRecDepth 20000 in
theorem ggX2_run_X2_receive : GoodIn wsX2_run wsX2_receive := goodIn_r _ [13, 8, 9, 14, 15, 16, 17, 18, 19, 20, 21, 22, 23, 24, 25, 26, 27, 28, 6, 29, 30, 31, 32, 33, 34, 35, 36, 37, 38, 39, 40, 41, 42, 43, 44, 45, 46, 47, 48, 49, 50, 51, 52, 53, 54, 55, 56, 57, 58, 59, 60, 61, 62, 63, 64, 65, 66, 67, 68, 69, 70, 71, 72, 73, 74, 75, 76, 77, 78, 79, 80, 81, 82, 83, 84, 85, 86, 87, 88, 89, 90, 91, 92, 93, 94, 95, 96, 97, 98, 99, 100, 101, 102, 103, 104, 105, 106, 107, 108, 109, 110, 111, 112, 113, 114, 115, 116, 117, 118, 119, 120, 121, 122, 123, 124, 125, 126, 127, 128, 129, 130, 131, 132, 133, 134, 135, 136, 137, 138, 139, 140, 141, 142, 143, 144, 145, 146, 147, 148, 149, 150, 151, 152, 153, 154, 155, 156, 157, 158, 159, 160, 161, 162, 163, 164, 165, 166, 167, 168, 169, 170, 171, 172, 173, 174, 175, 176, 177, 178, 179, 180, 181, 182, 183, 184, 185] (by decide +kernel) (by decide +kernel)
set_option maxRecDepth 20000 in
theorem gX2_run_X2_receive : GoodIn wsX2_run (wsV RX2 90 RX2 yX2_receive wsX2_receive) := goodIn_app (goodIn_of _ (by decide +kernel)) ggX2_run_X2_receive
theorem dX2_run_0 : decode cX2_run 0 = .ok (.iload_n 1, 1) := by decide +kernel
theorem dX2_run_1 : decode cX2_run 1 = .ok (.ifCond .lt 10, 3) := by decide +kernel
theorem dX2_run_4 : decode cX2_run 4 = .ok (.iload_n 1, 1) := by decide +kernel
theorem dX2_run_5 : decode cX2_run 5 = .ok (.sipush 1000, 3) := by decide +kernel
theorem dX2_run_8 : decode cX2_run 8 = .ok (.if_icmp .le 13, 3) := by decide +kernel
theorem dX2_run_11 : decode cX2_run 11 = .ok (.new 37, 3) := by decide +kernel
theorem dX2_run_14 : decode cX2_run 14 = .ok (.dup, 1) := by decide +kernel
theorem dX2_run_15 : decode cX2_run 15 = .ok (.ldc 103, 2) := by decide +kernel
theorem dX2_run_17 : decode cX2_run 17 = .ok (.invokespecial 41, 3) := by decide +kernel
theorem dX2_run_20 : decode cX2_run 20 = .ok (.athrow, 1) := by decide +kernel
theorem dX2_run_21 : decode cX2_run 21 = .ok (.iconst 0, 1) := by decide +kernel
theorem dX2_run_22 : decode cX2_run 22 = .ok (.istore_n 2, 1) := by decide +kernel
theorem dX2_run_23 : decode cX2_run 23 = .ok (.iconst 0, 1) := by decide +kernel
theorem dX2_run_24 : decode cX2_run 24 = .ok (.istore_n 3, 1) := by decide +kernel
theorem dX2_run_25 : decode cX2_run 25 = .ok (.iload_n 3, 1) := by decide +kernel
theorem dX2_run_26 : decode cX2_run 26 = .ok (.iconst 2, 1) := by decide +kernel
theorem dX2_run_27 : decode cX2_run 27 = .ok (.iload_n 1, 1) := by decide +kernel
theorem dX2_run_28 : decode cX2_run 28 = .ok (.imul, 1) := by decide +kernel
theorem dX2_run_29 : decode cX2_run 29 = .ok (.if_icmp .ge 35, 3) := by decide +kernel
theorem dX2_run_32 : decode cX2_run 32 = .ok (.iload_n 2, 1) := by decide +kernel
theorem dX2_run_33 : decode cX2_run 33 = .ok (.iload_n 1, 1) := by decide +kernel
theorem dX2_run_34 : decode cX2_run 34 = .ok (.if_icmp .ge 30, 3) := by decide +kernel
theorem dX2_run_37 : decode cX2_run 37 = .ok (.aload_n 0, 1) := by decide +kernel
theorem dX2_run_38 : decode cX2_run 38 = .ok (.invokevirtual 105, 3) := by decide +kernel
theorem dX2_run_41 : decode cX2_run 41 = .ok (.ifCond .eq 23, 3) := by decide +kernel
theorem dX2_run_44 : decode cX2_run 44 = .ok (.aload_n 0, 1) := by decide +kernel
theorem dX2_run_45 : decode cX2_run 45 = .ok (.iload_n 3, 1) := by decide +kernel
theorem dX2_run_46 : decode cX2_run 46 = .ok (.iconst 2, 1) := by decide +kernel
theorem dX2_run_47 : decode cX2_run 47 = .ok (.irem, 1) := by decide +kernel
theorem dX2_run_48 : decode cX2_run 48 = .ok (.invokevirtual 90, 3) := by decide +kernel
theorem dX2_run_51 : decode cX2_run 51 = .ok (.iconst (-1), 1) := by decide +kernel
theorem dX2_run_52 : decode cX2_run 52 = .ok (.if_icmp .eq 6, 3) := by decide +kernel
theorem dX2_run_55 : decode cX2_run 55 = .ok (.iinc 2 1, 3) := by decide +kernel
theorem dX2_run_58 : decode cX2_run 58 = .ok (.iinc 3 1, 3) := by decide +kernel
theorem dX2_run_61 : decode cX2_run 61 = .ok (.goto (-36), 3) := by decide +kernel
theorem dX2_run_64 : decode cX2_run 64 = .ok (.iload_n 2, 1) := by decide +kernel
theorem dX2_run_65 : decode cX2_run 65 = .ok (.ireturn, 1) := by decide +kernel
set_option maxRecDepth 20000 in
theorem ggX2_message_X2_checkIndex : GoodIn wsX2_message wsX2_checkIndex := goodIn_ca (goodIn_r _ [10, 11, 12] (by decide +kernel) (by decide +kernel)) (goodIn_sub (fun _ h => List.mem_cons_of_mem _ (List.mem_append_right _ h)) (by decide +kernel))
set_option maxRecDepth 20000 in
theorem gX2_message_X2_checkIndex : GoodIn wsX2_message (va_wsS RX2 33 yX2_checkIndex wsX2_checkIndex) := goodIn_app (goodIn_of _ (by decide +kernel)) ggX2_message_X2_checkIndex
set_option maxRecDepth 20000 in
theorem ggX2_message_X0_ringPlace : GoodIn wsX2_message wsX0_ringPlace := goodIn_r _ [17, 18, 41, 42, 43, 44, 45, 46, 47, 48, 49, 50] (by decide +kernel) (by decide +kernel)
set_option maxRecDepth 20000 in
theorem gX2_message_X0_ringPlace : GoodIn wsX2_message (wsV RX2 109 RX0 yX0_ringPlace wsX0_ringPlace) := goodIn_app (goodIn_of _ (by decide +kernel)) ggX2_message_X0_ringPlace
set_option maxRecDepth 20000 in
theorem ggX2_message_J6_bitCount_0f7a4 : GoodIn wsX2_message wsJ6_bitCount_0f7a4 := goodIn_r _ [22, 23, 24, 25] (by decide +kernel) (by decide +kernel)
set_option maxRecDepth 20000 in
theorem gX2_message_J6_bitCount_0f7a4 : GoodIn wsX2_message (va_wsS RX2 121 yJ6_bitCount_0f7a4 wsJ6_bitCount_0f7a4) := goodIn_app (goodIn_of _ (by decide +kernel)) ggX2_message_J6_bitCount_0f7a4
set_option maxRecDepth 20000 in
theorem ggX2_message_X0_keyOfEntry : GoodIn wsX2_message wsX0_keyOfEntry := goodIn_r _ [29, 30, 31, 32, 33, 16, 34, 35, 41, 42, 43, 44, 45, 46, 47, 48, 49, 50] (by decide +kernel) (by decide +kernel)
set_option maxRecDepth 20000 in
theorem gX2_message_X0_keyOfEntry : GoodIn wsX2_message (wsV RX2 126 RX0 yX0_keyOfEntry wsX0_keyOfEntry) := goodIn_app (goodIn_of _ (by decide +kernel)) ggX2_message_X0_keyOfEntry
theorem dX2_message_0 : decode cX2_message 0 = .ok (.iload_n 1, 1) := by decide +kernel
theorem dX2_message_1 : decode cX2_message 1 = .ok (.iconst 2, 1) := by decide +kernel
theorem dX2_message_2 : decode cX2_message 2 = .ok (.invokestatic 33, 3) := by decide +kernel
theorem dX2_message_5 : decode cX2_message 5 = .ok (.aload_n 0, 1) := by decide +kernel
theorem dX2_message_6 : decode cX2_message 6 = .ok (.getfield 17, 3) := by decide +kernel
theorem dX2_message_9 : decode cX2_message 9 = .ok (.iload_n 1, 1) := by decide +kernel
theorem dX2_message_10 : decode cX2_message 10 = .ok (.aaload, 1) := by decide +kernel
theorem dX2_message_11 : decode cX2_message 11 = .ok (.astore 4, 2) := by decide +kernel
theorem dX2_message_13 : decode cX2_message 13 = .ok (.iload_n 2, 1) := by decide +kernel
theorem dX2_message_14 : decode cX2_message 14 = .ok (.aload 4, 2) := by decide +kernel
theorem dX2_message_16 : decode cX2_message 16 = .ok (.getfield 93, 3) := by decide +kernel
theorem dX2_message_19 : decode cX2_message 19 = .ok (.invokestatic 33, 3) := by decide +kernel
theorem dX2_message_22 : decode cX2_message 22 = .ok (.iload_n 3, 1) := by decide +kernel
theorem dX2_message_23 : decode cX2_message 23 = .ok (.bipush 8, 2) := by decide +kernel
theorem dX2_message_25 : decode cX2_message 25 = .ok (.invokestatic 33, 3) := by decide +kernel
theorem dX2_message_28 : decode cX2_message 28 = .ok (.aload 4, 2) := by decide +kernel
theorem dX2_message_30 : decode cX2_message 30 = .ok (.iload_n 2, 1) := by decide +kernel
theorem dX2_message_31 : decode cX2_message 31 = .ok (.invokevirtual 109, 3) := by decide +kernel
theorem dX2_message_34 : decode cX2_message 34 = .ok (.istore 5, 2) := by decide +kernel
theorem dX2_message_36 : decode cX2_message 36 = .ok (.iload_n 3, 1) := by decide +kernel
theorem dX2_message_37 : decode cX2_message 37 = .ok (.tableswitch 70 0 3 #[31, 40, 49, 58], 31) := by decide +kernel
theorem dX2_message_68 : decode cX2_message 68 = .ok (.aload 4, 2) := by decide +kernel
theorem dX2_message_70 : decode cX2_message 70 = .ok (.getfield 96, 3) := by decide +kernel
theorem dX2_message_73 : decode cX2_message 73 = .ok (.iload 5, 2) := by decide +kernel
theorem dX2_message_75 : decode cX2_message 75 = .ok (.iaload, 1) := by decide +kernel
theorem dX2_message_76 : decode cX2_message 76 = .ok (.ireturn, 1) := by decide +kernel
theorem dX2_message_77 : decode cX2_message 77 = .ok (.aload 4, 2) := by decide +kernel
theorem dX2_message_79 : decode cX2_message 79 = .ok (.getfield 112, 3) := by decide +kernel
theorem dX2_message_82 : decode cX2_message 82 = .ok (.iload 5, 2) := by decide +kernel
theorem dX2_message_84 : decode cX2_message 84 = .ok (.iaload, 1) := by decide +kernel
theorem dX2_message_85 : decode cX2_message 85 = .ok (.ireturn, 1) := by decide +kernel
theorem dX2_message_86 : decode cX2_message 86 = .ok (.aload 4, 2) := by decide +kernel
theorem dX2_message_88 : decode cX2_message 88 = .ok (.getfield 115, 3) := by decide +kernel
theorem dX2_message_91 : decode cX2_message 91 = .ok (.iload 5, 2) := by decide +kernel
theorem dX2_message_93 : decode cX2_message 93 = .ok (.iaload, 1) := by decide +kernel
theorem dX2_message_94 : decode cX2_message 94 = .ok (.ireturn, 1) := by decide +kernel
theorem dX2_message_95 : decode cX2_message 95 = .ok (.aload 4, 2) := by decide +kernel
theorem dX2_message_97 : decode cX2_message 97 = .ok (.getfield 118, 3) := by decide +kernel
theorem dX2_message_100 : decode cX2_message 100 = .ok (.iload 5, 2) := by decide +kernel
theorem dX2_message_102 : decode cX2_message 102 = .ok (.iaload, 1) := by decide +kernel
theorem dX2_message_103 : decode cX2_message 103 = .ok (.invokestatic 121, 3) := by decide +kernel
theorem dX2_message_106 : decode cX2_message 106 = .ok (.ireturn, 1) := by decide +kernel
theorem dX2_message_107 : decode cX2_message 107 = .ok (.aload 4, 2) := by decide +kernel
theorem dX2_message_109 : decode cX2_message 109 = .ok (.iload 5, 2) := by decide +kernel
theorem dX2_message_111 : decode cX2_message 111 = .ok (.iload_n 3, 1) := by decide +kernel
theorem dX2_message_112 : decode cX2_message 112 = .ok (.iconst 4, 1) := by decide +kernel
theorem dX2_message_113 : decode cX2_message 113 = .ok (.isub, 1) := by decide +kernel
theorem dX2_message_114 : decode cX2_message 114 = .ok (.invokevirtual 126, 3) := by decide +kernel
theorem dX2_message_117 : decode cX2_message 117 = .ok (.ireturn, 1) := by decide +kernel
theorem dX2_count_0 : decode cX2_count 0 = .ok (.iload_n 1, 1) := by decide +kernel
theorem dX2_count_1 : decode cX2_count 1 = .ok (.tableswitch 98 0 6 #[43, 48, 53, 58, 68, 78, 88], 43) := by decide +kernel
theorem dX2_count_44 : decode cX2_count 44 = .ok (.aload_n 0, 1) := by decide +kernel
theorem dX2_count_45 : decode cX2_count 45 = .ok (.getfield 23, 3) := by decide +kernel
theorem dX2_count_48 : decode cX2_count 48 = .ok (.ireturn, 1) := by decide +kernel
theorem dX2_count_49 : decode cX2_count 49 = .ok (.aload_n 0, 1) := by decide +kernel
theorem dX2_count_50 : decode cX2_count 50 = .ok (.getfield 27, 3) := by decide +kernel
theorem dX2_count_53 : decode cX2_count 53 = .ok (.ireturn, 1) := by decide +kernel
theorem dX2_count_54 : decode cX2_count 54 = .ok (.aload_n 0, 1) := by decide +kernel
theorem dX2_count_55 : decode cX2_count 55 = .ok (.getfield 30, 3) := by decide +kernel
theorem dX2_count_58 : decode cX2_count 58 = .ok (.ireturn, 1) := by decide +kernel
theorem dX2_count_59 : decode cX2_count 59 = .ok (.aload_n 0, 1) := by decide +kernel
theorem dX2_count_60 : decode cX2_count 60 = .ok (.getfield 17, 3) := by decide +kernel
theorem dX2_count_63 : decode cX2_count 63 = .ok (.iconst 0, 1) := by decide +kernel
theorem dX2_count_64 : decode cX2_count 64 = .ok (.aaload, 1) := by decide +kernel
theorem dX2_count_65 : decode cX2_count 65 = .ok (.getfield 93, 3) := by decide +kernel
theorem dX2_count_68 : decode cX2_count 68 = .ok (.ireturn, 1) := by decide +kernel
theorem dX2_count_69 : decode cX2_count 69 = .ok (.aload_n 0, 1) := by decide +kernel
theorem dX2_count_70 : decode cX2_count 70 = .ok (.getfield 17, 3) := by decide +kernel
theorem dX2_count_73 : decode cX2_count 73 = .ok (.iconst 1, 1) := by decide +kernel
theorem dX2_count_74 : decode cX2_count 74 = .ok (.aaload, 1) := by decide +kernel
theorem dX2_count_75 : decode cX2_count 75 = .ok (.getfield 93, 3) := by decide +kernel
theorem dX2_count_78 : decode cX2_count 78 = .ok (.ireturn, 1) := by decide +kernel
theorem dX2_count_79 : decode cX2_count 79 = .ok (.aload_n 0, 1) := by decide +kernel
theorem dX2_count_80 : decode cX2_count 80 = .ok (.getfield 11, 3) := by decide +kernel
theorem dX2_count_83 : decode cX2_count 83 = .ok (.iconst 0, 1) := by decide +kernel
theorem dX2_count_84 : decode cX2_count 84 = .ok (.aaload, 1) := by decide +kernel
theorem dX2_count_85 : decode cX2_count 85 = .ok (.getfield 129, 3) := by decide +kernel
theorem dX2_count_88 : decode cX2_count 88 = .ok (.ireturn, 1) := by decide +kernel
theorem dX2_count_89 : decode cX2_count 89 = .ok (.aload_n 0, 1) := by decide +kernel
theorem dX2_count_90 : decode cX2_count 90 = .ok (.getfield 11, 3) := by decide +kernel
theorem dX2_count_93 : decode cX2_count 93 = .ok (.iconst 1, 1) := by decide +kernel
theorem dX2_count_94 : decode cX2_count 94 = .ok (.aaload, 1) := by decide +kernel
theorem dX2_count_95 : decode cX2_count 95 = .ok (.getfield 129, 3) := by decide +kernel
theorem dX2_count_98 : decode cX2_count 98 = .ok (.ireturn, 1) := by decide +kernel
theorem dX2_count_99 : decode cX2_count 99 = .ok (.new 132, 3) := by decide +kernel
theorem dX2_count_102 : decode cX2_count 102 = .ok (.dup, 1) := by decide +kernel
theorem dX2_count_103 : decode cX2_count 103 = .ok (.ldc 134, 2) := by decide +kernel
theorem dX2_count_105 : decode cX2_count 105 = .ok (.invokespecial 136, 3) := by decide +kernel
theorem dX2_count_108 : decode cX2_count 108 = .ok (.athrow, 1) := by decide +kernel
set_option maxRecDepth 20000 in
theorem ggX2_same_X1_hasJustSo : GoodIn wsX2_same wsX1_hasJustSo := goodIn_r _ [9, 10, 11, 12, 18, 19, 20, 21, 22] (by decide +kernel) (by decide +kernel)
set_option maxRecDepth 20000 in
theorem gX2_same_X1_hasJustSo : GoodIn wsX2_same (wsV RX2 137 RX1 yX1_hasJustSo wsX1_hasJustSo) := goodIn_app (goodIn_of _ (by decide +kernel)) ggX2_same_X1_hasJustSo
theorem dX2_same_0 : decode cX2_same 0 = .ok (.iconst 0, 1) := by decide +kernel
theorem dX2_same_1 : decode cX2_same 1 = .ok (.istore_n 1, 1) := by decide +kernel
theorem dX2_same_2 : decode cX2_same 2 = .ok (.iload_n 1, 1) := by decide +kernel
theorem dX2_same_3 : decode cX2_same 3 = .ok (.sipush 256, 3) := by decide +kernel
theorem dX2_same_6 : decode cX2_same 6 = .ok (.if_icmp .ge 49, 3) := by decide +kernel
theorem dX2_same_9 : decode cX2_same 9 = .ok (.aload_n 0, 1) := by decide +kernel
theorem dX2_same_10 : decode cX2_same 10 = .ok (.getfield 11, 3) := by decide +kernel
theorem dX2_same_13 : decode cX2_same 13 = .ok (.iconst 0, 1) := by decide +kernel
theorem dX2_same_14 : decode cX2_same 14 = .ok (.aaload, 1) := by decide +kernel
theorem dX2_same_15 : decode cX2_same 15 = .ok (.astore_n 2, 1) := by decide +kernel
theorem dX2_same_16 : decode cX2_same 16 = .ok (.aload_n 0, 1) := by decide +kernel
theorem dX2_same_17 : decode cX2_same 17 = .ok (.getfield 11, 3) := by decide +kernel
theorem dX2_same_20 : decode cX2_same 20 = .ok (.iconst 1, 1) := by decide +kernel
theorem dX2_same_21 : decode cX2_same 21 = .ok (.aaload, 1) := by decide +kernel
theorem dX2_same_22 : decode cX2_same 22 = .ok (.iload_n 1, 1) := by decide +kernel
theorem dX2_same_23 : decode cX2_same 23 = .ok (.aload_n 2, 1) := by decide +kernel
theorem dX2_same_24 : decode cX2_same 24 = .ok (.getfield 68, 3) := by decide +kernel
theorem dX2_same_27 : decode cX2_same 27 = .ok (.iload_n 1, 1) := by decide +kernel
theorem dX2_same_28 : decode cX2_same 28 = .ok (.laload, 1) := by decide +kernel
theorem dX2_same_29 : decode cX2_same 29 = .ok (.aload_n 2, 1) := by decide +kernel
theorem dX2_same_30 : decode cX2_same 30 = .ok (.getfield 56, 3) := by decide +kernel
theorem dX2_same_33 : decode cX2_same 33 = .ok (.iload_n 1, 1) := by decide +kernel
theorem dX2_same_34 : decode cX2_same 34 = .ok (.laload, 1) := by decide +kernel
theorem dX2_same_35 : decode cX2_same 35 = .ok (.aload_n 2, 1) := by decide +kernel
theorem dX2_same_36 : decode cX2_same 36 = .ok (.getfield 52, 3) := by decide +kernel
theorem dX2_same_39 : decode cX2_same 39 = .ok (.iload_n 1, 1) := by decide +kernel
theorem dX2_same_40 : decode cX2_same 40 = .ok (.iaload, 1) := by decide +kernel
theorem dX2_same_41 : decode cX2_same 41 = .ok (.invokevirtual 137, 3) := by decide +kernel
theorem dX2_same_44 : decode cX2_same 44 = .ok (.ifCond .ne 5, 3) := by decide +kernel
theorem dX2_same_47 : decode cX2_same 47 = .ok (.iconst 0, 1) := by decide +kernel
theorem dX2_same_48 : decode cX2_same 48 = .ok (.ireturn, 1) := by decide +kernel
theorem dX2_same_49 : decode cX2_same 49 = .ok (.iinc 1 1, 3) := by decide +kernel
theorem dX2_same_52 : decode cX2_same 52 = .ok (.goto (-50), 3) := by decide +kernel
theorem dX2_same_55 : decode cX2_same 55 = .ok (.iconst 1, 1) := by decide +kernel
theorem dX2_same_56 : decode cX2_same 56 = .ok (.ireturn, 1) := by decide +kernel
set_option maxRecDepth 20000 in
theorem ggX2_clear_X1_becomeEmpty : GoodIn wsX2_clear wsX1_becomeEmpty := goodIn_r _ [10, 11, 12, 13, 14, 15, 16, 17, 9, 18, 19, 20, 21, 22, 23, 24, 25, 26, 27, 28, 29, 30, 31, 32, 33, 34, 35, 36, 37, 38, 39, 40, 41, 42, 43, 44, 45, 46, 47, 48, 49, 62, 63, 64, 65, 66] (by decide +kernel) (by decide +kernel)
set_option maxRecDepth 20000 in
theorem gX2_clear_X1_becomeEmpty : GoodIn wsX2_clear (wsV RX2 140 RX1 yX1_becomeEmpty wsX1_becomeEmpty) := goodIn_app (goodIn_of _ (by decide +kernel)) ggX2_clear_X1_becomeEmpty
set_option maxRecDepth 20000 in
theorem ggX2_clear_X0_becomeEmpty : GoodIn wsX2_clear wsX0_becomeEmpty := goodIn_r _ [54, 55, 56, 67, 68, 69, 70, 71, 72, 73, 74, 75, 76] (by decide +kernel) (by decide +kernel)
set_option maxRecDepth 20000 in
theorem gX2_clear_X0_becomeEmpty : GoodIn wsX2_clear (wsV RX2 143 RX0 yX0_becomeEmpty wsX0_becomeEmpty) := goodIn_app (goodIn_of _ (by decide +kernel)) ggX2_clear_X0_becomeEmpty
theorem dX2_clear_0 : decode cX2_clear 0 = .ok (.iconst 0, 1) := by decide +kernel
theorem dX2_clear_1 : decode cX2_clear 1 = .ok (.istore_n 1, 1) := by decide +kernel
theorem dX2_clear_2 : decode cX2_clear 2 = .ok (.iload_n 1, 1) := by decide +kernel
theorem dX2_clear_3 : decode cX2_clear 3 = .ok (.iconst 2, 1) := by decide +kernel
theorem dX2_clear_4 : decode cX2_clear 4 = .ok (.if_icmp .ge 27, 3) := by decide +kernel
theorem dX2_clear_7 : decode cX2_clear 7 = .ok (.aload_n 0, 1) := by decide +kernel
theorem dX2_clear_8 : decode cX2_clear 8 = .ok (.getfield 11, 3) := by decide +kernel
theorem dX2_clear_11 : decode cX2_clear 11 = .ok (.iload_n 1, 1) := by decide +kernel
theorem dX2_clear_12 : decode cX2_clear 12 = .ok (.aaload, 1) := by decide +kernel
theorem dX2_clear_13 : decode cX2_clear 13 = .ok (.invokevirtual 140, 3) := by decide +kernel
theorem dX2_clear_16 : decode cX2_clear 16 = .ok (.aload_n 0, 1) := by decide +kernel
theorem dX2_clear_17 : decode cX2_clear 17 = .ok (.getfield 17, 3) := by decide +kernel
theorem dX2_clear_20 : decode cX2_clear 20 = .ok (.iload_n 1, 1) := by decide +kernel
theorem dX2_clear_21 : decode cX2_clear 21 = .ok (.aaload, 1) := by decide +kernel
theorem dX2_clear_22 : decode cX2_clear 22 = .ok (.invokevirtual 143, 3) := by decide +kernel
theorem dX2_clear_25 : decode cX2_clear 25 = .ok (.iinc 1 1, 3) := by decide +kernel
theorem dX2_clear_28 : decode cX2_clear 28 = .ok (.goto (-26), 3) := by decide +kernel
theorem dX2_clear_31 : decode cX2_clear 31 = .ok (.aload_n 0, 1) := by decide +kernel
theorem dX2_clear_32 : decode cX2_clear 32 = .ok (.iconst 0, 1) := by decide +kernel
theorem dX2_clear_33 : decode cX2_clear 33 = .ok (.putfield 23, 3) := by decide +kernel
theorem dX2_clear_36 : decode cX2_clear 36 = .ok (.aload_n 0, 1) := by decide +kernel
theorem dX2_clear_37 : decode cX2_clear 37 = .ok (.iconst 0, 1) := by decide +kernel
theorem dX2_clear_38 : decode cX2_clear 38 = .ok (.putfield 27, 3) := by decide +kernel
theorem dX2_clear_41 : decode cX2_clear 41 = .ok (.aload_n 0, 1) := by decide +kernel
theorem dX2_clear_42 : decode cX2_clear 42 = .ok (.iconst 0, 1) := by decide +kernel
theorem dX2_clear_43 : decode cX2_clear 43 = .ok (.putfield 30, 3) := by decide +kernel
theorem dX2_clear_46 : decode cX2_clear 46 = .ok (.return_, 1) := by decide +kernel
theorem dX2_messagesLeft_0 : decode cX2_messagesLeft 0 = .ok (.aload_n 0, 1) := by decide +kernel
theorem dX2_messagesLeft_1 : decode cX2_messagesLeft 1 = .ok (.getfield 17, 3) := by decide +kernel
theorem dX2_messagesLeft_4 : decode cX2_messagesLeft 4 = .ok (.iconst 0, 1) := by decide +kernel
theorem dX2_messagesLeft_5 : decode cX2_messagesLeft 5 = .ok (.aaload, 1) := by decide +kernel
theorem dX2_messagesLeft_6 : decode cX2_messagesLeft 6 = .ok (.getfield 93, 3) := by decide +kernel
theorem dX2_messagesLeft_9 : decode cX2_messagesLeft 9 = .ok (.ifCond .gt 15, 3) := by decide +kernel
theorem dX2_messagesLeft_12 : decode cX2_messagesLeft 12 = .ok (.aload_n 0, 1) := by decide +kernel
theorem dX2_messagesLeft_13 : decode cX2_messagesLeft 13 = .ok (.getfield 17, 3) := by decide +kernel
theorem dX2_messagesLeft_16 : decode cX2_messagesLeft 16 = .ok (.iconst 1, 1) := by decide +kernel
theorem dX2_messagesLeft_17 : decode cX2_messagesLeft 17 = .ok (.aaload, 1) := by decide +kernel
theorem dX2_messagesLeft_18 : decode cX2_messagesLeft 18 = .ok (.getfield 93, 3) := by decide +kernel
theorem dX2_messagesLeft_21 : decode cX2_messagesLeft 21 = .ok (.ifCond .le 7, 3) := by decide +kernel
theorem dX2_messagesLeft_24 : decode cX2_messagesLeft 24 = .ok (.iconst 1, 1) := by decide +kernel
theorem dX2_messagesLeft_25 : decode cX2_messagesLeft 25 = .ok (.goto 4, 3) := by decide +kernel
theorem dX2_messagesLeft_28 : decode cX2_messagesLeft 28 = .ok (.iconst 0, 1) := by decide +kernel
theorem dX2_messagesLeft_29 : decode cX2_messagesLeft 29 = .ok (.ireturn, 1) := by decide +kernel
set_option maxRecDepth 20000 in
theorem ggX2_receive_X0_takeOldest : GoodIn wsX2_receive wsX0_takeOldest := goodIn_r _ [8, 9, 10, 11, 12, 13, 7, 14, 161, 162, 163, 164, 165, 166, 167, 168, 169, 170] (by decide +kernel) (by decide +kernel)
set_option maxRecDepth 20000 in
theorem gX2_receive_X0_takeOldest : GoodIn wsX2_receive (wsV RX2 99 RX0 yX0_takeOldest wsX0_takeOldest) := goodIn_app (goodIn_of _ (by decide +kernel)) ggX2_receive_X0_takeOldest
set_option maxRecDepth 20000 in
theorem ggX2_receive_X2_answerAsk : GoodIn wsX2_receive wsX2_answerAsk := goodIn_r _ [19, 1, 20, 21, 22, 23, 24, 25, 18, 26, 27, 28, 29, 30, 31, 32, 33, 34, 35, 36, 37, 38, 39, 40, 41, 42, 43, 44, 45, 46, 7, 47, 10, 48, 49, 50, 51, 11, 12, 13, 14, 9, 52, 53, 54, 55, 56, 57, 156, 157, 158, 159, 160, 161, 162, 163, 164, 165, 166, 167, 168, 169, 170, 171, 172, 173, 174, 175] (by decide +kernel) (by decide +kernel)
set_option maxRecDepth 20000 in
theorem gX2_receive_X2_answerAsk : GoodIn wsX2_receive (wsV RX2 144 RX2 yX2_answerAsk wsX2_answerAsk) := goodIn_app (goodIn_of _ (by decide +kernel)) ggX2_receive_X2_answerAsk
set_option maxRecDepth 20000 in
theorem ggX2_receive_X2_answerList : GoodIn wsX2_receive wsX2_answerList := goodIn_r _ [61, 1, 21, 62, 63, 20, 22, 52, 53, 18, 54, 55, 56, 57, 64, 65, 66, 67, 68, 69, 70, 71, 72, 73, 74, 75, 76, 77, 27, 28, 29, 30, 31, 32, 33, 34, 35, 36, 37, 38, 39, 40, 41, 42, 43, 44, 45, 46, 7, 47, 10, 48, 49, 50, 51, 11, 12, 13, 14, 9, 78, 79, 80, 81, 82, 83, 84, 85, 86, 87, 88, 89, 90, 91, 23, 24, 25, 26, 156, 157, 158, 159, 160, 161, 162, 163, 164, 165, 166, 167, 168, 169, 170, 171, 172, 173, 174, 175] (by decide +kernel) (by decide +kernel)
set_option maxRecDepth 20000 in
theorem gX2_receive_X2_answerList : GoodIn wsX2_receive (wsV RX2 147 RX2 yX2_answerList wsX2_answerList) := goodIn_app (goodIn_of _ (by decide +kernel)) ggX2_receive_X2_answerList
set_option maxRecDepth 20000 in
theorem ggX2_receive_X2_mergeEntries : GoodIn wsX2_receive wsX2_mergeEntries := goodIn_r _ [95, 1, 63, 21, 96, 97, 98, 99, 89, 90, 7, 91, 51, 100, 101, 102, 67, 103, 104, 105, 106, 73, 69, 70, 71, 72, 107, 108, 109, 110, 111, 112, 113, 114, 115, 116, 117, 118, 119, 120, 121, 122, 123, 124, 125, 126, 127, 128, 129, 130, 131, 132, 133, 134, 135, 136, 137, 138, 139, 140, 141, 142, 143, 156, 157, 158, 159, 160, 161, 162, 163, 164, 165, 166, 167, 168, 169, 170, 171, 172, 173, 174, 175] (by decide +kernel) (by decide +kernel)
