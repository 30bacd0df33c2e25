set_option maxRecDepth 20000 in
theorem ggX0_init_X0_becomeEmpty : GoodIn wsX0_init wsX0_becomeEmpty := goodIn_r _ [18, 19, 20, 21, 22, 23, 24, 25, 26, 27, 28, 29, 30] (by decide +kernel) (by decide +kernel)
set_option maxRecDepth 20000 in
theorem gX0_init_X0_becomeEmpty : GoodIn wsX0_init (wsV RX0 37 RX0 yX0_becomeEmpty wsX0_becomeEmpty) := goodIn_app (goodIn_of _ (by decide +kernel)) ggX0_init_X0_becomeEmpty
theorem dX0_init_0 : decode cX0_init 0 = .ok (.aload_n 0, 1) := by decide +kernel
theorem dX0_init_1 : decode cX0_init 1 = .ok (.invokespecial 3, 3) := by decide +kernel
theorem dX0_init_4 : decode cX0_init 4 = .ok (.aload_n 0, 1) := by decide +kernel
theorem dX0_init_5 : decode cX0_init 5 = .ok (.bipush 100, 2) := by decide +kernel
theorem dX0_init_7 : decode cX0_init 7 = .ok (.newarray .int, 2) := by decide +kernel
theorem dX0_init_9 : decode cX0_init 9 = .ok (.putfield 11, 3) := by decide +kernel
theorem dX0_init_12 : decode cX0_init 12 = .ok (.aload_n 0, 1) := by decide +kernel
theorem dX0_init_13 : decode cX0_init 13 = .ok (.bipush 100, 2) := by decide +kernel
theorem dX0_init_15 : decode cX0_init 15 = .ok (.newarray .int, 2) := by decide +kernel
theorem dX0_init_17 : decode cX0_init 17 = .ok (.putfield 15, 3) := by decide +kernel
theorem dX0_init_20 : decode cX0_init 20 = .ok (.aload_n 0, 1) := by decide +kernel
theorem dX0_init_21 : decode cX0_init 21 = .ok (.bipush 100, 2) := by decide +kernel
theorem dX0_init_23 : decode cX0_init 23 = .ok (.newarray .int, 2) := by decide +kernel
theorem dX0_init_25 : decode cX0_init 25 = .ok (.putfield 18, 3) := by decide +kernel
theorem dX0_init_28 : decode cX0_init 28 = .ok (.aload_n 0, 1) := by decide +kernel
theorem dX0_init_29 : decode cX0_init 29 = .ok (.bipush 100, 2) := by decide +kernel
theorem dX0_init_31 : decode cX0_init 31 = .ok (.newarray .int, 2) := by decide +kernel
theorem dX0_init_33 : decode cX0_init 33 = .ok (.putfield 21, 3) := by decide +kernel
theorem dX0_init_36 : decode cX0_init 36 = .ok (.aload_n 0, 1) := by decide +kernel
theorem dX0_init_37 : decode cX0_init 37 = .ok (.sipush 400, 3) := by decide +kernel
theorem dX0_init_40 : decode cX0_init 40 = .ok (.newarray .long, 2) := by decide +kernel
theorem dX0_init_42 : decode cX0_init 42 = .ok (.putfield 24, 3) := by decide +kernel
theorem dX0_init_45 : decode cX0_init 45 = .ok (.aload_n 0, 1) := by decide +kernel
theorem dX0_init_46 : decode cX0_init 46 = .ok (.sipush 400, 3) := by decide +kernel
theorem dX0_init_49 : decode cX0_init 49 = .ok (.newarray .long, 2) := by decide +kernel
theorem dX0_init_51 : decode cX0_init 51 = .ok (.putfield 28, 3) := by decide +kernel
theorem dX0_init_54 : decode cX0_init 54 = .ok (.aload_n 0, 1) := by decide +kernel
theorem dX0_init_55 : decode cX0_init 55 = .ok (.sipush 400, 3) := by decide +kernel
theorem dX0_init_58 : decode cX0_init 58 = .ok (.newarray .long, 2) := by decide +kernel
theorem dX0_init_60 : decode cX0_init 60 = .ok (.putfield 31, 3) := by decide +kernel
theorem dX0_init_63 : decode cX0_init 63 = .ok (.aload_n 0, 1) := by decide +kernel
theorem dX0_init_64 : decode cX0_init 64 = .ok (.sipush 400, 3) := by decide +kernel
theorem dX0_init_67 : decode cX0_init 67 = .ok (.newarray .int, 2) := by decide +kernel
theorem dX0_init_69 : decode cX0_init 69 = .ok (.putfield 34, 3) := by decide +kernel
theorem dX0_init_72 : decode cX0_init 72 = .ok (.aload_n 0, 1) := by decide +kernel
theorem dX0_init_73 : decode cX0_init 73 = .ok (.invokevirtual 37, 3) := by decide +kernel
theorem dX0_init_76 : decode cX0_init 76 = .ok (.return_, 1) := by decide +kernel
theorem dX0_becomeEmpty_0 : decode cX0_becomeEmpty 0 = .ok (.aload_n 0, 1) := by decide +kernel
theorem dX0_becomeEmpty_1 : decode cX0_becomeEmpty 1 = .ok (.iconst 0, 1) := by decide +kernel
theorem dX0_becomeEmpty_2 : decode cX0_becomeEmpty 2 = .ok (.putfield 40, 3) := by decide +kernel
theorem dX0_becomeEmpty_5 : decode cX0_becomeEmpty 5 = .ok (.aload_n 0, 1) := by decide +kernel
theorem dX0_becomeEmpty_6 : decode cX0_becomeEmpty 6 = .ok (.iconst 0, 1) := by decide +kernel
theorem dX0_becomeEmpty_7 : decode cX0_becomeEmpty 7 = .ok (.putfield 44, 3) := by decide +kernel
theorem dX0_becomeEmpty_10 : decode cX0_becomeEmpty 10 = .ok (.return_, 1) := by decide +kernel
theorem dX0_ringPlace_0 : decode cX0_ringPlace 0 = .ok (.aload_n 0, 1) := by decide +kernel
theorem dX0_ringPlace_1 : decode cX0_ringPlace 1 = .ok (.getfield 44, 3) := by decide +kernel
theorem dX0_ringPlace_4 : decode cX0_ringPlace 4 = .ok (.iload_n 1, 1) := by decide +kernel
theorem dX0_ringPlace_5 : decode cX0_ringPlace 5 = .ok (.iadd, 1) := by decide +kernel
theorem dX0_ringPlace_6 : decode cX0_ringPlace 6 = .ok (.bipush 100, 2) := by decide +kernel
theorem dX0_ringPlace_8 : decode cX0_ringPlace 8 = .ok (.irem, 1) := by decide +kernel
theorem dX0_ringPlace_9 : decode cX0_ringPlace 9 = .ok (.ireturn, 1) := by decide +kernel
set_option maxRecDepth 20000 in
theorem ggX0_add_X0_ringPlace : GoodIn wsX0_add wsX0_ringPlace := goodIn_r _ [10, 11, 12, 13, 14, 15, 16, 17, 18, 19, 20, 21] (by decide +kernel) (by decide +kernel)
set_option maxRecDepth 20000 in
theorem gX0_add_X0_ringPlace : GoodIn wsX0_add (wsV RX0 47 RX0 yX0_ringPlace wsX0_ringPlace) := goodIn_app (goodIn_of _ (by decide +kernel)) ggX0_add_X0_ringPlace
theorem dX0_add_0 : decode cX0_add 0 = .ok (.aload_n 0, 1) := by decide +kernel
theorem dX0_add_1 : decode cX0_add 1 = .ok (.getfield 40, 3) := by decide +kernel
theorem dX0_add_4 : decode cX0_add 4 = .ok (.bipush 100, 2) := by decide +kernel
theorem dX0_add_6 : decode cX0_add 6 = .ok (.if_icmp .ne 5, 3) := by decide +kernel
theorem dX0_add_9 : decode cX0_add 9 = .ok (.iconst (-1), 1) := by decide +kernel
theorem dX0_add_10 : decode cX0_add 10 = .ok (.ireturn, 1) := by decide +kernel
theorem dX0_add_11 : decode cX0_add 11 = .ok (.aload_n 0, 1) := by decide +kernel
theorem dX0_add_12 : decode cX0_add 12 = .ok (.aload_n 0, 1) := by decide +kernel
theorem dX0_add_13 : decode cX0_add 13 = .ok (.getfield 40, 3) := by decide +kernel
theorem dX0_add_16 : decode cX0_add 16 = .ok (.invokevirtual 47, 3) := by decide +kernel
theorem dX0_add_19 : decode cX0_add 19 = .ok (.istore 5, 2) := by decide +kernel
theorem dX0_add_21 : decode cX0_add 21 = .ok (.aload_n 0, 1) := by decide +kernel
theorem dX0_add_22 : decode cX0_add 22 = .ok (.getfield 11, 3) := by decide +kernel
theorem dX0_add_25 : decode cX0_add 25 = .ok (.iload 5, 2) := by decide +kernel
theorem dX0_add_27 : decode cX0_add 27 = .ok (.iload_n 1, 1) := by decide +kernel
theorem dX0_add_28 : decode cX0_add 28 = .ok (.iastore, 1) := by decide +kernel
theorem dX0_add_29 : decode cX0_add 29 = .ok (.aload_n 0, 1) := by decide +kernel
theorem dX0_add_30 : decode cX0_add 30 = .ok (.getfield 15, 3) := by decide +kernel
theorem dX0_add_33 : decode cX0_add 33 = .ok (.iload 5, 2) := by decide +kernel
theorem dX0_add_35 : decode cX0_add 35 = .ok (.iload_n 2, 1) := by decide +kernel
theorem dX0_add_36 : decode cX0_add 36 = .ok (.iastore, 1) := by decide +kernel
theorem dX0_add_37 : decode cX0_add 37 = .ok (.aload_n 0, 1) := by decide +kernel
theorem dX0_add_38 : decode cX0_add 38 = .ok (.getfield 18, 3) := by decide +kernel
theorem dX0_add_41 : decode cX0_add 41 = .ok (.iload 5, 2) := by decide +kernel
theorem dX0_add_43 : decode cX0_add 43 = .ok (.iload_n 3, 1) := by decide +kernel
theorem dX0_add_44 : decode cX0_add 44 = .ok (.iastore, 1) := by decide +kernel
theorem dX0_add_45 : decode cX0_add 45 = .ok (.aload_n 0, 1) := by decide +kernel
theorem dX0_add_46 : decode cX0_add 46 = .ok (.getfield 21, 3) := by decide +kernel
theorem dX0_add_49 : decode cX0_add 49 = .ok (.iload 5, 2) := by decide +kernel
theorem dX0_add_51 : decode cX0_add 51 = .ok (.iload 4, 2) := by decide +kernel
theorem dX0_add_53 : decode cX0_add 53 = .ok (.iastore, 1) := by decide +kernel
theorem dX0_add_54 : decode cX0_add 54 = .ok (.aload_n 0, 1) := by decide +kernel
theorem dX0_add_55 : decode cX0_add 55 = .ok (.dup, 1) := by decide +kernel
theorem dX0_add_56 : decode cX0_add 56 = .ok (.getfield 40, 3) := by decide +kernel
theorem dX0_add_59 : decode cX0_add 59 = .ok (.iconst 1, 1) := by decide +kernel
theorem dX0_add_60 : decode cX0_add 60 = .ok (.iadd, 1) := by decide +kernel
theorem dX0_add_61 : decode cX0_add 61 = .ok (.putfield 40, 3) := by decide +kernel
theorem dX0_add_64 : decode cX0_add 64 = .ok (.iload 5, 2) := by decide +kernel
theorem dX0_add_66 : decode cX0_add 66 = .ok (.ireturn, 1) := by decide +kernel
set_option maxRecDepth 20000 in
theorem ggX0_takeOldest_X0_ringPlace : GoodIn wsX0_takeOldest wsX0_ringPlace := goodIn_r _ [7, 1, 8, 9, 10, 11, 12, 13, 14, 15, 16, 17] (by decide +kernel) (by decide +kernel)
set_option maxRecDepth 20000 in
theorem gX0_takeOldest_X0_ringPlace : GoodIn wsX0_takeOldest (wsV RX0 47 RX0 yX0_ringPlace wsX0_ringPlace) := goodIn_app (goodIn_of _ (by decide +kernel)) ggX0_takeOldest_X0_ringPlace
theorem dX0_takeOldest_0 : decode cX0_takeOldest 0 = .ok (.aload_n 0, 1) := by decide +kernel
theorem dX0_takeOldest_1 : decode cX0_takeOldest 1 = .ok (.getfield 44, 3) := by decide +kernel
theorem dX0_takeOldest_4 : decode cX0_takeOldest 4 = .ok (.istore_n 1, 1) := by decide +kernel
theorem dX0_takeOldest_5 : decode cX0_takeOldest 5 = .ok (.aload_n 0, 1) := by decide +kernel
theorem dX0_takeOldest_6 : decode cX0_takeOldest 6 = .ok (.aload_n 0, 1) := by decide +kernel
theorem dX0_takeOldest_7 : decode cX0_takeOldest 7 = .ok (.iconst 1, 1) := by decide +kernel
theorem dX0_takeOldest_8 : decode cX0_takeOldest 8 = .ok (.invokevirtual 47, 3) := by decide +kernel
theorem dX0_takeOldest_11 : decode cX0_takeOldest 11 = .ok (.putfield 44, 3) := by decide +kernel
theorem dX0_takeOldest_14 : decode cX0_takeOldest 14 = .ok (.aload_n 0, 1) := by decide +kernel
theorem dX0_takeOldest_15 : decode cX0_takeOldest 15 = .ok (.dup, 1) := by decide +kernel
theorem dX0_takeOldest_16 : decode cX0_takeOldest 16 = .ok (.getfield 40, 3) := by decide +kernel
theorem dX0_takeOldest_19 : decode cX0_takeOldest 19 = .ok (.iconst 1, 1) := by decide +kernel
theorem dX0_takeOldest_20 : decode cX0_takeOldest 20 = .ok (.isub, 1) := by decide +kernel
theorem dX0_takeOldest_21 : decode cX0_takeOldest 21 = .ok (.putfield 40, 3) := by decide +kernel
theorem dX0_takeOldest_24 : decode cX0_takeOldest 24 = .ok (.iload_n 1, 1) := by decide +kernel
theorem dX0_takeOldest_25 : decode cX0_takeOldest 25 = .ok (.ireturn, 1) := by decide +kernel
theorem dX0_hasEntry_0 : decode cX0_hasEntry 0 = .ok (.aload_n 0, 1) := by decide +kernel
theorem dX0_hasEntry_1 : decode cX0_hasEntry 1 = .ok (.getfield 21, 3) := by decide +kernel
theorem dX0_hasEntry_4 : decode cX0_hasEntry 4 = .ok (.iload_n 1, 1) := by decide +kernel
theorem dX0_hasEntry_5 : decode cX0_hasEntry 5 = .ok (.iaload, 1) := by decide +kernel
theorem dX0_hasEntry_6 : decode cX0_hasEntry 6 = .ok (.iload_n 2, 1) := by decide +kernel
theorem dX0_hasEntry_7 : decode cX0_hasEntry 7 = .ok (.ishr, 1) := by decide +kernel
theorem dX0_hasEntry_8 : decode cX0_hasEntry 8 = .ok (.iconst 1, 1) := by decide +kernel
theorem dX0_hasEntry_9 : decode cX0_hasEntry 9 = .ok (.iand, 1) := by decide +kernel
theorem dX0_hasEntry_10 : decode cX0_hasEntry 10 = .ok (.iconst 1, 1) := by decide +kernel
theorem dX0_hasEntry_11 : decode cX0_hasEntry 11 = .ok (.if_icmp .ne 7, 3) := by decide +kernel
theorem dX0_hasEntry_14 : decode cX0_hasEntry 14 = .ok (.iconst 1, 1) := by decide +kernel
theorem dX0_hasEntry_15 : decode cX0_hasEntry 15 = .ok (.goto 4, 3) := by decide +kernel
theorem dX0_hasEntry_18 : decode cX0_hasEntry 18 = .ok (.iconst 0, 1) := by decide +kernel
theorem dX0_hasEntry_19 : decode cX0_hasEntry 19 = .ok (.ireturn, 1) := by decide +kernel
set_option maxRecDepth 20000 in
theorem ggX0_copyEntries_X0_hasEntry : GoodIn wsX0_copyEntries wsX0_hasEntry := goodIn_r _ [12, 13, 14, 15, 16, 17, 18, 19, 20, 21, 22, 23] (by decide +kernel) (by decide +kernel)
set_option maxRecDepth 20000 in
theorem gX0_copyEntries_X0_hasEntry : GoodIn wsX0_copyEntries (wsV RX0 51 RX0 yX0_hasEntry wsX0_hasEntry) := goodIn_app (goodIn_of _ (by decide +kernel)) ggX0_copyEntries_X0_hasEntry
theorem dX0_copyEntries_0 : decode cX0_copyEntries 0 = .ok (.iconst 0, 1) := by decide +kernel
theorem dX0_copyEntries_1 : decode cX0_copyEntries 1 = .ok (.istore_n 3, 1) := by decide +kernel
theorem dX0_copyEntries_2 : decode cX0_copyEntries 2 = .ok (.iload_n 3, 1) := by decide +kernel
theorem dX0_copyEntries_3 : decode cX0_copyEntries 3 = .ok (.iconst 4, 1) := by decide +kernel
theorem dX0_copyEntries_4 : decode cX0_copyEntries 4 = .ok (.if_icmp .ge 81, 3) := by decide +kernel
theorem dX0_copyEntries_7 : decode cX0_copyEntries 7 = .ok (.aload_n 0, 1) := by decide +kernel
theorem dX0_copyEntries_8 : decode cX0_copyEntries 8 = .ok (.iload_n 1, 1) := by decide +kernel
theorem dX0_copyEntries_9 : decode cX0_copyEntries 9 = .ok (.iload_n 3, 1) := by decide +kernel
theorem dX0_copyEntries_10 : decode cX0_copyEntries 10 = .ok (.invokevirtual 51, 3) := by decide +kernel
theorem dX0_copyEntries_13 : decode cX0_copyEntries 13 = .ok (.ifCond .eq 66, 3) := by decide +kernel
theorem dX0_copyEntries_16 : decode cX0_copyEntries 16 = .ok (.aload_n 0, 1) := by decide +kernel
theorem dX0_copyEntries_17 : decode cX0_copyEntries 17 = .ok (.getfield 18, 3) := by decide +kernel
theorem dX0_copyEntries_20 : decode cX0_copyEntries 20 = .ok (.iload_n 1, 1) := by decide +kernel
theorem dX0_copyEntries_21 : decode cX0_copyEntries 21 = .ok (.iaload, 1) := by decide +kernel
theorem dX0_copyEntries_22 : decode cX0_copyEntries 22 = .ok (.iconst 4, 1) := by decide +kernel
theorem dX0_copyEntries_23 : decode cX0_copyEntries 23 = .ok (.imul, 1) := by decide +kernel
theorem dX0_copyEntries_24 : decode cX0_copyEntries 24 = .ok (.iload_n 3, 1) := by decide +kernel
theorem dX0_copyEntries_25 : decode cX0_copyEntries 25 = .ok (.iadd, 1) := by decide +kernel
theorem dX0_copyEntries_26 : decode cX0_copyEntries 26 = .ok (.istore 4, 2) := by decide +kernel
theorem dX0_copyEntries_28 : decode cX0_copyEntries 28 = .ok (.aload_n 0, 1) := by decide +kernel
theorem dX0_copyEntries_29 : decode cX0_copyEntries 29 = .ok (.getfield 28, 3) := by decide +kernel
theorem dX0_copyEntries_32 : decode cX0_copyEntries 32 = .ok (.iload_n 1, 1) := by decide +kernel
theorem dX0_copyEntries_33 : decode cX0_copyEntries 33 = .ok (.iconst 4, 1) := by decide +kernel
theorem dX0_copyEntries_34 : decode cX0_copyEntries 34 = .ok (.imul, 1) := by decide +kernel
theorem dX0_copyEntries_35 : decode cX0_copyEntries 35 = .ok (.iload_n 3, 1) := by decide +kernel
theorem dX0_copyEntries_36 : decode cX0_copyEntries 36 = .ok (.iadd, 1) := by decide +kernel
theorem dX0_copyEntries_37 : decode cX0_copyEntries 37 = .ok (.aload_n 2, 1) := by decide +kernel
theorem dX0_copyEntries_38 : decode cX0_copyEntries 38 = .ok (.getfield 55, 3) := by decide +kernel
theorem dX0_copyEntries_41 : decode cX0_copyEntries 41 = .ok (.iload 4, 2) := by decide +kernel
theorem dX0_copyEntries_43 : decode cX0_copyEntries 43 = .ok (.laload, 1) := by decide +kernel
theorem dX0_copyEntries_44 : decode cX0_copyEntries 44 = .ok (.lastore, 1) := by decide +kernel
theorem dX0_copyEntries_45 : decode cX0_copyEntries 45 = .ok (.aload_n 0, 1) := by decide +kernel
theorem dX0_copyEntries_46 : decode cX0_copyEntries 46 = .ok (.getfield 31, 3) := by decide +kernel
theorem dX0_copyEntries_49 : decode cX0_copyEntries 49 = .ok (.iload_n 1, 1) := by decide +kernel
theorem dX0_copyEntries_50 : decode cX0_copyEntries 50 = .ok (.iconst 4, 1) := by decide +kernel
theorem dX0_copyEntries_51 : decode cX0_copyEntries 51 = .ok (.imul, 1) := by decide +kernel
theorem dX0_copyEntries_52 : decode cX0_copyEntries 52 = .ok (.iload_n 3, 1) := by decide +kernel
theorem dX0_copyEntries_53 : decode cX0_copyEntries 53 = .ok (.iadd, 1) := by decide +kernel
theorem dX0_copyEntries_54 : decode cX0_copyEntries 54 = .ok (.aload_n 2, 1) := by decide +kernel
theorem dX0_copyEntries_55 : decode cX0_copyEntries 55 = .ok (.getfield 58, 3) := by decide +kernel
theorem dX0_copyEntries_58 : decode cX0_copyEntries 58 = .ok (.iload 4, 2) := by decide +kernel
theorem dX0_copyEntries_60 : decode cX0_copyEntries 60 = .ok (.laload, 1) := by decide +kernel
theorem dX0_copyEntries_61 : decode cX0_copyEntries 61 = .ok (.lastore, 1) := by decide +kernel
theorem dX0_copyEntries_62 : decode cX0_copyEntries 62 = .ok (.aload_n 0, 1) := by decide +kernel
theorem dX0_copyEntries_63 : decode cX0_copyEntries 63 = .ok (.getfield 34, 3) := by decide +kernel
theorem dX0_copyEntries_66 : decode cX0_copyEntries 66 = .ok (.iload_n 1, 1) := by decide +kernel
theorem dX0_copyEntries_67 : decode cX0_copyEntries 67 = .ok (.iconst 4, 1) := by decide +kernel
theorem dX0_copyEntries_68 : decode cX0_copyEntries 68 = .ok (.imul, 1) := by decide +kernel
theorem dX0_copyEntries_69 : decode cX0_copyEntries 69 = .ok (.iload_n 3, 1) := by decide +kernel
theorem dX0_copyEntries_70 : decode cX0_copyEntries 70 = .ok (.iadd, 1) := by decide +kernel
theorem dX0_copyEntries_71 : decode cX0_copyEntries 71 = .ok (.aload_n 2, 1) := by decide +kernel
theorem dX0_copyEntries_72 : decode cX0_copyEntries 72 = .ok (.getfield 59, 3) := by decide +kernel
theorem dX0_copyEntries_75 : decode cX0_copyEntries 75 = .ok (.iload 4, 2) := by decide +kernel
theorem dX0_copyEntries_77 : decode cX0_copyEntries 77 = .ok (.iaload, 1) := by decide +kernel
theorem dX0_copyEntries_78 : decode cX0_copyEntries 78 = .ok (.iastore, 1) := by decide +kernel
theorem dX0_copyEntries_79 : decode cX0_copyEntries 79 = .ok (.iinc 3 1, 3) := by decide +kernel
theorem dX0_copyEntries_82 : decode cX0_copyEntries 82 = .ok (.goto (-80), 3) := by decide +kernel
theorem dX0_copyEntries_85 : decode cX0_copyEntries 85 = .ok (.return_, 1) := by decide +kernel
set_option maxRecDepth 20000 in
theorem ggX0_keyOfEntry_X0_hasEntry : GoodIn wsX0_keyOfEntry wsX0_hasEntry := goodIn_r _ [6, 7, 8, 9, 10, 11, 12, 13, 14, 15, 16, 17] (by decide +kernel) (by decide +kernel)
set_option maxRecDepth 20000 in
theorem gX0_keyOfEntry_X0_hasEntry : GoodIn wsX0_keyOfEntry (wsV RX0 51 RX0 yX0_hasEntry wsX0_hasEntry) := goodIn_app (goodIn_of _ (by decide +kernel)) ggX0_keyOfEntry_X0_hasEntry
theorem dX0_keyOfEntry_0 : decode cX0_keyOfEntry 0 = .ok (.iconst 0, 1) := by decide +kernel
theorem dX0_keyOfEntry_1 : decode cX0_keyOfEntry 1 = .ok (.istore_n 3, 1) := by decide +kernel
theorem dX0_keyOfEntry_2 : decode cX0_keyOfEntry 2 = .ok (.iconst 0, 1) := by decide +kernel
theorem dX0_keyOfEntry_3 : decode cX0_keyOfEntry 3 = .ok (.istore 4, 2) := by decide +kernel
theorem dX0_keyOfEntry_5 : decode cX0_keyOfEntry 5 = .ok (.iload 4, 2) := by decide +kernel
theorem dX0_keyOfEntry_7 : decode cX0_keyOfEntry 7 = .ok (.iconst 4, 1) := by decide +kernel
theorem dX0_keyOfEntry_8 : decode cX0_keyOfEntry 8 = .ok (.if_icmp .ge 39, 3) := by decide +kernel
theorem dX0_keyOfEntry_11 : decode cX0_keyOfEntry 11 = .ok (.aload_n 0, 1) := by decide +kernel
theorem dX0_keyOfEntry_12 : decode cX0_keyOfEntry 12 = .ok (.iload_n 1, 1) := by decide +kernel
theorem dX0_keyOfEntry_13 : decode cX0_keyOfEntry 13 = .ok (.iload 4, 2) := by decide +kernel
theorem dX0_keyOfEntry_15 : decode cX0_keyOfEntry 15 = .ok (.invokevirtual 51, 3) := by decide +kernel
theorem dX0_keyOfEntry_18 : decode cX0_keyOfEntry 18 = .ok (.ifCond .eq 23, 3) := by decide +kernel
theorem dX0_keyOfEntry_21 : decode cX0_keyOfEntry 21 = .ok (.iload_n 3, 1) := by decide +kernel
theorem dX0_keyOfEntry_22 : decode cX0_keyOfEntry 22 = .ok (.iload_n 2, 1) := by decide +kernel
theorem dX0_keyOfEntry_23 : decode cX0_keyOfEntry 23 = .ok (.if_icmp .ne 15, 3) := by decide +kernel
theorem dX0_keyOfEntry_26 : decode cX0_keyOfEntry 26 = .ok (.aload_n 0, 1) := by decide +kernel
theorem dX0_keyOfEntry_27 : decode cX0_keyOfEntry 27 = .ok (.getfield 18, 3) := by decide +kernel
theorem dX0_keyOfEntry_30 : decode cX0_keyOfEntry 30 = .ok (.iload_n 1, 1) := by decide +kernel
theorem dX0_keyOfEntry_31 : decode cX0_keyOfEntry 31 = .ok (.iaload, 1) := by decide +kernel
theorem dX0_keyOfEntry_32 : decode cX0_keyOfEntry 32 = .ok (.iconst 4, 1) := by decide +kernel
theorem dX0_keyOfEntry_33 : decode cX0_keyOfEntry 33 = .ok (.imul, 1) := by decide +kernel
theorem dX0_keyOfEntry_34 : decode cX0_keyOfEntry 34 = .ok (.iload 4, 2) := by decide +kernel
theorem dX0_keyOfEntry_36 : decode cX0_keyOfEntry 36 = .ok (.iadd, 1) := by decide +kernel
theorem dX0_keyOfEntry_37 : decode cX0_keyOfEntry 37 = .ok (.ireturn, 1) := by decide +kernel
theorem dX0_keyOfEntry_38 : decode cX0_keyOfEntry 38 = .ok (.iinc 3 1, 3) := by decide +kernel
theorem dX0_keyOfEntry_41 : decode cX0_keyOfEntry 41 = .ok (.iinc 4 1, 3) := by decide +kernel
theorem dX0_keyOfEntry_44 : decode cX0_keyOfEntry 44 = .ok (.goto (-39), 3) := by decide +kernel
theorem dX0_keyOfEntry_47 : decode cX0_keyOfEntry 47 = .ok (.iconst (-1), 1) := by decide +kernel
theorem dX0_keyOfEntry_48 : decode cX0_keyOfEntry 48 = .ok (.ireturn, 1) := by decide +kernel
