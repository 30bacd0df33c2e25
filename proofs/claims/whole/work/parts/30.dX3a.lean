theorem dX3_init_0 : decode cX3_init 0 = .ok (.aload_n 0, 1) := by decide +kernel
theorem dX3_init_1 : decode cX3_init 1 = .ok (.invokespecial 1, 3) := by decide +kernel
theorem dX3_init_4 : decode cX3_init 4 = .ok (.aload_n 0, 1) := by decide +kernel
theorem dX3_init_5 : decode cX3_init 5 = .ok (.sipush 512, 3) := by decide +kernel
theorem dX3_init_8 : decode cX3_init 8 = .ok (.newarray .boolean, 2) := by decide +kernel
theorem dX3_init_10 : decode cX3_init 10 = .ok (.putfield 7, 3) := by decide +kernel
theorem dX3_init_13 : decode cX3_init 13 = .ok (.aload_n 0, 1) := by decide +kernel
theorem dX3_init_14 : decode cX3_init 14 = .ok (.sipush 512, 3) := by decide +kernel
theorem dX3_init_17 : decode cX3_init 17 = .ok (.newarray .long, 2) := by decide +kernel
theorem dX3_init_19 : decode cX3_init 19 = .ok (.putfield 13, 3) := by decide +kernel
theorem dX3_init_22 : decode cX3_init 22 = .ok (.aload_n 0, 1) := by decide +kernel
theorem dX3_init_23 : decode cX3_init 23 = .ok (.sipush 512, 3) := by decide +kernel
theorem dX3_init_26 : decode cX3_init 26 = .ok (.newarray .int, 2) := by decide +kernel
theorem dX3_init_28 : decode cX3_init 28 = .ok (.putfield 17, 3) := by decide +kernel
theorem dX3_init_31 : decode cX3_init 31 = .ok (.aload_n 0, 1) := by decide +kernel
theorem dX3_init_32 : decode cX3_init 32 = .ok (.sipush 512, 3) := by decide +kernel
theorem dX3_init_35 : decode cX3_init 35 = .ok (.newarray .long, 2) := by decide +kernel
theorem dX3_init_37 : decode cX3_init 37 = .ok (.putfield 21, 3) := by decide +kernel
theorem dX3_init_40 : decode cX3_init 40 = .ok (.aload_n 0, 1) := by decide +kernel
theorem dX3_init_41 : decode cX3_init 41 = .ok (.bipush 85, 2) := by decide +kernel
theorem dX3_init_43 : decode cX3_init 43 = .ok (.newarray .long, 2) := by decide +kernel
theorem dX3_init_45 : decode cX3_init 45 = .ok (.putfield 24, 3) := by decide +kernel
theorem dX3_init_48 : decode cX3_init 48 = .ok (.aload_n 0, 1) := by decide +kernel
theorem dX3_init_49 : decode cX3_init 49 = .ok (.iconst 2, 1) := by decide +kernel
theorem dX3_init_50 : decode cX3_init 50 = .ok (.newarray .int, 2) := by decide +kernel
theorem dX3_init_52 : decode cX3_init 52 = .ok (.putfield 27, 3) := by decide +kernel
theorem dX3_init_55 : decode cX3_init 55 = .ok (.aload_n 0, 1) := by decide +kernel
theorem dX3_init_56 : decode cX3_init 56 = .ok (.sipush 200, 3) := by decide +kernel
theorem dX3_init_59 : decode cX3_init 59 = .ok (.newarray .int, 2) := by decide +kernel
theorem dX3_init_61 : decode cX3_init 61 = .ok (.putfield 30, 3) := by decide +kernel
theorem dX3_init_64 : decode cX3_init 64 = .ok (.aload_n 0, 1) := by decide +kernel
theorem dX3_init_65 : decode cX3_init 65 = .ok (.sipush 200, 3) := by decide +kernel
theorem dX3_init_68 : decode cX3_init 68 = .ok (.newarray .int, 2) := by decide +kernel
theorem dX3_init_70 : decode cX3_init 70 = .ok (.putfield 33, 3) := by decide +kernel
theorem dX3_init_73 : decode cX3_init 73 = .ok (.aload_n 0, 1) := by decide +kernel
theorem dX3_init_74 : decode cX3_init 74 = .ok (.sipush 200, 3) := by decide +kernel
theorem dX3_init_77 : decode cX3_init 77 = .ok (.newarray .int, 2) := by decide +kernel
theorem dX3_init_79 : decode cX3_init 79 = .ok (.putfield 36, 3) := by decide +kernel
theorem dX3_init_82 : decode cX3_init 82 = .ok (.aload_n 0, 1) := by decide +kernel
theorem dX3_init_83 : decode cX3_init 83 = .ok (.sipush 800, 3) := by decide +kernel
theorem dX3_init_86 : decode cX3_init 86 = .ok (.newarray .long, 2) := by decide +kernel
theorem dX3_init_88 : decode cX3_init 88 = .ok (.putfield 39, 3) := by decide +kernel
theorem dX3_init_91 : decode cX3_init 91 = .ok (.aload_n 0, 1) := by decide +kernel
theorem dX3_init_92 : decode cX3_init 92 = .ok (.sipush 200, 3) := by decide +kernel
theorem dX3_init_95 : decode cX3_init 95 = .ok (.newarray .int, 2) := by decide +kernel
theorem dX3_init_97 : decode cX3_init 97 = .ok (.putfield 42, 3) := by decide +kernel
theorem dX3_init_100 : decode cX3_init 100 = .ok (.aload_n 0, 1) := by decide +kernel
theorem dX3_init_101 : decode cX3_init 101 = .ok (.sipush 800, 3) := by decide +kernel
theorem dX3_init_104 : decode cX3_init 104 = .ok (.newarray .int, 2) := by decide +kernel
theorem dX3_init_106 : decode cX3_init 106 = .ok (.putfield 45, 3) := by decide +kernel
theorem dX3_init_109 : decode cX3_init 109 = .ok (.aload_n 0, 1) := by decide +kernel
theorem dX3_init_110 : decode cX3_init 110 = .ok (.sipush 800, 3) := by decide +kernel
theorem dX3_init_113 : decode cX3_init 113 = .ok (.newarray .long, 2) := by decide +kernel
theorem dX3_init_115 : decode cX3_init 115 = .ok (.putfield 48, 3) := by decide +kernel
theorem dX3_init_118 : decode cX3_init 118 = .ok (.aload_n 0, 1) := by decide +kernel
theorem dX3_init_119 : decode cX3_init 119 = .ok (.sipush 800, 3) := by decide +kernel
theorem dX3_init_122 : decode cX3_init 122 = .ok (.newarray .int, 2) := by decide +kernel
theorem dX3_init_124 : decode cX3_init 124 = .ok (.putfield 51, 3) := by decide +kernel
theorem dX3_init_127 : decode cX3_init 127 = .ok (.aload_n 0, 1) := by decide +kernel
theorem dX3_init_128 : decode cX3_init 128 = .ok (.sipush 800, 3) := by decide +kernel
theorem dX3_init_131 : decode cX3_init 131 = .ok (.newarray .long, 2) := by decide +kernel
theorem dX3_init_133 : decode cX3_init 133 = .ok (.putfield 54, 3) := by decide +kernel
theorem dX3_init_136 : decode cX3_init 136 = .ok (.aload_n 0, 1) := by decide +kernel
theorem dX3_init_137 : decode cX3_init 137 = .ok (.iconst 4, 1) := by decide +kernel
theorem dX3_init_138 : decode cX3_init 138 = .ok (.newarray .long, 2) := by decide +kernel
theorem dX3_init_140 : decode cX3_init 140 = .ok (.putfield 57, 3) := by decide +kernel
theorem dX3_init_143 : decode cX3_init 143 = .ok (.aload_n 0, 1) := by decide +kernel
theorem dX3_init_144 : decode cX3_init 144 = .ok (.iconst 4, 1) := by decide +kernel
theorem dX3_init_145 : decode cX3_init 145 = .ok (.newarray .int, 2) := by decide +kernel
theorem dX3_init_147 : decode cX3_init 147 = .ok (.putfield 60, 3) := by decide +kernel
theorem dX3_init_150 : decode cX3_init 150 = .ok (.aload_n 0, 1) := by decide +kernel
theorem dX3_init_151 : decode cX3_init 151 = .ok (.iconst 4, 1) := by decide +kernel
theorem dX3_init_152 : decode cX3_init 152 = .ok (.newarray .long, 2) := by decide +kernel
theorem dX3_init_154 : decode cX3_init 154 = .ok (.putfield 63, 3) := by decide +kernel
theorem dX3_init_157 : decode cX3_init 157 = .ok (.aload_n 0, 1) := by decide +kernel
theorem dX3_init_158 : decode cX3_init 158 = .ok (.iconst 4, 1) := by decide +kernel
theorem dX3_init_159 : decode cX3_init 159 = .ok (.newarray .int, 2) := by decide +kernel
theorem dX3_init_161 : decode cX3_init 161 = .ok (.putfield 66, 3) := by decide +kernel
theorem dX3_init_164 : decode cX3_init 164 = .ok (.aload_n 0, 1) := by decide +kernel
theorem dX3_init_165 : decode cX3_init 165 = .ok (.iconst 4, 1) := by decide +kernel
theorem dX3_init_166 : decode cX3_init 166 = .ok (.newarray .long, 2) := by decide +kernel
theorem dX3_init_168 : decode cX3_init 168 = .ok (.putfield 69, 3) := by decide +kernel
theorem dX3_init_171 : decode cX3_init 171 = .ok (.aload_n 0, 1) := by decide +kernel
theorem dX3_init_172 : decode cX3_init 172 = .ok (.iconst 4, 1) := by decide +kernel
theorem dX3_init_173 : decode cX3_init 173 = .ok (.newarray .long, 2) := by decide +kernel
theorem dX3_init_175 : decode cX3_init 175 = .ok (.putfield 72, 3) := by decide +kernel
theorem dX3_init_178 : decode cX3_init 178 = .ok (.aload_n 0, 1) := by decide +kernel
theorem dX3_init_179 : decode cX3_init 179 = .ok (.iconst 4, 1) := by decide +kernel
theorem dX3_init_180 : decode cX3_init 180 = .ok (.newarray .int, 2) := by decide +kernel
theorem dX3_init_182 : decode cX3_init 182 = .ok (.putfield 75, 3) := by decide +kernel
theorem dX3_init_185 : decode cX3_init 185 = .ok (.aload_n 0, 1) := by decide +kernel
theorem dX3_init_186 : decode cX3_init 186 = .ok (.iconst 4, 1) := by decide +kernel
theorem dX3_init_187 : decode cX3_init 187 = .ok (.newarray .long, 2) := by decide +kernel
theorem dX3_init_189 : decode cX3_init 189 = .ok (.putfield 78, 3) := by decide +kernel
theorem dX3_init_192 : decode cX3_init 192 = .ok (.aload_n 0, 1) := by decide +kernel
theorem dX3_init_193 : decode cX3_init 193 = .ok (.iconst 4, 1) := by decide +kernel
theorem dX3_init_194 : decode cX3_init 194 = .ok (.newarray .int, 2) := by decide +kernel
theorem dX3_init_196 : decode cX3_init 196 = .ok (.putfield 81, 3) := by decide +kernel
theorem dX3_init_199 : decode cX3_init 199 = .ok (.aload_n 0, 1) := by decide +kernel
theorem dX3_init_200 : decode cX3_init 200 = .ok (.iconst 4, 1) := by decide +kernel
theorem dX3_init_201 : decode cX3_init 201 = .ok (.newarray .long, 2) := by decide +kernel
theorem dX3_init_203 : decode cX3_init 203 = .ok (.putfield 84, 3) := by decide +kernel
theorem dX3_init_206 : decode cX3_init 206 = .ok (.return_, 1) := by decide +kernel
theorem dX3_thrown_0 : decode cX3_thrown 0 = .ok (.aload_n 0, 1) := by decide +kernel
theorem dX3_thrown_1 : decode cX3_thrown 1 = .ok (.getfield 87, 3) := by decide +kernel
theorem dX3_thrown_4 : decode cX3_thrown 4 = .ok (.ireturn, 1) := by decide +kernel
theorem dX3_isStore_0 : decode cX3_isStore 0 = .ok (.iload_n 0, 1) := by decide +kernel
theorem dX3_isStore_1 : decode cX3_isStore 1 = .ok (.ifCond .eq 8, 3) := by decide +kernel
theorem dX3_isStore_4 : decode cX3_isStore 4 = .ok (.iload_n 0, 1) := by decide +kernel
theorem dX3_isStore_5 : decode cX3_isStore 5 = .ok (.iconst 1, 1) := by decide +kernel
theorem dX3_isStore_6 : decode cX3_isStore 6 = .ok (.if_icmp .ne 7, 3) := by decide +kernel
theorem dX3_isStore_9 : decode cX3_isStore 9 = .ok (.iconst 1, 1) := by decide +kernel
theorem dX3_isStore_10 : decode cX3_isStore 10 = .ok (.goto 4, 3) := by decide +kernel
theorem dX3_isStore_13 : decode cX3_isStore 13 = .ok (.iconst 0, 1) := by decide +kernel
theorem dX3_isStore_14 : decode cX3_isStore 14 = .ok (.ireturn, 1) := by decide +kernel
theorem dX3_isKey_0 : decode cX3_isKey 0 = .ok (.iload_n 0, 1) := by decide +kernel
theorem dX3_isKey_1 : decode cX3_isKey 1 = .ok (.ifCond .lt 14, 3) := by decide +kernel
theorem dX3_isKey_4 : decode cX3_isKey 4 = .ok (.iload_n 0, 1) := by decide +kernel
theorem dX3_isKey_5 : decode cX3_isKey 5 = .ok (.sipush 256, 3) := by decide +kernel
theorem dX3_isKey_8 : decode cX3_isKey 8 = .ok (.if_icmp .ge 7, 3) := by decide +kernel
theorem dX3_isKey_11 : decode cX3_isKey 11 = .ok (.iconst 1, 1) := by decide +kernel
theorem dX3_isKey_12 : decode cX3_isKey 12 = .ok (.goto 4, 3) := by decide +kernel
theorem dX3_isKey_15 : decode cX3_isKey 15 = .ok (.iconst 0, 1) := by decide +kernel
theorem dX3_isKey_16 : decode cX3_isKey 16 = .ok (.ireturn, 1) := by decide +kernel
theorem dX3_byteOf_0 : decode cX3_byteOf 0 = .ok (.lload_n 0, 1) := by decide +kernel
theorem dX3_byteOf_1 : decode cX3_byteOf 1 = .ok (.bipush 56, 2) := by decide +kernel
theorem dX3_byteOf_3 : decode cX3_byteOf 3 = .ok (.bipush 8, 2) := by decide +kernel
theorem dX3_byteOf_5 : decode cX3_byteOf 5 = .ok (.iload_n 2, 1) := by decide +kernel
theorem dX3_byteOf_6 : decode cX3_byteOf 6 = .ok (.imul, 1) := by decide +kernel
theorem dX3_byteOf_7 : decode cX3_byteOf 7 = .ok (.isub, 1) := by decide +kernel
theorem dX3_byteOf_8 : decode cX3_byteOf 8 = .ok (.lushr, 1) := by decide +kernel
theorem dX3_byteOf_9 : decode cX3_byteOf 9 = .ok (.l2i, 1) := by decide +kernel
theorem dX3_byteOf_10 : decode cX3_byteOf 10 = .ok (.sipush 255, 3) := by decide +kernel
theorem dX3_byteOf_13 : decode cX3_byteOf 13 = .ok (.iand, 1) := by decide +kernel
theorem dX3_byteOf_14 : decode cX3_byteOf 14 = .ok (.ireturn, 1) := by decide +kernel
theorem dX3_cut_0 : decode cX3_cut 0 = .ok (.iload_n 2, 1) := by decide +kernel
theorem dX3_cut_1 : decode cX3_cut 1 = .ok (.ifCond .ne 7, 3) := by decide +kernel
theorem dX3_cut_4 : decode cX3_cut 4 = .ok (.lconst 0, 1) := by decide +kernel
theorem dX3_cut_5 : decode cX3_cut 5 = .ok (.goto 20, 3) := by decide +kernel
theorem dX3_cut_8 : decode cX3_cut 8 = .ok (.lload_n 0, 1) := by decide +kernel
theorem dX3_cut_9 : decode cX3_cut 9 = .ok (.bipush 64, 2) := by decide +kernel
theorem dX3_cut_11 : decode cX3_cut 11 = .ok (.bipush 8, 2) := by decide +kernel
theorem dX3_cut_13 : decode cX3_cut 13 = .ok (.iload_n 2, 1) := by decide +kernel
theorem dX3_cut_14 : decode cX3_cut 14 = .ok (.imul, 1) := by decide +kernel
theorem dX3_cut_15 : decode cX3_cut 15 = .ok (.isub, 1) := by decide +kernel
theorem dX3_cut_16 : decode cX3_cut 16 = .ok (.lushr, 1) := by decide +kernel
theorem dX3_cut_17 : decode cX3_cut 17 = .ok (.bipush 64, 2) := by decide +kernel
theorem dX3_cut_19 : decode cX3_cut 19 = .ok (.bipush 8, 2) := by decide +kernel
theorem dX3_cut_21 : decode cX3_cut 21 = .ok (.iload_n 2, 1) := by decide +kernel
theorem dX3_cut_22 : decode cX3_cut 22 = .ok (.imul, 1) := by decide +kernel
theorem dX3_cut_23 : decode cX3_cut 23 = .ok (.isub, 1) := by decide +kernel
theorem dX3_cut_24 : decode cX3_cut 24 = .ok (.lshl, 1) := by decide +kernel
theorem dX3_cut_25 : decode cX3_cut 25 = .ok (.lreturn, 1) := by decide +kernel
set_option maxRecDepth 20000 in
theorem ggX3_isNewer_X3_byteOf : GoodIn wsX3_isNewer wsX3_byteOf := goodIn_r _ [7] (by decide +kernel) (by decide +kernel)
set_option maxRecDepth 20000 in
theorem gX3_isNewer_X3_byteOf : GoodIn wsX3_isNewer (va_wsS RX3 91 yX3_byteOf wsX3_byteOf) := goodIn_app (goodIn_of _ (by decide +kernel)) ggX3_isNewer_X3_byteOf
theorem dX3_isNewer_0 : decode cX3_isNewer 0 = .ok (.lload_n 2, 1) := by decide +kernel
theorem dX3_isNewer_1 : decode cX3_isNewer 1 = .ok (.aload_n 0, 1) := by decide +kernel
theorem dX3_isNewer_2 : decode cX3_isNewer 2 = .ok (.getfield 13, 3) := by decide +kernel
theorem dX3_isNewer_5 : decode cX3_isNewer 5 = .ok (.iload_n 1, 1) := by decide +kernel
theorem dX3_isNewer_6 : decode cX3_isNewer 6 = .ok (.laload, 1) := by decide +kernel
theorem dX3_isNewer_7 : decode cX3_isNewer 7 = .ok (.lcmp, 1) := by decide +kernel
theorem dX3_isNewer_8 : decode cX3_isNewer 8 = .ok (.ifCond .eq 20, 3) := by decide +kernel
theorem dX3_isNewer_11 : decode cX3_isNewer 11 = .ok (.lload_n 2, 1) := by decide +kernel
theorem dX3_isNewer_12 : decode cX3_isNewer 12 = .ok (.aload_n 0, 1) := by decide +kernel
theorem dX3_isNewer_13 : decode cX3_isNewer 13 = .ok (.getfield 13, 3) := by decide +kernel
theorem dX3_isNewer_16 : decode cX3_isNewer 16 = .ok (.iload_n 1, 1) := by decide +kernel
theorem dX3_isNewer_17 : decode cX3_isNewer 17 = .ok (.laload, 1) := by decide +kernel
theorem dX3_isNewer_18 : decode cX3_isNewer 18 = .ok (.lcmp, 1) := by decide +kernel
theorem dX3_isNewer_19 : decode cX3_isNewer 19 = .ok (.ifCond .le 7, 3) := by decide +kernel
theorem dX3_isNewer_22 : decode cX3_isNewer 22 = .ok (.iconst 1, 1) := by decide +kernel
theorem dX3_isNewer_23 : decode cX3_isNewer 23 = .ok (.goto 4, 3) := by decide +kernel
theorem dX3_isNewer_26 : decode cX3_isNewer 26 = .ok (.iconst 0, 1) := by decide +kernel
theorem dX3_isNewer_27 : decode cX3_isNewer 27 = .ok (.ireturn, 1) := by decide +kernel
theorem dX3_isNewer_28 : decode cX3_isNewer 28 = .ok (.iload 4, 2) := by decide +kernel
theorem dX3_isNewer_30 : decode cX3_isNewer 30 = .ok (.aload_n 0, 1) := by decide +kernel
theorem dX3_isNewer_31 : decode cX3_isNewer 31 = .ok (.getfield 17, 3) := by decide +kernel
theorem dX3_isNewer_34 : decode cX3_isNewer 34 = .ok (.iload_n 1, 1) := by decide +kernel
theorem dX3_isNewer_35 : decode cX3_isNewer 35 = .ok (.iaload, 1) := by decide +kernel
theorem dX3_isNewer_36 : decode cX3_isNewer 36 = .ok (.if_icmp .eq 20, 3) := by decide +kernel
theorem dX3_isNewer_39 : decode cX3_isNewer 39 = .ok (.iload 4, 2) := by decide +kernel
theorem dX3_isNewer_41 : decode cX3_isNewer 41 = .ok (.aload_n 0, 1) := by decide +kernel
theorem dX3_isNewer_42 : decode cX3_isNewer 42 = .ok (.getfield 17, 3) := by decide +kernel
theorem dX3_isNewer_45 : decode cX3_isNewer 45 = .ok (.iload_n 1, 1) := by decide +kernel
theorem dX3_isNewer_46 : decode cX3_isNewer 46 = .ok (.iaload, 1) := by decide +kernel
theorem dX3_isNewer_47 : decode cX3_isNewer 47 = .ok (.if_icmp .le 7, 3) := by decide +kernel
theorem dX3_isNewer_50 : decode cX3_isNewer 50 = .ok (.iconst 1, 1) := by decide +kernel
theorem dX3_isNewer_51 : decode cX3_isNewer 51 = .ok (.goto 4, 3) := by decide +kernel
theorem dX3_isNewer_54 : decode cX3_isNewer 54 = .ok (.iconst 0, 1) := by decide +kernel
theorem dX3_isNewer_55 : decode cX3_isNewer 55 = .ok (.ireturn, 1) := by decide +kernel
theorem dX3_isNewer_56 : decode cX3_isNewer 56 = .ok (.iconst 0, 1) := by decide +kernel
theorem dX3_isNewer_57 : decode cX3_isNewer 57 = .ok (.istore 7, 2) := by decide +kernel
theorem dX3_isNewer_59 : decode cX3_isNewer 59 = .ok (.iload 7, 2) := by decide +kernel
theorem dX3_isNewer_61 : decode cX3_isNewer 61 = .ok (.iload 4, 2) := by decide +kernel
theorem dX3_isNewer_63 : decode cX3_isNewer 63 = .ok (.if_icmp .ge 57, 3) := by decide +kernel
theorem dX3_isNewer_66 : decode cX3_isNewer 66 = .ok (.lload 5, 2) := by decide +kernel
theorem dX3_isNewer_68 : decode cX3_isNewer 68 = .ok (.iload 7, 2) := by decide +kernel
theorem dX3_isNewer_70 : decode cX3_isNewer 70 = .ok (.invokestatic 91, 3) := by decide +kernel
theorem dX3_isNewer_73 : decode cX3_isNewer 73 = .ok (.aload_n 0, 1) := by decide +kernel
theorem dX3_isNewer_74 : decode cX3_isNewer 74 = .ok (.getfield 21, 3) := by decide +kernel
theorem dX3_isNewer_77 : decode cX3_isNewer 77 = .ok (.iload_n 1, 1) := by decide +kernel
theorem dX3_isNewer_78 : decode cX3_isNewer 78 = .ok (.laload, 1) := by decide +kernel
theorem dX3_isNewer_79 : decode cX3_isNewer 79 = .ok (.iload 7, 2) := by decide +kernel
theorem dX3_isNewer_81 : decode cX3_isNewer 81 = .ok (.invokestatic 91, 3) := by decide +kernel
theorem dX3_isNewer_84 : decode cX3_isNewer 84 = .ok (.if_icmp .eq 30, 3) := by decide +kernel
theorem dX3_isNewer_87 : decode cX3_isNewer 87 = .ok (.lload 5, 2) := by decide +kernel
theorem dX3_isNewer_89 : decode cX3_isNewer 89 = .ok (.iload 7, 2) := by decide +kernel
theorem dX3_isNewer_91 : decode cX3_isNewer 91 = .ok (.invokestatic 91, 3) := by decide +kernel
theorem dX3_isNewer_94 : decode cX3_isNewer 94 = .ok (.aload_n 0, 1) := by decide +kernel
theorem dX3_isNewer_95 : decode cX3_isNewer 95 = .ok (.getfield 21, 3) := by decide +kernel
theorem dX3_isNewer_98 : decode cX3_isNewer 98 = .ok (.iload_n 1, 1) := by decide +kernel
theorem dX3_isNewer_99 : decode cX3_isNewer 99 = .ok (.laload, 1) := by decide +kernel
theorem dX3_isNewer_100 : decode cX3_isNewer 100 = .ok (.iload 7, 2) := by decide +kernel
theorem dX3_isNewer_102 : decode cX3_isNewer 102 = .ok (.invokestatic 91, 3) := by decide +kernel
theorem dX3_isNewer_105 : decode cX3_isNewer 105 = .ok (.if_icmp .le 7, 3) := by decide +kernel
theorem dX3_isNewer_108 : decode cX3_isNewer 108 = .ok (.iconst 1, 1) := by decide +kernel
theorem dX3_isNewer_109 : decode cX3_isNewer 109 = .ok (.goto 4, 3) := by decide +kernel
theorem dX3_isNewer_112 : decode cX3_isNewer 112 = .ok (.iconst 0, 1) := by decide +kernel
theorem dX3_isNewer_113 : decode cX3_isNewer 113 = .ok (.ireturn, 1) := by decide +kernel
theorem dX3_isNewer_114 : decode cX3_isNewer 114 = .ok (.iinc 7 1, 3) := by decide +kernel
theorem dX3_isNewer_117 : decode cX3_isNewer 117 = .ok (.goto (-58), 3) := by decide +kernel
theorem dX3_isNewer_120 : decode cX3_isNewer 120 = .ok (.iconst 0, 1) := by decide +kernel
theorem dX3_isNewer_121 : decode cX3_isNewer 121 = .ok (.ireturn, 1) := by decide +kernel
set_option maxRecDepth 20000 in
theorem ggX3_merge_X3_isNewer : GoodIn wsX3_merge wsX3_isNewer := goodIn_r _ [9, 2, 3, 4, 10, 11, 8, 12, 16, 17, 18, 19, 20, 21, 22, 23, 24, 25, 26, 27, 28, 29, 30, 31, 32, 33, 34, 35, 36, 37, 38, 39, 40, 41, 42, 43, 44, 45, 46, 47] (by decide +kernel) (by decide +kernel)
set_option maxRecDepth 20000 in
theorem gX3_merge_X3_isNewer : GoodIn wsX3_merge (wsV RX3 95 RX3 yX3_isNewer wsX3_isNewer) := goodIn_app (goodIn_of _ (by decide +kernel)) ggX3_merge_X3_isNewer
set_option maxRecDepth 20000 in
theorem ggX3_merge_X3_cut : GoodIn wsX3_merge wsX3_cut := goodIn_r _ [15] (by decide +kernel) (by decide +kernel)
set_option maxRecDepth 20000 in
theorem gX3_merge_X3_cut : GoodIn wsX3_merge (va_wsS RX3 99 yX3_cut wsX3_cut) := goodIn_app (goodIn_of _ (by decide +kernel)) ggX3_merge_X3_cut
theorem dX3_merge_0 : decode cX3_merge 0 = .ok (.sipush 256, 3) := by decide +kernel
theorem dX3_merge_3 : decode cX3_merge 3 = .ok (.iload_n 1, 1) := by decide +kernel
theorem dX3_merge_4 : decode cX3_merge 4 = .ok (.imul, 1) := by decide +kernel
theorem dX3_merge_5 : decode cX3_merge 5 = .ok (.iload_n 2, 1) := by decide +kernel
theorem dX3_merge_6 : decode cX3_merge 6 = .ok (.iadd, 1) := by decide +kernel
theorem dX3_merge_7 : decode cX3_merge 7 = .ok (.istore 8, 2) := by decide +kernel
theorem dX3_merge_9 : decode cX3_merge 9 = .ok (.aload_n 0, 1) := by decide +kernel
theorem dX3_merge_10 : decode cX3_merge 10 = .ok (.getfield 7, 3) := by decide +kernel
theorem dX3_merge_13 : decode cX3_merge 13 = .ok (.iload 8, 2) := by decide +kernel
theorem dX3_merge_15 : decode cX3_merge 15 = .ok (.baload, 1) := by decide +kernel
theorem dX3_merge_16 : decode cX3_merge 16 = .ok (.ifCond .eq 19, 3) := by decide +kernel
theorem dX3_merge_19 : decode cX3_merge 19 = .ok (.aload_n 0, 1) := by decide +kernel
theorem dX3_merge_20 : decode cX3_merge 20 = .ok (.iload 8, 2) := by decide +kernel
theorem dX3_merge_22 : decode cX3_merge 22 = .ok (.lload_n 3, 1) := by decide +kernel
theorem dX3_merge_23 : decode cX3_merge 23 = .ok (.iload 5, 2) := by decide +kernel
theorem dX3_merge_25 : decode cX3_merge 25 = .ok (.lload 6, 2) := by decide +kernel
theorem dX3_merge_27 : decode cX3_merge 27 = .ok (.invokevirtual 95, 3) := by decide +kernel
theorem dX3_merge_30 : decode cX3_merge 30 = .ok (.ifCond .ne 5, 3) := by decide +kernel
theorem dX3_merge_33 : decode cX3_merge 33 = .ok (.iconst 0, 1) := by decide +kernel
theorem dX3_merge_34 : decode cX3_merge 34 = .ok (.ireturn, 1) := by decide +kernel
theorem dX3_merge_35 : decode cX3_merge 35 = .ok (.aload_n 0, 1) := by decide +kernel
theorem dX3_merge_36 : decode cX3_merge 36 = .ok (.getfield 7, 3) := by decide +kernel
theorem dX3_merge_39 : decode cX3_merge 39 = .ok (.iload 8, 2) := by decide +kernel
theorem dX3_merge_41 : decode cX3_merge 41 = .ok (.iconst 1, 1) := by decide +kernel
theorem dX3_merge_42 : decode cX3_merge 42 = .ok (.bastore, 1) := by decide +kernel
theorem dX3_merge_43 : decode cX3_merge 43 = .ok (.aload_n 0, 1) := by decide +kernel
theorem dX3_merge_44 : decode cX3_merge 44 = .ok (.getfield 13, 3) := by decide +kernel
theorem dX3_merge_47 : decode cX3_merge 47 = .ok (.iload 8, 2) := by decide +kernel
theorem dX3_merge_49 : decode cX3_merge 49 = .ok (.lload_n 3, 1) := by decide +kernel
theorem dX3_merge_50 : decode cX3_merge 50 = .ok (.lastore, 1) := by decide +kernel
theorem dX3_merge_51 : decode cX3_merge 51 = .ok (.aload_n 0, 1) := by decide +kernel
theorem dX3_merge_52 : decode cX3_merge 52 = .ok (.getfield 17, 3) := by decide +kernel
theorem dX3_merge_55 : decode cX3_merge 55 = .ok (.iload 8, 2) := by decide +kernel
theorem dX3_merge_57 : decode cX3_merge 57 = .ok (.iload 5, 2) := by decide +kernel
theorem dX3_merge_59 : decode cX3_merge 59 = .ok (.iastore, 1) := by decide +kernel
theorem dX3_merge_60 : decode cX3_merge 60 = .ok (.aload_n 0, 1) := by decide +kernel
theorem dX3_merge_61 : decode cX3_merge 61 = .ok (.getfield 21, 3) := by decide +kernel
theorem dX3_merge_64 : decode cX3_merge 64 = .ok (.iload 8, 2) := by decide +kernel
theorem dX3_merge_66 : decode cX3_merge 66 = .ok (.lload 6, 2) := by decide +kernel
theorem dX3_merge_68 : decode cX3_merge 68 = .ok (.iload 5, 2) := by decide +kernel
theorem dX3_merge_70 : decode cX3_merge 70 = .ok (.invokestatic 99, 3) := by decide +kernel
theorem dX3_merge_73 : decode cX3_merge 73 = .ok (.lastore, 1) := by decide +kernel
theorem dX3_merge_74 : decode cX3_merge 74 = .ok (.iconst 1, 1) := by decide +kernel
theorem dX3_merge_75 : decode cX3_merge 75 = .ok (.ireturn, 1) := by decide +kernel
set_option maxRecDepth 20000 in
theorem ggX3_put_X3_isStore : GoodIn wsX3_put wsX3_isStore := goodIn_r _ [5] (by decide +kernel) (by decide +kernel)
set_option maxRecDepth 20000 in
theorem gX3_put_X3_isStore : GoodIn wsX3_put (va_wsS RX3 103 yX3_isStore wsX3_isStore) := goodIn_app (goodIn_of _ (by decide +kernel)) ggX3_put_X3_isStore
set_option maxRecDepth 20000 in
theorem ggX3_put_X3_isKey : GoodIn wsX3_put wsX3_isKey := goodIn_r _ [8] (by decide +kernel) (by decide +kernel)
set_option maxRecDepth 20000 in
theorem gX3_put_X3_isKey : GoodIn wsX3_put (va_wsS RX3 107 yX3_isKey wsX3_isKey) := goodIn_app (goodIn_of _ (by decide +kernel)) ggX3_put_X3_isKey
set_option maxRecDepth 20000 in
theorem ggX3_put_X3_merge : GoodIn wsX3_put wsX3_merge := goodIn_r _ [12, 13, 14, 15, 16, 17, 18, 19, 4, 20, 21, 22, 23, 24, 25, 26, 27, 28, 29, 30, 31, 32, 33, 34, 35, 36, 37, 38, 39, 40, 41, 42, 43, 44, 45, 46, 47, 48, 49, 50, 51, 52, 53, 54, 55, 56, 57, 58] (by decide +kernel) (by decide +kernel)
set_option maxRecDepth 20000 in
theorem gX3_put_X3_merge : GoodIn wsX3_put (wsV RX3 110 RX3 yX3_merge wsX3_merge) := goodIn_app (goodIn_of _ (by decide +kernel)) ggX3_put_X3_merge
theorem dX3_put_0 : decode cX3_put 0 = .ok (.aload_n 0, 1) := by decide +kernel
theorem dX3_put_1 : decode cX3_put 1 = .ok (.iload_n 1, 1) := by decide +kernel
theorem dX3_put_2 : decode cX3_put 2 = .ok (.invokestatic 103, 3) := by decide +kernel
theorem dX3_put_5 : decode cX3_put 5 = .ok (.ifCond .eq 10, 3) := by decide +kernel
theorem dX3_put_8 : decode cX3_put 8 = .ok (.iload_n 2, 1) := by decide +kernel
theorem dX3_put_9 : decode cX3_put 9 = .ok (.invokestatic 107, 3) := by decide +kernel
theorem dX3_put_12 : decode cX3_put 12 = .ok (.ifCond .ne 7, 3) := by decide +kernel
theorem dX3_put_15 : decode cX3_put 15 = .ok (.iconst 1, 1) := by decide +kernel
theorem dX3_put_16 : decode cX3_put 16 = .ok (.goto 20, 3) := by decide +kernel
theorem dX3_put_19 : decode cX3_put 19 = .ok (.iload 7, 2) := by decide +kernel
theorem dX3_put_21 : decode cX3_put 21 = .ok (.ifCond .lt 10, 3) := by decide +kernel
theorem dX3_put_24 : decode cX3_put 24 = .ok (.iload 7, 2) := by decide +kernel
theorem dX3_put_26 : decode cX3_put 26 = .ok (.bipush 8, 2) := by decide +kernel
theorem dX3_put_28 : decode cX3_put 28 = .ok (.if_icmp .le 7, 3) := by decide +kernel
theorem dX3_put_31 : decode cX3_put 31 = .ok (.iconst 2, 1) := by decide +kernel
theorem dX3_put_32 : decode cX3_put 32 = .ok (.goto 4, 3) := by decide +kernel
theorem dX3_put_35 : decode cX3_put 35 = .ok (.iconst 0, 1) := by decide +kernel
theorem dX3_put_36 : decode cX3_put 36 = .ok (.putfield 87, 3) := by decide +kernel
theorem dX3_put_39 : decode cX3_put 39 = .ok (.aload_n 0, 1) := by decide +kernel
theorem dX3_put_40 : decode cX3_put 40 = .ok (.getfield 87, 3) := by decide +kernel
theorem dX3_put_43 : decode cX3_put 43 = .ok (.ifCond .ne 21, 3) := by decide +kernel
theorem dX3_put_46 : decode cX3_put 46 = .ok (.aload_n 0, 1) := by decide +kernel
theorem dX3_put_47 : decode cX3_put 47 = .ok (.iload_n 1, 1) := by decide +kernel
theorem dX3_put_48 : decode cX3_put 48 = .ok (.iload_n 2, 1) := by decide +kernel
theorem dX3_put_49 : decode cX3_put 49 = .ok (.lload_n 3, 1) := by decide +kernel
theorem dX3_put_50 : decode cX3_put 50 = .ok (.iload 7, 2) := by decide +kernel
theorem dX3_put_52 : decode cX3_put 52 = .ok (.lload 5, 2) := by decide +kernel
theorem dX3_put_54 : decode cX3_put 54 = .ok (.invokevirtual 110, 3) := by decide +kernel
theorem dX3_put_57 : decode cX3_put 57 = .ok (.ifCond .eq 7, 3) := by decide +kernel
theorem dX3_put_60 : decode cX3_put 60 = .ok (.iconst 1, 1) := by decide +kernel
theorem dX3_put_61 : decode cX3_put 61 = .ok (.goto 4, 3) := by decide +kernel
theorem dX3_put_64 : decode cX3_put 64 = .ok (.iconst 0, 1) := by decide +kernel
theorem dX3_put_65 : decode cX3_put 65 = .ok (.ireturn, 1) := by decide +kernel
set_option maxRecDepth 20000 in
theorem ggX3_get_X3_isStore : GoodIn wsX3_get wsX3_isStore := goodIn_r _ [8] (by decide +kernel) (by decide +kernel)
set_option maxRecDepth 20000 in
theorem gX3_get_X3_isStore : GoodIn wsX3_get (va_wsS RX3 103 yX3_isStore wsX3_isStore) := goodIn_app (goodIn_of _ (by decide +kernel)) ggX3_get_X3_isStore
set_option maxRecDepth 20000 in
theorem ggX3_get_X3_isKey : GoodIn wsX3_get wsX3_isKey := goodIn_r _ [11] (by decide +kernel) (by decide +kernel)
set_option maxRecDepth 20000 in
theorem gX3_get_X3_isKey : GoodIn wsX3_get (va_wsS RX3 107 yX3_isKey wsX3_isKey) := goodIn_app (goodIn_of _ (by decide +kernel)) ggX3_get_X3_isKey
set_option maxRecDepth 20000 in
theorem ggX3_get_X3_byteOf : GoodIn wsX3_get wsX3_byteOf := goodIn_r _ [14] (by decide +kernel) (by decide +kernel)
set_option maxRecDepth 20000 in
theorem gX3_get_X3_byteOf : GoodIn wsX3_get (va_wsS RX3 91 yX3_byteOf wsX3_byteOf) := goodIn_app (goodIn_of _ (by decide +kernel)) ggX3_get_X3_byteOf
theorem dX3_get_0 : decode cX3_get 0 = .ok (.aload_n 0, 1) := by decide +kernel
theorem dX3_get_1 : decode cX3_get 1 = .ok (.iload_n 1, 1) := by decide +kernel
theorem dX3_get_2 : decode cX3_get 2 = .ok (.invokestatic 103, 3) := by decide +kernel
theorem dX3_get_5 : decode cX3_get 5 = .ok (.ifCond .eq 20, 3) := by decide +kernel
theorem dX3_get_8 : decode cX3_get 8 = .ok (.iload_n 2, 1) := by decide +kernel
theorem dX3_get_9 : decode cX3_get 9 = .ok (.invokestatic 107, 3) := by decide +kernel
theorem dX3_get_12 : decode cX3_get 12 = .ok (.ifCond .eq 13, 3) := by decide +kernel
theorem dX3_get_15 : decode cX3_get 15 = .ok (.iload_n 3, 1) := by decide +kernel
theorem dX3_get_16 : decode cX3_get 16 = .ok (.ifCond .lt 9, 3) := by decide +kernel
theorem dX3_get_19 : decode cX3_get 19 = .ok (.iload_n 3, 1) := by decide +kernel
theorem dX3_get_20 : decode cX3_get 20 = .ok (.bipush 8, 2) := by decide +kernel
theorem dX3_get_22 : decode cX3_get 22 = .ok (.if_icmp .le 7, 3) := by decide +kernel
theorem dX3_get_25 : decode cX3_get 25 = .ok (.iconst 1, 1) := by decide +kernel
theorem dX3_get_26 : decode cX3_get 26 = .ok (.goto 4, 3) := by decide +kernel
theorem dX3_get_29 : decode cX3_get 29 = .ok (.iconst 0, 1) := by decide +kernel
theorem dX3_get_30 : decode cX3_get 30 = .ok (.putfield 87, 3) := by decide +kernel
theorem dX3_get_33 : decode cX3_get 33 = .ok (.aload_n 0, 1) := by decide +kernel
theorem dX3_get_34 : decode cX3_get 34 = .ok (.getfield 87, 3) := by decide +kernel
theorem dX3_get_37 : decode cX3_get 37 = .ok (.ifCond .le 5, 3) := by decide +kernel
theorem dX3_get_40 : decode cX3_get 40 = .ok (.iconst 0, 1) := by decide +kernel
theorem dX3_get_41 : decode cX3_get 41 = .ok (.ireturn, 1) := by decide +kernel
theorem dX3_get_42 : decode cX3_get 42 = .ok (.sipush 256, 3) := by decide +kernel
theorem dX3_get_45 : decode cX3_get 45 = .ok (.iload_n 1, 1) := by decide +kernel
theorem dX3_get_46 : decode cX3_get 46 = .ok (.imul, 1) := by decide +kernel
theorem dX3_get_47 : decode cX3_get 47 = .ok (.iload_n 2, 1) := by decide +kernel
theorem dX3_get_48 : decode cX3_get 48 = .ok (.iadd, 1) := by decide +kernel
theorem dX3_get_49 : decode cX3_get 49 = .ok (.istore 4, 2) := by decide +kernel
theorem dX3_get_51 : decode cX3_get 51 = .ok (.aload_n 0, 1) := by decide +kernel
theorem dX3_get_52 : decode cX3_get 52 = .ok (.getfield 7, 3) := by decide +kernel
theorem dX3_get_55 : decode cX3_get 55 = .ok (.iload 4, 2) := by decide +kernel
theorem dX3_get_57 : decode cX3_get 57 = .ok (.baload, 1) := by decide +kernel
theorem dX3_get_58 : decode cX3_get 58 = .ok (.ifCond .eq 14, 3) := by decide +kernel
theorem dX3_get_61 : decode cX3_get 61 = .ok (.iload_n 3, 1) := by decide +kernel
theorem dX3_get_62 : decode cX3_get 62 = .ok (.aload_n 0, 1) := by decide +kernel
theorem dX3_get_63 : decode cX3_get 63 = .ok (.getfield 17, 3) := by decide +kernel
theorem dX3_get_66 : decode cX3_get 66 = .ok (.iload 4, 2) := by decide +kernel
theorem dX3_get_68 : decode cX3_get 68 = .ok (.iaload, 1) := by decide +kernel
theorem dX3_get_69 : decode cX3_get 69 = .ok (.if_icmp .le 7, 3) := by decide +kernel
theorem dX3_get_72 : decode cX3_get 72 = .ok (.iconst (-1), 1) := by decide +kernel
theorem dX3_get_73 : decode cX3_get 73 = .ok (.goto 30, 3) := by decide +kernel
theorem dX3_get_76 : decode cX3_get 76 = .ok (.iload_n 3, 1) := by decide +kernel
theorem dX3_get_77 : decode cX3_get 77 = .ok (.ifCond .ne 13, 3) := by decide +kernel
theorem dX3_get_80 : decode cX3_get 80 = .ok (.aload_n 0, 1) := by decide +kernel
theorem dX3_get_81 : decode cX3_get 81 = .ok (.getfield 17, 3) := by decide +kernel
theorem dX3_get_84 : decode cX3_get 84 = .ok (.iload 4, 2) := by decide +kernel
theorem dX3_get_86 : decode cX3_get 86 = .ok (.iaload, 1) := by decide +kernel
theorem dX3_get_87 : decode cX3_get 87 = .ok (.goto 16, 3) := by decide +kernel
theorem dX3_get_90 : decode cX3_get 90 = .ok (.aload_n 0, 1) := by decide +kernel
theorem dX3_get_91 : decode cX3_get 91 = .ok (.getfield 21, 3) := by decide +kernel
theorem dX3_get_94 : decode cX3_get 94 = .ok (.iload 4, 2) := by decide +kernel
theorem dX3_get_96 : decode cX3_get 96 = .ok (.laload, 1) := by decide +kernel
theorem dX3_get_97 : decode cX3_get 97 = .ok (.iload_n 3, 1) := by decide +kernel
theorem dX3_get_98 : decode cX3_get 98 = .ok (.iconst 1, 1) := by decide +kernel
theorem dX3_get_99 : decode cX3_get 99 = .ok (.isub, 1) := by decide +kernel
theorem dX3_get_100 : decode cX3_get 100 = .ok (.invokestatic 91, 3) := by decide +kernel
theorem dX3_get_103 : decode cX3_get 103 = .ok (.ireturn, 1) := by decide +kernel
set_option maxRecDepth 20000 in
theorem ggX3_stamp_X3_isStore : GoodIn wsX3_stamp wsX3_isStore := goodIn_r _ [7] (by decide +kernel) (by decide +kernel)
set_option maxRecDepth 20000 in
theorem gX3_stamp_X3_isStore : GoodIn wsX3_stamp (va_wsS RX3 103 yX3_isStore wsX3_isStore) := goodIn_app (goodIn_of _ (by decide +kernel)) ggX3_stamp_X3_isStore
set_option maxRecDepth 20000 in
theorem ggX3_stamp_X3_isKey : GoodIn wsX3_stamp wsX3_isKey := goodIn_r _ [10] (by decide +kernel) (by decide +kernel)
set_option maxRecDepth 20000 in
theorem gX3_stamp_X3_isKey : GoodIn wsX3_stamp (va_wsS RX3 107 yX3_isKey wsX3_isKey) := goodIn_app (goodIn_of _ (by decide +kernel)) ggX3_stamp_X3_isKey
theorem dX3_stamp_0 : decode cX3_stamp 0 = .ok (.aload_n 0, 1) := by decide +kernel
theorem dX3_stamp_1 : decode cX3_stamp 1 = .ok (.iload_n 1, 1) := by decide +kernel
theorem dX3_stamp_2 : decode cX3_stamp 2 = .ok (.invokestatic 103, 3) := by decide +kernel
theorem dX3_stamp_5 : decode cX3_stamp 5 = .ok (.ifCond .eq 10, 3) := by decide +kernel
theorem dX3_stamp_8 : decode cX3_stamp 8 = .ok (.iload_n 2, 1) := by decide +kernel
theorem dX3_stamp_9 : decode cX3_stamp 9 = .ok (.invokestatic 107, 3) := by decide +kernel
theorem dX3_stamp_12 : decode cX3_stamp 12 = .ok (.ifCond .ne 7, 3) := by decide +kernel
theorem dX3_stamp_15 : decode cX3_stamp 15 = .ok (.iconst 1, 1) := by decide +kernel
theorem dX3_stamp_16 : decode cX3_stamp 16 = .ok (.goto 4, 3) := by decide +kernel
theorem dX3_stamp_19 : decode cX3_stamp 19 = .ok (.iconst 0, 1) := by decide +kernel
theorem dX3_stamp_20 : decode cX3_stamp 20 = .ok (.putfield 87, 3) := by decide +kernel
theorem dX3_stamp_23 : decode cX3_stamp 23 = .ok (.aload_n 0, 1) := by decide +kernel
theorem dX3_stamp_24 : decode cX3_stamp 24 = .ok (.getfield 87, 3) := by decide +kernel
theorem dX3_stamp_27 : decode cX3_stamp 27 = .ok (.ifCond .gt 18, 3) := by decide +kernel
theorem dX3_stamp_30 : decode cX3_stamp 30 = .ok (.aload_n 0, 1) := by decide +kernel
theorem dX3_stamp_31 : decode cX3_stamp 31 = .ok (.getfield 7, 3) := by decide +kernel
theorem dX3_stamp_34 : decode cX3_stamp 34 = .ok (.sipush 256, 3) := by decide +kernel
theorem dX3_stamp_37 : decode cX3_stamp 37 = .ok (.iload_n 1, 1) := by decide +kernel
theorem dX3_stamp_38 : decode cX3_stamp 38 = .ok (.imul, 1) := by decide +kernel
theorem dX3_stamp_39 : decode cX3_stamp 39 = .ok (.iload_n 2, 1) := by decide +kernel
theorem dX3_stamp_40 : decode cX3_stamp 40 = .ok (.iadd, 1) := by decide +kernel
theorem dX3_stamp_41 : decode cX3_stamp 41 = .ok (.baload, 1) := by decide +kernel
theorem dX3_stamp_42 : decode cX3_stamp 42 = .ok (.ifCond .ne 7, 3) := by decide +kernel
theorem dX3_stamp_45 : decode cX3_stamp 45 = .ok (.lconst 0, 1) := by decide +kernel
theorem dX3_stamp_46 : decode cX3_stamp 46 = .ok (.goto 15, 3) := by decide +kernel
theorem dX3_stamp_49 : decode cX3_stamp 49 = .ok (.aload_n 0, 1) := by decide +kernel
theorem dX3_stamp_50 : decode cX3_stamp 50 = .ok (.getfield 13, 3) := by decide +kernel
theorem dX3_stamp_53 : decode cX3_stamp 53 = .ok (.sipush 256, 3) := by decide +kernel
theorem dX3_stamp_56 : decode cX3_stamp 56 = .ok (.iload_n 1, 1) := by decide +kernel
theorem dX3_stamp_57 : decode cX3_stamp 57 = .ok (.imul, 1) := by decide +kernel
theorem dX3_stamp_58 : decode cX3_stamp 58 = .ok (.iload_n 2, 1) := by decide +kernel
theorem dX3_stamp_59 : decode cX3_stamp 59 = .ok (.iadd, 1) := by decide +kernel
theorem dX3_stamp_60 : decode cX3_stamp 60 = .ok (.laload, 1) := by decide +kernel
theorem dX3_stamp_61 : decode cX3_stamp 61 = .ok (.lreturn, 1) := by decide +kernel
theorem dX3_mix_0 : decode cX3_mix 0 = .ok (.aload_n 0, 1) := by decide +kernel
theorem dX3_mix_1 : decode cX3_mix 1 = .ok (.aload_n 0, 1) := by decide +kernel
theorem dX3_mix_2 : decode cX3_mix 2 = .ok (.getfield 114, 3) := by decide +kernel
theorem dX3_mix_5 : decode cX3_mix 5 = .ok (.iload_n 1, 1) := by decide +kernel
theorem dX3_mix_6 : decode cX3_mix 6 = .ok (.i2l, 1) := by decide +kernel
theorem dX3_mix_7 : decode cX3_mix 7 = .ok (.lxor, 1) := by decide +kernel
theorem dX3_mix_8 : decode cX3_mix 8 = .ok (.ldc2_w 118, 3) := by decide +kernel
theorem dX3_mix_11 : decode cX3_mix 11 = .ok (.lmul, 1) := by decide +kernel
theorem dX3_mix_12 : decode cX3_mix 12 = .ok (.putfield 114, 3) := by decide +kernel
theorem dX3_mix_15 : decode cX3_mix 15 = .ok (.aload_n 0, 1) := by decide +kernel
theorem dX3_mix_16 : decode cX3_mix 16 = .ok (.aload_n 0, 1) := by decide +kernel
theorem dX3_mix_17 : decode cX3_mix 17 = .ok (.getfield 114, 3) := by decide +kernel
theorem dX3_mix_20 : decode cX3_mix 20 = .ok (.bipush 23, 2) := by decide +kernel
theorem dX3_mix_22 : decode cX3_mix 22 = .ok (.lshl, 1) := by decide +kernel
theorem dX3_mix_23 : decode cX3_mix 23 = .ok (.aload_n 0, 1) := by decide +kernel
theorem dX3_mix_24 : decode cX3_mix 24 = .ok (.getfield 114, 3) := by decide +kernel
theorem dX3_mix_27 : decode cX3_mix 27 = .ok (.bipush 41, 2) := by decide +kernel
theorem dX3_mix_29 : decode cX3_mix 29 = .ok (.lushr, 1) := by decide +kernel
theorem dX3_mix_30 : decode cX3_mix 30 = .ok (.lor, 1) := by decide +kernel
theorem dX3_mix_31 : decode cX3_mix 31 = .ok (.putfield 114, 3) := by decide +kernel
theorem dX3_mix_34 : decode cX3_mix 34 = .ok (.return_, 1) := by decide +kernel
set_option maxRecDepth 20000 in
theorem ggX3_mixLong_X3_byteOf : GoodIn wsX3_mixLong wsX3_byteOf := goodIn_r _ [4] (by decide +kernel) (by decide +kernel)
set_option maxRecDepth 20000 in
theorem gX3_mixLong_X3_byteOf : GoodIn wsX3_mixLong (va_wsS RX3 91 yX3_byteOf wsX3_byteOf) := goodIn_app (goodIn_of _ (by decide +kernel)) ggX3_mixLong_X3_byteOf
set_option maxRecDepth 20000 in
theorem ggX3_mixLong_X3_mix : GoodIn wsX3_mixLong wsX3_mix := goodIn_r _ [8, 9, 10, 11, 12, 13, 14, 15, 16, 17, 18, 19, 20, 21, 22, 23, 24, 25, 26, 27, 28, 29, 30, 31, 32, 33, 34, 35, 36, 37, 38, 39, 40, 41, 42] (by decide +kernel) (by decide +kernel)
set_option maxRecDepth 20000 in
theorem gX3_mixLong_X3_mix : GoodIn wsX3_mixLong (wsV RX3 120 RX3 yX3_mix wsX3_mix) := goodIn_app (goodIn_of _ (by decide +kernel)) ggX3_mixLong_X3_mix
theorem dX3_mixLong_0 : decode cX3_mixLong 0 = .ok (.iconst 0, 1) := by decide +kernel
theorem dX3_mixLong_1 : decode cX3_mixLong 1 = .ok (.istore_n 3, 1) := by decide +kernel
theorem dX3_mixLong_2 : decode cX3_mixLong 2 = .ok (.iload_n 3, 1) := by decide +kernel
theorem dX3_mixLong_3 : decode cX3_mixLong 3 = .ok (.bipush 8, 2) := by decide +kernel
theorem dX3_mixLong_5 : decode cX3_mixLong 5 = .ok (.if_icmp .ge 18, 3) := by decide +kernel
theorem dX3_mixLong_8 : decode cX3_mixLong 8 = .ok (.aload_n 0, 1) := by decide +kernel
theorem dX3_mixLong_9 : decode cX3_mixLong 9 = .ok (.lload_n 1, 1) := by decide +kernel
theorem dX3_mixLong_10 : decode cX3_mixLong 10 = .ok (.iload_n 3, 1) := by decide +kernel
theorem dX3_mixLong_11 : decode cX3_mixLong 11 = .ok (.invokestatic 91, 3) := by decide +kernel
theorem dX3_mixLong_14 : decode cX3_mixLong 14 = .ok (.invokevirtual 120, 3) := by decide +kernel
theorem dX3_mixLong_17 : decode cX3_mixLong 17 = .ok (.iinc 3 1, 3) := by decide +kernel
theorem dX3_mixLong_20 : decode cX3_mixLong 20 = .ok (.goto (-18), 3) := by decide +kernel
theorem dX3_mixLong_23 : decode cX3_mixLong 23 = .ok (.return_, 1) := by decide +kernel
set_option maxRecDepth 20000 in
theorem ggX3_leaf_X3_mix : GoodIn wsX3_leaf wsX3_mix := goodIn_r _ [11, 2, 12, 20, 21, 22, 23, 24, 25, 26, 27, 28, 29, 30, 31, 32, 33, 34, 35, 36, 37, 38, 39, 40, 41, 42, 43, 44, 45, 46, 47, 48, 49, 50, 51] (by decide +kernel) (by decide +kernel)
set_option maxRecDepth 20000 in
theorem gX3_leaf_X3_mix : GoodIn wsX3_leaf (wsV RX3 120 RX3 yX3_mix wsX3_mix) := goodIn_app (goodIn_of _ (by decide +kernel)) ggX3_leaf_X3_mix
set_option maxRecDepth 20000 in
theorem ggX3_leaf_X3_mixLong : GoodIn wsX3_leaf wsX3_mixLong := goodIn_r _ [16, 17, 18, 10, 19, 7, 8, 9, 11, 2, 12, 20, 21, 22, 23, 24, 25, 26, 27, 28, 29, 30, 31, 32, 33, 34, 35, 36, 37, 38, 39, 40, 41, 42, 43, 44, 45, 46, 47, 48, 49, 50, 51] (by decide +kernel) (by decide +kernel)
set_option maxRecDepth 20000 in
theorem gX3_leaf_X3_mixLong : GoodIn wsX3_leaf (wsV RX3 126 RX3 yX3_mixLong wsX3_mixLong) := goodIn_app (goodIn_of _ (by decide +kernel)) ggX3_leaf_X3_mixLong
set_option maxRecDepth 20000 in
theorem ggX3_leaf_X3_byteOf : GoodIn wsX3_leaf wsX3_byteOf := goodIn_r _ [19] (by decide +kernel) (by decide +kernel)
set_option maxRecDepth 20000 in
theorem gX3_leaf_X3_byteOf : GoodIn wsX3_leaf (va_wsS RX3 91 yX3_byteOf wsX3_byteOf) := goodIn_app (goodIn_of _ (by decide +kernel)) ggX3_leaf_X3_byteOf
theorem dX3_leaf_0 : decode cX3_leaf 0 = .ok (.aload_n 0, 1) := by decide +kernel
theorem dX3_leaf_1 : decode cX3_leaf 1 = .ok (.ldc2_w 124, 3) := by decide +kernel
theorem dX3_leaf_4 : decode cX3_leaf 4 = .ok (.putfield 114, 3) := by decide +kernel
theorem dX3_leaf_7 : decode cX3_leaf 7 = .ok (.iconst 4, 1) := by decide +kernel
theorem dX3_leaf_8 : decode cX3_leaf 8 = .ok (.iload_n 2, 1) := by decide +kernel
theorem dX3_leaf_9 : decode cX3_leaf 9 = .ok (.imul, 1) := by decide +kernel
theorem dX3_leaf_10 : decode cX3_leaf 10 = .ok (.istore_n 3, 1) := by decide +kernel
theorem dX3_leaf_11 : decode cX3_leaf 11 = .ok (.iload_n 3, 1) := by decide +kernel
theorem dX3_leaf_12 : decode cX3_leaf 12 = .ok (.iconst 4, 1) := by decide +kernel
theorem dX3_leaf_13 : decode cX3_leaf 13 = .ok (.iload_n 2, 1) := by decide +kernel
theorem dX3_leaf_14 : decode cX3_leaf 14 = .ok (.imul, 1) := by decide +kernel
theorem dX3_leaf_15 : decode cX3_leaf 15 = .ok (.iconst 4, 1) := by decide +kernel
theorem dX3_leaf_16 : decode cX3_leaf 16 = .ok (.iadd, 1) := by decide +kernel
theorem dX3_leaf_17 : decode cX3_leaf 17 = .ok (.if_icmp .ge 95, 3) := by decide +kernel
theorem dX3_leaf_20 : decode cX3_leaf 20 = .ok (.sipush 256, 3) := by decide +kernel
theorem dX3_leaf_23 : decode cX3_leaf 23 = .ok (.iload_n 1, 1) := by decide +kernel
theorem dX3_leaf_24 : decode cX3_leaf 24 = .ok (.imul, 1) := by decide +kernel
theorem dX3_leaf_25 : decode cX3_leaf 25 = .ok (.iload_n 3, 1) := by decide +kernel
theorem dX3_leaf_26 : decode cX3_leaf 26 = .ok (.iadd, 1) := by decide +kernel
theorem dX3_leaf_27 : decode cX3_leaf 27 = .ok (.istore 4, 2) := by decide +kernel
theorem dX3_leaf_29 : decode cX3_leaf 29 = .ok (.aload_n 0, 1) := by decide +kernel
theorem dX3_leaf_30 : decode cX3_leaf 30 = .ok (.getfield 7, 3) := by decide +kernel
theorem dX3_leaf_33 : decode cX3_leaf 33 = .ok (.iload 4, 2) := by decide +kernel
theorem dX3_leaf_35 : decode cX3_leaf 35 = .ok (.baload, 1) := by decide +kernel
theorem dX3_leaf_36 : decode cX3_leaf 36 = .ok (.ifCond .ne 6, 3) := by decide +kernel
theorem dX3_leaf_39 : decode cX3_leaf 39 = .ok (.goto 67, 3) := by decide +kernel
theorem dX3_leaf_42 : decode cX3_leaf 42 = .ok (.aload_n 0, 1) := by decide +kernel
theorem dX3_leaf_43 : decode cX3_leaf 43 = .ok (.iload_n 3, 1) := by decide +kernel
theorem dX3_leaf_44 : decode cX3_leaf 44 = .ok (.invokevirtual 120, 3) := by decide +kernel
theorem dX3_leaf_47 : decode cX3_leaf 47 = .ok (.aload_n 0, 1) := by decide +kernel
theorem dX3_leaf_48 : decode cX3_leaf 48 = .ok (.aload_n 0, 1) := by decide +kernel
theorem dX3_leaf_49 : decode cX3_leaf 49 = .ok (.getfield 13, 3) := by decide +kernel
theorem dX3_leaf_52 : decode cX3_leaf 52 = .ok (.iload 4, 2) := by decide +kernel
theorem dX3_leaf_54 : decode cX3_leaf 54 = .ok (.laload, 1) := by decide +kernel
theorem dX3_leaf_55 : decode cX3_leaf 55 = .ok (.invokevirtual 126, 3) := by decide +kernel
theorem dX3_leaf_58 : decode cX3_leaf 58 = .ok (.aload_n 0, 1) := by decide +kernel
theorem dX3_leaf_59 : decode cX3_leaf 59 = .ok (.aload_n 0, 1) := by decide +kernel
theorem dX3_leaf_60 : decode cX3_leaf 60 = .ok (.getfield 17, 3) := by decide +kernel
theorem dX3_leaf_63 : decode cX3_leaf 63 = .ok (.iload 4, 2) := by decide +kernel
theorem dX3_leaf_65 : decode cX3_leaf 65 = .ok (.iaload, 1) := by decide +kernel
theorem dX3_leaf_66 : decode cX3_leaf 66 = .ok (.invokevirtual 120, 3) := by decide +kernel
theorem dX3_leaf_69 : decode cX3_leaf 69 = .ok (.iconst 0, 1) := by decide +kernel
theorem dX3_leaf_70 : decode cX3_leaf 70 = .ok (.istore 5, 2) := by decide +kernel
theorem dX3_leaf_72 : decode cX3_leaf 72 = .ok (.iload 5, 2) := by decide +kernel
theorem dX3_leaf_74 : decode cX3_leaf 74 = .ok (.aload_n 0, 1) := by decide +kernel
theorem dX3_leaf_75 : decode cX3_leaf 75 = .ok (.getfield 17, 3) := by decide +kernel
theorem dX3_leaf_78 : decode cX3_leaf 78 = .ok (.iload 4, 2) := by decide +kernel
theorem dX3_leaf_80 : decode cX3_leaf 80 = .ok (.iaload, 1) := by decide +kernel
theorem dX3_leaf_81 : decode cX3_leaf 81 = .ok (.if_icmp .ge 25, 3) := by decide +kernel
theorem dX3_leaf_84 : decode cX3_leaf 84 = .ok (.aload_n 0, 1) := by decide +kernel
theorem dX3_leaf_85 : decode cX3_leaf 85 = .ok (.aload_n 0, 1) := by decide +kernel
theorem dX3_leaf_86 : decode cX3_leaf 86 = .ok (.getfield 21, 3) := by decide +kernel
theorem dX3_leaf_89 : decode cX3_leaf 89 = .ok (.iload 4, 2) := by decide +kernel
theorem dX3_leaf_91 : decode cX3_leaf 91 = .ok (.laload, 1) := by decide +kernel
theorem dX3_leaf_92 : decode cX3_leaf 92 = .ok (.iload 5, 2) := by decide +kernel
theorem dX3_leaf_94 : decode cX3_leaf 94 = .ok (.invokestatic 91, 3) := by decide +kernel
theorem dX3_leaf_97 : decode cX3_leaf 97 = .ok (.invokevirtual 120, 3) := by decide +kernel
theorem dX3_leaf_100 : decode cX3_leaf 100 = .ok (.iinc 5 1, 3) := by decide +kernel
theorem dX3_leaf_103 : decode cX3_leaf 103 = .ok (.goto (-31), 3) := by decide +kernel
theorem dX3_leaf_106 : decode cX3_leaf 106 = .ok (.iinc 3 1, 3) := by decide +kernel
theorem dX3_leaf_109 : decode cX3_leaf 109 = .ok (.goto (-98), 3) := by decide +kernel
theorem dX3_leaf_112 : decode cX3_leaf 112 = .ok (.aload_n 0, 1) := by decide +kernel
theorem dX3_leaf_113 : decode cX3_leaf 113 = .ok (.getfield 114, 3) := by decide +kernel
theorem dX3_leaf_116 : decode cX3_leaf 116 = .ok (.aload_n 0, 1) := by decide +kernel
theorem dX3_leaf_117 : decode cX3_leaf 117 = .ok (.getfield 114, 3) := by decide +kernel
theorem dX3_leaf_120 : decode cX3_leaf 120 = .ok (.bipush 31, 2) := by decide +kernel
theorem dX3_leaf_122 : decode cX3_leaf 122 = .ok (.lushr, 1) := by decide +kernel
theorem dX3_leaf_123 : decode cX3_leaf 123 = .ok (.lxor, 1) := by decide +kernel
theorem dX3_leaf_124 : decode cX3_leaf 124 = .ok (.lreturn, 1) := by decide +kernel
theorem dX3_begin_0 : decode cX3_begin 0 = .ok (.iload_n 0, 1) := by decide +kernel
theorem dX3_begin_1 : decode cX3_begin 1 = .ok (.ifCond .ne 7, 3) := by decide +kernel
theorem dX3_begin_4 : decode cX3_begin 4 = .ok (.iconst 0, 1) := by decide +kernel
theorem dX3_begin_5 : decode cX3_begin 5 = .ok (.goto 23, 3) := by decide +kernel
theorem dX3_begin_8 : decode cX3_begin 8 = .ok (.iload_n 0, 1) := by decide +kernel
theorem dX3_begin_9 : decode cX3_begin 9 = .ok (.iconst 1, 1) := by decide +kernel
theorem dX3_begin_10 : decode cX3_begin 10 = .ok (.if_icmp .ne 7, 3) := by decide +kernel
theorem dX3_begin_13 : decode cX3_begin 13 = .ok (.iconst 1, 1) := by decide +kernel
theorem dX3_begin_14 : decode cX3_begin 14 = .ok (.goto 14, 3) := by decide +kernel
theorem dX3_begin_17 : decode cX3_begin 17 = .ok (.iload_n 0, 1) := by decide +kernel
theorem dX3_begin_18 : decode cX3_begin 18 = .ok (.iconst 2, 1) := by decide +kernel
theorem dX3_begin_19 : decode cX3_begin 19 = .ok (.if_icmp .ne 7, 3) := by decide +kernel
theorem dX3_begin_22 : decode cX3_begin 22 = .ok (.iconst 5, 1) := by decide +kernel
theorem dX3_begin_23 : decode cX3_begin 23 = .ok (.goto 5, 3) := by decide +kernel
theorem dX3_begin_26 : decode cX3_begin 26 = .ok (.bipush 21, 2) := by decide +kernel
theorem dX3_begin_28 : decode cX3_begin 28 = .ok (.ireturn, 1) := by decide +kernel
theorem dX3_width_0 : decode cX3_width 0 = .ok (.iconst 1, 1) := by decide +kernel
theorem dX3_width_1 : decode cX3_width 1 = .ok (.iconst 2, 1) := by decide +kernel
theorem dX3_width_2 : decode cX3_width 2 = .ok (.iload_n 0, 1) := by decide +kernel
theorem dX3_width_3 : decode cX3_width 3 = .ok (.imul, 1) := by decide +kernel
theorem dX3_width_4 : decode cX3_width 4 = .ok (.ishl, 1) := by decide +kernel
theorem dX3_width_5 : decode cX3_width 5 = .ok (.ireturn, 1) := by decide +kernel
set_option maxRecDepth 20000 in
theorem ggX3_hashAll_X3_leaf : GoodIn wsX3_hashAll wsX3_leaf := goodIn_r _ [8, 2, 3, 9, 10, 11, 12, 13, 14, 15, 7, 16, 17, 18, 19, 20, 21, 22, 23, 24, 31, 32, 33, 34, 35, 36, 37, 38, 39, 40, 41, 42, 43, 44, 45, 46, 47, 48, 49, 50, 51, 52, 53, 54, 55, 56, 57, 58, 59, 60, 61, 62] (by decide +kernel) (by decide +kernel)
set_option maxRecDepth 20000 in
theorem gX3_hashAll_X3_leaf : GoodIn wsX3_hashAll (wsV RX3 130 RX3 yX3_leaf wsX3_leaf) := goodIn_app (goodIn_of _ (by decide +kernel)) ggX3_hashAll_X3_leaf
set_option maxRecDepth 20000 in
theorem ggX3_hashAll_X3_width : GoodIn wsX3_hashAll wsX3_width := goodIn_r _ [27] (by decide +kernel) (by decide +kernel)
set_option maxRecDepth 20000 in
theorem gX3_hashAll_X3_width : GoodIn wsX3_hashAll (va_wsS RX3 134 yX3_width wsX3_width) := goodIn_app (goodIn_of _ (by decide +kernel)) ggX3_hashAll_X3_width
set_option maxRecDepth 20000 in
theorem ggX3_hashAll_X3_begin : GoodIn wsX3_hashAll wsX3_begin := goodIn_r _ [30] (by decide +kernel) (by decide +kernel)
set_option maxRecDepth 20000 in
theorem gX3_hashAll_X3_begin : GoodIn wsX3_hashAll (va_wsS RX3 138 yX3_begin wsX3_begin) := goodIn_app (goodIn_of _ (by decide +kernel)) ggX3_hashAll_X3_begin
set_option maxRecDepth 20000 in
theorem ggX3_hashAll_X3_mixLong : GoodIn wsX3_hashAll wsX3_mixLong := goodIn_r _ [21, 22, 23, 7, 24, 13, 14, 15, 16, 3, 17, 31, 32, 33, 34, 35, 36, 37, 38, 39, 40, 41, 42, 43, 44, 45, 46, 47, 48, 49, 50, 51, 52, 53, 54, 55, 56, 57, 58, 59, 60, 61, 62] (by decide +kernel) (by decide +kernel)
set_option maxRecDepth 20000 in
theorem gX3_hashAll_X3_mixLong : GoodIn wsX3_hashAll (wsV RX3 126 RX3 yX3_mixLong wsX3_mixLong) := goodIn_app (goodIn_of _ (by decide +kernel)) ggX3_hashAll_X3_mixLong
theorem dX3_hashAll_0 : decode cX3_hashAll 0 = .ok (.iconst 0, 1) := by decide +kernel
theorem dX3_hashAll_1 : decode cX3_hashAll 1 = .ok (.istore_n 2, 1) := by decide +kernel
theorem dX3_hashAll_2 : decode cX3_hashAll 2 = .ok (.iload_n 2, 1) := by decide +kernel
theorem dX3_hashAll_3 : decode cX3_hashAll 3 = .ok (.bipush 64, 2) := by decide +kernel
theorem dX3_hashAll_5 : decode cX3_hashAll 5 = .ok (.if_icmp .ge 24, 3) := by decide +kernel
theorem dX3_hashAll_8 : decode cX3_hashAll 8 = .ok (.aload_n 0, 1) := by decide +kernel
theorem dX3_hashAll_9 : decode cX3_hashAll 9 = .ok (.getfield 24, 3) := by decide +kernel
theorem dX3_hashAll_12 : decode cX3_hashAll 12 = .ok (.bipush 21, 2) := by decide +kernel
theorem dX3_hashAll_14 : decode cX3_hashAll 14 = .ok (.iload_n 2, 1) := by decide +kernel
theorem dX3_hashAll_15 : decode cX3_hashAll 15 = .ok (.iadd, 1) := by decide +kernel
theorem dX3_hashAll_16 : decode cX3_hashAll 16 = .ok (.aload_n 0, 1) := by decide +kernel
theorem dX3_hashAll_17 : decode cX3_hashAll 17 = .ok (.iload_n 1, 1) := by decide +kernel
theorem dX3_hashAll_18 : decode cX3_hashAll 18 = .ok (.iload_n 2, 1) := by decide +kernel
theorem dX3_hashAll_19 : decode cX3_hashAll 19 = .ok (.invokevirtual 130, 3) := by decide +kernel
theorem dX3_hashAll_22 : decode cX3_hashAll 22 = .ok (.lastore, 1) := by decide +kernel
theorem dX3_hashAll_23 : decode cX3_hashAll 23 = .ok (.iinc 2 1, 3) := by decide +kernel
theorem dX3_hashAll_26 : decode cX3_hashAll 26 = .ok (.goto (-24), 3) := by decide +kernel
theorem dX3_hashAll_29 : decode cX3_hashAll 29 = .ok (.iconst 2, 1) := by decide +kernel
theorem dX3_hashAll_30 : decode cX3_hashAll 30 = .ok (.istore_n 2, 1) := by decide +kernel
theorem dX3_hashAll_31 : decode cX3_hashAll 31 = .ok (.iload_n 2, 1) := by decide +kernel
theorem dX3_hashAll_32 : decode cX3_hashAll 32 = .ok (.ifCond .lt 92, 3) := by decide +kernel
theorem dX3_hashAll_35 : decode cX3_hashAll 35 = .ok (.iconst 0, 1) := by decide +kernel
theorem dX3_hashAll_36 : decode cX3_hashAll 36 = .ok (.istore_n 3, 1) := by decide +kernel
theorem dX3_hashAll_37 : decode cX3_hashAll 37 = .ok (.iload_n 3, 1) := by decide +kernel
theorem dX3_hashAll_38 : decode cX3_hashAll 38 = .ok (.iload_n 2, 1) := by decide +kernel
theorem dX3_hashAll_39 : decode cX3_hashAll 39 = .ok (.invokestatic 134, 3) := by decide +kernel
theorem dX3_hashAll_42 : decode cX3_hashAll 42 = .ok (.if_icmp .ge 76, 3) := by decide +kernel
theorem dX3_hashAll_45 : decode cX3_hashAll 45 = .ok (.aload_n 0, 1) := by decide +kernel
theorem dX3_hashAll_46 : decode cX3_hashAll 46 = .ok (.ldc2_w 124, 3) := by decide +kernel
theorem dX3_hashAll_49 : decode cX3_hashAll 49 = .ok (.putfield 114, 3) := by decide +kernel
theorem dX3_hashAll_52 : decode cX3_hashAll 52 = .ok (.iconst 0, 1) := by decide +kernel
theorem dX3_hashAll_53 : decode cX3_hashAll 53 = .ok (.istore 4, 2) := by decide +kernel
theorem dX3_hashAll_55 : decode cX3_hashAll 55 = .ok (.iload 4, 2) := by decide +kernel
theorem dX3_hashAll_57 : decode cX3_hashAll 57 = .ok (.iconst 4, 1) := by decide +kernel
theorem dX3_hashAll_58 : decode cX3_hashAll 58 = .ok (.if_icmp .ge 31, 3) := by decide +kernel
theorem dX3_hashAll_61 : decode cX3_hashAll 61 = .ok (.aload_n 0, 1) := by decide +kernel
theorem dX3_hashAll_62 : decode cX3_hashAll 62 = .ok (.aload_n 0, 1) := by decide +kernel
theorem dX3_hashAll_63 : decode cX3_hashAll 63 = .ok (.getfield 24, 3) := by decide +kernel
theorem dX3_hashAll_66 : decode cX3_hashAll 66 = .ok (.iload_n 2, 1) := by decide +kernel
theorem dX3_hashAll_67 : decode cX3_hashAll 67 = .ok (.iconst 1, 1) := by decide +kernel
theorem dX3_hashAll_68 : decode cX3_hashAll 68 = .ok (.iadd, 1) := by decide +kernel
theorem dX3_hashAll_69 : decode cX3_hashAll 69 = .ok (.invokestatic 138, 3) := by decide +kernel
theorem dX3_hashAll_72 : decode cX3_hashAll 72 = .ok (.iconst 4, 1) := by decide +kernel
theorem dX3_hashAll_73 : decode cX3_hashAll 73 = .ok (.iload_n 3, 1) := by decide +kernel
theorem dX3_hashAll_74 : decode cX3_hashAll 74 = .ok (.imul, 1) := by decide +kernel
theorem dX3_hashAll_75 : decode cX3_hashAll 75 = .ok (.iadd, 1) := by decide +kernel
theorem dX3_hashAll_76 : decode cX3_hashAll 76 = .ok (.iload 4, 2) := by decide +kernel
theorem dX3_hashAll_78 : decode cX3_hashAll 78 = .ok (.iadd, 1) := by decide +kernel
theorem dX3_hashAll_79 : decode cX3_hashAll 79 = .ok (.laload, 1) := by decide +kernel
theorem dX3_hashAll_80 : decode cX3_hashAll 80 = .ok (.invokevirtual 126, 3) := by decide +kernel
theorem dX3_hashAll_83 : decode cX3_hashAll 83 = .ok (.iinc 4 1, 3) := by decide +kernel
theorem dX3_hashAll_86 : decode cX3_hashAll 86 = .ok (.goto (-31), 3) := by decide +kernel
theorem dX3_hashAll_89 : decode cX3_hashAll 89 = .ok (.aload_n 0, 1) := by decide +kernel
theorem dX3_hashAll_90 : decode cX3_hashAll 90 = .ok (.getfield 24, 3) := by decide +kernel
