theorem dX3_hashAll_93 : decode cX3_hashAll 93 = .ok (.iload_n 2, 1) := by decide +kernel
theorem dX3_hashAll_94 : decode cX3_hashAll 94 = .ok (.invokestatic 138, 3) := by decide +kernel
theorem dX3_hashAll_97 : decode cX3_hashAll 97 = .ok (.iload_n 3, 1) := by decide +kernel
theorem dX3_hashAll_98 : decode cX3_hashAll 98 = .ok (.iadd, 1) := by decide +kernel
theorem dX3_hashAll_99 : decode cX3_hashAll 99 = .ok (.aload_n 0, 1) := by decide +kernel
theorem dX3_hashAll_100 : decode cX3_hashAll 100 = .ok (.getfield 114, 3) := by decide +kernel
theorem dX3_hashAll_103 : decode cX3_hashAll 103 = .ok (.aload_n 0, 1) := by decide +kernel
theorem dX3_hashAll_104 : decode cX3_hashAll 104 = .ok (.getfield 114, 3) := by decide +kernel
theorem dX3_hashAll_107 : decode cX3_hashAll 107 = .ok (.bipush 31, 2) := by decide +kernel
theorem dX3_hashAll_109 : decode cX3_hashAll 109 = .ok (.lushr, 1) := by decide +kernel
theorem dX3_hashAll_110 : decode cX3_hashAll 110 = .ok (.lxor, 1) := by decide +kernel
theorem dX3_hashAll_111 : decode cX3_hashAll 111 = .ok (.lastore, 1) := by decide +kernel
theorem dX3_hashAll_112 : decode cX3_hashAll 112 = .ok (.iinc 3 1, 3) := by decide +kernel
theorem dX3_hashAll_115 : decode cX3_hashAll 115 = .ok (.goto (-78), 3) := by decide +kernel
theorem dX3_hashAll_118 : decode cX3_hashAll 118 = .ok (.iinc 2 (-1), 3) := by decide +kernel
theorem dX3_hashAll_121 : decode cX3_hashAll 121 = .ok (.goto (-90), 3) := by decide +kernel
theorem dX3_hashAll_124 : decode cX3_hashAll 124 = .ok (.return_, 1) := by decide +kernel
set_option maxRecDepth 20000 in
theorem ggX3_hash_X3_isStore : GoodIn wsX3_hash wsX3_isStore := goodIn_r _ [6] (by decide +kernel) (by decide +kernel)
set_option maxRecDepth 20000 in
theorem gX3_hash_X3_isStore : GoodIn wsX3_hash (va_wsS RX3 103 yX3_isStore wsX3_isStore) := goodIn_app (goodIn_of _ (by decide +kernel)) ggX3_hash_X3_isStore
set_option maxRecDepth 20000 in
theorem ggX3_hash_X3_width : GoodIn wsX3_hash wsX3_width := goodIn_r _ [9] (by decide +kernel) (by decide +kernel)
set_option maxRecDepth 20000 in
theorem gX3_hash_X3_width : GoodIn wsX3_hash (va_wsS RX3 134 yX3_width wsX3_width) := goodIn_app (goodIn_of _ (by decide +kernel)) ggX3_hash_X3_width
set_option maxRecDepth 20000 in
theorem ggX3_hash_X3_hashAll : GoodIn wsX3_hash wsX3_hashAll := goodIn_r _ [13, 2, 14, 15, 16, 17, 18, 5, 19, 20, 21, 22, 23, 24, 25, 26, 27, 28, 29, 30, 31, 32, 33, 34, 35, 7, 8, 9, 36, 37, 38, 39, 40, 41, 42, 43, 44, 45, 46, 47, 48, 49, 50, 51, 52, 53, 54, 55, 56, 57, 58, 59, 60, 61, 62, 63, 64, 65, 66, 67, 68, 69, 70] (by decide +kernel) (by decide +kernel)
set_option maxRecDepth 20000 in
theorem gX3_hash_X3_hashAll : GoodIn wsX3_hash (wsV RX3 141 RX3 yX3_hashAll wsX3_hashAll) := goodIn_app (goodIn_of _ (by decide +kernel)) ggX3_hash_X3_hashAll
set_option maxRecDepth 20000 in
theorem ggX3_hash_X3_begin : GoodIn wsX3_hash wsX3_begin := goodIn_r _ [38] (by decide +kernel) (by decide +kernel)
set_option maxRecDepth 20000 in
theorem gX3_hash_X3_begin : GoodIn wsX3_hash (va_wsS RX3 138 yX3_begin wsX3_begin) := goodIn_app (goodIn_of _ (by decide +kernel)) ggX3_hash_X3_begin
theorem dX3_hash_0 : decode cX3_hash 0 = .ok (.aload_n 0, 1) := by decide +kernel
theorem dX3_hash_1 : decode cX3_hash 1 = .ok (.iload_n 1, 1) := by decide +kernel
theorem dX3_hash_2 : decode cX3_hash 2 = .ok (.invokestatic 103, 3) := by decide +kernel
theorem dX3_hash_5 : decode cX3_hash 5 = .ok (.ifCond .eq 24, 3) := by decide +kernel
theorem dX3_hash_8 : decode cX3_hash 8 = .ok (.iload_n 2, 1) := by decide +kernel
theorem dX3_hash_9 : decode cX3_hash 9 = .ok (.ifCond .lt 20, 3) := by decide +kernel
theorem dX3_hash_12 : decode cX3_hash 12 = .ok (.iload_n 2, 1) := by decide +kernel
theorem dX3_hash_13 : decode cX3_hash 13 = .ok (.iconst 3, 1) := by decide +kernel
theorem dX3_hash_14 : decode cX3_hash 14 = .ok (.if_icmp .gt 15, 3) := by decide +kernel
theorem dX3_hash_17 : decode cX3_hash 17 = .ok (.iload_n 3, 1) := by decide +kernel
theorem dX3_hash_18 : decode cX3_hash 18 = .ok (.ifCond .lt 11, 3) := by decide +kernel
theorem dX3_hash_21 : decode cX3_hash 21 = .ok (.iload_n 3, 1) := by decide +kernel
theorem dX3_hash_22 : decode cX3_hash 22 = .ok (.iload_n 2, 1) := by decide +kernel
theorem dX3_hash_23 : decode cX3_hash 23 = .ok (.invokestatic 134, 3) := by decide +kernel
theorem dX3_hash_26 : decode cX3_hash 26 = .ok (.if_icmp .lt 7, 3) := by decide +kernel
theorem dX3_hash_29 : decode cX3_hash 29 = .ok (.iconst 1, 1) := by decide +kernel
theorem dX3_hash_30 : decode cX3_hash 30 = .ok (.goto 4, 3) := by decide +kernel
theorem dX3_hash_33 : decode cX3_hash 33 = .ok (.iconst 0, 1) := by decide +kernel
theorem dX3_hash_34 : decode cX3_hash 34 = .ok (.putfield 87, 3) := by decide +kernel
theorem dX3_hash_37 : decode cX3_hash 37 = .ok (.aload_n 0, 1) := by decide +kernel
theorem dX3_hash_38 : decode cX3_hash 38 = .ok (.getfield 87, 3) := by decide +kernel
theorem dX3_hash_41 : decode cX3_hash 41 = .ok (.ifCond .le 5, 3) := by decide +kernel
theorem dX3_hash_44 : decode cX3_hash 44 = .ok (.lconst 0, 1) := by decide +kernel
theorem dX3_hash_45 : decode cX3_hash 45 = .ok (.lreturn, 1) := by decide +kernel
theorem dX3_hash_46 : decode cX3_hash 46 = .ok (.aload_n 0, 1) := by decide +kernel
theorem dX3_hash_47 : decode cX3_hash 47 = .ok (.iload_n 1, 1) := by decide +kernel
theorem dX3_hash_48 : decode cX3_hash 48 = .ok (.invokevirtual 141, 3) := by decide +kernel
theorem dX3_hash_51 : decode cX3_hash 51 = .ok (.aload_n 0, 1) := by decide +kernel
theorem dX3_hash_52 : decode cX3_hash 52 = .ok (.getfield 24, 3) := by decide +kernel
theorem dX3_hash_55 : decode cX3_hash 55 = .ok (.iload_n 2, 1) := by decide +kernel
theorem dX3_hash_56 : decode cX3_hash 56 = .ok (.invokestatic 138, 3) := by decide +kernel
theorem dX3_hash_59 : decode cX3_hash 59 = .ok (.iload_n 3, 1) := by decide +kernel
theorem dX3_hash_60 : decode cX3_hash 60 = .ok (.iadd, 1) := by decide +kernel
theorem dX3_hash_61 : decode cX3_hash 61 = .ok (.laload, 1) := by decide +kernel
theorem dX3_hash_62 : decode cX3_hash 62 = .ok (.lreturn, 1) := by decide +kernel
theorem dX3_send_0 : decode cX3_send 0 = .ok (.aload_n 0, 1) := by decide +kernel
theorem dX3_send_1 : decode cX3_send 1 = .ok (.dup, 1) := by decide +kernel
theorem dX3_send_2 : decode cX3_send 2 = .ok (.getfield 144, 3) := by decide +kernel
theorem dX3_send_5 : decode cX3_send 5 = .ok (.iconst 1, 1) := by decide +kernel
theorem dX3_send_6 : decode cX3_send 6 = .ok (.iadd, 1) := by decide +kernel
theorem dX3_send_7 : decode cX3_send 7 = .ok (.putfield 144, 3) := by decide +kernel
theorem dX3_send_10 : decode cX3_send 10 = .ok (.aload_n 0, 1) := by decide +kernel
theorem dX3_send_11 : decode cX3_send 11 = .ok (.dup, 1) := by decide +kernel
theorem dX3_send_12 : decode cX3_send 12 = .ok (.getfield 147, 3) := by decide +kernel
theorem dX3_send_15 : decode cX3_send 15 = .ok (.aload_n 0, 1) := by decide +kernel
theorem dX3_send_16 : decode cX3_send 16 = .ok (.getfield 150, 3) := by decide +kernel
theorem dX3_send_19 : decode cX3_send 19 = .ok (.iadd, 1) := by decide +kernel
theorem dX3_send_20 : decode cX3_send 20 = .ok (.putfield 147, 3) := by decide +kernel
theorem dX3_send_23 : decode cX3_send 23 = .ok (.aload_n 0, 1) := by decide +kernel
theorem dX3_send_24 : decode cX3_send 24 = .ok (.getfield 27, 3) := by decide +kernel
theorem dX3_send_27 : decode cX3_send 27 = .ok (.iload_n 1, 1) := by decide +kernel
theorem dX3_send_28 : decode cX3_send 28 = .ok (.iaload, 1) := by decide +kernel
theorem dX3_send_29 : decode cX3_send 29 = .ok (.bipush 100, 2) := by decide +kernel
theorem dX3_send_31 : decode cX3_send 31 = .ok (.if_icmp .ne 15, 3) := by decide +kernel
theorem dX3_send_34 : decode cX3_send 34 = .ok (.aload_n 0, 1) := by decide +kernel
theorem dX3_send_35 : decode cX3_send 35 = .ok (.dup, 1) := by decide +kernel
theorem dX3_send_36 : decode cX3_send 36 = .ok (.getfield 153, 3) := by decide +kernel
theorem dX3_send_39 : decode cX3_send 39 = .ok (.iconst 1, 1) := by decide +kernel
theorem dX3_send_40 : decode cX3_send 40 = .ok (.iadd, 1) := by decide +kernel
theorem dX3_send_41 : decode cX3_send 41 = .ok (.putfield 153, 3) := by decide +kernel
theorem dX3_send_44 : decode cX3_send 44 = .ok (.iconst 0, 1) := by decide +kernel
theorem dX3_send_45 : decode cX3_send 45 = .ok (.ireturn, 1) := by decide +kernel
theorem dX3_send_46 : decode cX3_send 46 = .ok (.bipush 100, 2) := by decide +kernel
theorem dX3_send_48 : decode cX3_send 48 = .ok (.iload_n 1, 1) := by decide +kernel
theorem dX3_send_49 : decode cX3_send 49 = .ok (.imul, 1) := by decide +kernel
theorem dX3_send_50 : decode cX3_send 50 = .ok (.aload_n 0, 1) := by decide +kernel
theorem dX3_send_51 : decode cX3_send 51 = .ok (.getfield 27, 3) := by decide +kernel
theorem dX3_send_54 : decode cX3_send 54 = .ok (.iload_n 1, 1) := by decide +kernel
theorem dX3_send_55 : decode cX3_send 55 = .ok (.iaload, 1) := by decide +kernel
theorem dX3_send_56 : decode cX3_send 56 = .ok (.iadd, 1) := by decide +kernel
theorem dX3_send_57 : decode cX3_send 57 = .ok (.istore 5, 2) := by decide +kernel
theorem dX3_send_59 : decode cX3_send 59 = .ok (.aload_n 0, 1) := by decide +kernel
theorem dX3_send_60 : decode cX3_send 60 = .ok (.getfield 30, 3) := by decide +kernel
theorem dX3_send_63 : decode cX3_send 63 = .ok (.iload 5, 2) := by decide +kernel
theorem dX3_send_65 : decode cX3_send 65 = .ok (.iload_n 2, 1) := by decide +kernel
theorem dX3_send_66 : decode cX3_send 66 = .ok (.iastore, 1) := by decide +kernel
theorem dX3_send_67 : decode cX3_send 67 = .ok (.aload_n 0, 1) := by decide +kernel
theorem dX3_send_68 : decode cX3_send 68 = .ok (.getfield 33, 3) := by decide +kernel
theorem dX3_send_71 : decode cX3_send 71 = .ok (.iload 5, 2) := by decide +kernel
theorem dX3_send_73 : decode cX3_send 73 = .ok (.iload_n 3, 1) := by decide +kernel
theorem dX3_send_74 : decode cX3_send 74 = .ok (.iastore, 1) := by decide +kernel
theorem dX3_send_75 : decode cX3_send 75 = .ok (.aload_n 0, 1) := by decide +kernel
theorem dX3_send_76 : decode cX3_send 76 = .ok (.getfield 36, 3) := by decide +kernel
theorem dX3_send_79 : decode cX3_send 79 = .ok (.iload 5, 2) := by decide +kernel
theorem dX3_send_81 : decode cX3_send 81 = .ok (.iload 4, 2) := by decide +kernel
theorem dX3_send_83 : decode cX3_send 83 = .ok (.iastore, 1) := by decide +kernel
theorem dX3_send_84 : decode cX3_send 84 = .ok (.aload_n 0, 1) := by decide +kernel
theorem dX3_send_85 : decode cX3_send 85 = .ok (.getfield 42, 3) := by decide +kernel
theorem dX3_send_88 : decode cX3_send 88 = .ok (.iload 5, 2) := by decide +kernel
theorem dX3_send_90 : decode cX3_send 90 = .ok (.aload_n 0, 1) := by decide +kernel
theorem dX3_send_91 : decode cX3_send 91 = .ok (.getfield 150, 3) := by decide +kernel
theorem dX3_send_94 : decode cX3_send 94 = .ok (.iastore, 1) := by decide +kernel
theorem dX3_send_95 : decode cX3_send 95 = .ok (.iconst 0, 1) := by decide +kernel
theorem dX3_send_96 : decode cX3_send 96 = .ok (.istore 6, 2) := by decide +kernel
theorem dX3_send_98 : decode cX3_send 98 = .ok (.iload 6, 2) := by decide +kernel
theorem dX3_send_100 : decode cX3_send 100 = .ok (.iconst 4, 1) := by decide +kernel
theorem dX3_send_101 : decode cX3_send 101 = .ok (.if_icmp .ge 104, 3) := by decide +kernel
theorem dX3_send_104 : decode cX3_send 104 = .ok (.aload_n 0, 1) := by decide +kernel
theorem dX3_send_105 : decode cX3_send 105 = .ok (.getfield 39, 3) := by decide +kernel
theorem dX3_send_108 : decode cX3_send 108 = .ok (.iconst 4, 1) := by decide +kernel
theorem dX3_send_109 : decode cX3_send 109 = .ok (.iload 5, 2) := by decide +kernel
theorem dX3_send_111 : decode cX3_send 111 = .ok (.imul, 1) := by decide +kernel
theorem dX3_send_112 : decode cX3_send 112 = .ok (.iload 6, 2) := by decide +kernel
theorem dX3_send_114 : decode cX3_send 114 = .ok (.iadd, 1) := by decide +kernel
theorem dX3_send_115 : decode cX3_send 115 = .ok (.aload_n 0, 1) := by decide +kernel
theorem dX3_send_116 : decode cX3_send 116 = .ok (.getfield 57, 3) := by decide +kernel
theorem dX3_send_119 : decode cX3_send 119 = .ok (.iload 6, 2) := by decide +kernel
theorem dX3_send_121 : decode cX3_send 121 = .ok (.laload, 1) := by decide +kernel
theorem dX3_send_122 : decode cX3_send 122 = .ok (.lastore, 1) := by decide +kernel
theorem dX3_send_123 : decode cX3_send 123 = .ok (.aload_n 0, 1) := by decide +kernel
theorem dX3_send_124 : decode cX3_send 124 = .ok (.getfield 45, 3) := by decide +kernel
theorem dX3_send_127 : decode cX3_send 127 = .ok (.iconst 4, 1) := by decide +kernel
theorem dX3_send_128 : decode cX3_send 128 = .ok (.iload 5, 2) := by decide +kernel
theorem dX3_send_130 : decode cX3_send 130 = .ok (.imul, 1) := by decide +kernel
theorem dX3_send_131 : decode cX3_send 131 = .ok (.iload 6, 2) := by decide +kernel
theorem dX3_send_133 : decode cX3_send 133 = .ok (.iadd, 1) := by decide +kernel
theorem dX3_send_134 : decode cX3_send 134 = .ok (.aload_n 0, 1) := by decide +kernel
theorem dX3_send_135 : decode cX3_send 135 = .ok (.getfield 60, 3) := by decide +kernel
theorem dX3_send_138 : decode cX3_send 138 = .ok (.iload 6, 2) := by decide +kernel
theorem dX3_send_140 : decode cX3_send 140 = .ok (.iaload, 1) := by decide +kernel
theorem dX3_send_141 : decode cX3_send 141 = .ok (.iastore, 1) := by decide +kernel
theorem dX3_send_142 : decode cX3_send 142 = .ok (.aload_n 0, 1) := by decide +kernel
theorem dX3_send_143 : decode cX3_send 143 = .ok (.getfield 48, 3) := by decide +kernel
theorem dX3_send_146 : decode cX3_send 146 = .ok (.iconst 4, 1) := by decide +kernel
theorem dX3_send_147 : decode cX3_send 147 = .ok (.iload 5, 2) := by decide +kernel
theorem dX3_send_149 : decode cX3_send 149 = .ok (.imul, 1) := by decide +kernel
theorem dX3_send_150 : decode cX3_send 150 = .ok (.iload 6, 2) := by decide +kernel
theorem dX3_send_152 : decode cX3_send 152 = .ok (.iadd, 1) := by decide +kernel
theorem dX3_send_153 : decode cX3_send 153 = .ok (.aload_n 0, 1) := by decide +kernel
theorem dX3_send_154 : decode cX3_send 154 = .ok (.getfield 63, 3) := by decide +kernel
theorem dX3_send_157 : decode cX3_send 157 = .ok (.iload 6, 2) := by decide +kernel
theorem dX3_send_159 : decode cX3_send 159 = .ok (.laload, 1) := by decide +kernel
theorem dX3_send_160 : decode cX3_send 160 = .ok (.lastore, 1) := by decide +kernel
theorem dX3_send_161 : decode cX3_send 161 = .ok (.aload_n 0, 1) := by decide +kernel
theorem dX3_send_162 : decode cX3_send 162 = .ok (.getfield 51, 3) := by decide +kernel
theorem dX3_send_165 : decode cX3_send 165 = .ok (.iconst 4, 1) := by decide +kernel
theorem dX3_send_166 : decode cX3_send 166 = .ok (.iload 5, 2) := by decide +kernel
theorem dX3_send_168 : decode cX3_send 168 = .ok (.imul, 1) := by decide +kernel
theorem dX3_send_169 : decode cX3_send 169 = .ok (.iload 6, 2) := by decide +kernel
theorem dX3_send_171 : decode cX3_send 171 = .ok (.iadd, 1) := by decide +kernel
theorem dX3_send_172 : decode cX3_send 172 = .ok (.aload_n 0, 1) := by decide +kernel
theorem dX3_send_173 : decode cX3_send 173 = .ok (.getfield 66, 3) := by decide +kernel
theorem dX3_send_176 : decode cX3_send 176 = .ok (.iload 6, 2) := by decide +kernel
theorem dX3_send_178 : decode cX3_send 178 = .ok (.iaload, 1) := by decide +kernel
theorem dX3_send_179 : decode cX3_send 179 = .ok (.iastore, 1) := by decide +kernel
theorem dX3_send_180 : decode cX3_send 180 = .ok (.aload_n 0, 1) := by decide +kernel
theorem dX3_send_181 : decode cX3_send 181 = .ok (.getfield 54, 3) := by decide +kernel
theorem dX3_send_184 : decode cX3_send 184 = .ok (.iconst 4, 1) := by decide +kernel
theorem dX3_send_185 : decode cX3_send 185 = .ok (.iload 5, 2) := by decide +kernel
theorem dX3_send_187 : decode cX3_send 187 = .ok (.imul, 1) := by decide +kernel
theorem dX3_send_188 : decode cX3_send 188 = .ok (.iload 6, 2) := by decide +kernel
theorem dX3_send_190 : decode cX3_send 190 = .ok (.iadd, 1) := by decide +kernel
theorem dX3_send_191 : decode cX3_send 191 = .ok (.aload_n 0, 1) := by decide +kernel
theorem dX3_send_192 : decode cX3_send 192 = .ok (.getfield 69, 3) := by decide +kernel
theorem dX3_send_195 : decode cX3_send 195 = .ok (.iload 6, 2) := by decide +kernel
theorem dX3_send_197 : decode cX3_send 197 = .ok (.laload, 1) := by decide +kernel
theorem dX3_send_198 : decode cX3_send 198 = .ok (.lastore, 1) := by decide +kernel
theorem dX3_send_199 : decode cX3_send 199 = .ok (.iinc 6 1, 3) := by decide +kernel
theorem dX3_send_202 : decode cX3_send 202 = .ok (.goto (-104), 3) := by decide +kernel
theorem dX3_send_205 : decode cX3_send 205 = .ok (.aload_n 0, 1) := by decide +kernel
theorem dX3_send_206 : decode cX3_send 206 = .ok (.getfield 27, 3) := by decide +kernel
theorem dX3_send_209 : decode cX3_send 209 = .ok (.iload_n 1, 1) := by decide +kernel
theorem dX3_send_210 : decode cX3_send 210 = .ok (.dup2, 1) := by decide +kernel
theorem dX3_send_211 : decode cX3_send 211 = .ok (.iaload, 1) := by decide +kernel
theorem dX3_send_212 : decode cX3_send 212 = .ok (.iconst 1, 1) := by decide +kernel
theorem dX3_send_213 : decode cX3_send 213 = .ok (.iadd, 1) := by decide +kernel
theorem dX3_send_214 : decode cX3_send 214 = .ok (.iastore, 1) := by decide +kernel
theorem dX3_send_215 : decode cX3_send 215 = .ok (.iconst 1, 1) := by decide +kernel
theorem dX3_send_216 : decode cX3_send 216 = .ok (.ireturn, 1) := by decide +kernel
theorem dX3_drop_0 : decode cX3_drop 0 = .ok (.bipush 100, 2) := by decide +kernel
theorem dX3_drop_2 : decode cX3_drop 2 = .ok (.iload_n 1, 1) := by decide +kernel
theorem dX3_drop_3 : decode cX3_drop 3 = .ok (.imul, 1) := by decide +kernel
theorem dX3_drop_4 : decode cX3_drop 4 = .ok (.istore_n 2, 1) := by decide +kernel
theorem dX3_drop_5 : decode cX3_drop 5 = .ok (.iload_n 2, 1) := by decide +kernel
theorem dX3_drop_6 : decode cX3_drop 6 = .ok (.iconst 1, 1) := by decide +kernel
theorem dX3_drop_7 : decode cX3_drop 7 = .ok (.iadd, 1) := by decide +kernel
theorem dX3_drop_8 : decode cX3_drop 8 = .ok (.bipush 100, 2) := by decide +kernel
theorem dX3_drop_10 : decode cX3_drop 10 = .ok (.iload_n 1, 1) := by decide +kernel
theorem dX3_drop_11 : decode cX3_drop 11 = .ok (.imul, 1) := by decide +kernel
theorem dX3_drop_12 : decode cX3_drop 12 = .ok (.aload_n 0, 1) := by decide +kernel
theorem dX3_drop_13 : decode cX3_drop 13 = .ok (.getfield 27, 3) := by decide +kernel
theorem dX3_drop_16 : decode cX3_drop 16 = .ok (.iload_n 1, 1) := by decide +kernel
theorem dX3_drop_17 : decode cX3_drop 17 = .ok (.iaload, 1) := by decide +kernel
theorem dX3_drop_18 : decode cX3_drop 18 = .ok (.iadd, 1) := by decide +kernel
theorem dX3_drop_19 : decode cX3_drop 19 = .ok (.if_icmp .ge 154, 3) := by decide +kernel
theorem dX3_drop_22 : decode cX3_drop 22 = .ok (.aload_n 0, 1) := by decide +kernel
theorem dX3_drop_23 : decode cX3_drop 23 = .ok (.getfield 30, 3) := by decide +kernel
theorem dX3_drop_26 : decode cX3_drop 26 = .ok (.iload_n 2, 1) := by decide +kernel
theorem dX3_drop_27 : decode cX3_drop 27 = .ok (.aload_n 0, 1) := by decide +kernel
theorem dX3_drop_28 : decode cX3_drop 28 = .ok (.getfield 30, 3) := by decide +kernel
theorem dX3_drop_31 : decode cX3_drop 31 = .ok (.iload_n 2, 1) := by decide +kernel
theorem dX3_drop_32 : decode cX3_drop 32 = .ok (.iconst 1, 1) := by decide +kernel
theorem dX3_drop_33 : decode cX3_drop 33 = .ok (.iadd, 1) := by decide +kernel
theorem dX3_drop_34 : decode cX3_drop 34 = .ok (.iaload, 1) := by decide +kernel
theorem dX3_drop_35 : decode cX3_drop 35 = .ok (.iastore, 1) := by decide +kernel
theorem dX3_drop_36 : decode cX3_drop 36 = .ok (.aload_n 0, 1) := by decide +kernel
theorem dX3_drop_37 : decode cX3_drop 37 = .ok (.getfield 33, 3) := by decide +kernel
theorem dX3_drop_40 : decode cX3_drop 40 = .ok (.iload_n 2, 1) := by decide +kernel
theorem dX3_drop_41 : decode cX3_drop 41 = .ok (.aload_n 0, 1) := by decide +kernel
theorem dX3_drop_42 : decode cX3_drop 42 = .ok (.getfield 33, 3) := by decide +kernel
theorem dX3_drop_45 : decode cX3_drop 45 = .ok (.iload_n 2, 1) := by decide +kernel
theorem dX3_drop_46 : decode cX3_drop 46 = .ok (.iconst 1, 1) := by decide +kernel
theorem dX3_drop_47 : decode cX3_drop 47 = .ok (.iadd, 1) := by decide +kernel
theorem dX3_drop_48 : decode cX3_drop 48 = .ok (.iaload, 1) := by decide +kernel
theorem dX3_drop_49 : decode cX3_drop 49 = .ok (.iastore, 1) := by decide +kernel
theorem dX3_drop_50 : decode cX3_drop 50 = .ok (.aload_n 0, 1) := by decide +kernel
theorem dX3_drop_51 : decode cX3_drop 51 = .ok (.getfield 36, 3) := by decide +kernel
theorem dX3_drop_54 : decode cX3_drop 54 = .ok (.iload_n 2, 1) := by decide +kernel
theorem dX3_drop_55 : decode cX3_drop 55 = .ok (.aload_n 0, 1) := by decide +kernel
theorem dX3_drop_56 : decode cX3_drop 56 = .ok (.getfield 36, 3) := by decide +kernel
theorem dX3_drop_59 : decode cX3_drop 59 = .ok (.iload_n 2, 1) := by decide +kernel
theorem dX3_drop_60 : decode cX3_drop 60 = .ok (.iconst 1, 1) := by decide +kernel
theorem dX3_drop_61 : decode cX3_drop 61 = .ok (.iadd, 1) := by decide +kernel
theorem dX3_drop_62 : decode cX3_drop 62 = .ok (.iaload, 1) := by decide +kernel
theorem dX3_drop_63 : decode cX3_drop 63 = .ok (.iastore, 1) := by decide +kernel
theorem dX3_drop_64 : decode cX3_drop 64 = .ok (.aload_n 0, 1) := by decide +kernel
theorem dX3_drop_65 : decode cX3_drop 65 = .ok (.getfield 42, 3) := by decide +kernel
theorem dX3_drop_68 : decode cX3_drop 68 = .ok (.iload_n 2, 1) := by decide +kernel
theorem dX3_drop_69 : decode cX3_drop 69 = .ok (.aload_n 0, 1) := by decide +kernel
theorem dX3_drop_70 : decode cX3_drop 70 = .ok (.getfield 42, 3) := by decide +kernel
theorem dX3_drop_73 : decode cX3_drop 73 = .ok (.iload_n 2, 1) := by decide +kernel
theorem dX3_drop_74 : decode cX3_drop 74 = .ok (.iconst 1, 1) := by decide +kernel
theorem dX3_drop_75 : decode cX3_drop 75 = .ok (.iadd, 1) := by decide +kernel
theorem dX3_drop_76 : decode cX3_drop 76 = .ok (.iaload, 1) := by decide +kernel
theorem dX3_drop_77 : decode cX3_drop 77 = .ok (.iastore, 1) := by decide +kernel
theorem dX3_drop_78 : decode cX3_drop 78 = .ok (.iconst 4, 1) := by decide +kernel
theorem dX3_drop_79 : decode cX3_drop 79 = .ok (.iload_n 2, 1) := by decide +kernel
theorem dX3_drop_80 : decode cX3_drop 80 = .ok (.imul, 1) := by decide +kernel
theorem dX3_drop_81 : decode cX3_drop 81 = .ok (.istore_n 3, 1) := by decide +kernel
theorem dX3_drop_82 : decode cX3_drop 82 = .ok (.iload_n 3, 1) := by decide +kernel
theorem dX3_drop_83 : decode cX3_drop 83 = .ok (.iconst 4, 1) := by decide +kernel
theorem dX3_drop_84 : decode cX3_drop 84 = .ok (.iload_n 2, 1) := by decide +kernel
theorem dX3_drop_85 : decode cX3_drop 85 = .ok (.imul, 1) := by decide +kernel
theorem dX3_drop_86 : decode cX3_drop 86 = .ok (.iconst 4, 1) := by decide +kernel
theorem dX3_drop_87 : decode cX3_drop 87 = .ok (.iadd, 1) := by decide +kernel
theorem dX3_drop_88 : decode cX3_drop 88 = .ok (.if_icmp .ge 79, 3) := by decide +kernel
theorem dX3_drop_91 : decode cX3_drop 91 = .ok (.aload_n 0, 1) := by decide +kernel
theorem dX3_drop_92 : decode cX3_drop 92 = .ok (.getfield 39, 3) := by decide +kernel
theorem dX3_drop_95 : decode cX3_drop 95 = .ok (.iload_n 3, 1) := by decide +kernel
theorem dX3_drop_96 : decode cX3_drop 96 = .ok (.aload_n 0, 1) := by decide +kernel
theorem dX3_drop_97 : decode cX3_drop 97 = .ok (.getfield 39, 3) := by decide +kernel
theorem dX3_drop_100 : decode cX3_drop 100 = .ok (.iload_n 3, 1) := by decide +kernel
theorem dX3_drop_101 : decode cX3_drop 101 = .ok (.iconst 4, 1) := by decide +kernel
theorem dX3_drop_102 : decode cX3_drop 102 = .ok (.iadd, 1) := by decide +kernel
theorem dX3_drop_103 : decode cX3_drop 103 = .ok (.laload, 1) := by decide +kernel
theorem dX3_drop_104 : decode cX3_drop 104 = .ok (.lastore, 1) := by decide +kernel
theorem dX3_drop_105 : decode cX3_drop 105 = .ok (.aload_n 0, 1) := by decide +kernel
theorem dX3_drop_106 : decode cX3_drop 106 = .ok (.getfield 45, 3) := by decide +kernel
theorem dX3_drop_109 : decode cX3_drop 109 = .ok (.iload_n 3, 1) := by decide +kernel
theorem dX3_drop_110 : decode cX3_drop 110 = .ok (.aload_n 0, 1) := by decide +kernel
theorem dX3_drop_111 : decode cX3_drop 111 = .ok (.getfield 45, 3) := by decide +kernel
theorem dX3_drop_114 : decode cX3_drop 114 = .ok (.iload_n 3, 1) := by decide +kernel
theorem dX3_drop_115 : decode cX3_drop 115 = .ok (.iconst 4, 1) := by decide +kernel
theorem dX3_drop_116 : decode cX3_drop 116 = .ok (.iadd, 1) := by decide +kernel
theorem dX3_drop_117 : decode cX3_drop 117 = .ok (.iaload, 1) := by decide +kernel
theorem dX3_drop_118 : decode cX3_drop 118 = .ok (.iastore, 1) := by decide +kernel
theorem dX3_drop_119 : decode cX3_drop 119 = .ok (.aload_n 0, 1) := by decide +kernel
theorem dX3_drop_120 : decode cX3_drop 120 = .ok (.getfield 48, 3) := by decide +kernel
theorem dX3_drop_123 : decode cX3_drop 123 = .ok (.iload_n 3, 1) := by decide +kernel
theorem dX3_drop_124 : decode cX3_drop 124 = .ok (.aload_n 0, 1) := by decide +kernel
theorem dX3_drop_125 : decode cX3_drop 125 = .ok (.getfield 48, 3) := by decide +kernel
theorem dX3_drop_128 : decode cX3_drop 128 = .ok (.iload_n 3, 1) := by decide +kernel
theorem dX3_drop_129 : decode cX3_drop 129 = .ok (.iconst 4, 1) := by decide +kernel
theorem dX3_drop_130 : decode cX3_drop 130 = .ok (.iadd, 1) := by decide +kernel
theorem dX3_drop_131 : decode cX3_drop 131 = .ok (.laload, 1) := by decide +kernel
theorem dX3_drop_132 : decode cX3_drop 132 = .ok (.lastore, 1) := by decide +kernel
theorem dX3_drop_133 : decode cX3_drop 133 = .ok (.aload_n 0, 1) := by decide +kernel
theorem dX3_drop_134 : decode cX3_drop 134 = .ok (.getfield 51, 3) := by decide +kernel
theorem dX3_drop_137 : decode cX3_drop 137 = .ok (.iload_n 3, 1) := by decide +kernel
theorem dX3_drop_138 : decode cX3_drop 138 = .ok (.aload_n 0, 1) := by decide +kernel
theorem dX3_drop_139 : decode cX3_drop 139 = .ok (.getfield 51, 3) := by decide +kernel
theorem dX3_drop_142 : decode cX3_drop 142 = .ok (.iload_n 3, 1) := by decide +kernel
theorem dX3_drop_143 : decode cX3_drop 143 = .ok (.iconst 4, 1) := by decide +kernel
theorem dX3_drop_144 : decode cX3_drop 144 = .ok (.iadd, 1) := by decide +kernel
theorem dX3_drop_145 : decode cX3_drop 145 = .ok (.iaload, 1) := by decide +kernel
theorem dX3_drop_146 : decode cX3_drop 146 = .ok (.iastore, 1) := by decide +kernel
theorem dX3_drop_147 : decode cX3_drop 147 = .ok (.aload_n 0, 1) := by decide +kernel
theorem dX3_drop_148 : decode cX3_drop 148 = .ok (.getfield 54, 3) := by decide +kernel
theorem dX3_drop_151 : decode cX3_drop 151 = .ok (.iload_n 3, 1) := by decide +kernel
theorem dX3_drop_152 : decode cX3_drop 152 = .ok (.aload_n 0, 1) := by decide +kernel
theorem dX3_drop_153 : decode cX3_drop 153 = .ok (.getfield 54, 3) := by decide +kernel
theorem dX3_drop_156 : decode cX3_drop 156 = .ok (.iload_n 3, 1) := by decide +kernel
theorem dX3_drop_157 : decode cX3_drop 157 = .ok (.iconst 4, 1) := by decide +kernel
theorem dX3_drop_158 : decode cX3_drop 158 = .ok (.iadd, 1) := by decide +kernel
theorem dX3_drop_159 : decode cX3_drop 159 = .ok (.laload, 1) := by decide +kernel
theorem dX3_drop_160 : decode cX3_drop 160 = .ok (.lastore, 1) := by decide +kernel
theorem dX3_drop_161 : decode cX3_drop 161 = .ok (.iinc 3 1, 3) := by decide +kernel
theorem dX3_drop_164 : decode cX3_drop 164 = .ok (.goto (-82), 3) := by decide +kernel
theorem dX3_drop_167 : decode cX3_drop 167 = .ok (.iinc 2 1, 3) := by decide +kernel
theorem dX3_drop_170 : decode cX3_drop 170 = .ok (.goto (-165), 3) := by decide +kernel
theorem dX3_drop_173 : decode cX3_drop 173 = .ok (.aload_n 0, 1) := by decide +kernel
theorem dX3_drop_174 : decode cX3_drop 174 = .ok (.getfield 27, 3) := by decide +kernel
theorem dX3_drop_177 : decode cX3_drop 177 = .ok (.iload_n 1, 1) := by decide +kernel
theorem dX3_drop_178 : decode cX3_drop 178 = .ok (.dup2, 1) := by decide +kernel
theorem dX3_drop_179 : decode cX3_drop 179 = .ok (.iaload, 1) := by decide +kernel
theorem dX3_drop_180 : decode cX3_drop 180 = .ok (.iconst 1, 1) := by decide +kernel
theorem dX3_drop_181 : decode cX3_drop 181 = .ok (.isub, 1) := by decide +kernel
theorem dX3_drop_182 : decode cX3_drop 182 = .ok (.iastore, 1) := by decide +kernel
theorem dX3_drop_183 : decode cX3_drop 183 = .ok (.return_, 1) := by decide +kernel
set_option maxRecDepth 20000 in
theorem ggX3_start_X3_isStore : GoodIn wsX3_start wsX3_isStore := goodIn_r _ [8] (by decide +kernel) (by decide +kernel)
set_option maxRecDepth 20000 in
theorem gX3_start_X3_isStore : GoodIn wsX3_start (va_wsS RX3 103 yX3_isStore wsX3_isStore) := goodIn_app (goodIn_of _ (by decide +kernel)) ggX3_start_X3_isStore
set_option maxRecDepth 20000 in
theorem ggX3_start_X3_hashAll : GoodIn wsX3_start wsX3_hashAll := goodIn_r _ [12, 3, 13, 14, 15, 16, 17, 7, 18, 19, 20, 21, 22, 23, 24, 25, 26, 27, 28, 29, 30, 31, 32, 33, 34, 35, 36, 37, 38, 39, 40, 62, 63, 64, 65, 66, 67, 68, 69, 70, 71, 72, 73, 74, 75, 76, 77, 78, 79, 80, 81, 82, 83, 84, 85, 86, 87, 88, 89, 90, 91, 92, 93] (by decide +kernel) (by decide +kernel)
set_option maxRecDepth 20000 in
theorem gX3_start_X3_hashAll : GoodIn wsX3_start (wsV RX3 141 RX3 yX3_hashAll wsX3_hashAll) := goodIn_app (goodIn_of _ (by decide +kernel)) ggX3_start_X3_hashAll
set_option maxRecDepth 20000 in
theorem ggX3_start_X3_send : GoodIn wsX3_start wsX3_send := goodIn_r _ [44, 45, 46, 4, 47, 48, 49, 50, 51, 52, 53, 2, 54, 55, 56, 57, 58, 59, 60, 61, 62, 63, 64, 65, 66, 67, 68, 69, 70, 71, 72, 73, 74, 75, 76, 77, 78, 79, 80, 81, 82, 83, 84, 85, 86, 87, 88, 89, 90, 91, 92, 93] (by decide +kernel) (by decide +kernel)
set_option maxRecDepth 20000 in
theorem gX3_start_X3_send : GoodIn wsX3_start (wsV RX3 156 RX3 yX3_send wsX3_send) := goodIn_app (goodIn_of _ (by decide +kernel)) ggX3_start_X3_send
theorem dX3_start_0 : decode cX3_start 0 = .ok (.aload_n 0, 1) := by decide +kernel
theorem dX3_start_1 : decode cX3_start 1 = .ok (.iload_n 1, 1) := by decide +kernel
theorem dX3_start_2 : decode cX3_start 2 = .ok (.invokestatic 103, 3) := by decide +kernel
theorem dX3_start_5 : decode cX3_start 5 = .ok (.ifCond .eq 7, 3) := by decide +kernel
theorem dX3_start_8 : decode cX3_start 8 = .ok (.iconst 0, 1) := by decide +kernel
theorem dX3_start_9 : decode cX3_start 9 = .ok (.goto 4, 3) := by decide +kernel
theorem dX3_start_12 : decode cX3_start 12 = .ok (.iconst 1, 1) := by decide +kernel
theorem dX3_start_13 : decode cX3_start 13 = .ok (.putfield 87, 3) := by decide +kernel
theorem dX3_start_16 : decode cX3_start 16 = .ok (.aload_n 0, 1) := by decide +kernel
theorem dX3_start_17 : decode cX3_start 17 = .ok (.getfield 87, 3) := by decide +kernel
theorem dX3_start_20 : decode cX3_start 20 = .ok (.ifCond .le 5, 3) := by decide +kernel
theorem dX3_start_23 : decode cX3_start 23 = .ok (.iconst 0, 1) := by decide +kernel
theorem dX3_start_24 : decode cX3_start 24 = .ok (.ireturn, 1) := by decide +kernel
theorem dX3_start_25 : decode cX3_start 25 = .ok (.aload_n 0, 1) := by decide +kernel
theorem dX3_start_26 : decode cX3_start 26 = .ok (.iload_n 1, 1) := by decide +kernel
theorem dX3_start_27 : decode cX3_start 27 = .ok (.invokevirtual 141, 3) := by decide +kernel
theorem dX3_start_30 : decode cX3_start 30 = .ok (.aload_n 0, 1) := by decide +kernel
theorem dX3_start_31 : decode cX3_start 31 = .ok (.getfield 57, 3) := by decide +kernel
theorem dX3_start_34 : decode cX3_start 34 = .ok (.iconst 0, 1) := by decide +kernel
theorem dX3_start_35 : decode cX3_start 35 = .ok (.aload_n 0, 1) := by decide +kernel
theorem dX3_start_36 : decode cX3_start 36 = .ok (.getfield 24, 3) := by decide +kernel
theorem dX3_start_39 : decode cX3_start 39 = .ok (.iconst 0, 1) := by decide +kernel
theorem dX3_start_40 : decode cX3_start 40 = .ok (.laload, 1) := by decide +kernel
theorem dX3_start_41 : decode cX3_start 41 = .ok (.lastore, 1) := by decide +kernel
theorem dX3_start_42 : decode cX3_start 42 = .ok (.aload_n 0, 1) := by decide +kernel
theorem dX3_start_43 : decode cX3_start 43 = .ok (.iconst 0, 1) := by decide +kernel
theorem dX3_start_44 : decode cX3_start 44 = .ok (.putfield 150, 3) := by decide +kernel
theorem dX3_start_47 : decode cX3_start 47 = .ok (.aload_n 0, 1) := by decide +kernel
theorem dX3_start_48 : decode cX3_start 48 = .ok (.iconst 1, 1) := by decide +kernel
theorem dX3_start_49 : decode cX3_start 49 = .ok (.iload_n 1, 1) := by decide +kernel
theorem dX3_start_50 : decode cX3_start 50 = .ok (.isub, 1) := by decide +kernel
theorem dX3_start_51 : decode cX3_start 51 = .ok (.iconst 0, 1) := by decide +kernel
theorem dX3_start_52 : decode cX3_start 52 = .ok (.iconst 0, 1) := by decide +kernel
theorem dX3_start_53 : decode cX3_start 53 = .ok (.iconst 0, 1) := by decide +kernel
theorem dX3_start_54 : decode cX3_start 54 = .ok (.invokevirtual 156, 3) := by decide +kernel
theorem dX3_start_57 : decode cX3_start 57 = .ok (.ireturn, 1) := by decide +kernel
set_option maxRecDepth 20000 in
theorem ggX3_sendList_X3_begin : GoodIn wsX3_sendList wsX3_begin := goodIn_r _ [7] (by decide +kernel) (by decide +kernel)
set_option maxRecDepth 20000 in
theorem gX3_sendList_X3_begin : GoodIn wsX3_sendList (va_wsS RX3 138 yX3_begin wsX3_begin) := goodIn_app (goodIn_of _ (by decide +kernel)) ggX3_sendList_X3_begin
set_option maxRecDepth 20000 in
theorem ggX3_sendList_X3_send : GoodIn wsX3_sendList wsX3_send := goodIn_r _ [11, 12, 13, 3, 14, 15, 16, 17, 18, 19, 20, 1, 21, 22, 23, 24, 25, 26, 27, 28, 29, 30, 31, 32, 33, 34, 35, 36, 37, 38, 39, 40, 41, 42, 43, 44, 45, 46, 47, 48, 49, 50, 51, 52, 53, 54, 55, 56, 57, 58, 59, 60] (by decide +kernel) (by decide +kernel)
set_option maxRecDepth 20000 in
theorem gX3_sendList_X3_send : GoodIn wsX3_sendList (wsV RX3 156 RX3 yX3_send wsX3_send) := goodIn_app (goodIn_of _ (by decide +kernel)) ggX3_sendList_X3_send
theorem dX3_sendList_0 : decode cX3_sendList 0 = .ok (.iconst 0, 1) := by decide +kernel
theorem dX3_sendList_1 : decode cX3_sendList 1 = .ok (.istore 4, 2) := by decide +kernel
theorem dX3_sendList_3 : decode cX3_sendList 3 = .ok (.iload 4, 2) := by decide +kernel
theorem dX3_sendList_5 : decode cX3_sendList 5 = .ok (.iconst 4, 1) := by decide +kernel
theorem dX3_sendList_6 : decode cX3_sendList 6 = .ok (.if_icmp .ge 34, 3) := by decide +kernel
theorem dX3_sendList_9 : decode cX3_sendList 9 = .ok (.aload_n 0, 1) := by decide +kernel
theorem dX3_sendList_10 : decode cX3_sendList 10 = .ok (.getfield 57, 3) := by decide +kernel
theorem dX3_sendList_13 : decode cX3_sendList 13 = .ok (.iload 4, 2) := by decide +kernel
theorem dX3_sendList_15 : decode cX3_sendList 15 = .ok (.aload_n 0, 1) := by decide +kernel
theorem dX3_sendList_16 : decode cX3_sendList 16 = .ok (.getfield 24, 3) := by decide +kernel
theorem dX3_sendList_19 : decode cX3_sendList 19 = .ok (.iload_n 2, 1) := by decide +kernel
theorem dX3_sendList_20 : decode cX3_sendList 20 = .ok (.iconst 1, 1) := by decide +kernel
theorem dX3_sendList_21 : decode cX3_sendList 21 = .ok (.iadd, 1) := by decide +kernel
theorem dX3_sendList_22 : decode cX3_sendList 22 = .ok (.invokestatic 138, 3) := by decide +kernel
theorem dX3_sendList_25 : decode cX3_sendList 25 = .ok (.iconst 4, 1) := by decide +kernel
theorem dX3_sendList_26 : decode cX3_sendList 26 = .ok (.iload_n 3, 1) := by decide +kernel
theorem dX3_sendList_27 : decode cX3_sendList 27 = .ok (.imul, 1) := by decide +kernel
theorem dX3_sendList_28 : decode cX3_sendList 28 = .ok (.iadd, 1) := by decide +kernel
theorem dX3_sendList_29 : decode cX3_sendList 29 = .ok (.iload 4, 2) := by decide +kernel
theorem dX3_sendList_31 : decode cX3_sendList 31 = .ok (.iadd, 1) := by decide +kernel
theorem dX3_sendList_32 : decode cX3_sendList 32 = .ok (.laload, 1) := by decide +kernel
theorem dX3_sendList_33 : decode cX3_sendList 33 = .ok (.lastore, 1) := by decide +kernel
theorem dX3_sendList_34 : decode cX3_sendList 34 = .ok (.iinc 4 1, 3) := by decide +kernel
theorem dX3_sendList_37 : decode cX3_sendList 37 = .ok (.goto (-34), 3) := by decide +kernel
theorem dX3_sendList_40 : decode cX3_sendList 40 = .ok (.aload_n 0, 1) := by decide +kernel
theorem dX3_sendList_41 : decode cX3_sendList 41 = .ok (.iconst 0, 1) := by decide +kernel
theorem dX3_sendList_42 : decode cX3_sendList 42 = .ok (.putfield 150, 3) := by decide +kernel
theorem dX3_sendList_45 : decode cX3_sendList 45 = .ok (.aload_n 0, 1) := by decide +kernel
theorem dX3_sendList_46 : decode cX3_sendList 46 = .ok (.iconst 1, 1) := by decide +kernel
theorem dX3_sendList_47 : decode cX3_sendList 47 = .ok (.iload_n 1, 1) := by decide +kernel
theorem dX3_sendList_48 : decode cX3_sendList 48 = .ok (.isub, 1) := by decide +kernel
theorem dX3_sendList_49 : decode cX3_sendList 49 = .ok (.iconst 1, 1) := by decide +kernel
theorem dX3_sendList_50 : decode cX3_sendList 50 = .ok (.iload_n 2, 1) := by decide +kernel
theorem dX3_sendList_51 : decode cX3_sendList 51 = .ok (.iload_n 3, 1) := by decide +kernel
theorem dX3_sendList_52 : decode cX3_sendList 52 = .ok (.invokevirtual 156, 3) := by decide +kernel
theorem dX3_sendList_55 : decode cX3_sendList 55 = .ok (.pop, 1) := by decide +kernel
theorem dX3_sendList_56 : decode cX3_sendList 56 = .ok (.return_, 1) := by decide +kernel
theorem dX3_hand_0 : decode cX3_hand 0 = .ok (.aload_n 0, 1) := by decide +kernel
theorem dX3_hand_1 : decode cX3_hand 1 = .ok (.getfield 60, 3) := by decide +kernel
theorem dX3_hand_4 : decode cX3_hand 4 = .ok (.aload_n 0, 1) := by decide +kernel
theorem dX3_hand_5 : decode cX3_hand 5 = .ok (.getfield 150, 3) := by decide +kernel
theorem dX3_hand_8 : decode cX3_hand 8 = .ok (.iload_n 1, 1) := by decide +kernel
theorem dX3_hand_9 : decode cX3_hand 9 = .ok (.sipush 256, 3) := by decide +kernel
theorem dX3_hand_12 : decode cX3_hand 12 = .ok (.irem, 1) := by decide +kernel
theorem dX3_hand_13 : decode cX3_hand 13 = .ok (.iastore, 1) := by decide +kernel
theorem dX3_hand_14 : decode cX3_hand 14 = .ok (.aload_n 0, 1) := by decide +kernel
theorem dX3_hand_15 : decode cX3_hand 15 = .ok (.getfield 63, 3) := by decide +kernel
theorem dX3_hand_18 : decode cX3_hand 18 = .ok (.aload_n 0, 1) := by decide +kernel
theorem dX3_hand_19 : decode cX3_hand 19 = .ok (.getfield 150, 3) := by decide +kernel
theorem dX3_hand_22 : decode cX3_hand 22 = .ok (.aload_n 0, 1) := by decide +kernel
theorem dX3_hand_23 : decode cX3_hand 23 = .ok (.getfield 13, 3) := by decide +kernel
theorem dX3_hand_26 : decode cX3_hand 26 = .ok (.iload_n 1, 1) := by decide +kernel
theorem dX3_hand_27 : decode cX3_hand 27 = .ok (.laload, 1) := by decide +kernel
theorem dX3_hand_28 : decode cX3_hand 28 = .ok (.lastore, 1) := by decide +kernel
theorem dX3_hand_29 : decode cX3_hand 29 = .ok (.aload_n 0, 1) := by decide +kernel
theorem dX3_hand_30 : decode cX3_hand 30 = .ok (.getfield 66, 3) := by decide +kernel
theorem dX3_hand_33 : decode cX3_hand 33 = .ok (.aload_n 0, 1) := by decide +kernel
theorem dX3_hand_34 : decode cX3_hand 34 = .ok (.getfield 150, 3) := by decide +kernel
theorem dX3_hand_37 : decode cX3_hand 37 = .ok (.aload_n 0, 1) := by decide +kernel
theorem dX3_hand_38 : decode cX3_hand 38 = .ok (.getfield 17, 3) := by decide +kernel
theorem dX3_hand_41 : decode cX3_hand 41 = .ok (.iload_n 1, 1) := by decide +kernel
theorem dX3_hand_42 : decode cX3_hand 42 = .ok (.iaload, 1) := by decide +kernel
theorem dX3_hand_43 : decode cX3_hand 43 = .ok (.iastore, 1) := by decide +kernel
theorem dX3_hand_44 : decode cX3_hand 44 = .ok (.aload_n 0, 1) := by decide +kernel
theorem dX3_hand_45 : decode cX3_hand 45 = .ok (.getfield 69, 3) := by decide +kernel
theorem dX3_hand_48 : decode cX3_hand 48 = .ok (.aload_n 0, 1) := by decide +kernel
theorem dX3_hand_49 : decode cX3_hand 49 = .ok (.getfield 150, 3) := by decide +kernel
theorem dX3_hand_52 : decode cX3_hand 52 = .ok (.aload_n 0, 1) := by decide +kernel
theorem dX3_hand_53 : decode cX3_hand 53 = .ok (.getfield 21, 3) := by decide +kernel
theorem dX3_hand_56 : decode cX3_hand 56 = .ok (.iload_n 1, 1) := by decide +kernel
theorem dX3_hand_57 : decode cX3_hand 57 = .ok (.laload, 1) := by decide +kernel
theorem dX3_hand_58 : decode cX3_hand 58 = .ok (.lastore, 1) := by decide +kernel
theorem dX3_hand_59 : decode cX3_hand 59 = .ok (.aload_n 0, 1) := by decide +kernel
theorem dX3_hand_60 : decode cX3_hand 60 = .ok (.dup, 1) := by decide +kernel
theorem dX3_hand_61 : decode cX3_hand 61 = .ok (.getfield 150, 3) := by decide +kernel
theorem dX3_hand_64 : decode cX3_hand 64 = .ok (.iconst 1, 1) := by decide +kernel
theorem dX3_hand_65 : decode cX3_hand 65 = .ok (.iadd, 1) := by decide +kernel
theorem dX3_hand_66 : decode cX3_hand 66 = .ok (.putfield 150, 3) := by decide +kernel
theorem dX3_hand_69 : decode cX3_hand 69 = .ok (.return_, 1) := by decide +kernel
set_option maxRecDepth 20000 in
theorem ggX3_sendLeaf_X3_hand : GoodIn wsX3_sendLeaf wsX3_hand := goodIn_r _ [7, 8, 1, 9, 10, 11, 12, 13, 14, 33, 34, 35, 36, 37, 38, 39, 40, 41, 42, 43, 44, 45, 46, 47, 48, 49, 50, 51, 52, 53, 54, 55, 56, 57, 58, 59, 60, 61, 62, 63, 64] (by decide +kernel) (by decide +kernel)
set_option maxRecDepth 20000 in
theorem gX3_sendLeaf_X3_hand : GoodIn wsX3_sendLeaf (wsV RX3 160 RX3 yX3_hand wsX3_hand) := goodIn_app (goodIn_of _ (by decide +kernel)) ggX3_sendLeaf_X3_hand
set_option maxRecDepth 20000 in
theorem ggX3_sendLeaf_X3_send : GoodIn wsX3_sendLeaf wsX3_send := goodIn_r _ [18, 19, 20, 1, 21, 22, 23, 24, 25, 26, 27, 28, 29, 8, 30, 9, 31, 11, 32, 13, 33, 34, 35, 36, 37, 38, 39, 40, 41, 42, 43, 44, 45, 46, 47, 48, 49, 50, 51, 52, 53, 54, 55, 56, 57, 58, 59, 60, 61, 62, 63, 64] (by decide +kernel) (by decide +kernel)
set_option maxRecDepth 20000 in
theorem gX3_sendLeaf_X3_send : GoodIn wsX3_sendLeaf (wsV RX3 156 RX3 yX3_send wsX3_send) := goodIn_app (goodIn_of _ (by decide +kernel)) ggX3_sendLeaf_X3_send
theorem dX3_sendLeaf_0 : decode cX3_sendLeaf 0 = .ok (.aload_n 0, 1) := by decide +kernel
theorem dX3_sendLeaf_1 : decode cX3_sendLeaf 1 = .ok (.iconst 0, 1) := by decide +kernel
theorem dX3_sendLeaf_2 : decode cX3_sendLeaf 2 = .ok (.putfield 150, 3) := by decide +kernel
theorem dX3_sendLeaf_5 : decode cX3_sendLeaf 5 = .ok (.iconst 4, 1) := by decide +kernel
theorem dX3_sendLeaf_6 : decode cX3_sendLeaf 6 = .ok (.iload_n 2, 1) := by decide +kernel
theorem dX3_sendLeaf_7 : decode cX3_sendLeaf 7 = .ok (.imul, 1) := by decide +kernel
theorem dX3_sendLeaf_8 : decode cX3_sendLeaf 8 = .ok (.istore_n 3, 1) := by decide +kernel
theorem dX3_sendLeaf_9 : decode cX3_sendLeaf 9 = .ok (.iload_n 3, 1) := by decide +kernel
theorem dX3_sendLeaf_10 : decode cX3_sendLeaf 10 = .ok (.iconst 4, 1) := by decide +kernel
theorem dX3_sendLeaf_11 : decode cX3_sendLeaf 11 = .ok (.iload_n 2, 1) := by decide +kernel
theorem dX3_sendLeaf_12 : decode cX3_sendLeaf 12 = .ok (.imul, 1) := by decide +kernel
theorem dX3_sendLeaf_13 : decode cX3_sendLeaf 13 = .ok (.iconst 4, 1) := by decide +kernel
theorem dX3_sendLeaf_14 : decode cX3_sendLeaf 14 = .ok (.iadd, 1) := by decide +kernel
theorem dX3_sendLeaf_15 : decode cX3_sendLeaf 15 = .ok (.if_icmp .ge 35, 3) := by decide +kernel
theorem dX3_sendLeaf_18 : decode cX3_sendLeaf 18 = .ok (.aload_n 0, 1) := by decide +kernel
theorem dX3_sendLeaf_19 : decode cX3_sendLeaf 19 = .ok (.getfield 7, 3) := by decide +kernel
theorem dX3_sendLeaf_22 : decode cX3_sendLeaf 22 = .ok (.sipush 256, 3) := by decide +kernel
theorem dX3_sendLeaf_25 : decode cX3_sendLeaf 25 = .ok (.iload_n 1, 1) := by decide +kernel
theorem dX3_sendLeaf_26 : decode cX3_sendLeaf 26 = .ok (.imul, 1) := by decide +kernel
theorem dX3_sendLeaf_27 : decode cX3_sendLeaf 27 = .ok (.iload_n 3, 1) := by decide +kernel
theorem dX3_sendLeaf_28 : decode cX3_sendLeaf 28 = .ok (.iadd, 1) := by decide +kernel
theorem dX3_sendLeaf_29 : decode cX3_sendLeaf 29 = .ok (.baload, 1) := by decide +kernel
theorem dX3_sendLeaf_30 : decode cX3_sendLeaf 30 = .ok (.ifCond .eq 14, 3) := by decide +kernel
theorem dX3_sendLeaf_33 : decode cX3_sendLeaf 33 = .ok (.aload_n 0, 1) := by decide +kernel
theorem dX3_sendLeaf_34 : decode cX3_sendLeaf 34 = .ok (.sipush 256, 3) := by decide +kernel
theorem dX3_sendLeaf_37 : decode cX3_sendLeaf 37 = .ok (.iload_n 1, 1) := by decide +kernel
theorem dX3_sendLeaf_38 : decode cX3_sendLeaf 38 = .ok (.imul, 1) := by decide +kernel
theorem dX3_sendLeaf_39 : decode cX3_sendLeaf 39 = .ok (.iload_n 3, 1) := by decide +kernel
theorem dX3_sendLeaf_40 : decode cX3_sendLeaf 40 = .ok (.iadd, 1) := by decide +kernel
theorem dX3_sendLeaf_41 : decode cX3_sendLeaf 41 = .ok (.invokevirtual 160, 3) := by decide +kernel
theorem dX3_sendLeaf_44 : decode cX3_sendLeaf 44 = .ok (.iinc 3 1, 3) := by decide +kernel
theorem dX3_sendLeaf_47 : decode cX3_sendLeaf 47 = .ok (.goto (-38), 3) := by decide +kernel
theorem dX3_sendLeaf_50 : decode cX3_sendLeaf 50 = .ok (.aload_n 0, 1) := by decide +kernel
theorem dX3_sendLeaf_51 : decode cX3_sendLeaf 51 = .ok (.iconst 1, 1) := by decide +kernel
theorem dX3_sendLeaf_52 : decode cX3_sendLeaf 52 = .ok (.iload_n 1, 1) := by decide +kernel
theorem dX3_sendLeaf_53 : decode cX3_sendLeaf 53 = .ok (.isub, 1) := by decide +kernel
theorem dX3_sendLeaf_54 : decode cX3_sendLeaf 54 = .ok (.iconst 2, 1) := by decide +kernel
theorem dX3_sendLeaf_55 : decode cX3_sendLeaf 55 = .ok (.iconst 3, 1) := by decide +kernel
theorem dX3_sendLeaf_56 : decode cX3_sendLeaf 56 = .ok (.iload_n 2, 1) := by decide +kernel
theorem dX3_sendLeaf_57 : decode cX3_sendLeaf 57 = .ok (.invokevirtual 156, 3) := by decide +kernel
theorem dX3_sendLeaf_60 : decode cX3_sendLeaf 60 = .ok (.pop, 1) := by decide +kernel
theorem dX3_sendLeaf_61 : decode cX3_sendLeaf 61 = .ok (.return_, 1) := by decide +kernel
set_option maxRecDepth 20000 in
theorem ggX3_gotList_X3_hashAll : GoodIn wsX3_gotList wsX3_hashAll := goodIn_r _ [7, 1, 8, 9, 10, 11, 12, 6, 13, 14, 15, 16, 17, 18, 19, 20, 21, 22, 23, 24, 25, 26, 27, 28, 29, 30, 31, 32, 33, 34, 35, 71, 72, 73, 74, 75, 76, 77, 78, 79, 80, 81, 82, 83, 84, 85, 86, 87, 88, 89, 90, 91, 92, 93, 94, 95, 96, 97, 98, 99, 100, 101, 102] (by decide +kernel) (by decide +kernel)
set_option maxRecDepth 20000 in
theorem gX3_gotList_X3_hashAll : GoodIn wsX3_gotList (wsV RX3 141 RX3 yX3_hashAll wsX3_hashAll) := goodIn_app (goodIn_of _ (by decide +kernel)) ggX3_gotList_X3_hashAll
set_option maxRecDepth 20000 in
theorem ggX3_gotList_X3_begin : GoodIn wsX3_gotList wsX3_begin := goodIn_r _ [35] (by decide +kernel) (by decide +kernel)
set_option maxRecDepth 20000 in
theorem gX3_gotList_X3_begin : GoodIn wsX3_gotList (va_wsS RX3 138 yX3_begin wsX3_begin) := goodIn_app (goodIn_of _ (by decide +kernel)) ggX3_gotList_X3_begin
set_option maxRecDepth 20000 in
theorem ggX3_gotList_X3_sendLeaf : GoodIn wsX3_gotList wsX3_sendLeaf := goodIn_r _ [39, 40, 14, 41, 42, 43, 6, 44, 45, 46, 15, 47, 16, 48, 17, 49, 50, 51, 52, 53, 54, 55, 56, 57, 58, 59, 60, 61, 62, 63, 64, 65, 66, 71, 72, 73, 74, 75, 76, 77, 78, 79, 80, 81, 82, 83, 84, 85, 86, 87, 88, 89, 90, 91, 92, 93, 94, 95, 96, 97, 98, 99, 100, 101, 102] (by decide +kernel) (by decide +kernel)
set_option maxRecDepth 20000 in
theorem gX3_gotList_X3_sendLeaf : GoodIn wsX3_gotList (wsV RX3 163 RX3 yX3_sendLeaf wsX3_sendLeaf) := goodIn_app (goodIn_of _ (by decide +kernel)) ggX3_gotList_X3_sendLeaf
set_option maxRecDepth 20000 in
theorem ggX3_gotList_X3_sendList : GoodIn wsX3_gotList wsX3_sendList := goodIn_r _ [70, 62, 1, 40, 33, 34, 6, 35, 49, 50, 51, 52, 53, 54, 55, 56, 57, 58, 59, 60, 61, 63, 45, 64, 46, 65, 47, 66, 48, 71, 72, 73, 74, 75, 76, 77, 78, 79, 80, 81, 82, 83, 84, 85, 86, 87, 88, 89, 90, 91, 92, 93, 94, 95, 96, 97, 98, 99, 100, 101, 102] (by decide +kernel) (by decide +kernel)
set_option maxRecDepth 20000 in
theorem gX3_gotList_X3_sendList : GoodIn wsX3_gotList (wsV RX3 167 RX3 yX3_sendList wsX3_sendList) := goodIn_app (goodIn_of _ (by decide +kernel)) ggX3_gotList_X3_sendList
theorem dX3_gotList_0 : decode cX3_gotList 0 = .ok (.aload_n 0, 1) := by decide +kernel
theorem dX3_gotList_1 : decode cX3_gotList 1 = .ok (.iload_n 1, 1) := by decide +kernel
theorem dX3_gotList_2 : decode cX3_gotList 2 = .ok (.invokevirtual 141, 3) := by decide +kernel
theorem dX3_gotList_5 : decode cX3_gotList 5 = .ok (.iconst 0, 1) := by decide +kernel
theorem dX3_gotList_6 : decode cX3_gotList 6 = .ok (.istore 4, 2) := by decide +kernel
theorem dX3_gotList_8 : decode cX3_gotList 8 = .ok (.iload 4, 2) := by decide +kernel
theorem dX3_gotList_10 : decode cX3_gotList 10 = .ok (.iconst 4, 1) := by decide +kernel
theorem dX3_gotList_11 : decode cX3_gotList 11 = .ok (.if_icmp .ge 70, 3) := by decide +kernel
theorem dX3_gotList_14 : decode cX3_gotList 14 = .ok (.iconst 4, 1) := by decide +kernel
theorem dX3_gotList_15 : decode cX3_gotList 15 = .ok (.iload_n 3, 1) := by decide +kernel
theorem dX3_gotList_16 : decode cX3_gotList 16 = .ok (.imul, 1) := by decide +kernel
theorem dX3_gotList_17 : decode cX3_gotList 17 = .ok (.iload 4, 2) := by decide +kernel
theorem dX3_gotList_19 : decode cX3_gotList 19 = .ok (.iadd, 1) := by decide +kernel
theorem dX3_gotList_20 : decode cX3_gotList 20 = .ok (.istore 5, 2) := by decide +kernel
theorem dX3_gotList_22 : decode cX3_gotList 22 = .ok (.aload_n 0, 1) := by decide +kernel
theorem dX3_gotList_23 : decode cX3_gotList 23 = .ok (.getfield 24, 3) := by decide +kernel
theorem dX3_gotList_26 : decode cX3_gotList 26 = .ok (.iload_n 2, 1) := by decide +kernel
theorem dX3_gotList_27 : decode cX3_gotList 27 = .ok (.iconst 1, 1) := by decide +kernel
theorem dX3_gotList_28 : decode cX3_gotList 28 = .ok (.iadd, 1) := by decide +kernel
theorem dX3_gotList_29 : decode cX3_gotList 29 = .ok (.invokestatic 138, 3) := by decide +kernel
theorem dX3_gotList_32 : decode cX3_gotList 32 = .ok (.iload 5, 2) := by decide +kernel
theorem dX3_gotList_34 : decode cX3_gotList 34 = .ok (.iadd, 1) := by decide +kernel
theorem dX3_gotList_35 : decode cX3_gotList 35 = .ok (.laload, 1) := by decide +kernel
theorem dX3_gotList_36 : decode cX3_gotList 36 = .ok (.aload_n 0, 1) := by decide +kernel
theorem dX3_gotList_37 : decode cX3_gotList 37 = .ok (.getfield 72, 3) := by decide +kernel
theorem dX3_gotList_40 : decode cX3_gotList 40 = .ok (.iload 4, 2) := by decide +kernel
theorem dX3_gotList_42 : decode cX3_gotList 42 = .ok (.laload, 1) := by decide +kernel
theorem dX3_gotList_43 : decode cX3_gotList 43 = .ok (.lcmp, 1) := by decide +kernel
theorem dX3_gotList_44 : decode cX3_gotList 44 = .ok (.ifCond .ne 6, 3) := by decide +kernel
theorem dX3_gotList_47 : decode cX3_gotList 47 = .ok (.goto 28, 3) := by decide +kernel
theorem dX3_gotList_50 : decode cX3_gotList 50 = .ok (.iload_n 2, 1) := by decide +kernel
theorem dX3_gotList_51 : decode cX3_gotList 51 = .ok (.iconst 2, 1) := by decide +kernel
theorem dX3_gotList_52 : decode cX3_gotList 52 = .ok (.if_icmp .ne 13, 3) := by decide +kernel
theorem dX3_gotList_55 : decode cX3_gotList 55 = .ok (.aload_n 0, 1) := by decide +kernel
theorem dX3_gotList_56 : decode cX3_gotList 56 = .ok (.iload_n 1, 1) := by decide +kernel
theorem dX3_gotList_57 : decode cX3_gotList 57 = .ok (.iload 5, 2) := by decide +kernel
theorem dX3_gotList_59 : decode cX3_gotList 59 = .ok (.invokevirtual 163, 3) := by decide +kernel
theorem dX3_gotList_62 : decode cX3_gotList 62 = .ok (.goto 13, 3) := by decide +kernel
theorem dX3_gotList_65 : decode cX3_gotList 65 = .ok (.aload_n 0, 1) := by decide +kernel
theorem dX3_gotList_66 : decode cX3_gotList 66 = .ok (.iload_n 1, 1) := by decide +kernel
theorem dX3_gotList_67 : decode cX3_gotList 67 = .ok (.iload_n 2, 1) := by decide +kernel
theorem dX3_gotList_68 : decode cX3_gotList 68 = .ok (.iconst 1, 1) := by decide +kernel
theorem dX3_gotList_69 : decode cX3_gotList 69 = .ok (.iadd, 1) := by decide +kernel
theorem dX3_gotList_70 : decode cX3_gotList 70 = .ok (.iload 5, 2) := by decide +kernel
theorem dX3_gotList_72 : decode cX3_gotList 72 = .ok (.invokevirtual 167, 3) := by decide +kernel
theorem dX3_gotList_75 : decode cX3_gotList 75 = .ok (.iinc 4 1, 3) := by decide +kernel
theorem dX3_gotList_78 : decode cX3_gotList 78 = .ok (.goto (-70), 3) := by decide +kernel
theorem dX3_gotList_81 : decode cX3_gotList 81 = .ok (.return_, 1) := by decide +kernel
set_option maxRecDepth 20000 in
theorem ggX3_mergeAll_X3_merge : GoodIn wsX3_mergeAll wsX3_merge := goodIn_r _ [10, 11, 12, 13, 14, 15, 16, 17, 9, 18, 19, 20, 21, 22, 23, 24, 25, 26, 27, 28, 29, 30, 31, 32, 33, 34, 35, 36, 37, 38, 39, 40, 41, 42, 43, 44, 45, 46, 47, 48, 49, 50, 51, 52, 53, 54, 55, 56] (by decide +kernel) (by decide +kernel)
set_option maxRecDepth 20000 in
theorem gX3_mergeAll_X3_merge : GoodIn wsX3_mergeAll (wsV RX3 110 RX3 yX3_merge wsX3_merge) := goodIn_app (goodIn_of _ (by decide +kernel)) ggX3_mergeAll_X3_merge
theorem dX3_mergeAll_0 : decode cX3_mergeAll 0 = .ok (.iconst 0, 1) := by decide +kernel
theorem dX3_mergeAll_1 : decode cX3_mergeAll 1 = .ok (.istore_n 2, 1) := by decide +kernel
theorem dX3_mergeAll_2 : decode cX3_mergeAll 2 = .ok (.iload_n 2, 1) := by decide +kernel
theorem dX3_mergeAll_3 : decode cX3_mergeAll 3 = .ok (.aload_n 0, 1) := by decide +kernel
theorem dX3_mergeAll_4 : decode cX3_mergeAll 4 = .ok (.getfield 171, 3) := by decide +kernel
theorem dX3_mergeAll_7 : decode cX3_mergeAll 7 = .ok (.if_icmp .ge 39, 3) := by decide +kernel
theorem dX3_mergeAll_10 : decode cX3_mergeAll 10 = .ok (.aload_n 0, 1) := by decide +kernel
theorem dX3_mergeAll_11 : decode cX3_mergeAll 11 = .ok (.iload_n 1, 1) := by decide +kernel
theorem dX3_mergeAll_12 : decode cX3_mergeAll 12 = .ok (.aload_n 0, 1) := by decide +kernel
theorem dX3_mergeAll_13 : decode cX3_mergeAll 13 = .ok (.getfield 75, 3) := by decide +kernel
theorem dX3_mergeAll_16 : decode cX3_mergeAll 16 = .ok (.iload_n 2, 1) := by decide +kernel
theorem dX3_mergeAll_17 : decode cX3_mergeAll 17 = .ok (.iaload, 1) := by decide +kernel
theorem dX3_mergeAll_18 : decode cX3_mergeAll 18 = .ok (.aload_n 0, 1) := by decide +kernel
theorem dX3_mergeAll_19 : decode cX3_mergeAll 19 = .ok (.getfield 78, 3) := by decide +kernel
theorem dX3_mergeAll_22 : decode cX3_mergeAll 22 = .ok (.iload_n 2, 1) := by decide +kernel
theorem dX3_mergeAll_23 : decode cX3_mergeAll 23 = .ok (.laload, 1) := by decide +kernel
theorem dX3_mergeAll_24 : decode cX3_mergeAll 24 = .ok (.aload_n 0, 1) := by decide +kernel
theorem dX3_mergeAll_25 : decode cX3_mergeAll 25 = .ok (.getfield 81, 3) := by decide +kernel
theorem dX3_mergeAll_28 : decode cX3_mergeAll 28 = .ok (.iload_n 2, 1) := by decide +kernel
theorem dX3_mergeAll_29 : decode cX3_mergeAll 29 = .ok (.iaload, 1) := by decide +kernel
theorem dX3_mergeAll_30 : decode cX3_mergeAll 30 = .ok (.aload_n 0, 1) := by decide +kernel
theorem dX3_mergeAll_31 : decode cX3_mergeAll 31 = .ok (.getfield 84, 3) := by decide +kernel
theorem dX3_mergeAll_34 : decode cX3_mergeAll 34 = .ok (.iload_n 2, 1) := by decide +kernel
theorem dX3_mergeAll_35 : decode cX3_mergeAll 35 = .ok (.laload, 1) := by decide +kernel
theorem dX3_mergeAll_36 : decode cX3_mergeAll 36 = .ok (.invokevirtual 110, 3) := by decide +kernel
theorem dX3_mergeAll_39 : decode cX3_mergeAll 39 = .ok (.pop, 1) := by decide +kernel
theorem dX3_mergeAll_40 : decode cX3_mergeAll 40 = .ok (.iinc 2 1, 3) := by decide +kernel
theorem dX3_mergeAll_43 : decode cX3_mergeAll 43 = .ok (.goto (-41), 3) := by decide +kernel
theorem dX3_mergeAll_46 : decode cX3_mergeAll 46 = .ok (.return_, 1) := by decide +kernel
theorem dX3_isGot_0 : decode cX3_isGot 0 = .ok (.iconst 0, 1) := by decide +kernel
theorem dX3_isGot_1 : decode cX3_isGot 1 = .ok (.istore_n 2, 1) := by decide +kernel
theorem dX3_isGot_2 : decode cX3_isGot 2 = .ok (.iconst 0, 1) := by decide +kernel
theorem dX3_isGot_3 : decode cX3_isGot 3 = .ok (.istore_n 3, 1) := by decide +kernel
theorem dX3_isGot_4 : decode cX3_isGot 4 = .ok (.iload_n 3, 1) := by decide +kernel
theorem dX3_isGot_5 : decode cX3_isGot 5 = .ok (.aload_n 0, 1) := by decide +kernel
theorem dX3_isGot_6 : decode cX3_isGot 6 = .ok (.getfield 171, 3) := by decide +kernel
theorem dX3_isGot_9 : decode cX3_isGot 9 = .ok (.if_icmp .ge 80, 3) := by decide +kernel
theorem dX3_isGot_12 : decode cX3_isGot 12 = .ok (.iload_n 2, 1) := by decide +kernel
theorem dX3_isGot_13 : decode cX3_isGot 13 = .ok (.ifCond .ne 64, 3) := by decide +kernel
theorem dX3_isGot_16 : decode cX3_isGot 16 = .ok (.aload_n 0, 1) := by decide +kernel
theorem dX3_isGot_17 : decode cX3_isGot 17 = .ok (.getfield 75, 3) := by decide +kernel
theorem dX3_isGot_20 : decode cX3_isGot 20 = .ok (.iload_n 3, 1) := by decide +kernel
theorem dX3_isGot_21 : decode cX3_isGot 21 = .ok (.iaload, 1) := by decide +kernel
theorem dX3_isGot_22 : decode cX3_isGot 22 = .ok (.iload_n 1, 1) := by decide +kernel
theorem dX3_isGot_23 : decode cX3_isGot 23 = .ok (.sipush 256, 3) := by decide +kernel
theorem dX3_isGot_26 : decode cX3_isGot 26 = .ok (.irem, 1) := by decide +kernel
theorem dX3_isGot_27 : decode cX3_isGot 27 = .ok (.if_icmp .ne 54, 3) := by decide +kernel
theorem dX3_isGot_30 : decode cX3_isGot 30 = .ok (.aload_n 0, 1) := by decide +kernel
theorem dX3_isGot_31 : decode cX3_isGot 31 = .ok (.getfield 78, 3) := by decide +kernel
theorem dX3_isGot_34 : decode cX3_isGot 34 = .ok (.iload_n 3, 1) := by decide +kernel
theorem dX3_isGot_35 : decode cX3_isGot 35 = .ok (.laload, 1) := by decide +kernel
theorem dX3_isGot_36 : decode cX3_isGot 36 = .ok (.aload_n 0, 1) := by decide +kernel
theorem dX3_isGot_37 : decode cX3_isGot 37 = .ok (.getfield 13, 3) := by decide +kernel
theorem dX3_isGot_40 : decode cX3_isGot 40 = .ok (.iload_n 1, 1) := by decide +kernel
theorem dX3_isGot_41 : decode cX3_isGot 41 = .ok (.laload, 1) := by decide +kernel
theorem dX3_isGot_42 : decode cX3_isGot 42 = .ok (.lcmp, 1) := by decide +kernel
theorem dX3_isGot_43 : decode cX3_isGot 43 = .ok (.ifCond .ne 38, 3) := by decide +kernel
theorem dX3_isGot_46 : decode cX3_isGot 46 = .ok (.aload_n 0, 1) := by decide +kernel
theorem dX3_isGot_47 : decode cX3_isGot 47 = .ok (.getfield 81, 3) := by decide +kernel
theorem dX3_isGot_50 : decode cX3_isGot 50 = .ok (.iload_n 3, 1) := by decide +kernel
theorem dX3_isGot_51 : decode cX3_isGot 51 = .ok (.iaload, 1) := by decide +kernel
