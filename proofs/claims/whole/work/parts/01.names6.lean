theorem dX7_reads_30 : decode cX7_reads 30 = .ok (.getfield 169, 3) := by decide +kernel
theorem dX7_reads_33 : decode cX7_reads 33 = .ok (.putfield 166, 3) := by decide +kernel
theorem dX7_reads_36 : decode cX7_reads 36 = .ok (.aload_n 0, 1) := by decide +kernel
theorem dX7_reads_37 : decode cX7_reads 37 = .ok (.iconst 0, 1) := by decide +kernel
theorem dX7_reads_38 : decode cX7_reads 38 = .ok (.putfield 178, 3) := by decide +kernel
theorem dX7_reads_41 : decode cX7_reads 41 = .ok (.aload_n 0, 1) := by decide +kernel
theorem dX7_reads_42 : decode cX7_reads 42 = .ok (.getfield 169, 3) := by decide +kernel
theorem dX7_reads_45 : decode cX7_reads 45 = .ok (.aload_n 0, 1) := by decide +kernel
theorem dX7_reads_46 : decode cX7_reads 46 = .ok (.getfield 159, 3) := by decide +kernel
theorem dX7_reads_49 : decode cX7_reads 49 = .ok (.if_icmp .ne 12, 3) := by decide +kernel
theorem dX7_reads_52 : decode cX7_reads 52 = .ok (.aload_n 0, 1) := by decide +kernel
theorem dX7_reads_53 : decode cX7_reads 53 = .ok (.bipush 22, 2) := by decide +kernel
theorem dX7_reads_55 : decode cX7_reads 55 = .ok (.putfield 181, 3) := by decide +kernel
theorem dX7_reads_58 : decode cX7_reads 58 = .ok (.goto 186, 3) := by decide +kernel
theorem dX7_reads_61 : decode cX7_reads 61 = .ok (.aload_n 0, 1) := by decide +kernel
theorem dX7_reads_62 : decode cX7_reads 62 = .ok (.aload_n 0, 1) := by decide +kernel
theorem dX7_reads_63 : decode cX7_reads 63 = .ok (.getfield 169, 3) := by decide +kernel
theorem dX7_reads_66 : decode cX7_reads 66 = .ok (.bipush 97, 2) := by decide +kernel
theorem dX7_reads_68 : decode cX7_reads 68 = .ok (.bipush 122, 2) := by decide +kernel
theorem dX7_reads_70 : decode cX7_reads 70 = .ok (.invokevirtual 175, 3) := by decide +kernel
theorem dX7_reads_73 : decode cX7_reads 73 = .ok (.ifCond .eq 42, 3) := by decide +kernel
theorem dX7_reads_76 : decode cX7_reads 76 = .ok (.aload_n 0, 1) := by decide +kernel
theorem dX7_reads_77 : decode cX7_reads 77 = .ok (.aload_n 0, 1) := by decide +kernel
theorem dX7_reads_78 : decode cX7_reads 78 = .ok (.getfield 169, 3) := by decide +kernel
theorem dX7_reads_81 : decode cX7_reads 81 = .ok (.bipush 97, 2) := by decide +kernel
theorem dX7_reads_83 : decode cX7_reads 83 = .ok (.bipush 122, 2) := by decide +kernel
theorem dX7_reads_85 : decode cX7_reads 85 = .ok (.invokevirtual 175, 3) := by decide +kernel
theorem dX7_reads_88 : decode cX7_reads 88 = .ok (.ifCond .eq 16, 3) := by decide +kernel
theorem dX7_reads_91 : decode cX7_reads 91 = .ok (.aload_n 0, 1) := by decide +kernel
theorem dX7_reads_92 : decode cX7_reads 92 = .ok (.dup, 1) := by decide +kernel
theorem dX7_reads_93 : decode cX7_reads 93 = .ok (.getfield 169, 3) := by decide +kernel
theorem dX7_reads_96 : decode cX7_reads 96 = .ok (.iconst 1, 1) := by decide +kernel
theorem dX7_reads_97 : decode cX7_reads 97 = .ok (.iadd, 1) := by decide +kernel
theorem dX7_reads_98 : decode cX7_reads 98 = .ok (.putfield 169, 3) := by decide +kernel
theorem dX7_reads_101 : decode cX7_reads 101 = .ok (.goto (-25), 3) := by decide +kernel
theorem dX7_reads_104 : decode cX7_reads 104 = .ok (.aload_n 0, 1) := by decide +kernel
theorem dX7_reads_105 : decode cX7_reads 105 = .ok (.aload_n 0, 1) := by decide +kernel
theorem dX7_reads_106 : decode cX7_reads 106 = .ok (.invokevirtual 184, 3) := by decide +kernel
theorem dX7_reads_109 : decode cX7_reads 109 = .ok (.putfield 181, 3) := by decide +kernel
theorem dX7_reads_112 : decode cX7_reads 112 = .ok (.goto 132, 3) := by decide +kernel
theorem dX7_reads_115 : decode cX7_reads 115 = .ok (.aload_n 0, 1) := by decide +kernel
theorem dX7_reads_116 : decode cX7_reads 116 = .ok (.aload_n 0, 1) := by decide +kernel
theorem dX7_reads_117 : decode cX7_reads 117 = .ok (.getfield 169, 3) := by decide +kernel
theorem dX7_reads_120 : decode cX7_reads 120 = .ok (.bipush 48, 2) := by decide +kernel
theorem dX7_reads_122 : decode cX7_reads 122 = .ok (.bipush 57, 2) := by decide +kernel
theorem dX7_reads_124 : decode cX7_reads 124 = .ok (.invokevirtual 175, 3) := by decide +kernel
theorem dX7_reads_127 : decode cX7_reads 127 = .ok (.ifCond .eq 81, 3) := by decide +kernel
theorem dX7_reads_130 : decode cX7_reads 130 = .ok (.aload_n 0, 1) := by decide +kernel
theorem dX7_reads_131 : decode cX7_reads 131 = .ok (.aload_n 0, 1) := by decide +kernel
theorem dX7_reads_132 : decode cX7_reads 132 = .ok (.getfield 169, 3) := by decide +kernel
theorem dX7_reads_135 : decode cX7_reads 135 = .ok (.bipush 48, 2) := by decide +kernel
theorem dX7_reads_137 : decode cX7_reads 137 = .ok (.bipush 57, 2) := by decide +kernel
theorem dX7_reads_139 : decode cX7_reads 139 = .ok (.invokevirtual 175, 3) := by decide +kernel
theorem dX7_reads_142 : decode cX7_reads 142 = .ok (.ifCond .eq 57, 3) := by decide +kernel
theorem dX7_reads_145 : decode cX7_reads 145 = .ok (.aload_n 0, 1) := by decide +kernel
theorem dX7_reads_146 : decode cX7_reads 146 = .ok (.aload_n 0, 1) := by decide +kernel
theorem dX7_reads_147 : decode cX7_reads 147 = .ok (.getfield 178, 3) := by decide +kernel
theorem dX7_reads_150 : decode cX7_reads 150 = .ok (.sipush 999, 3) := by decide +kernel
theorem dX7_reads_153 : decode cX7_reads 153 = .ok (.if_icmp .le 10, 3) := by decide +kernel
theorem dX7_reads_156 : decode cX7_reads 156 = .ok (.aload_n 0, 1) := by decide +kernel
theorem dX7_reads_157 : decode cX7_reads 157 = .ok (.getfield 178, 3) := by decide +kernel
theorem dX7_reads_160 : decode cX7_reads 160 = .ok (.goto 23, 3) := by decide +kernel
theorem dX7_reads_163 : decode cX7_reads 163 = .ok (.bipush 10, 2) := by decide +kernel
theorem dX7_reads_165 : decode cX7_reads 165 = .ok (.aload_n 0, 1) := by decide +kernel
theorem dX7_reads_166 : decode cX7_reads 166 = .ok (.getfield 178, 3) := by decide +kernel
theorem dX7_reads_169 : decode cX7_reads 169 = .ok (.imul, 1) := by decide +kernel
theorem dX7_reads_170 : decode cX7_reads 170 = .ok (.aload_n 0, 1) := by decide +kernel
theorem dX7_reads_171 : decode cX7_reads 171 = .ok (.getfield 22, 3) := by decide +kernel
theorem dX7_reads_174 : decode cX7_reads 174 = .ok (.aload_n 0, 1) := by decide +kernel
theorem dX7_reads_175 : decode cX7_reads 175 = .ok (.getfield 169, 3) := by decide +kernel
theorem dX7_reads_178 : decode cX7_reads 178 = .ok (.iaload, 1) := by decide +kernel
theorem dX7_reads_179 : decode cX7_reads 179 = .ok (.iadd, 1) := by decide +kernel
theorem dX7_reads_180 : decode cX7_reads 180 = .ok (.bipush 48, 2) := by decide +kernel
theorem dX7_reads_182 : decode cX7_reads 182 = .ok (.isub, 1) := by decide +kernel
theorem dX7_reads_183 : decode cX7_reads 183 = .ok (.putfield 178, 3) := by decide +kernel
theorem dX7_reads_186 : decode cX7_reads 186 = .ok (.aload_n 0, 1) := by decide +kernel
theorem dX7_reads_187 : decode cX7_reads 187 = .ok (.dup, 1) := by decide +kernel
theorem dX7_reads_188 : decode cX7_reads 188 = .ok (.getfield 169, 3) := by decide +kernel
theorem dX7_reads_191 : decode cX7_reads 191 = .ok (.iconst 1, 1) := by decide +kernel
theorem dX7_reads_192 : decode cX7_reads 192 = .ok (.iadd, 1) := by decide +kernel
theorem dX7_reads_193 : decode cX7_reads 193 = .ok (.putfield 169, 3) := by decide +kernel
theorem dX7_reads_196 : decode cX7_reads 196 = .ok (.goto (-66), 3) := by decide +kernel
theorem dX7_reads_199 : decode cX7_reads 199 = .ok (.aload_n 0, 1) := by decide +kernel
theorem dX7_reads_200 : decode cX7_reads 200 = .ok (.bipush 20, 2) := by decide +kernel
theorem dX7_reads_202 : decode cX7_reads 202 = .ok (.putfield 181, 3) := by decide +kernel
theorem dX7_reads_205 : decode cX7_reads 205 = .ok (.goto 39, 3) := by decide +kernel
theorem dX7_reads_208 : decode cX7_reads 208 = .ok (.aload_n 0, 1) := by decide +kernel
theorem dX7_reads_209 : decode cX7_reads 209 = .ok (.aload_n 0, 1) := by decide +kernel
theorem dX7_reads_210 : decode cX7_reads 210 = .ok (.aload_n 0, 1) := by decide +kernel
theorem dX7_reads_211 : decode cX7_reads 211 = .ok (.getfield 169, 3) := by decide +kernel
theorem dX7_reads_214 : decode cX7_reads 214 = .ok (.bipush 59, 2) := by decide +kernel
theorem dX7_reads_216 : decode cX7_reads 216 = .ok (.bipush 59, 2) := by decide +kernel
theorem dX7_reads_218 : decode cX7_reads 218 = .ok (.invokevirtual 175, 3) := by decide +kernel
theorem dX7_reads_221 : decode cX7_reads 221 = .ok (.ifCond .eq 8, 3) := by decide +kernel
theorem dX7_reads_224 : decode cX7_reads 224 = .ok (.bipush 21, 2) := by decide +kernel
theorem dX7_reads_226 : decode cX7_reads 226 = .ok (.goto 5, 3) := by decide +kernel
theorem dX7_reads_229 : decode cX7_reads 229 = .ok (.bipush 23, 2) := by decide +kernel
theorem dX7_reads_231 : decode cX7_reads 231 = .ok (.putfield 181, 3) := by decide +kernel
theorem dX7_reads_234 : decode cX7_reads 234 = .ok (.aload_n 0, 1) := by decide +kernel
theorem dX7_reads_235 : decode cX7_reads 235 = .ok (.dup, 1) := by decide +kernel
theorem dX7_reads_236 : decode cX7_reads 236 = .ok (.getfield 169, 3) := by decide +kernel
theorem dX7_reads_239 : decode cX7_reads 239 = .ok (.iconst 1, 1) := by decide +kernel
theorem dX7_reads_240 : decode cX7_reads 240 = .ok (.iadd, 1) := by decide +kernel
theorem dX7_reads_241 : decode cX7_reads 241 = .ok (.putfield 169, 3) := by decide +kernel
theorem dX7_reads_244 : decode cX7_reads 244 = .ok (.return_, 1) := by decide +kernel
set_option maxRecDepth 20000 in
theorem ggX7_passes_X7_reads : GoodIn wsX7_passes wsX7_reads := goodIn_r _ [7, 8, 9, 10, 11, 2, 12, 13, 14, 15, 6, 16, 17, 18, 19, 20, 21, 22, 23, 24, 25, 26, 27, 28, 29, 30, 31, 32, 33, 34, 35, 36, 37, 38, 39, 40, 41, 42, 43] (by decide +kernel) (by decide +kernel)
set_option maxRecDepth 20000 in
theorem gX7_passes_X7_reads : GoodIn wsX7_passes (wsV RX7 191 RX7 yX7_reads wsX7_reads) := goodIn_app (goodIn_of _ (by decide +kernel)) ggX7_passes_X7_reads
theorem dX7_passes_0 : decode cX7_passes 0 = .ok (.aload_n 0, 1) := by decide +kernel
theorem dX7_passes_1 : decode cX7_passes 1 = .ok (.getfield 187, 3) := by decide +kernel
theorem dX7_passes_4 : decode cX7_passes 4 = .ok (.ifCond .ne 11, 3) := by decide +kernel
theorem dX7_passes_7 : decode cX7_passes 7 = .ok (.aload_n 0, 1) := by decide +kernel
theorem dX7_passes_8 : decode cX7_passes 8 = .ok (.getfield 181, 3) := by decide +kernel
theorem dX7_passes_11 : decode cX7_passes 11 = .ok (.iload_n 1, 1) := by decide +kernel
theorem dX7_passes_12 : decode cX7_passes 12 = .ok (.if_icmp .eq 5, 3) := by decide +kernel
theorem dX7_passes_15 : decode cX7_passes 15 = .ok (.iconst 0, 1) := by decide +kernel
theorem dX7_passes_16 : decode cX7_passes 16 = .ok (.ireturn, 1) := by decide +kernel
theorem dX7_passes_17 : decode cX7_passes 17 = .ok (.aload_n 0, 1) := by decide +kernel
theorem dX7_passes_18 : decode cX7_passes 18 = .ok (.invokevirtual 191, 3) := by decide +kernel
theorem dX7_passes_21 : decode cX7_passes 21 = .ok (.iconst 1, 1) := by decide +kernel
theorem dX7_passes_22 : decode cX7_passes 22 = .ok (.ireturn, 1) := by decide +kernel
set_option maxRecDepth 20000 in
theorem ggX7_number_X7_in : GoodIn wsX7_number wsX7_in := goodIn_r _ [7] (by decide +kernel) (by decide +kernel)
set_option maxRecDepth 20000 in
theorem gX7_number_X7_in : GoodIn wsX7_number (va_wsS RX7 41 yX7_in wsX7_in) := goodIn_app (goodIn_of _ (by decide +kernel)) ggX7_number_X7_in
set_option maxRecDepth 20000 in
theorem ggX7_number_X7_reads : GoodIn wsX7_number wsX7_reads := goodIn_r _ [11, 12, 13, 1, 14, 3, 15, 16, 17, 18, 6, 19, 4, 5, 7, 20, 21, 22, 23, 24, 25, 26, 27, 28, 29, 30, 31, 32, 33, 34, 35, 36, 37, 38, 39, 40, 41, 42, 43] (by decide +kernel) (by decide +kernel)
set_option maxRecDepth 20000 in
theorem gX7_number_X7_reads : GoodIn wsX7_number (wsV RX7 191 RX7 yX7_reads wsX7_reads) := goodIn_app (goodIn_of _ (by decide +kernel)) ggX7_number_X7_reads
theorem dX7_number_0 : decode cX7_number 0 = .ok (.aload_n 0, 1) := by decide +kernel
theorem dX7_number_1 : decode cX7_number 1 = .ok (.getfield 178, 3) := by decide +kernel
theorem dX7_number_4 : decode cX7_number 4 = .ok (.istore_n 3, 1) := by decide +kernel
theorem dX7_number_5 : decode cX7_number 5 = .ok (.aload_n 0, 1) := by decide +kernel
theorem dX7_number_6 : decode cX7_number 6 = .ok (.aload_n 0, 1) := by decide +kernel
theorem dX7_number_7 : decode cX7_number 7 = .ok (.getfield 187, 3) := by decide +kernel
theorem dX7_number_10 : decode cX7_number 10 = .ok (.ifCond .ne 22, 3) := by decide +kernel
theorem dX7_number_13 : decode cX7_number 13 = .ok (.aload_n 0, 1) := by decide +kernel
theorem dX7_number_14 : decode cX7_number 14 = .ok (.getfield 181, 3) := by decide +kernel
theorem dX7_number_17 : decode cX7_number 17 = .ok (.bipush 20, 2) := by decide +kernel
theorem dX7_number_19 : decode cX7_number 19 = .ok (.if_icmp .ne 13, 3) := by decide +kernel
theorem dX7_number_22 : decode cX7_number 22 = .ok (.iload_n 3, 1) := by decide +kernel
theorem dX7_number_23 : decode cX7_number 23 = .ok (.i2l, 1) := by decide +kernel
theorem dX7_number_24 : decode cX7_number 24 = .ok (.iload_n 1, 1) := by decide +kernel
theorem dX7_number_25 : decode cX7_number 25 = .ok (.iload_n 2, 1) := by decide +kernel
theorem dX7_number_26 : decode cX7_number 26 = .ok (.invokestatic 41, 3) := by decide +kernel
theorem dX7_number_29 : decode cX7_number 29 = .ok (.ifCond .ne 7, 3) := by decide +kernel
theorem dX7_number_32 : decode cX7_number 32 = .ok (.iconst 1, 1) := by decide +kernel
theorem dX7_number_33 : decode cX7_number 33 = .ok (.goto 4, 3) := by decide +kernel
theorem dX7_number_36 : decode cX7_number 36 = .ok (.iconst 0, 1) := by decide +kernel
theorem dX7_number_37 : decode cX7_number 37 = .ok (.putfield 187, 3) := by decide +kernel
theorem dX7_number_40 : decode cX7_number 40 = .ok (.aload_n 0, 1) := by decide +kernel
theorem dX7_number_41 : decode cX7_number 41 = .ok (.getfield 187, 3) := by decide +kernel
theorem dX7_number_44 : decode cX7_number 44 = .ok (.ifCond .ne 7, 3) := by decide +kernel
theorem dX7_number_47 : decode cX7_number 47 = .ok (.aload_n 0, 1) := by decide +kernel
theorem dX7_number_48 : decode cX7_number 48 = .ok (.invokevirtual 191, 3) := by decide +kernel
theorem dX7_number_51 : decode cX7_number 51 = .ok (.iload_n 3, 1) := by decide +kernel
theorem dX7_number_52 : decode cX7_number 52 = .ok (.ireturn, 1) := by decide +kernel
set_option maxRecDepth 20000 in
theorem ggX7_perhaps_X7_passes : GoodIn wsX7_perhaps wsX7_passes := goodIn_r _ [5, 6, 7, 8, 9, 10, 4, 11, 12, 13, 14, 15, 16, 17, 18, 19, 20, 21, 22, 23, 24, 25, 26, 27, 28, 29, 30, 31, 32, 37, 38, 39, 40, 41, 42, 43, 44, 45, 46, 47, 48, 49, 50, 51] (by decide +kernel) (by decide +kernel)
set_option maxRecDepth 20000 in
theorem gX7_perhaps_X7_passes : GoodIn wsX7_perhaps (wsV RX7 194 RX7 yX7_passes wsX7_passes) := goodIn_app (goodIn_of _ (by decide +kernel)) ggX7_perhaps_X7_passes
set_option maxRecDepth 20000 in
theorem ggX7_perhaps_X7_number : GoodIn wsX7_perhaps wsX7_number := goodIn_r _ [36, 14, 6, 7, 21, 22, 4, 23, 8, 9, 10, 11, 12, 13, 15, 16, 17, 18, 19, 20, 24, 25, 26, 27, 28, 29, 30, 31, 32, 37, 38, 39, 40, 41, 42, 43, 44, 45, 46, 47, 48, 49, 50, 51] (by decide +kernel) (by decide +kernel)
set_option maxRecDepth 20000 in
theorem gX7_perhaps_X7_number : GoodIn wsX7_perhaps (wsV RX7 197 RX7 yX7_number wsX7_number) := goodIn_app (goodIn_of _ (by decide +kernel)) ggX7_perhaps_X7_number
theorem dX7_perhaps_0 : decode cX7_perhaps 0 = .ok (.aload_n 0, 1) := by decide +kernel
theorem dX7_perhaps_1 : decode cX7_perhaps 1 = .ok (.iload_n 1, 1) := by decide +kernel
theorem dX7_perhaps_2 : decode cX7_perhaps 2 = .ok (.invokevirtual 194, 3) := by decide +kernel
theorem dX7_perhaps_5 : decode cX7_perhaps 5 = .ok (.ifCond .eq 12, 3) := by decide +kernel
theorem dX7_perhaps_8 : decode cX7_perhaps 8 = .ok (.aload_n 0, 1) := by decide +kernel
theorem dX7_perhaps_9 : decode cX7_perhaps 9 = .ok (.iload_n 2, 1) := by decide +kernel
theorem dX7_perhaps_10 : decode cX7_perhaps 10 = .ok (.iload_n 3, 1) := by decide +kernel
theorem dX7_perhaps_11 : decode cX7_perhaps 11 = .ok (.invokevirtual 197, 3) := by decide +kernel
theorem dX7_perhaps_14 : decode cX7_perhaps 14 = .ok (.goto 5, 3) := by decide +kernel
theorem dX7_perhaps_17 : decode cX7_perhaps 17 = .ok (.iload 4, 2) := by decide +kernel
theorem dX7_perhaps_19 : decode cX7_perhaps 19 = .ok (.ireturn, 1) := by decide +kernel
set_option maxRecDepth 20000 in
theorem ggX7_childItem_X7_reads : GoodIn wsX7_childItem wsX7_reads := goodIn_r _ [8, 9, 10, 11, 12, 1, 13, 14, 15, 16, 7, 17, 18, 19, 20, 21, 22, 23, 24, 25, 26, 27, 28, 29, 50, 51, 52, 53, 54, 55, 56, 57, 58, 59, 60, 61, 62, 63, 64] (by decide +kernel) (by decide +kernel)
set_option maxRecDepth 20000 in
theorem gX7_childItem_X7_reads : GoodIn wsX7_childItem (wsV RX7 191 RX7 yX7_reads wsX7_reads) := goodIn_app (goodIn_of _ (by decide +kernel)) ggX7_childItem_X7_reads
set_option maxRecDepth 20000 in
theorem ggX7_childItem_X7_number : GoodIn wsX7_childItem wsX7_number := goodIn_r _ [33, 11, 3, 1, 18, 19, 7, 20, 4, 5, 6, 8, 9, 10, 12, 13, 14, 15, 16, 17, 21, 22, 23, 24, 25, 26, 27, 28, 29, 50, 51, 52, 53, 54, 55, 56, 57, 58, 59, 60, 61, 62, 63, 64] (by decide +kernel) (by decide +kernel)
set_option maxRecDepth 20000 in
theorem gX7_childItem_X7_number : GoodIn wsX7_childItem (wsV RX7 197 RX7 yX7_number wsX7_number) := goodIn_app (goodIn_of _ (by decide +kernel)) ggX7_childItem_X7_number
set_option maxRecDepth 20000 in
theorem ggX7_childItem_X7_perhaps : GoodIn wsX7_childItem wsX7_perhaps := goodIn_r _ [37, 38, 39, 40, 7, 41, 3, 1, 4, 5, 6, 8, 9, 10, 11, 12, 13, 14, 15, 16, 17, 18, 19, 20, 21, 22, 23, 24, 25, 26, 27, 28, 29, 30, 31, 32, 33, 50, 51, 52, 53, 54, 55, 56, 57, 58, 59, 60, 61, 62, 63, 64] (by decide +kernel) (by decide +kernel)
set_option maxRecDepth 20000 in
theorem gX7_childItem_X7_perhaps : GoodIn wsX7_childItem (wsV RX7 200 RX7 yX7_perhaps wsX7_perhaps) := goodIn_app (goodIn_of _ (by decide +kernel)) ggX7_childItem_X7_perhaps
set_option maxRecDepth 20000 in
theorem ggX7_childItem_X7_comesAs : GoodIn wsX7_childItem wsX7_comesAs := goodIn_r _ [45, 2, 46, 47, 48, 7, 49, 50, 51, 52, 53, 54, 55, 56, 57, 58, 59, 60, 61, 62, 63, 64] (by decide +kernel) (by decide +kernel)
set_option maxRecDepth 20000 in
theorem gX7_childItem_X7_comesAs : GoodIn wsX7_childItem (wsV RX7 100 RX7 yX7_comesAs wsX7_comesAs) := goodIn_app (goodIn_of _ (by decide +kernel)) ggX7_childItem_X7_comesAs
set_option maxRecDepth 20000 in
theorem ggX7_childItem_X7_passes : GoodIn wsX7_childItem wsX7_passes := goodIn_r _ [41, 3, 1, 4, 5, 6, 7, 8, 9, 10, 11, 12, 13, 14, 15, 16, 17, 18, 19, 20, 21, 22, 23, 24, 25, 26, 27, 28, 29, 50, 51, 52, 53, 54, 55, 56, 57, 58, 59, 60, 61, 62, 63, 64] (by decide +kernel) (by decide +kernel)
set_option maxRecDepth 20000 in
theorem gX7_childItem_X7_passes : GoodIn wsX7_childItem (wsV RX7 194 RX7 yX7_passes wsX7_passes) := goodIn_app (goodIn_of _ (by decide +kernel)) ggX7_childItem_X7_passes
set_option maxRecDepth 20000 in
theorem ggX7_childItem_X7_put : GoodIn wsX7_childItem wsX7_put := goodIn_r _ [49, 2, 50, 51, 52, 53, 54, 55, 56, 57, 58, 59, 60, 61, 62, 63, 64] (by decide +kernel) (by decide +kernel)
set_option maxRecDepth 20000 in
theorem gX7_childItem_X7_put : GoodIn wsX7_childItem (wsV RX7 95 RX7 yX7_put wsX7_put) := goodIn_app (goodIn_of _ (by decide +kernel)) ggX7_childItem_X7_put
theorem dX7_childItem_0 : decode cX7_childItem 0 = .ok (.aload_n 0, 1) := by decide +kernel
theorem dX7_childItem_1 : decode cX7_childItem 1 = .ok (.getfield 181, 3) := by decide +kernel
theorem dX7_childItem_4 : decode cX7_childItem 4 = .ok (.istore_n 1, 1) := by decide +kernel
theorem dX7_childItem_5 : decode cX7_childItem 5 = .ok (.aload_n 0, 1) := by decide +kernel
theorem dX7_childItem_6 : decode cX7_childItem 6 = .ok (.aload_n 0, 1) := by decide +kernel
theorem dX7_childItem_7 : decode cX7_childItem 7 = .ok (.getfield 9, 3) := by decide +kernel
theorem dX7_childItem_10 : decode cX7_childItem 10 = .ok (.iconst 2, 1) := by decide +kernel
theorem dX7_childItem_11 : decode cX7_childItem 11 = .ok (.iaload, 1) := by decide +kernel
theorem dX7_childItem_12 : decode cX7_childItem 12 = .ok (.bipush 8, 2) := by decide +kernel
theorem dX7_childItem_14 : decode cX7_childItem 14 = .ok (.if_icmp .ne 7, 3) := by decide +kernel
theorem dX7_childItem_17 : decode cX7_childItem 17 = .ok (.iconst 1, 1) := by decide +kernel
theorem dX7_childItem_18 : decode cX7_childItem 18 = .ok (.goto 4, 3) := by decide +kernel
theorem dX7_childItem_21 : decode cX7_childItem 21 = .ok (.iconst 0, 1) := by decide +kernel
theorem dX7_childItem_22 : decode cX7_childItem 22 = .ok (.putfield 187, 3) := by decide +kernel
theorem dX7_childItem_25 : decode cX7_childItem 25 = .ok (.aload_n 0, 1) := by decide +kernel
theorem dX7_childItem_26 : decode cX7_childItem 26 = .ok (.getfield 187, 3) := by decide +kernel
theorem dX7_childItem_29 : decode cX7_childItem 29 = .ok (.ifCond .eq 4, 3) := by decide +kernel
theorem dX7_childItem_32 : decode cX7_childItem 32 = .ok (.return_, 1) := by decide +kernel
theorem dX7_childItem_33 : decode cX7_childItem 33 = .ok (.aload_n 0, 1) := by decide +kernel
theorem dX7_childItem_34 : decode cX7_childItem 34 = .ok (.invokevirtual 191, 3) := by decide +kernel
theorem dX7_childItem_37 : decode cX7_childItem 37 = .ok (.aload_n 0, 1) := by decide +kernel
theorem dX7_childItem_38 : decode cX7_childItem 38 = .ok (.iconst 0, 1) := by decide +kernel
theorem dX7_childItem_39 : decode cX7_childItem 39 = .ok (.bipush 9, 2) := by decide +kernel
theorem dX7_childItem_41 : decode cX7_childItem 41 = .ok (.invokevirtual 197, 3) := by decide +kernel
theorem dX7_childItem_44 : decode cX7_childItem 44 = .ok (.istore_n 2, 1) := by decide +kernel
theorem dX7_childItem_45 : decode cX7_childItem 45 = .ok (.aload_n 0, 1) := by decide +kernel
theorem dX7_childItem_46 : decode cX7_childItem 46 = .ok (.bipush 6, 2) := by decide +kernel
theorem dX7_childItem_48 : decode cX7_childItem 48 = .ok (.iconst 0, 1) := by decide +kernel
theorem dX7_childItem_49 : decode cX7_childItem 49 = .ok (.bipush 99, 2) := by decide +kernel
theorem dX7_childItem_51 : decode cX7_childItem 51 = .ok (.bipush 50, 2) := by decide +kernel
theorem dX7_childItem_53 : decode cX7_childItem 53 = .ok (.invokevirtual 200, 3) := by decide +kernel
theorem dX7_childItem_56 : decode cX7_childItem 56 = .ok (.istore_n 3, 1) := by decide +kernel
theorem dX7_childItem_57 : decode cX7_childItem 57 = .ok (.aload_n 0, 1) := by decide +kernel
theorem dX7_childItem_58 : decode cX7_childItem 58 = .ok (.getfield 187, 3) := by decide +kernel
theorem dX7_childItem_61 : decode cX7_childItem 61 = .ok (.ifCond .eq 4, 3) := by decide +kernel
theorem dX7_childItem_64 : decode cX7_childItem 64 = .ok (.return_, 1) := by decide +kernel
theorem dX7_childItem_65 : decode cX7_childItem 65 = .ok (.aload_n 0, 1) := by decide +kernel
theorem dX7_childItem_66 : decode cX7_childItem 66 = .ok (.iload_n 1, 1) := by decide +kernel
theorem dX7_childItem_67 : decode cX7_childItem 67 = .ok (.iload_n 2, 1) := by decide +kernel
theorem dX7_childItem_68 : decode cX7_childItem 68 = .ok (.iload_n 3, 1) := by decide +kernel
theorem dX7_childItem_69 : decode cX7_childItem 69 = .ok (.invokevirtual 100, 3) := by decide +kernel
theorem dX7_childItem_72 : decode cX7_childItem 72 = .ok (.istore 4, 2) := by decide +kernel
theorem dX7_childItem_74 : decode cX7_childItem 74 = .ok (.aload_n 0, 1) := by decide +kernel
theorem dX7_childItem_75 : decode cX7_childItem 75 = .ok (.bipush 7, 2) := by decide +kernel
theorem dX7_childItem_77 : decode cX7_childItem 77 = .ok (.invokevirtual 194, 3) := by decide +kernel
theorem dX7_childItem_80 : decode cX7_childItem 80 = .ok (.istore 5, 2) := by decide +kernel
theorem dX7_childItem_82 : decode cX7_childItem 82 = .ok (.iconst 0, 1) := by decide +kernel
theorem dX7_childItem_83 : decode cX7_childItem 83 = .ok (.istore 6, 2) := by decide +kernel
theorem dX7_childItem_85 : decode cX7_childItem 85 = .ok (.iload 6, 2) := by decide +kernel
theorem dX7_childItem_87 : decode cX7_childItem 87 = .ok (.iconst 4, 1) := by decide +kernel
theorem dX7_childItem_88 : decode cX7_childItem 88 = .ok (.if_icmp .ge 52, 3) := by decide +kernel
theorem dX7_childItem_91 : decode cX7_childItem 91 = .ok (.iload 5, 2) := by decide +kernel
theorem dX7_childItem_93 : decode cX7_childItem 93 = .ok (.ifCond .eq 47, 3) := by decide +kernel
theorem dX7_childItem_96 : decode cX7_childItem 96 = .ok (.aload_n 0, 1) := by decide +kernel
theorem dX7_childItem_97 : decode cX7_childItem 97 = .ok (.getfield 187, 3) := by decide +kernel
theorem dX7_childItem_100 : decode cX7_childItem 100 = .ok (.ifCond .ne 40, 3) := by decide +kernel
theorem dX7_childItem_103 : decode cX7_childItem 103 = .ok (.iload 6, 2) := by decide +kernel
theorem dX7_childItem_105 : decode cX7_childItem 105 = .ok (.ifCond .eq 12, 3) := by decide +kernel
theorem dX7_childItem_108 : decode cX7_childItem 108 = .ok (.aload_n 0, 1) := by decide +kernel
theorem dX7_childItem_109 : decode cX7_childItem 109 = .ok (.getfield 181, 3) := by decide +kernel
theorem dX7_childItem_112 : decode cX7_childItem 112 = .ok (.bipush 20, 2) := by decide +kernel
theorem dX7_childItem_114 : decode cX7_childItem 114 = .ok (.if_icmp .ne 26, 3) := by decide +kernel
theorem dX7_childItem_117 : decode cX7_childItem 117 = .ok (.aload_n 0, 1) := by decide +kernel
theorem dX7_childItem_118 : decode cX7_childItem 118 = .ok (.iload 4, 2) := by decide +kernel
theorem dX7_childItem_120 : decode cX7_childItem 120 = .ok (.iconst 4, 1) := by decide +kernel
theorem dX7_childItem_121 : decode cX7_childItem 121 = .ok (.iload 6, 2) := by decide +kernel
theorem dX7_childItem_123 : decode cX7_childItem 123 = .ok (.iadd, 1) := by decide +kernel
theorem dX7_childItem_124 : decode cX7_childItem 124 = .ok (.aload_n 0, 1) := by decide +kernel
theorem dX7_childItem_125 : decode cX7_childItem 125 = .ok (.iconst 0, 1) := by decide +kernel
theorem dX7_childItem_126 : decode cX7_childItem 126 = .ok (.bipush 20, 2) := by decide +kernel
theorem dX7_childItem_128 : decode cX7_childItem 128 = .ok (.invokevirtual 197, 3) := by decide +kernel
theorem dX7_childItem_131 : decode cX7_childItem 131 = .ok (.invokevirtual 95, 3) := by decide +kernel
theorem dX7_childItem_134 : decode cX7_childItem 134 = .ok (.iinc 6 1, 3) := by decide +kernel
theorem dX7_childItem_137 : decode cX7_childItem 137 = .ok (.goto (-52), 3) := by decide +kernel
theorem dX7_childItem_140 : decode cX7_childItem 140 = .ok (.return_, 1) := by decide +kernel
set_option maxRecDepth 20000 in
theorem ggX7_swapItem_X7_number : GoodIn wsX7_swapItem wsX7_number := goodIn_r _ [9, 4, 2, 3, 10, 11, 8, 12, 13, 14, 15, 16, 17, 18, 19, 20, 21, 22, 23, 24, 25, 26, 27, 28, 29, 30, 31, 32, 33, 57, 58, 59, 60, 61, 62, 63, 64, 65, 66, 67, 68, 69, 70, 71] (by decide +kernel) (by decide +kernel)
set_option maxRecDepth 20000 in
theorem gX7_swapItem_X7_number : GoodIn wsX7_swapItem (wsV RX7 197 RX7 yX7_number wsX7_number) := goodIn_app (goodIn_of _ (by decide +kernel)) ggX7_swapItem_X7_number
set_option maxRecDepth 20000 in
theorem ggX7_swapItem_X7_swaps : GoodIn wsX7_swapItem wsX7_swaps := goodIn_r _ [37, 38, 39, 40, 8, 41, 1, 42, 43, 44, 45, 46, 47, 48, 49, 50, 51, 52, 53, 54, 55, 56, 57, 58, 59, 60, 61, 62, 63, 64, 65, 66, 67, 68, 69, 70, 71] (by decide +kernel) (by decide +kernel)
set_option maxRecDepth 20000 in
theorem gX7_swapItem_X7_swaps : GoodIn wsX7_swapItem (wsV RX7 121 RX7 yX7_swaps wsX7_swaps) := goodIn_app (goodIn_of _ (by decide +kernel)) ggX7_swapItem_X7_swaps
theorem dX7_swapItem_0 : decode cX7_swapItem 0 = .ok (.aload_n 0, 1) := by decide +kernel
theorem dX7_swapItem_1 : decode cX7_swapItem 1 = .ok (.iconst 0, 1) := by decide +kernel
theorem dX7_swapItem_2 : decode cX7_swapItem 2 = .ok (.aload_n 0, 1) := by decide +kernel
theorem dX7_swapItem_3 : decode cX7_swapItem 3 = .ok (.getfield 9, 3) := by decide +kernel
theorem dX7_swapItem_6 : decode cX7_swapItem 6 = .ok (.iconst 2, 1) := by decide +kernel
theorem dX7_swapItem_7 : decode cX7_swapItem 7 = .ok (.iaload, 1) := by decide +kernel
theorem dX7_swapItem_8 : decode cX7_swapItem 8 = .ok (.iconst 1, 1) := by decide +kernel
theorem dX7_swapItem_9 : decode cX7_swapItem 9 = .ok (.isub, 1) := by decide +kernel
theorem dX7_swapItem_10 : decode cX7_swapItem 10 = .ok (.invokevirtual 197, 3) := by decide +kernel
theorem dX7_swapItem_13 : decode cX7_swapItem 13 = .ok (.istore_n 1, 1) := by decide +kernel
theorem dX7_swapItem_14 : decode cX7_swapItem 14 = .ok (.aload_n 0, 1) := by decide +kernel
theorem dX7_swapItem_15 : decode cX7_swapItem 15 = .ok (.aload_n 0, 1) := by decide +kernel
theorem dX7_swapItem_16 : decode cX7_swapItem 16 = .ok (.getfield 187, 3) := by decide +kernel
theorem dX7_swapItem_19 : decode cX7_swapItem 19 = .ok (.ifCond .ne 20, 3) := by decide +kernel
theorem dX7_swapItem_22 : decode cX7_swapItem 22 = .ok (.aload_n 0, 1) := by decide +kernel
theorem dX7_swapItem_23 : decode cX7_swapItem 23 = .ok (.getfield 181, 3) := by decide +kernel
theorem dX7_swapItem_26 : decode cX7_swapItem 26 = .ok (.bipush 20, 2) := by decide +kernel
theorem dX7_swapItem_28 : decode cX7_swapItem 28 = .ok (.if_icmp .ne 15, 3) := by decide +kernel
theorem dX7_swapItem_31 : decode cX7_swapItem 31 = .ok (.aload_n 0, 1) := by decide +kernel
theorem dX7_swapItem_32 : decode cX7_swapItem 32 = .ok (.getfield 178, 3) := by decide +kernel
theorem dX7_swapItem_35 : decode cX7_swapItem 35 = .ok (.iload_n 1, 1) := by decide +kernel
theorem dX7_swapItem_36 : decode cX7_swapItem 36 = .ok (.if_icmp .ne 7, 3) := by decide +kernel
theorem dX7_swapItem_39 : decode cX7_swapItem 39 = .ok (.iconst 1, 1) := by decide +kernel
theorem dX7_swapItem_40 : decode cX7_swapItem 40 = .ok (.goto 4, 3) := by decide +kernel
theorem dX7_swapItem_43 : decode cX7_swapItem 43 = .ok (.iconst 0, 1) := by decide +kernel
theorem dX7_swapItem_44 : decode cX7_swapItem 44 = .ok (.putfield 187, 3) := by decide +kernel
theorem dX7_swapItem_47 : decode cX7_swapItem 47 = .ok (.aload_n 0, 1) := by decide +kernel
theorem dX7_swapItem_48 : decode cX7_swapItem 48 = .ok (.iconst 0, 1) := by decide +kernel
theorem dX7_swapItem_49 : decode cX7_swapItem 49 = .ok (.aload_n 0, 1) := by decide +kernel
theorem dX7_swapItem_50 : decode cX7_swapItem 50 = .ok (.getfield 9, 3) := by decide +kernel
theorem dX7_swapItem_53 : decode cX7_swapItem 53 = .ok (.iconst 2, 1) := by decide +kernel
theorem dX7_swapItem_54 : decode cX7_swapItem 54 = .ok (.iaload, 1) := by decide +kernel
theorem dX7_swapItem_55 : decode cX7_swapItem 55 = .ok (.iconst 1, 1) := by decide +kernel
theorem dX7_swapItem_56 : decode cX7_swapItem 56 = .ok (.isub, 1) := by decide +kernel
theorem dX7_swapItem_57 : decode cX7_swapItem 57 = .ok (.invokevirtual 197, 3) := by decide +kernel
theorem dX7_swapItem_60 : decode cX7_swapItem 60 = .ok (.istore_n 2, 1) := by decide +kernel
theorem dX7_swapItem_61 : decode cX7_swapItem 61 = .ok (.aload_n 0, 1) := by decide +kernel
theorem dX7_swapItem_62 : decode cX7_swapItem 62 = .ok (.getfield 187, 3) := by decide +kernel
theorem dX7_swapItem_65 : decode cX7_swapItem 65 = .ok (.ifCond .ne 9, 3) := by decide +kernel
theorem dX7_swapItem_68 : decode cX7_swapItem 68 = .ok (.aload_n 0, 1) := by decide +kernel
theorem dX7_swapItem_69 : decode cX7_swapItem 69 = .ok (.iload_n 1, 1) := by decide +kernel
theorem dX7_swapItem_70 : decode cX7_swapItem 70 = .ok (.iload_n 2, 1) := by decide +kernel
theorem dX7_swapItem_71 : decode cX7_swapItem 71 = .ok (.invokevirtual 121, 3) := by decide +kernel
theorem dX7_swapItem_74 : decode cX7_swapItem 74 = .ok (.return_, 1) := by decide +kernel
set_option maxRecDepth 20000 in
theorem ggX7_item_X7_childItem : GoodIn wsX7_item wsX7_childItem := goodIn_r _ [8, 1, 2, 3, 9, 10, 11, 7, 12, 13, 14, 15, 16, 17, 18, 19, 20, 21, 22, 23, 24, 25, 26, 27, 28, 29, 30, 31, 32, 33, 34, 35, 36, 37, 38, 39, 40, 41, 42, 43, 44, 45, 46, 47, 48, 49, 50, 51, 52, 53, 77, 78, 79, 80, 81, 82, 83, 84, 85, 86, 87, 88, 89, 90, 91] (by decide +kernel) (by decide +kernel)
set_option maxRecDepth 20000 in
theorem gX7_item_X7_childItem : GoodIn wsX7_item (wsV RX7 204 RX7 yX7_childItem wsX7_childItem) := goodIn_app (goodIn_of _ (by decide +kernel)) ggX7_item_X7_childItem
set_option maxRecDepth 20000 in
theorem ggX7_item_X7_passes : GoodIn wsX7_item wsX7_passes := goodIn_r _ [45, 3, 1, 9, 10, 11, 7, 12, 13, 14, 15, 16, 17, 18, 19, 20, 21, 22, 23, 24, 25, 26, 27, 28, 29, 30, 31, 32, 33, 77, 78, 79, 80, 81, 82, 83, 84, 85, 86, 87, 88, 89, 90, 91] (by decide +kernel) (by decide +kernel)
set_option maxRecDepth 20000 in
theorem gX7_item_X7_passes : GoodIn wsX7_item (wsV RX7 194 RX7 yX7_passes wsX7_passes) := goodIn_app (goodIn_of _ (by decide +kernel)) ggX7_item_X7_passes
set_option maxRecDepth 20000 in
theorem ggX7_item_X7_swapItem : GoodIn wsX7_item wsX7_swapItem := goodIn_r _ [57, 2, 3, 1, 15, 34, 35, 36, 7, 37, 22, 23, 24, 9, 10, 11, 12, 13, 14, 16, 17, 18, 19, 20, 21, 25, 26, 27, 28, 29, 30, 31, 32, 33, 58, 59, 60, 61, 62, 63, 64, 65, 66, 67, 68, 69, 50, 51, 52, 53, 70, 71, 72, 73, 74, 75, 76, 77, 78, 79, 80, 81, 82, 83, 84, 85, 86, 87, 88, 89, 90, 91] (by decide +kernel) (by decide +kernel)
set_option maxRecDepth 20000 in
theorem gX7_item_X7_swapItem : GoodIn wsX7_item (wsV RX7 207 RX7 yX7_swapItem wsX7_swapItem) := goodIn_app (goodIn_of _ (by decide +kernel)) ggX7_item_X7_swapItem
theorem dX7_item_0 : decode cX7_item 0 = .ok (.aload_n 0, 1) := by decide +kernel
theorem dX7_item_1 : decode cX7_item 1 = .ok (.getfield 181, 3) := by decide +kernel
theorem dX7_item_4 : decode cX7_item 4 = .ok (.iconst 5, 1) := by decide +kernel
theorem dX7_item_5 : decode cX7_item 5 = .ok (.if_icmp .gt 10, 3) := by decide +kernel
theorem dX7_item_8 : decode cX7_item 8 = .ok (.aload_n 0, 1) := by decide +kernel
theorem dX7_item_9 : decode cX7_item 9 = .ok (.invokevirtual 204, 3) := by decide +kernel
theorem dX7_item_12 : decode cX7_item 12 = .ok (.goto 62, 3) := by decide +kernel
theorem dX7_item_15 : decode cX7_item 15 = .ok (.aload_n 0, 1) := by decide +kernel
theorem dX7_item_16 : decode cX7_item 16 = .ok (.bipush 8, 2) := by decide +kernel
theorem dX7_item_18 : decode cX7_item 18 = .ok (.invokevirtual 194, 3) := by decide +kernel
theorem dX7_item_21 : decode cX7_item 21 = .ok (.ifCond .eq 13, 3) := by decide +kernel
theorem dX7_item_24 : decode cX7_item 24 = .ok (.aload_n 0, 1) := by decide +kernel
theorem dX7_item_25 : decode cX7_item 25 = .ok (.getfield 9, 3) := by decide +kernel
theorem dX7_item_28 : decode cX7_item 28 = .ok (.iconst 1, 1) := by decide +kernel
theorem dX7_item_29 : decode cX7_item 29 = .ok (.iconst 1, 1) := by decide +kernel
theorem dX7_item_30 : decode cX7_item 30 = .ok (.iastore, 1) := by decide +kernel
theorem dX7_item_31 : decode cX7_item 31 = .ok (.goto 43, 3) := by decide +kernel
theorem dX7_item_34 : decode cX7_item 34 = .ok (.aload_n 0, 1) := by decide +kernel
theorem dX7_item_35 : decode cX7_item 35 = .ok (.bipush 9, 2) := by decide +kernel
theorem dX7_item_37 : decode cX7_item 37 = .ok (.invokevirtual 194, 3) := by decide +kernel
theorem dX7_item_40 : decode cX7_item 40 = .ok (.ifCond .eq 13, 3) := by decide +kernel
theorem dX7_item_43 : decode cX7_item 43 = .ok (.aload_n 0, 1) := by decide +kernel
theorem dX7_item_44 : decode cX7_item 44 = .ok (.getfield 9, 3) := by decide +kernel
theorem dX7_item_47 : decode cX7_item 47 = .ok (.iconst 1, 1) := by decide +kernel
theorem dX7_item_48 : decode cX7_item 48 = .ok (.iconst 0, 1) := by decide +kernel
theorem dX7_item_49 : decode cX7_item 49 = .ok (.iastore, 1) := by decide +kernel
theorem dX7_item_50 : decode cX7_item 50 = .ok (.goto 24, 3) := by decide +kernel
theorem dX7_item_53 : decode cX7_item 53 = .ok (.aload_n 0, 1) := by decide +kernel
theorem dX7_item_54 : decode cX7_item 54 = .ok (.bipush 10, 2) := by decide +kernel
theorem dX7_item_56 : decode cX7_item 56 = .ok (.invokevirtual 194, 3) := by decide +kernel
theorem dX7_item_59 : decode cX7_item 59 = .ok (.ifCond .eq 10, 3) := by decide +kernel
theorem dX7_item_62 : decode cX7_item 62 = .ok (.aload_n 0, 1) := by decide +kernel
theorem dX7_item_63 : decode cX7_item 63 = .ok (.invokevirtual 207, 3) := by decide +kernel
theorem dX7_item_66 : decode cX7_item 66 = .ok (.goto 8, 3) := by decide +kernel
theorem dX7_item_69 : decode cX7_item 69 = .ok (.aload_n 0, 1) := by decide +kernel
theorem dX7_item_70 : decode cX7_item 70 = .ok (.iconst 1, 1) := by decide +kernel
theorem dX7_item_71 : decode cX7_item 71 = .ok (.putfield 187, 3) := by decide +kernel
theorem dX7_item_74 : decode cX7_item 74 = .ok (.return_, 1) := by decide +kernel
set_option maxRecDepth 20000 in
theorem ggX7_yard_X7_thinks : GoodIn wsX7_yard wsX7_thinks := goodIn_r _ [10, 11, 12, 13, 14, 9, 15, 93, 94, 95, 96, 97, 98, 99, 100, 101, 102, 103, 104, 105, 106, 107] (by decide +kernel) (by decide +kernel)
set_option maxRecDepth 20000 in
theorem gX7_yard_X7_thinks : GoodIn wsX7_yard (wsV RX7 147 RX7 yX7_thinks wsX7_thinks) := goodIn_app (goodIn_of _ (by decide +kernel)) ggX7_yard_X7_thinks
set_option maxRecDepth 20000 in
theorem ggX7_yard_X7_reads : GoodIn wsX7_yard wsX7_reads := goodIn_r _ [19, 1, 5, 20, 4, 3, 21, 22, 23, 24, 9, 25, 26, 27, 28, 29, 30, 31, 32, 33, 34, 35, 36, 37, 93, 94, 95, 96, 97, 98, 99, 100, 101, 102, 103, 104, 105, 106, 107] (by decide +kernel) (by decide +kernel)
set_option maxRecDepth 20000 in
theorem gX7_yard_X7_reads : GoodIn wsX7_yard (wsV RX7 191 RX7 yX7_reads wsX7_reads) := goodIn_app (goodIn_of _ (by decide +kernel)) ggX7_yard_X7_reads
set_option maxRecDepth 20000 in
theorem ggX7_yard_X7_item : GoodIn wsX7_yard wsX7_item := goodIn_r _ [41, 3, 11, 2, 42, 43, 44, 9, 45, 16, 17, 18, 19, 1, 5, 20, 4, 21, 22, 23, 24, 25, 26, 27, 28, 29, 30, 31, 32, 33, 34, 35, 36, 37, 46, 47, 48, 49, 50, 51, 52, 53, 54, 55, 56, 57, 58, 59, 60, 61, 62, 63, 64, 65, 66, 67, 68, 69, 70, 71, 72, 73, 74, 75, 76, 77, 78, 79, 80, 81, 82, 83, 84, 85, 86, 87, 88, 93, 94, 95, 96, 97, 98, 99, 100, 101, 102, 103, 104, 105, 106, 107] (by decide +kernel) (by decide +kernel)
set_option maxRecDepth 20000 in
theorem gX7_yard_X7_item : GoodIn wsX7_yard (wsV RX7 210 RX7 yX7_item wsX7_item) := goodIn_app (goodIn_of _ (by decide +kernel)) ggX7_yard_X7_item
set_option maxRecDepth 20000 in
theorem ggX7_yard_X7_passes : GoodIn wsX7_yard wsX7_passes := goodIn_r _ [57, 2, 3, 16, 17, 18, 9, 19, 1, 5, 20, 4, 21, 22, 23, 24, 25, 26, 27, 28, 29, 30, 31, 32, 33, 34, 35, 36, 37, 93, 94, 95, 96, 97, 98, 99, 100, 101, 102, 103, 104, 105, 106, 107] (by decide +kernel) (by decide +kernel)
set_option maxRecDepth 20000 in
theorem gX7_yard_X7_passes : GoodIn wsX7_yard (wsV RX7 194 RX7 yX7_passes wsX7_passes) := goodIn_app (goodIn_of _ (by decide +kernel)) ggX7_yard_X7_passes
set_option maxRecDepth 20000 in
theorem ggX7_yard_X7_putsBack : GoodIn wsX7_yard wsX7_putsBack := goodIn_r _ [92, 12, 11, 13, 14, 9, 15, 93, 94, 95, 96, 97, 98, 99, 100, 101, 102, 103, 104, 105, 106, 107] (by decide +kernel) (by decide +kernel)
set_option maxRecDepth 20000 in
theorem gX7_yard_X7_putsBack : GoodIn wsX7_yard (wsV RX7 150 RX7 yX7_putsBack wsX7_putsBack) := goodIn_app (goodIn_of _ (by decide +kernel)) ggX7_yard_X7_putsBack
theorem dX7_yard_0 : decode cX7_yard 0 = .ok (.aload_n 0, 1) := by decide +kernel
theorem dX7_yard_1 : decode cX7_yard 1 = .ok (.invokevirtual 147, 3) := by decide +kernel
theorem dX7_yard_4 : decode cX7_yard 4 = .ok (.aload_n 0, 1) := by decide +kernel
theorem dX7_yard_5 : decode cX7_yard 5 = .ok (.iconst 0, 1) := by decide +kernel
theorem dX7_yard_6 : decode cX7_yard 6 = .ok (.putfield 169, 3) := by decide +kernel
theorem dX7_yard_9 : decode cX7_yard 9 = .ok (.aload_n 0, 1) := by decide +kernel
theorem dX7_yard_10 : decode cX7_yard 10 = .ok (.iconst 0, 1) := by decide +kernel
theorem dX7_yard_11 : decode cX7_yard 11 = .ok (.putfield 187, 3) := by decide +kernel
theorem dX7_yard_14 : decode cX7_yard 14 = .ok (.aload_n 0, 1) := by decide +kernel
theorem dX7_yard_15 : decode cX7_yard 15 = .ok (.invokevirtual 191, 3) := by decide +kernel
theorem dX7_yard_18 : decode cX7_yard 18 = .ok (.aload_n 0, 1) := by decide +kernel
theorem dX7_yard_19 : decode cX7_yard 19 = .ok (.invokevirtual 210, 3) := by decide +kernel
theorem dX7_yard_22 : decode cX7_yard 22 = .ok (.iconst 1, 1) := by decide +kernel
theorem dX7_yard_23 : decode cX7_yard 23 = .ok (.istore_n 1, 1) := by decide +kernel
theorem dX7_yard_24 : decode cX7_yard 24 = .ok (.aload_n 0, 1) := by decide +kernel
theorem dX7_yard_25 : decode cX7_yard 25 = .ok (.bipush 21, 2) := by decide +kernel
theorem dX7_yard_27 : decode cX7_yard 27 = .ok (.invokevirtual 194, 3) := by decide +kernel
theorem dX7_yard_30 : decode cX7_yard 30 = .ok (.ifCond .eq 13, 3) := by decide +kernel
theorem dX7_yard_33 : decode cX7_yard 33 = .ok (.aload_n 0, 1) := by decide +kernel
theorem dX7_yard_34 : decode cX7_yard 34 = .ok (.invokevirtual 210, 3) := by decide +kernel
theorem dX7_yard_37 : decode cX7_yard 37 = .ok (.iinc 1 1, 3) := by decide +kernel
theorem dX7_yard_40 : decode cX7_yard 40 = .ok (.goto (-16), 3) := by decide +kernel
theorem dX7_yard_43 : decode cX7_yard 43 = .ok (.aload_n 0, 1) := by decide +kernel
theorem dX7_yard_44 : decode cX7_yard 44 = .ok (.aload_n 0, 1) := by decide +kernel
theorem dX7_yard_45 : decode cX7_yard 45 = .ok (.getfield 187, 3) := by decide +kernel
theorem dX7_yard_48 : decode cX7_yard 48 = .ok (.ifCond .ne 12, 3) := by decide +kernel
theorem dX7_yard_51 : decode cX7_yard 51 = .ok (.aload_n 0, 1) := by decide +kernel
theorem dX7_yard_52 : decode cX7_yard 52 = .ok (.getfield 181, 3) := by decide +kernel
theorem dX7_yard_55 : decode cX7_yard 55 = .ok (.bipush 22, 2) := by decide +kernel
theorem dX7_yard_57 : decode cX7_yard 57 = .ok (.if_icmp .eq 7, 3) := by decide +kernel
theorem dX7_yard_60 : decode cX7_yard 60 = .ok (.iconst 1, 1) := by decide +kernel
theorem dX7_yard_61 : decode cX7_yard 61 = .ok (.goto 4, 3) := by decide +kernel
theorem dX7_yard_64 : decode cX7_yard 64 = .ok (.iconst 0, 1) := by decide +kernel
theorem dX7_yard_65 : decode cX7_yard 65 = .ok (.putfield 187, 3) := by decide +kernel
theorem dX7_yard_68 : decode cX7_yard 68 = .ok (.aload_n 0, 1) := by decide +kernel
theorem dX7_yard_69 : decode cX7_yard 69 = .ok (.iconst 0, 1) := by decide +kernel
theorem dX7_yard_70 : decode cX7_yard 70 = .ok (.putfield 159, 3) := by decide +kernel
theorem dX7_yard_73 : decode cX7_yard 73 = .ok (.aload_n 0, 1) := by decide +kernel
theorem dX7_yard_74 : decode cX7_yard 74 = .ok (.getfield 187, 3) := by decide +kernel
theorem dX7_yard_77 : decode cX7_yard 77 = .ok (.ifCond .ne 5, 3) := by decide +kernel
theorem dX7_yard_80 : decode cX7_yard 80 = .ok (.iload_n 1, 1) := by decide +kernel
theorem dX7_yard_81 : decode cX7_yard 81 = .ok (.ireturn, 1) := by decide +kernel
theorem dX7_yard_82 : decode cX7_yard 82 = .ok (.aload_n 0, 1) := by decide +kernel
theorem dX7_yard_83 : decode cX7_yard 83 = .ok (.invokevirtual 150, 3) := by decide +kernel
theorem dX7_yard_86 : decode cX7_yard 86 = .ok (.iconst (-1), 1) := by decide +kernel
theorem dX7_yard_87 : decode cX7_yard 87 = .ok (.aload_n 0, 1) := by decide +kernel
theorem dX7_yard_88 : decode cX7_yard 88 = .ok (.getfield 166, 3) := by decide +kernel
theorem dX7_yard_91 : decode cX7_yard 91 = .ok (.isub, 1) := by decide +kernel
theorem dX7_yard_92 : decode cX7_yard 92 = .ok (.ireturn, 1) := by decide +kernel
set_option maxRecDepth 20000 in
theorem ggX7_isSheet_X7_in : GoodIn wsX7_isSheet wsX7_in := goodIn_r _ [4] (by decide +kernel) (by decide +kernel)
set_option maxRecDepth 20000 in
theorem gX7_isSheet_X7_in : GoodIn wsX7_isSheet (va_wsS RX7 41 yX7_in wsX7_in) := goodIn_app (goodIn_of _ (by decide +kernel)) ggX7_isSheet_X7_in
theorem dX7_isSheet_0 : decode cX7_isSheet 0 = .ok (.iload_n 0, 1) := by decide +kernel
theorem dX7_isSheet_1 : decode cX7_isSheet 1 = .ok (.i2l, 1) := by decide +kernel
theorem dX7_isSheet_2 : decode cX7_isSheet 2 = .ok (.iconst 0, 1) := by decide +kernel
theorem dX7_isSheet_3 : decode cX7_isSheet 3 = .ok (.iconst 3, 1) := by decide +kernel
theorem dX7_isSheet_4 : decode cX7_isSheet 4 = .ok (.invokestatic 41, 3) := by decide +kernel
theorem dX7_isSheet_7 : decode cX7_isSheet 7 = .ok (.ireturn, 1) := by decide +kernel
set_option maxRecDepth 20000 in
theorem ggX7_sheet_X7_isSheet : GoodIn wsX7_sheet wsX7_isSheet := goodIn_r _ [9, 10, 11, 8, 12] (by decide +kernel) (by decide +kernel)
set_option maxRecDepth 20000 in
theorem gX7_sheet_X7_isSheet : GoodIn wsX7_sheet (va_wsS RX7 213 yX7_isSheet wsX7_isSheet) := goodIn_app (goodIn_of _ (by decide +kernel)) ggX7_sheet_X7_isSheet
set_option maxRecDepth 20000 in
theorem ggX7_sheet_X7_finds : GoodIn wsX7_sheet wsX7_finds := goodIn_r _ [16, 17, 1, 18, 19, 20, 21, 22, 23, 24, 25, 26, 27, 28, 29, 30, 31, 32] (by decide +kernel) (by decide +kernel)
set_option maxRecDepth 20000 in
theorem gX7_sheet_X7_finds : GoodIn wsX7_sheet (wsV RX7 37 RX7 yX7_finds wsX7_finds) := goodIn_app (goodIn_of _ (by decide +kernel)) ggX7_sheet_X7_finds
theorem dX7_sheet_0 : decode cX7_sheet 0 = .ok (.iload_n 1, 1) := by decide +kernel
theorem dX7_sheet_1 : decode cX7_sheet 1 = .ok (.invokestatic 213, 3) := by decide +kernel
theorem dX7_sheet_4 : decode cX7_sheet 4 = .ok (.ifCond .eq 25, 3) := by decide +kernel
theorem dX7_sheet_7 : decode cX7_sheet 7 = .ok (.iload_n 2, 1) := by decide +kernel
theorem dX7_sheet_8 : decode cX7_sheet 8 = .ok (.ifCond .eq 28, 3) := by decide +kernel
theorem dX7_sheet_11 : decode cX7_sheet 11 = .ok (.iload_n 2, 1) := by decide +kernel
theorem dX7_sheet_12 : decode cX7_sheet 12 = .ok (.bipush 8, 2) := by decide +kernel
theorem dX7_sheet_14 : decode cX7_sheet 14 = .ok (.if_icmp .eq 22, 3) := by decide +kernel
theorem dX7_sheet_17 : decode cX7_sheet 17 = .ok (.iload_n 2, 1) := by decide +kernel
theorem dX7_sheet_18 : decode cX7_sheet 18 = .ok (.bipush 16, 2) := by decide +kernel
theorem dX7_sheet_20 : decode cX7_sheet 20 = .ok (.if_icmp .eq 16, 3) := by decide +kernel
theorem dX7_sheet_23 : decode cX7_sheet 23 = .ok (.iload_n 2, 1) := by decide +kernel
theorem dX7_sheet_24 : decode cX7_sheet 24 = .ok (.bipush 64, 2) := by decide +kernel
theorem dX7_sheet_26 : decode cX7_sheet 26 = .ok (.if_icmp .eq 10, 3) := by decide +kernel
theorem dX7_sheet_29 : decode cX7_sheet 29 = .ok (.aload_n 0, 1) := by decide +kernel
theorem dX7_sheet_30 : decode cX7_sheet 30 = .ok (.ldc 35, 2) := by decide +kernel
theorem dX7_sheet_32 : decode cX7_sheet 32 = .ok (.invokevirtual 37, 3) := by decide +kernel
theorem dX7_sheet_35 : decode cX7_sheet 35 = .ok (.ireturn, 1) := by decide +kernel
theorem dX7_sheet_36 : decode cX7_sheet 36 = .ok (.iload_n 3, 1) := by decide +kernel
theorem dX7_sheet_37 : decode cX7_sheet 37 = .ok (.ifCond .ge 10, 3) := by decide +kernel
theorem dX7_sheet_40 : decode cX7_sheet 40 = .ok (.aload_n 0, 1) := by decide +kernel
theorem dX7_sheet_41 : decode cX7_sheet 41 = .ok (.ldc 216, 2) := by decide +kernel
theorem dX7_sheet_43 : decode cX7_sheet 43 = .ok (.invokevirtual 37, 3) := by decide +kernel
theorem dX7_sheet_46 : decode cX7_sheet 46 = .ok (.ireturn, 1) := by decide +kernel
theorem dX7_sheet_47 : decode cX7_sheet 47 = .ok (.iload_n 3, 1) := by decide +kernel
theorem dX7_sheet_48 : decode cX7_sheet 48 = .ok (.bipush 40, 2) := by decide +kernel
theorem dX7_sheet_50 : decode cX7_sheet 50 = .ok (.if_icmp .le 10, 3) := by decide +kernel
theorem dX7_sheet_53 : decode cX7_sheet 53 = .ok (.aload_n 0, 1) := by decide +kernel
theorem dX7_sheet_54 : decode cX7_sheet 54 = .ok (.ldc 35, 2) := by decide +kernel
theorem dX7_sheet_56 : decode cX7_sheet 56 = .ok (.invokevirtual 37, 3) := by decide +kernel
theorem dX7_sheet_59 : decode cX7_sheet 59 = .ok (.ireturn, 1) := by decide +kernel
theorem dX7_sheet_60 : decode cX7_sheet 60 = .ok (.aload_n 0, 1) := by decide +kernel
theorem dX7_sheet_61 : decode cX7_sheet 61 = .ok (.getfield 25, 3) := by decide +kernel
theorem dX7_sheet_64 : decode cX7_sheet 64 = .ok (.iload_n 1, 1) := by decide +kernel
theorem dX7_sheet_65 : decode cX7_sheet 65 = .ok (.iload_n 2, 1) := by decide +kernel
theorem dX7_sheet_66 : decode cX7_sheet 66 = .ok (.iastore, 1) := by decide +kernel
theorem dX7_sheet_67 : decode cX7_sheet 67 = .ok (.aload_n 0, 1) := by decide +kernel
theorem dX7_sheet_68 : decode cX7_sheet 68 = .ok (.getfield 28, 3) := by decide +kernel
theorem dX7_sheet_71 : decode cX7_sheet 71 = .ok (.iload_n 1, 1) := by decide +kernel
theorem dX7_sheet_72 : decode cX7_sheet 72 = .ok (.iload_n 2, 1) := by decide +kernel
theorem dX7_sheet_73 : decode cX7_sheet 73 = .ok (.ifCond .ne 7, 3) := by decide +kernel
theorem dX7_sheet_76 : decode cX7_sheet 76 = .ok (.iconst 0, 1) := by decide +kernel
theorem dX7_sheet_77 : decode cX7_sheet 77 = .ok (.goto 4, 3) := by decide +kernel
theorem dX7_sheet_80 : decode cX7_sheet 80 = .ok (.iload_n 3, 1) := by decide +kernel
theorem dX7_sheet_81 : decode cX7_sheet 81 = .ok (.iastore, 1) := by decide +kernel
theorem dX7_sheet_82 : decode cX7_sheet 82 = .ok (.iconst 0, 1) := by decide +kernel
theorem dX7_sheet_83 : decode cX7_sheet 83 = .ok (.istore 4, 2) := by decide +kernel
theorem dX7_sheet_85 : decode cX7_sheet 85 = .ok (.iload 4, 2) := by decide +kernel
theorem dX7_sheet_87 : decode cX7_sheet 87 = .ok (.bipush 40, 2) := by decide +kernel
theorem dX7_sheet_89 : decode cX7_sheet 89 = .ok (.if_icmp .ge 22, 3) := by decide +kernel
theorem dX7_sheet_92 : decode cX7_sheet 92 = .ok (.aload_n 0, 1) := by decide +kernel
theorem dX7_sheet_93 : decode cX7_sheet 93 = .ok (.getfield 31, 3) := by decide +kernel
theorem dX7_sheet_96 : decode cX7_sheet 96 = .ok (.bipush 40, 2) := by decide +kernel
theorem dX7_sheet_98 : decode cX7_sheet 98 = .ok (.iload_n 1, 1) := by decide +kernel
theorem dX7_sheet_99 : decode cX7_sheet 99 = .ok (.imul, 1) := by decide +kernel
theorem dX7_sheet_100 : decode cX7_sheet 100 = .ok (.iload 4, 2) := by decide +kernel
theorem dX7_sheet_102 : decode cX7_sheet 102 = .ok (.iadd, 1) := by decide +kernel
theorem dX7_sheet_103 : decode cX7_sheet 103 = .ok (.lconst 0, 1) := by decide +kernel
theorem dX7_sheet_104 : decode cX7_sheet 104 = .ok (.lastore, 1) := by decide +kernel
theorem dX7_sheet_105 : decode cX7_sheet 105 = .ok (.iinc 4 1, 3) := by decide +kernel
theorem dX7_sheet_108 : decode cX7_sheet 108 = .ok (.goto (-23), 3) := by decide +kernel
theorem dX7_sheet_111 : decode cX7_sheet 111 = .ok (.aload_n 0, 1) := by decide +kernel
theorem dX7_sheet_112 : decode cX7_sheet 112 = .ok (.getfield 28, 3) := by decide +kernel
theorem dX7_sheet_115 : decode cX7_sheet 115 = .ok (.iload_n 1, 1) := by decide +kernel
theorem dX7_sheet_116 : decode cX7_sheet 116 = .ok (.iaload, 1) := by decide +kernel
theorem dX7_sheet_117 : decode cX7_sheet 117 = .ok (.ireturn, 1) := by decide +kernel
set_option maxRecDepth 20000 in
theorem ggX7_notThere_X7_isSheet : GoodIn wsX7_notThere wsX7_isSheet := goodIn_r _ [7, 8, 9, 6, 10] (by decide +kernel) (by decide +kernel)
set_option maxRecDepth 20000 in
theorem gX7_notThere_X7_isSheet : GoodIn wsX7_notThere (va_wsS RX7 213 yX7_isSheet wsX7_isSheet) := goodIn_app (goodIn_of _ (by decide +kernel)) ggX7_notThere_X7_isSheet
theorem dX7_notThere_0 : decode cX7_notThere 0 = .ok (.iload_n 1, 1) := by decide +kernel
theorem dX7_notThere_1 : decode cX7_notThere 1 = .ok (.invokestatic 213, 3) := by decide +kernel
theorem dX7_notThere_4 : decode cX7_notThere 4 = .ok (.ifCond .ne 8, 3) := by decide +kernel
theorem dX7_notThere_7 : decode cX7_notThere 7 = .ok (.ldc 35, 2) := by decide +kernel
theorem dX7_notThere_9 : decode cX7_notThere 9 = .ok (.goto 18, 3) := by decide +kernel
theorem dX7_notThere_12 : decode cX7_notThere 12 = .ok (.aload_n 0, 1) := by decide +kernel
theorem dX7_notThere_13 : decode cX7_notThere 13 = .ok (.getfield 25, 3) := by decide +kernel
theorem dX7_notThere_16 : decode cX7_notThere 16 = .ok (.iload_n 1, 1) := by decide +kernel
theorem dX7_notThere_17 : decode cX7_notThere 17 = .ok (.iaload, 1) := by decide +kernel
theorem dX7_notThere_18 : decode cX7_notThere 18 = .ok (.ifCond .ne 8, 3) := by decide +kernel
theorem dX7_notThere_21 : decode cX7_notThere 21 = .ok (.ldc 217, 2) := by decide +kernel
theorem dX7_notThere_23 : decode cX7_notThere 23 = .ok (.goto 4, 3) := by decide +kernel
theorem dX7_notThere_26 : decode cX7_notThere 26 = .ok (.iconst 0, 1) := by decide +kernel
theorem dX7_notThere_27 : decode cX7_notThere 27 = .ok (.ireturn, 1) := by decide +kernel
theorem dX7_cutTo_0 : decode cX7_cutTo 0 = .ok (.iload_n 0, 1) := by decide +kernel
theorem dX7_cutTo_1 : decode cX7_cutTo 1 = .ok (.bipush 8, 2) := by decide +kernel
theorem dX7_cutTo_3 : decode cX7_cutTo 3 = .ok (.if_icmp .ne 10, 3) := by decide +kernel
theorem dX7_cutTo_6 : decode cX7_cutTo 6 = .ok (.lload_n 1, 1) := by decide +kernel
theorem dX7_cutTo_7 : decode cX7_cutTo 7 = .ok (.l2i, 1) := by decide +kernel
theorem dX7_cutTo_8 : decode cX7_cutTo 8 = .ok (.i2b, 1) := by decide +kernel
theorem dX7_cutTo_9 : decode cX7_cutTo 9 = .ok (.i2l, 1) := by decide +kernel
theorem dX7_cutTo_10 : decode cX7_cutTo 10 = .ok (.goto 17, 3) := by decide +kernel
theorem dX7_cutTo_13 : decode cX7_cutTo 13 = .ok (.iload_n 0, 1) := by decide +kernel
theorem dX7_cutTo_14 : decode cX7_cutTo 14 = .ok (.bipush 16, 2) := by decide +kernel
theorem dX7_cutTo_16 : decode cX7_cutTo 16 = .ok (.if_icmp .ne 10, 3) := by decide +kernel
theorem dX7_cutTo_19 : decode cX7_cutTo 19 = .ok (.lload_n 1, 1) := by decide +kernel
theorem dX7_cutTo_20 : decode cX7_cutTo 20 = .ok (.l2i, 1) := by decide +kernel
theorem dX7_cutTo_21 : decode cX7_cutTo 21 = .ok (.i2s, 1) := by decide +kernel
theorem dX7_cutTo_22 : decode cX7_cutTo 22 = .ok (.i2l, 1) := by decide +kernel
theorem dX7_cutTo_23 : decode cX7_cutTo 23 = .ok (.goto 4, 3) := by decide +kernel
theorem dX7_cutTo_26 : decode cX7_cutTo 26 = .ok (.lload_n 1, 1) := by decide +kernel
theorem dX7_cutTo_27 : decode cX7_cutTo 27 = .ok (.lreturn, 1) := by decide +kernel
set_option maxRecDepth 20000 in
theorem ggX7_write_X7_notThere : GoodIn wsX7_write wsX7_notThere := goodIn_r _ [9, 2, 4, 10, 11, 12, 8, 13, 14, 15, 16, 25, 26, 27, 28, 29, 30, 31, 32, 33, 34, 35, 36, 37, 38, 39] (by decide +kernel) (by decide +kernel)
set_option maxRecDepth 20000 in
theorem gX7_write_X7_notThere : GoodIn wsX7_write (wsV RX7 218 RX7 yX7_notThere wsX7_notThere) := goodIn_app (goodIn_of _ (by decide +kernel)) ggX7_write_X7_notThere
set_option maxRecDepth 20000 in
theorem ggX7_write_X7_in : GoodIn wsX7_write wsX7_in := goodIn_r _ [16] (by decide +kernel) (by decide +kernel)
set_option maxRecDepth 20000 in
theorem gX7_write_X7_in : GoodIn wsX7_write (va_wsS RX7 41 yX7_in wsX7_in) := goodIn_app (goodIn_of _ (by decide +kernel)) ggX7_write_X7_in
set_option maxRecDepth 20000 in
theorem ggX7_write_X7_finds : GoodIn wsX7_write wsX7_finds := goodIn_r _ [20, 21, 2, 25, 26, 27, 28, 29, 30, 31, 32, 33, 34, 35, 36, 37, 38, 39] (by decide +kernel) (by decide +kernel)
set_option maxRecDepth 20000 in
theorem gX7_write_X7_finds : GoodIn wsX7_write (wsV RX7 37 RX7 yX7_finds wsX7_finds) := goodIn_app (goodIn_of _ (by decide +kernel)) ggX7_write_X7_finds
set_option maxRecDepth 20000 in
theorem ggX7_write_X7_cutTo : GoodIn wsX7_write wsX7_cutTo := goodIn_r _ [24] (by decide +kernel) (by decide +kernel)
set_option maxRecDepth 20000 in
theorem gX7_write_X7_cutTo : GoodIn wsX7_write (va_wsS RX7 221 yX7_cutTo wsX7_cutTo) := goodIn_app (goodIn_of _ (by decide +kernel)) ggX7_write_X7_cutTo
theorem dX7_write_0 : decode cX7_write 0 = .ok (.aload_n 0, 1) := by decide +kernel
theorem dX7_write_1 : decode cX7_write 1 = .ok (.iload_n 1, 1) := by decide +kernel
theorem dX7_write_2 : decode cX7_write 2 = .ok (.invokevirtual 218, 3) := by decide +kernel
theorem dX7_write_5 : decode cX7_write 5 = .ok (.istore 5, 2) := by decide +kernel
theorem dX7_write_7 : decode cX7_write 7 = .ok (.iload 5, 2) := by decide +kernel
theorem dX7_write_9 : decode cX7_write 9 = .ok (.ifCond .ne 24, 3) := by decide +kernel
theorem dX7_write_12 : decode cX7_write 12 = .ok (.iload_n 2, 1) := by decide +kernel
theorem dX7_write_13 : decode cX7_write 13 = .ok (.i2l, 1) := by decide +kernel
theorem dX7_write_14 : decode cX7_write 14 = .ok (.iconst 0, 1) := by decide +kernel
theorem dX7_write_15 : decode cX7_write 15 = .ok (.aload_n 0, 1) := by decide +kernel
theorem dX7_write_16 : decode cX7_write 16 = .ok (.getfield 28, 3) := by decide +kernel
theorem dX7_write_19 : decode cX7_write 19 = .ok (.iload_n 1, 1) := by decide +kernel
theorem dX7_write_20 : decode cX7_write 20 = .ok (.iaload, 1) := by decide +kernel
theorem dX7_write_21 : decode cX7_write 21 = .ok (.iconst 1, 1) := by decide +kernel
theorem dX7_write_22 : decode cX7_write 22 = .ok (.isub, 1) := by decide +kernel
theorem dX7_write_23 : decode cX7_write 23 = .ok (.invokestatic 41, 3) := by decide +kernel
theorem dX7_write_26 : decode cX7_write 26 = .ok (.ifCond .ne 7, 3) := by decide +kernel
theorem dX7_write_29 : decode cX7_write 29 = .ok (.ldc 35, 2) := by decide +kernel
theorem dX7_write_31 : decode cX7_write 31 = .ok (.istore 5, 2) := by decide +kernel
theorem dX7_write_33 : decode cX7_write 33 = .ok (.iload 5, 2) := by decide +kernel
theorem dX7_write_35 : decode cX7_write 35 = .ok (.ifCond .eq 11, 3) := by decide +kernel
theorem dX7_write_38 : decode cX7_write 38 = .ok (.aload_n 0, 1) := by decide +kernel
theorem dX7_write_39 : decode cX7_write 39 = .ok (.iload 5, 2) := by decide +kernel
theorem dX7_write_41 : decode cX7_write 41 = .ok (.invokevirtual 37, 3) := by decide +kernel
theorem dX7_write_44 : decode cX7_write 44 = .ok (.i2l, 1) := by decide +kernel
theorem dX7_write_45 : decode cX7_write 45 = .ok (.lreturn, 1) := by decide +kernel
theorem dX7_write_46 : decode cX7_write 46 = .ok (.aload_n 0, 1) := by decide +kernel
theorem dX7_write_47 : decode cX7_write 47 = .ok (.getfield 31, 3) := by decide +kernel
theorem dX7_write_50 : decode cX7_write 50 = .ok (.bipush 40, 2) := by decide +kernel
theorem dX7_write_52 : decode cX7_write 52 = .ok (.iload_n 1, 1) := by decide +kernel
theorem dX7_write_53 : decode cX7_write 53 = .ok (.imul, 1) := by decide +kernel
theorem dX7_write_54 : decode cX7_write 54 = .ok (.iload_n 2, 1) := by decide +kernel
theorem dX7_write_55 : decode cX7_write 55 = .ok (.iadd, 1) := by decide +kernel
theorem dX7_write_56 : decode cX7_write 56 = .ok (.laload, 1) := by decide +kernel
theorem dX7_write_57 : decode cX7_write 57 = .ok (.lstore 6, 2) := by decide +kernel
theorem dX7_write_59 : decode cX7_write 59 = .ok (.aload_n 0, 1) := by decide +kernel
theorem dX7_write_60 : decode cX7_write 60 = .ok (.getfield 31, 3) := by decide +kernel
theorem dX7_write_63 : decode cX7_write 63 = .ok (.bipush 40, 2) := by decide +kernel
theorem dX7_write_65 : decode cX7_write 65 = .ok (.iload_n 1, 1) := by decide +kernel
theorem dX7_write_66 : decode cX7_write 66 = .ok (.imul, 1) := by decide +kernel
theorem dX7_write_67 : decode cX7_write 67 = .ok (.iload_n 2, 1) := by decide +kernel
theorem dX7_write_68 : decode cX7_write 68 = .ok (.iadd, 1) := by decide +kernel
theorem dX7_write_69 : decode cX7_write 69 = .ok (.aload_n 0, 1) := by decide +kernel
theorem dX7_write_70 : decode cX7_write 70 = .ok (.getfield 25, 3) := by decide +kernel
theorem dX7_write_73 : decode cX7_write 73 = .ok (.iload_n 1, 1) := by decide +kernel
theorem dX7_write_74 : decode cX7_write 74 = .ok (.iaload, 1) := by decide +kernel
theorem dX7_write_75 : decode cX7_write 75 = .ok (.lload_n 3, 1) := by decide +kernel
theorem dX7_write_76 : decode cX7_write 76 = .ok (.invokestatic 221, 3) := by decide +kernel
theorem dX7_write_79 : decode cX7_write 79 = .ok (.lastore, 1) := by decide +kernel
theorem dX7_write_80 : decode cX7_write 80 = .ok (.lload 6, 2) := by decide +kernel
theorem dX7_write_82 : decode cX7_write 82 = .ok (.lreturn, 1) := by decide +kernel
set_option maxRecDepth 20000 in
theorem ggX7_notCopied_X7_isSheet : GoodIn wsX7_notCopied wsX7_isSheet := goodIn_r _ [9, 10, 11, 8, 12] (by decide +kernel) (by decide +kernel)
set_option maxRecDepth 20000 in
theorem gX7_notCopied_X7_isSheet : GoodIn wsX7_notCopied (va_wsS RX7 213 yX7_isSheet wsX7_isSheet) := goodIn_app (goodIn_of _ (by decide +kernel)) ggX7_notCopied_X7_isSheet
theorem dX7_notCopied_0 : decode cX7_notCopied 0 = .ok (.iload_n 1, 1) := by decide +kernel
theorem dX7_notCopied_1 : decode cX7_notCopied 1 = .ok (.invokestatic 213, 3) := by decide +kernel
theorem dX7_notCopied_4 : decode cX7_notCopied 4 = .ok (.ifCond .eq 10, 3) := by decide +kernel
theorem dX7_notCopied_7 : decode cX7_notCopied 7 = .ok (.iload_n 3, 1) := by decide +kernel
theorem dX7_notCopied_8 : decode cX7_notCopied 8 = .ok (.invokestatic 213, 3) := by decide +kernel
theorem dX7_notCopied_11 : decode cX7_notCopied 11 = .ok (.ifCond .ne 6, 3) := by decide +kernel
theorem dX7_notCopied_14 : decode cX7_notCopied 14 = .ok (.ldc 35, 2) := by decide +kernel
theorem dX7_notCopied_16 : decode cX7_notCopied 16 = .ok (.ireturn, 1) := by decide +kernel
theorem dX7_notCopied_17 : decode cX7_notCopied 17 = .ok (.aload_n 0, 1) := by decide +kernel
theorem dX7_notCopied_18 : decode cX7_notCopied 18 = .ok (.getfield 25, 3) := by decide +kernel
theorem dX7_notCopied_21 : decode cX7_notCopied 21 = .ok (.iload_n 1, 1) := by decide +kernel
theorem dX7_notCopied_22 : decode cX7_notCopied 22 = .ok (.iaload, 1) := by decide +kernel
theorem dX7_notCopied_23 : decode cX7_notCopied 23 = .ok (.ifCond .eq 12, 3) := by decide +kernel
theorem dX7_notCopied_26 : decode cX7_notCopied 26 = .ok (.aload_n 0, 1) := by decide +kernel
theorem dX7_notCopied_27 : decode cX7_notCopied 27 = .ok (.getfield 25, 3) := by decide +kernel
theorem dX7_notCopied_30 : decode cX7_notCopied 30 = .ok (.iload_n 3, 1) := by decide +kernel
theorem dX7_notCopied_31 : decode cX7_notCopied 31 = .ok (.iaload, 1) := by decide +kernel
theorem dX7_notCopied_32 : decode cX7_notCopied 32 = .ok (.ifCond .ne 6, 3) := by decide +kernel
theorem dX7_notCopied_35 : decode cX7_notCopied 35 = .ok (.ldc 217, 2) := by decide +kernel
theorem dX7_notCopied_37 : decode cX7_notCopied 37 = .ok (.ireturn, 1) := by decide +kernel
theorem dX7_notCopied_38 : decode cX7_notCopied 38 = .ok (.aload_n 0, 1) := by decide +kernel
theorem dX7_notCopied_39 : decode cX7_notCopied 39 = .ok (.getfield 25, 3) := by decide +kernel
theorem dX7_notCopied_42 : decode cX7_notCopied 42 = .ok (.iload_n 1, 1) := by decide +kernel
theorem dX7_notCopied_43 : decode cX7_notCopied 43 = .ok (.iaload, 1) := by decide +kernel
theorem dX7_notCopied_44 : decode cX7_notCopied 44 = .ok (.aload_n 0, 1) := by decide +kernel
theorem dX7_notCopied_45 : decode cX7_notCopied 45 = .ok (.getfield 25, 3) := by decide +kernel
theorem dX7_notCopied_48 : decode cX7_notCopied 48 = .ok (.iload_n 3, 1) := by decide +kernel
theorem dX7_notCopied_49 : decode cX7_notCopied 49 = .ok (.iaload, 1) := by decide +kernel
theorem dX7_notCopied_50 : decode cX7_notCopied 50 = .ok (.if_icmp .eq 6, 3) := by decide +kernel
theorem dX7_notCopied_53 : decode cX7_notCopied 53 = .ok (.ldc 110, 2) := by decide +kernel
theorem dX7_notCopied_55 : decode cX7_notCopied 55 = .ok (.ireturn, 1) := by decide +kernel
theorem dX7_notCopied_56 : decode cX7_notCopied 56 = .ok (.iload 5, 2) := by decide +kernel
theorem dX7_notCopied_58 : decode cX7_notCopied 58 = .ok (.ifCond .lt 43, 3) := by decide +kernel
theorem dX7_notCopied_61 : decode cX7_notCopied 61 = .ok (.iload_n 2, 1) := by decide +kernel
theorem dX7_notCopied_62 : decode cX7_notCopied 62 = .ok (.ifCond .lt 39, 3) := by decide +kernel
theorem dX7_notCopied_65 : decode cX7_notCopied 65 = .ok (.iload 4, 2) := by decide +kernel
theorem dX7_notCopied_67 : decode cX7_notCopied 67 = .ok (.ifCond .lt 34, 3) := by decide +kernel
theorem dX7_notCopied_70 : decode cX7_notCopied 70 = .ok (.iload 5, 2) := by decide +kernel
theorem dX7_notCopied_72 : decode cX7_notCopied 72 = .ok (.aload_n 0, 1) := by decide +kernel
theorem dX7_notCopied_73 : decode cX7_notCopied 73 = .ok (.getfield 28, 3) := by decide +kernel
theorem dX7_notCopied_76 : decode cX7_notCopied 76 = .ok (.iload_n 1, 1) := by decide +kernel
theorem dX7_notCopied_77 : decode cX7_notCopied 77 = .ok (.iaload, 1) := by decide +kernel
theorem dX7_notCopied_78 : decode cX7_notCopied 78 = .ok (.iload_n 2, 1) := by decide +kernel
theorem dX7_notCopied_79 : decode cX7_notCopied 79 = .ok (.isub, 1) := by decide +kernel
theorem dX7_notCopied_80 : decode cX7_notCopied 80 = .ok (.if_icmp .gt 21, 3) := by decide +kernel
theorem dX7_notCopied_83 : decode cX7_notCopied 83 = .ok (.iload 5, 2) := by decide +kernel
theorem dX7_notCopied_85 : decode cX7_notCopied 85 = .ok (.aload_n 0, 1) := by decide +kernel
theorem dX7_notCopied_86 : decode cX7_notCopied 86 = .ok (.getfield 28, 3) := by decide +kernel
theorem dX7_notCopied_89 : decode cX7_notCopied 89 = .ok (.iload_n 3, 1) := by decide +kernel
theorem dX7_notCopied_90 : decode cX7_notCopied 90 = .ok (.iaload, 1) := by decide +kernel
theorem dX7_notCopied_91 : decode cX7_notCopied 91 = .ok (.iload 4, 2) := by decide +kernel
theorem dX7_notCopied_93 : decode cX7_notCopied 93 = .ok (.isub, 1) := by decide +kernel
theorem dX7_notCopied_94 : decode cX7_notCopied 94 = .ok (.if_icmp .gt 7, 3) := by decide +kernel
theorem dX7_notCopied_97 : decode cX7_notCopied 97 = .ok (.iconst 1, 1) := by decide +kernel
theorem dX7_notCopied_98 : decode cX7_notCopied 98 = .ok (.goto 4, 3) := by decide +kernel
theorem dX7_notCopied_101 : decode cX7_notCopied 101 = .ok (.iconst 0, 1) := by decide +kernel
theorem dX7_notCopied_102 : decode cX7_notCopied 102 = .ok (.istore 6, 2) := by decide +kernel
theorem dX7_notCopied_104 : decode cX7_notCopied 104 = .ok (.iload 6, 2) := by decide +kernel
theorem dX7_notCopied_106 : decode cX7_notCopied 106 = .ok (.ifCond .eq 7, 3) := by decide +kernel
theorem dX7_notCopied_109 : decode cX7_notCopied 109 = .ok (.iconst 0, 1) := by decide +kernel
theorem dX7_notCopied_110 : decode cX7_notCopied 110 = .ok (.goto 5, 3) := by decide +kernel
theorem dX7_notCopied_113 : decode cX7_notCopied 113 = .ok (.ldc 35, 2) := by decide +kernel
theorem dX7_notCopied_115 : decode cX7_notCopied 115 = .ok (.ireturn, 1) := by decide +kernel
set_option maxRecDepth 20000 in
theorem ggX7_copy_X7_notCopied : GoodIn wsX7_copy wsX7_notCopied := goodIn_r _ [6, 7, 8, 9, 10, 11, 12, 13, 5, 14, 15, 16, 17, 23, 24, 25, 26, 27, 28, 29, 30, 31, 32, 33, 34, 35, 36, 37] (by decide +kernel) (by decide +kernel)
set_option maxRecDepth 20000 in
theorem gX7_copy_X7_notCopied : GoodIn wsX7_copy (wsV RX7 225 RX7 yX7_notCopied wsX7_notCopied) := goodIn_app (goodIn_of _ (by decide +kernel)) ggX7_copy_X7_notCopied
set_option maxRecDepth 20000 in
theorem ggX7_copy_X7_finds : GoodIn wsX7_copy wsX7_finds := goodIn_r _ [21, 22, 7, 23, 24, 25, 26, 27, 28, 29, 30, 31, 32, 33, 34, 35, 36, 37] (by decide +kernel) (by decide +kernel)
set_option maxRecDepth 20000 in
theorem gX7_copy_X7_finds : GoodIn wsX7_copy (wsV RX7 37 RX7 yX7_finds wsX7_finds) := goodIn_app (goodIn_of _ (by decide +kernel)) ggX7_copy_X7_finds
theorem dX7_copy_0 : decode cX7_copy 0 = .ok (.aload_n 0, 1) := by decide +kernel
theorem dX7_copy_1 : decode cX7_copy 1 = .ok (.iload_n 1, 1) := by decide +kernel
theorem dX7_copy_2 : decode cX7_copy 2 = .ok (.iload_n 2, 1) := by decide +kernel
theorem dX7_copy_3 : decode cX7_copy 3 = .ok (.iload_n 3, 1) := by decide +kernel
theorem dX7_copy_4 : decode cX7_copy 4 = .ok (.iload 4, 2) := by decide +kernel
theorem dX7_copy_6 : decode cX7_copy 6 = .ok (.iload 5, 2) := by decide +kernel
theorem dX7_copy_8 : decode cX7_copy 8 = .ok (.invokevirtual 225, 3) := by decide +kernel
theorem dX7_copy_11 : decode cX7_copy 11 = .ok (.istore 6, 2) := by decide +kernel
theorem dX7_copy_13 : decode cX7_copy 13 = .ok (.iload 6, 2) := by decide +kernel
theorem dX7_copy_15 : decode cX7_copy 15 = .ok (.ifCond .eq 10, 3) := by decide +kernel
theorem dX7_copy_18 : decode cX7_copy 18 = .ok (.aload_n 0, 1) := by decide +kernel
theorem dX7_copy_19 : decode cX7_copy 19 = .ok (.iload 6, 2) := by decide +kernel
theorem dX7_copy_21 : decode cX7_copy 21 = .ok (.invokevirtual 37, 3) := by decide +kernel
theorem dX7_copy_24 : decode cX7_copy 24 = .ok (.ireturn, 1) := by decide +kernel
theorem dX7_copy_25 : decode cX7_copy 25 = .ok (.iconst 0, 1) := by decide +kernel
theorem dX7_copy_26 : decode cX7_copy 26 = .ok (.istore 7, 2) := by decide +kernel
theorem dX7_copy_28 : decode cX7_copy 28 = .ok (.iload 7, 2) := by decide +kernel
theorem dX7_copy_30 : decode cX7_copy 30 = .ok (.iload 5, 2) := by decide +kernel
theorem dX7_copy_32 : decode cX7_copy 32 = .ok (.if_icmp .ge 58, 3) := by decide +kernel
theorem dX7_copy_35 : decode cX7_copy 35 = .ok (.iload_n 2, 1) := by decide +kernel
theorem dX7_copy_36 : decode cX7_copy 36 = .ok (.iload 4, 2) := by decide +kernel
theorem dX7_copy_38 : decode cX7_copy 38 = .ok (.if_icmp .ge 13, 3) := by decide +kernel
theorem dX7_copy_41 : decode cX7_copy 41 = .ok (.iload 5, 2) := by decide +kernel
theorem dX7_copy_43 : decode cX7_copy 43 = .ok (.iconst 1, 1) := by decide +kernel
theorem dX7_copy_44 : decode cX7_copy 44 = .ok (.isub, 1) := by decide +kernel
theorem dX7_copy_45 : decode cX7_copy 45 = .ok (.iload 7, 2) := by decide +kernel
theorem dX7_copy_47 : decode cX7_copy 47 = .ok (.isub, 1) := by decide +kernel
theorem dX7_copy_48 : decode cX7_copy 48 = .ok (.goto 5, 3) := by decide +kernel
theorem dX7_copy_51 : decode cX7_copy 51 = .ok (.iload 7, 2) := by decide +kernel
theorem dX7_copy_53 : decode cX7_copy 53 = .ok (.istore 8, 2) := by decide +kernel
theorem dX7_copy_55 : decode cX7_copy 55 = .ok (.aload_n 0, 1) := by decide +kernel
theorem dX7_copy_56 : decode cX7_copy 56 = .ok (.getfield 31, 3) := by decide +kernel
theorem dX7_copy_59 : decode cX7_copy 59 = .ok (.bipush 40, 2) := by decide +kernel
theorem dX7_copy_61 : decode cX7_copy 61 = .ok (.iload_n 3, 1) := by decide +kernel
theorem dX7_copy_62 : decode cX7_copy 62 = .ok (.imul, 1) := by decide +kernel
theorem dX7_copy_63 : decode cX7_copy 63 = .ok (.iload 4, 2) := by decide +kernel
theorem dX7_copy_65 : decode cX7_copy 65 = .ok (.iadd, 1) := by decide +kernel
theorem dX7_copy_66 : decode cX7_copy 66 = .ok (.iload 8, 2) := by decide +kernel
theorem dX7_copy_68 : decode cX7_copy 68 = .ok (.iadd, 1) := by decide +kernel
theorem dX7_copy_69 : decode cX7_copy 69 = .ok (.aload_n 0, 1) := by decide +kernel
theorem dX7_copy_70 : decode cX7_copy 70 = .ok (.getfield 31, 3) := by decide +kernel
theorem dX7_copy_73 : decode cX7_copy 73 = .ok (.bipush 40, 2) := by decide +kernel
theorem dX7_copy_75 : decode cX7_copy 75 = .ok (.iload_n 1, 1) := by decide +kernel
theorem dX7_copy_76 : decode cX7_copy 76 = .ok (.imul, 1) := by decide +kernel
theorem dX7_copy_77 : decode cX7_copy 77 = .ok (.iload_n 2, 1) := by decide +kernel
theorem dX7_copy_78 : decode cX7_copy 78 = .ok (.iadd, 1) := by decide +kernel
theorem dX7_copy_79 : decode cX7_copy 79 = .ok (.iload 8, 2) := by decide +kernel
theorem dX7_copy_81 : decode cX7_copy 81 = .ok (.iadd, 1) := by decide +kernel
theorem dX7_copy_82 : decode cX7_copy 82 = .ok (.laload, 1) := by decide +kernel
theorem dX7_copy_83 : decode cX7_copy 83 = .ok (.lastore, 1) := by decide +kernel
theorem dX7_copy_84 : decode cX7_copy 84 = .ok (.iinc 7 1, 3) := by decide +kernel
theorem dX7_copy_87 : decode cX7_copy 87 = .ok (.goto (-59), 3) := by decide +kernel
theorem dX7_copy_90 : decode cX7_copy 90 = .ok (.iload 5, 2) := by decide +kernel
theorem dX7_copy_92 : decode cX7_copy 92 = .ok (.ireturn, 1) := by decide +kernel
set_option maxRecDepth 20000 in
theorem ggX7_lays_X7_notThere : GoodIn wsX7_lays wsX7_notThere := goodIn_r _ [8, 1, 9, 10, 11, 12, 7, 13, 14, 15, 16, 31, 32, 33, 34, 35, 36, 37, 38, 39, 40, 41, 42, 43, 44, 45] (by decide +kernel) (by decide +kernel)
set_option maxRecDepth 20000 in
theorem gX7_lays_X7_notThere : GoodIn wsX7_lays (wsV RX7 218 RX7 yX7_notThere wsX7_notThere) := goodIn_app (goodIn_of _ (by decide +kernel)) ggX7_lays_X7_notThere
set_option maxRecDepth 20000 in
theorem ggX7_lays_X7_isChild : GoodIn wsX7_lays wsX7_isChild := goodIn_r _ [20, 21, 14, 15, 7, 16, 31, 32, 33, 34, 35, 36, 37, 38, 39, 40, 41, 42, 43, 44, 45] (by decide +kernel) (by decide +kernel)
set_option maxRecDepth 20000 in
theorem gX7_lays_X7_isChild : GoodIn wsX7_lays (wsV RX7 45 RX7 yX7_isChild wsX7_isChild) := goodIn_app (goodIn_of _ (by decide +kernel)) ggX7_lays_X7_isChild
set_option maxRecDepth 20000 in
theorem ggX7_lays_X7_finds : GoodIn wsX7_lays wsX7_finds := goodIn_r _ [25, 26, 1, 31, 32, 33, 34, 35, 36, 37, 38, 39, 40, 41, 42, 43, 44, 45] (by decide +kernel) (by decide +kernel)
set_option maxRecDepth 20000 in
theorem gX7_lays_X7_finds : GoodIn wsX7_lays (wsV RX7 37 RX7 yX7_finds wsX7_finds) := goodIn_app (goodIn_of _ (by decide +kernel)) ggX7_lays_X7_finds
set_option maxRecDepth 20000 in
theorem ggX7_lays_X7_in : GoodIn wsX7_lays wsX7_in := goodIn_r _ [16] (by decide +kernel) (by decide +kernel)
set_option maxRecDepth 20000 in
theorem gX7_lays_X7_in : GoodIn wsX7_lays (va_wsS RX7 41 yX7_in wsX7_in) := goodIn_app (goodIn_of _ (by decide +kernel)) ggX7_lays_X7_in
set_option maxRecDepth 20000 in
theorem ggX7_lays_X7_put : GoodIn wsX7_lays wsX7_put := goodIn_r _ [30, 21, 31, 32, 33, 34, 35, 36, 37, 38, 39, 40, 41, 42, 43, 44, 45] (by decide +kernel) (by decide +kernel)
set_option maxRecDepth 20000 in
theorem gX7_lays_X7_put : GoodIn wsX7_lays (wsV RX7 95 RX7 yX7_put wsX7_put) := goodIn_app (goodIn_of _ (by decide +kernel)) ggX7_lays_X7_put
theorem dX7_lays_0 : decode cX7_lays 0 = .ok (.aload_n 0, 1) := by decide +kernel
theorem dX7_lays_1 : decode cX7_lays 1 = .ok (.iload_n 1, 1) := by decide +kernel
theorem dX7_lays_2 : decode cX7_lays 2 = .ok (.invokevirtual 218, 3) := by decide +kernel
theorem dX7_lays_5 : decode cX7_lays 5 = .ok (.istore_n 3, 1) := by decide +kernel
theorem dX7_lays_6 : decode cX7_lays 6 = .ok (.iload_n 3, 1) := by decide +kernel
theorem dX7_lays_7 : decode cX7_lays 7 = .ok (.ifCond .ne 16, 3) := by decide +kernel
theorem dX7_lays_10 : decode cX7_lays 10 = .ok (.aload_n 0, 1) := by decide +kernel
theorem dX7_lays_11 : decode cX7_lays 11 = .ok (.iload_n 2, 1) := by decide +kernel
theorem dX7_lays_12 : decode cX7_lays 12 = .ok (.invokevirtual 45, 3) := by decide +kernel
theorem dX7_lays_15 : decode cX7_lays 15 = .ok (.ifCond .ne 8, 3) := by decide +kernel
theorem dX7_lays_18 : decode cX7_lays 18 = .ok (.ldc 35, 2) := by decide +kernel
theorem dX7_lays_20 : decode cX7_lays 20 = .ok (.goto 4, 3) := by decide +kernel
theorem dX7_lays_23 : decode cX7_lays 23 = .ok (.iload_n 3, 1) := by decide +kernel
theorem dX7_lays_24 : decode cX7_lays 24 = .ok (.istore_n 3, 1) := by decide +kernel
theorem dX7_lays_25 : decode cX7_lays 25 = .ok (.iload_n 3, 1) := by decide +kernel
theorem dX7_lays_26 : decode cX7_lays 26 = .ok (.ifCond .eq 9, 3) := by decide +kernel
theorem dX7_lays_29 : decode cX7_lays 29 = .ok (.aload_n 0, 1) := by decide +kernel
theorem dX7_lays_30 : decode cX7_lays 30 = .ok (.iload_n 3, 1) := by decide +kernel
theorem dX7_lays_31 : decode cX7_lays 31 = .ok (.invokevirtual 37, 3) := by decide +kernel
theorem dX7_lays_34 : decode cX7_lays 34 = .ok (.ireturn, 1) := by decide +kernel
theorem dX7_lays_35 : decode cX7_lays 35 = .ok (.iconst 0, 1) := by decide +kernel
theorem dX7_lays_36 : decode cX7_lays 36 = .ok (.istore 4, 2) := by decide +kernel
theorem dX7_lays_38 : decode cX7_lays 38 = .ok (.iconst 0, 1) := by decide +kernel
theorem dX7_lays_39 : decode cX7_lays 39 = .ok (.istore 5, 2) := by decide +kernel
theorem dX7_lays_41 : decode cX7_lays 41 = .ok (.iload 5, 2) := by decide +kernel
theorem dX7_lays_43 : decode cX7_lays 43 = .ok (.aload_n 0, 1) := by decide +kernel
theorem dX7_lays_44 : decode cX7_lays 44 = .ok (.getfield 28, 3) := by decide +kernel
theorem dX7_lays_47 : decode cX7_lays 47 = .ok (.iload_n 1, 1) := by decide +kernel
theorem dX7_lays_48 : decode cX7_lays 48 = .ok (.iaload, 1) := by decide +kernel
theorem dX7_lays_49 : decode cX7_lays 49 = .ok (.if_icmp .ge 62, 3) := by decide +kernel
theorem dX7_lays_52 : decode cX7_lays 52 = .ok (.iload 5, 2) := by decide +kernel
theorem dX7_lays_54 : decode cX7_lays 54 = .ok (.bipush 10, 2) := by decide +kernel
theorem dX7_lays_56 : decode cX7_lays 56 = .ok (.if_icmp .ge 55, 3) := by decide +kernel
theorem dX7_lays_59 : decode cX7_lays 59 = .ok (.aload_n 0, 1) := by decide +kernel
theorem dX7_lays_60 : decode cX7_lays 60 = .ok (.getfield 31, 3) := by decide +kernel
theorem dX7_lays_63 : decode cX7_lays 63 = .ok (.bipush 40, 2) := by decide +kernel
theorem dX7_lays_65 : decode cX7_lays 65 = .ok (.iload_n 1, 1) := by decide +kernel
theorem dX7_lays_66 : decode cX7_lays 66 = .ok (.imul, 1) := by decide +kernel
theorem dX7_lays_67 : decode cX7_lays 67 = .ok (.iload 5, 2) := by decide +kernel
theorem dX7_lays_69 : decode cX7_lays 69 = .ok (.iadd, 1) := by decide +kernel
theorem dX7_lays_70 : decode cX7_lays 70 = .ok (.laload, 1) := by decide +kernel
theorem dX7_lays_71 : decode cX7_lays 71 = .ok (.iconst 0, 1) := by decide +kernel
theorem dX7_lays_72 : decode cX7_lays 72 = .ok (.bipush 20, 2) := by decide +kernel
theorem dX7_lays_74 : decode cX7_lays 74 = .ok (.invokestatic 41, 3) := by decide +kernel
theorem dX7_lays_77 : decode cX7_lays 77 = .ok (.ifCond .eq 28, 3) := by decide +kernel
theorem dX7_lays_80 : decode cX7_lays 80 = .ok (.aload_n 0, 1) := by decide +kernel
theorem dX7_lays_81 : decode cX7_lays 81 = .ok (.iload_n 2, 1) := by decide +kernel
theorem dX7_lays_82 : decode cX7_lays 82 = .ok (.iconst 4, 1) := by decide +kernel
theorem dX7_lays_83 : decode cX7_lays 83 = .ok (.iload 5, 2) := by decide +kernel
theorem dX7_lays_85 : decode cX7_lays 85 = .ok (.iadd, 1) := by decide +kernel
theorem dX7_lays_86 : decode cX7_lays 86 = .ok (.aload_n 0, 1) := by decide +kernel
theorem dX7_lays_87 : decode cX7_lays 87 = .ok (.getfield 31, 3) := by decide +kernel
theorem dX7_lays_90 : decode cX7_lays 90 = .ok (.bipush 40, 2) := by decide +kernel
theorem dX7_lays_92 : decode cX7_lays 92 = .ok (.iload_n 1, 1) := by decide +kernel
theorem dX7_lays_93 : decode cX7_lays 93 = .ok (.imul, 1) := by decide +kernel
theorem dX7_lays_94 : decode cX7_lays 94 = .ok (.iload 5, 2) := by decide +kernel
theorem dX7_lays_96 : decode cX7_lays 96 = .ok (.iadd, 1) := by decide +kernel
theorem dX7_lays_97 : decode cX7_lays 97 = .ok (.laload, 1) := by decide +kernel
theorem dX7_lays_98 : decode cX7_lays 98 = .ok (.l2i, 1) := by decide +kernel
theorem dX7_lays_99 : decode cX7_lays 99 = .ok (.invokevirtual 95, 3) := by decide +kernel
theorem dX7_lays_102 : decode cX7_lays 102 = .ok (.iinc 4 1, 3) := by decide +kernel
theorem dX7_lays_105 : decode cX7_lays 105 = .ok (.iinc 5 1, 3) := by decide +kernel
theorem dX7_lays_108 : decode cX7_lays 108 = .ok (.goto (-67), 3) := by decide +kernel
theorem dX7_lays_111 : decode cX7_lays 111 = .ok (.iload 4, 2) := by decide +kernel
theorem dX7_lays_113 : decode cX7_lays 113 = .ok (.ireturn, 1) := by decide +kernel
set_option maxRecDepth 20000 in
theorem ggX7_book_X7_notThere : GoodIn wsX7_book wsX7_notThere := goodIn_r _ [9, 1, 4, 10, 11, 12, 8, 13, 14, 15, 16, 104, 105, 106, 107, 108, 109, 110, 111, 112, 113, 114, 115, 116, 117, 118] (by decide +kernel) (by decide +kernel)
set_option maxRecDepth 20000 in
theorem gX7_book_X7_notThere : GoodIn wsX7_book (wsV RX7 218 RX7 yX7_notThere wsX7_notThere) := goodIn_app (goodIn_of _ (by decide +kernel)) ggX7_book_X7_notThere
set_option maxRecDepth 20000 in
theorem ggX7_book_X7_isChild : GoodIn wsX7_book wsX7_isChild := goodIn_r _ [20, 21, 14, 15, 8, 16, 104, 105, 106, 107, 108, 109, 110, 111, 112, 113, 114, 115, 116, 117, 118] (by decide +kernel) (by decide +kernel)
set_option maxRecDepth 20000 in
theorem gX7_book_X7_isChild : GoodIn wsX7_book (wsV RX7 45 RX7 yX7_isChild wsX7_isChild) := goodIn_app (goodIn_of _ (by decide +kernel)) ggX7_book_X7_isChild
set_option maxRecDepth 20000 in
theorem ggX7_book_X7_finds : GoodIn wsX7_book wsX7_finds := goodIn_r _ [25, 26, 1, 104, 105, 106, 107, 108, 109, 110, 111, 112, 113, 114, 115, 116, 117, 118] (by decide +kernel) (by decide +kernel)
set_option maxRecDepth 20000 in
theorem gX7_book_X7_finds : GoodIn wsX7_book (wsV RX7 37 RX7 yX7_finds wsX7_finds) := goodIn_app (goodIn_of _ (by decide +kernel)) ggX7_book_X7_finds
set_option maxRecDepth 20000 in
theorem ggX7_book_X7_thinks : GoodIn wsX7_book wsX7_thinks := goodIn_r _ [30, 21, 31, 32, 33, 8, 34, 104, 105, 106, 107, 108, 109, 110, 111, 112, 113, 114, 115, 116, 117, 118] (by decide +kernel) (by decide +kernel)
set_option maxRecDepth 20000 in
theorem gX7_book_X7_thinks : GoodIn wsX7_book (wsV RX7 147 RX7 yX7_thinks wsX7_thinks) := goodIn_app (goodIn_of _ (by decide +kernel)) ggX7_book_X7_thinks
set_option maxRecDepth 20000 in
theorem ggX7_book_X7_it : GoodIn wsX7_book wsX7_it := goodIn_r _ [38, 21, 104, 105, 106, 107, 108, 109, 110, 111, 112, 113, 114, 115, 116, 117, 118] (by decide +kernel) (by decide +kernel)
set_option maxRecDepth 20000 in
theorem gX7_book_X7_it : GoodIn wsX7_book (wsV RX7 49 RX7 yX7_it wsX7_it) := goodIn_app (goodIn_of _ (by decide +kernel)) ggX7_book_X7_it
set_option maxRecDepth 20000 in
theorem ggX7_book_X7_cutTo : GoodIn wsX7_book wsX7_cutTo := goodIn_r _ [41] (by decide +kernel) (by decide +kernel)
set_option maxRecDepth 20000 in
theorem gX7_book_X7_cutTo : GoodIn wsX7_book (va_wsS RX7 221 yX7_cutTo wsX7_cutTo) := goodIn_app (goodIn_of _ (by decide +kernel)) ggX7_book_X7_cutTo
set_option maxRecDepth 20000 in
theorem ggX7_book_X7_goes : GoodIn wsX7_book wsX7_goes := goodIn_r _ [45, 21, 46, 47, 48, 8, 49, 50, 51, 52, 53, 35, 36, 37, 38, 54, 55, 56, 57, 58, 59, 60, 61, 62, 63, 64, 65, 66, 67, 68, 69, 70, 71, 72, 73, 74, 75, 76, 77, 78, 79, 80, 81, 82, 83, 84, 85, 86, 87, 88, 89, 90, 91, 92, 93, 94, 95, 96, 97, 98, 99, 104, 105, 106, 107, 108, 109, 110, 111, 112, 113, 114, 115, 116, 117, 118] (by decide +kernel) (by decide +kernel)
set_option maxRecDepth 20000 in
theorem gX7_book_X7_goes : GoodIn wsX7_book (wsV RX7 135 RX7 yX7_goes wsX7_goes) := goodIn_app (goodIn_of _ (by decide +kernel)) ggX7_book_X7_goes
set_option maxRecDepth 20000 in
theorem ggX7_book_X7_putsBack : GoodIn wsX7_book wsX7_putsBack := goodIn_r _ [103, 31, 21, 32, 33, 8, 34, 104, 105, 106, 107, 108, 109, 110, 111, 112, 113, 114, 115, 116, 117, 118] (by decide +kernel) (by decide +kernel)
set_option maxRecDepth 20000 in
theorem gX7_book_X7_putsBack : GoodIn wsX7_book (wsV RX7 150 RX7 yX7_putsBack wsX7_putsBack) := goodIn_app (goodIn_of _ (by decide +kernel)) ggX7_book_X7_putsBack
theorem dX7_book_0 : decode cX7_book 0 = .ok (.aload_n 0, 1) := by decide +kernel
theorem dX7_book_1 : decode cX7_book 1 = .ok (.iload_n 1, 1) := by decide +kernel
theorem dX7_book_2 : decode cX7_book 2 = .ok (.invokevirtual 218, 3) := by decide +kernel
theorem dX7_book_5 : decode cX7_book 5 = .ok (.istore_n 3, 1) := by decide +kernel
theorem dX7_book_6 : decode cX7_book 6 = .ok (.iload_n 3, 1) := by decide +kernel
theorem dX7_book_7 : decode cX7_book 7 = .ok (.ifCond .ne 16, 3) := by decide +kernel
theorem dX7_book_10 : decode cX7_book 10 = .ok (.aload_n 0, 1) := by decide +kernel
theorem dX7_book_11 : decode cX7_book 11 = .ok (.iload_n 2, 1) := by decide +kernel
theorem dX7_book_12 : decode cX7_book 12 = .ok (.invokevirtual 45, 3) := by decide +kernel
theorem dX7_book_15 : decode cX7_book 15 = .ok (.ifCond .ne 8, 3) := by decide +kernel
theorem dX7_book_18 : decode cX7_book 18 = .ok (.ldc 35, 2) := by decide +kernel
theorem dX7_book_20 : decode cX7_book 20 = .ok (.goto 4, 3) := by decide +kernel
theorem dX7_book_23 : decode cX7_book 23 = .ok (.iload_n 3, 1) := by decide +kernel
theorem dX7_book_24 : decode cX7_book 24 = .ok (.istore_n 3, 1) := by decide +kernel
theorem dX7_book_25 : decode cX7_book 25 = .ok (.iload_n 3, 1) := by decide +kernel
theorem dX7_book_26 : decode cX7_book 26 = .ok (.ifCond .eq 9, 3) := by decide +kernel
theorem dX7_book_29 : decode cX7_book 29 = .ok (.aload_n 0, 1) := by decide +kernel
theorem dX7_book_30 : decode cX7_book 30 = .ok (.iload_n 3, 1) := by decide +kernel
theorem dX7_book_31 : decode cX7_book 31 = .ok (.invokevirtual 37, 3) := by decide +kernel
theorem dX7_book_34 : decode cX7_book 34 = .ok (.ireturn, 1) := by decide +kernel
theorem dX7_book_35 : decode cX7_book 35 = .ok (.aload_n 0, 1) := by decide +kernel
theorem dX7_book_36 : decode cX7_book 36 = .ok (.invokevirtual 147, 3) := by decide +kernel
theorem dX7_book_39 : decode cX7_book 39 = .ok (.iconst 0, 1) := by decide +kernel
theorem dX7_book_40 : decode cX7_book 40 = .ok (.istore 4, 2) := by decide +kernel
theorem dX7_book_42 : decode cX7_book 42 = .ok (.iload 4, 2) := by decide +kernel
theorem dX7_book_44 : decode cX7_book 44 = .ok (.aload_n 0, 1) := by decide +kernel
theorem dX7_book_45 : decode cX7_book 45 = .ok (.getfield 28, 3) := by decide +kernel
theorem dX7_book_48 : decode cX7_book 48 = .ok (.iload_n 1, 1) := by decide +kernel
theorem dX7_book_49 : decode cX7_book 49 = .ok (.iaload, 1) := by decide +kernel
theorem dX7_book_50 : decode cX7_book 50 = .ok (.if_icmp .ge 41, 3) := by decide +kernel
theorem dX7_book_53 : decode cX7_book 53 = .ok (.aload_n 0, 1) := by decide +kernel
theorem dX7_book_54 : decode cX7_book 54 = .ok (.getfield 31, 3) := by decide +kernel
theorem dX7_book_57 : decode cX7_book 57 = .ok (.bipush 40, 2) := by decide +kernel
theorem dX7_book_59 : decode cX7_book 59 = .ok (.iload_n 1, 1) := by decide +kernel
theorem dX7_book_60 : decode cX7_book 60 = .ok (.imul, 1) := by decide +kernel
theorem dX7_book_61 : decode cX7_book 61 = .ok (.iload 4, 2) := by decide +kernel
theorem dX7_book_63 : decode cX7_book 63 = .ok (.iadd, 1) := by decide +kernel
theorem dX7_book_64 : decode cX7_book 64 = .ok (.aload_n 0, 1) := by decide +kernel
theorem dX7_book_65 : decode cX7_book 65 = .ok (.getfield 25, 3) := by decide +kernel
theorem dX7_book_68 : decode cX7_book 68 = .ok (.iload_n 1, 1) := by decide +kernel
theorem dX7_book_69 : decode cX7_book 69 = .ok (.iaload, 1) := by decide +kernel
theorem dX7_book_70 : decode cX7_book 70 = .ok (.aload_n 0, 1) := by decide +kernel
theorem dX7_book_71 : decode cX7_book 71 = .ok (.iload_n 2, 1) := by decide +kernel
theorem dX7_book_72 : decode cX7_book 72 = .ok (.iconst 1, 1) := by decide +kernel
theorem dX7_book_73 : decode cX7_book 73 = .ok (.invokevirtual 49, 3) := by decide +kernel
theorem dX7_book_76 : decode cX7_book 76 = .ok (.i2l, 1) := by decide +kernel
theorem dX7_book_77 : decode cX7_book 77 = .ok (.invokestatic 221, 3) := by decide +kernel
theorem dX7_book_80 : decode cX7_book 80 = .ok (.lastore, 1) := by decide +kernel
theorem dX7_book_81 : decode cX7_book 81 = .ok (.aload_n 0, 1) := by decide +kernel
theorem dX7_book_82 : decode cX7_book 82 = .ok (.invokevirtual 135, 3) := by decide +kernel
theorem dX7_book_85 : decode cX7_book 85 = .ok (.iinc 4 1, 3) := by decide +kernel
theorem dX7_book_88 : decode cX7_book 88 = .ok (.goto (-46), 3) := by decide +kernel
theorem dX7_book_91 : decode cX7_book 91 = .ok (.aload_n 0, 1) := by decide +kernel
theorem dX7_book_92 : decode cX7_book 92 = .ok (.invokevirtual 150, 3) := by decide +kernel
theorem dX7_book_95 : decode cX7_book 95 = .ok (.aload_n 0, 1) := by decide +kernel
theorem dX7_book_96 : decode cX7_book 96 = .ok (.getfield 28, 3) := by decide +kernel
theorem dX7_book_99 : decode cX7_book 99 = .ok (.iload_n 1, 1) := by decide +kernel
theorem dX7_book_100 : decode cX7_book 100 = .ok (.iaload, 1) := by decide +kernel
theorem dX7_book_101 : decode cX7_book 101 = .ok (.ireturn, 1) := by decide +kernel
set_option maxRecDepth 20000 in
theorem ggX7_isBook_X7_it : GoodIn wsX7_isBook wsX7_it := goodIn_r _ [7, 8, 75, 76, 77, 78, 79, 80, 81, 82, 83, 84, 85, 86, 87, 88, 89] (by decide +kernel) (by decide +kernel)
set_option maxRecDepth 20000 in
theorem gX7_isBook_X7_it : GoodIn wsX7_isBook (wsV RX7 49 RX7 yX7_it wsX7_it) := goodIn_app (goodIn_of _ (by decide +kernel)) ggX7_isBook_X7_it
set_option maxRecDepth 20000 in
theorem ggX7_isBook_X7_goes : GoodIn wsX7_isBook wsX7_goes := goodIn_r _ [12, 8, 13, 14, 15, 6, 16, 17, 18, 19, 20, 3, 4, 5, 7, 21, 22, 23, 24, 25, 26, 27, 28, 29, 30, 31, 32, 33, 34, 35, 36, 37, 38, 39, 40, 41, 42, 43, 44, 45, 46, 47, 48, 49, 50, 51, 52, 53, 54, 55, 56, 57, 58, 59, 60, 61, 62, 63, 64, 65, 66, 75, 76, 77, 78, 79, 80, 81, 82, 83, 84, 85, 86, 87, 88, 89] (by decide +kernel) (by decide +kernel)
set_option maxRecDepth 20000 in
theorem gX7_isBook_X7_goes : GoodIn wsX7_isBook (wsV RX7 135 RX7 yX7_goes wsX7_goes) := goodIn_app (goodIn_of _ (by decide +kernel)) ggX7_isBook_X7_goes
set_option maxRecDepth 20000 in
theorem ggX7_isBook_X7_putsBack : GoodIn wsX7_isBook wsX7_putsBack := goodIn_r _ [70, 71, 8, 72, 73, 6, 74, 75, 76, 77, 78, 79, 80, 81, 82, 83, 84, 85, 86, 87, 88, 89] (by decide +kernel) (by decide +kernel)
set_option maxRecDepth 20000 in
theorem gX7_isBook_X7_putsBack : GoodIn wsX7_isBook (wsV RX7 150 RX7 yX7_putsBack wsX7_putsBack) := goodIn_app (goodIn_of _ (by decide +kernel)) ggX7_isBook_X7_putsBack
theorem dX7_isBook_0 : decode cX7_isBook 0 = .ok (.iconst 1, 1) := by decide +kernel
theorem dX7_isBook_1 : decode cX7_isBook 1 = .ok (.istore_n 3, 1) := by decide +kernel
theorem dX7_isBook_2 : decode cX7_isBook 2 = .ok (.iconst 0, 1) := by decide +kernel
theorem dX7_isBook_3 : decode cX7_isBook 3 = .ok (.istore 4, 2) := by decide +kernel
theorem dX7_isBook_5 : decode cX7_isBook 5 = .ok (.iload 4, 2) := by decide +kernel
theorem dX7_isBook_7 : decode cX7_isBook 7 = .ok (.aload_n 0, 1) := by decide +kernel
theorem dX7_isBook_8 : decode cX7_isBook 8 = .ok (.getfield 28, 3) := by decide +kernel
theorem dX7_isBook_11 : decode cX7_isBook 11 = .ok (.iload_n 1, 1) := by decide +kernel
theorem dX7_isBook_12 : decode cX7_isBook 12 = .ok (.iaload, 1) := by decide +kernel
theorem dX7_isBook_13 : decode cX7_isBook 13 = .ok (.if_icmp .ge 46, 3) := by decide +kernel
theorem dX7_isBook_16 : decode cX7_isBook 16 = .ok (.iload_n 3, 1) := by decide +kernel
theorem dX7_isBook_17 : decode cX7_isBook 17 = .ok (.ifCond .eq 42, 3) := by decide +kernel
theorem dX7_isBook_20 : decode cX7_isBook 20 = .ok (.aload_n 0, 1) := by decide +kernel
theorem dX7_isBook_21 : decode cX7_isBook 21 = .ok (.getfield 31, 3) := by decide +kernel
theorem dX7_isBook_24 : decode cX7_isBook 24 = .ok (.bipush 40, 2) := by decide +kernel
theorem dX7_isBook_26 : decode cX7_isBook 26 = .ok (.iload_n 1, 1) := by decide +kernel
theorem dX7_isBook_27 : decode cX7_isBook 27 = .ok (.imul, 1) := by decide +kernel
theorem dX7_isBook_28 : decode cX7_isBook 28 = .ok (.iload 4, 2) := by decide +kernel
theorem dX7_isBook_30 : decode cX7_isBook 30 = .ok (.iadd, 1) := by decide +kernel
theorem dX7_isBook_31 : decode cX7_isBook 31 = .ok (.laload, 1) := by decide +kernel
theorem dX7_isBook_32 : decode cX7_isBook 32 = .ok (.aload_n 0, 1) := by decide +kernel
theorem dX7_isBook_33 : decode cX7_isBook 33 = .ok (.iload_n 2, 1) := by decide +kernel
theorem dX7_isBook_34 : decode cX7_isBook 34 = .ok (.iconst 1, 1) := by decide +kernel
theorem dX7_isBook_35 : decode cX7_isBook 35 = .ok (.invokevirtual 49, 3) := by decide +kernel
theorem dX7_isBook_38 : decode cX7_isBook 38 = .ok (.i2l, 1) := by decide +kernel
theorem dX7_isBook_39 : decode cX7_isBook 39 = .ok (.lcmp, 1) := by decide +kernel
theorem dX7_isBook_40 : decode cX7_isBook 40 = .ok (.ifCond .ne 7, 3) := by decide +kernel
theorem dX7_isBook_43 : decode cX7_isBook 43 = .ok (.iconst 1, 1) := by decide +kernel
theorem dX7_isBook_44 : decode cX7_isBook 44 = .ok (.goto 4, 3) := by decide +kernel
theorem dX7_isBook_47 : decode cX7_isBook 47 = .ok (.iconst 0, 1) := by decide +kernel
theorem dX7_isBook_48 : decode cX7_isBook 48 = .ok (.istore_n 3, 1) := by decide +kernel
theorem dX7_isBook_49 : decode cX7_isBook 49 = .ok (.aload_n 0, 1) := by decide +kernel
theorem dX7_isBook_50 : decode cX7_isBook 50 = .ok (.invokevirtual 135, 3) := by decide +kernel
theorem dX7_isBook_53 : decode cX7_isBook 53 = .ok (.iinc 4 1, 3) := by decide +kernel
theorem dX7_isBook_56 : decode cX7_isBook 56 = .ok (.goto (-51), 3) := by decide +kernel
theorem dX7_isBook_59 : decode cX7_isBook 59 = .ok (.aload_n 0, 1) := by decide +kernel
theorem dX7_isBook_60 : decode cX7_isBook 60 = .ok (.invokevirtual 150, 3) := by decide +kernel
theorem dX7_isBook_63 : decode cX7_isBook 63 = .ok (.iload_n 3, 1) := by decide +kernel
theorem dX7_isBook_64 : decode cX7_isBook 64 = .ok (.ireturn, 1) := by decide +kernel
set_option maxRecDepth 20000 in
theorem ggX7_read_X7_notThere : GoodIn wsX7_read wsX7_notThere := goodIn_r _ [6, 1, 7, 8, 9, 10, 5, 11, 12, 13, 14, 109, 110, 111, 112, 113, 114, 115, 116, 117, 118, 119, 120, 121, 122, 123] (by decide +kernel) (by decide +kernel)
set_option maxRecDepth 20000 in
theorem gX7_read_X7_notThere : GoodIn wsX7_read (wsV RX7 218 RX7 yX7_notThere wsX7_notThere) := goodIn_app (goodIn_of _ (by decide +kernel)) ggX7_read_X7_notThere
set_option maxRecDepth 20000 in
theorem ggX7_read_X7_areTwo : GoodIn wsX7_read wsX7_areTwo := goodIn_r _ [18, 19, 20, 21, 5, 22, 23, 12, 13, 14, 109, 110, 111, 112, 113, 114, 115, 116, 117, 118, 119, 120, 121, 122, 123] (by decide +kernel) (by decide +kernel)
set_option maxRecDepth 20000 in
theorem gX7_read_X7_areTwo : GoodIn wsX7_read (wsV RX7 118 RX7 yX7_areTwo wsX7_areTwo) := goodIn_app (goodIn_of _ (by decide +kernel)) ggX7_read_X7_areTwo
set_option maxRecDepth 20000 in
theorem ggX7_read_X7_finds : GoodIn wsX7_read wsX7_finds := goodIn_r _ [27, 28, 1, 109, 110, 111, 112, 113, 114, 115, 116, 117, 118, 119, 120, 121, 122, 123] (by decide +kernel) (by decide +kernel)
set_option maxRecDepth 20000 in
theorem gX7_read_X7_finds : GoodIn wsX7_read (wsV RX7 37 RX7 yX7_finds wsX7_finds) := goodIn_app (goodIn_of _ (by decide +kernel)) ggX7_read_X7_finds
set_option maxRecDepth 20000 in
theorem ggX7_read_X7_thinks : GoodIn wsX7_read wsX7_thinks := goodIn_r _ [32, 23, 33, 34, 35, 5, 36, 109, 110, 111, 112, 113, 114, 115, 116, 117, 118, 119, 120, 121, 122, 123] (by decide +kernel) (by decide +kernel)
set_option maxRecDepth 20000 in
theorem gX7_read_X7_thinks : GoodIn wsX7_read (wsV RX7 147 RX7 yX7_thinks wsX7_thinks) := goodIn_app (goodIn_of _ (by decide +kernel)) ggX7_read_X7_thinks
set_option maxRecDepth 20000 in
theorem ggX7_read_X7_put : GoodIn wsX7_read wsX7_put := goodIn_r _ [40, 23, 109, 110, 111, 112, 113, 114, 115, 116, 117, 118, 119, 120, 121, 122, 123] (by decide +kernel) (by decide +kernel)
set_option maxRecDepth 20000 in
theorem gX7_read_X7_put : GoodIn wsX7_read (wsV RX7 95 RX7 yX7_put wsX7_put) := goodIn_app (goodIn_of _ (by decide +kernel)) ggX7_read_X7_put
set_option maxRecDepth 20000 in
theorem ggX7_read_X7_isBook : GoodIn wsX7_read wsX7_isBook := goodIn_r _ [44, 45, 46, 47, 48, 49, 5, 50, 23, 51, 52, 53, 54, 55, 56, 57, 58, 59, 60, 61, 62, 63, 64, 65, 66, 67, 68, 69, 70, 71, 72, 73, 74, 75, 76, 77, 78, 79, 80, 81, 82, 83, 84, 85, 86, 87, 88, 89, 90, 91, 92, 93, 94, 95, 96, 97, 37, 38, 39, 40, 98, 99, 100, 101, 102, 103, 104, 105, 106, 107, 108, 33, 34, 35, 36, 109, 110, 111, 112, 113, 114, 115, 116, 117, 118, 119, 120, 121, 122, 123] (by decide +kernel) (by decide +kernel)
set_option maxRecDepth 20000 in
theorem gX7_read_X7_isBook : GoodIn wsX7_read (wsV RX7 229 RX7 yX7_isBook wsX7_isBook) := goodIn_app (goodIn_of _ (by decide +kernel)) ggX7_read_X7_isBook
theorem dX7_read_0 : decode cX7_read 0 = .ok (.aload_n 0, 1) := by decide +kernel
theorem dX7_read_1 : decode cX7_read 1 = .ok (.iload_n 1, 1) := by decide +kernel
theorem dX7_read_2 : decode cX7_read 2 = .ok (.invokevirtual 218, 3) := by decide +kernel
theorem dX7_read_5 : decode cX7_read 5 = .ok (.istore 4, 2) := by decide +kernel
theorem dX7_read_7 : decode cX7_read 7 = .ok (.iload 4, 2) := by decide +kernel
theorem dX7_read_9 : decode cX7_read 9 = .ok (.ifCond .ne 17, 3) := by decide +kernel
theorem dX7_read_12 : decode cX7_read 12 = .ok (.aload_n 0, 1) := by decide +kernel
theorem dX7_read_13 : decode cX7_read 13 = .ok (.iload_n 2, 1) := by decide +kernel
theorem dX7_read_14 : decode cX7_read 14 = .ok (.iload_n 3, 1) := by decide +kernel
theorem dX7_read_15 : decode cX7_read 15 = .ok (.invokevirtual 118, 3) := by decide +kernel
theorem dX7_read_18 : decode cX7_read 18 = .ok (.ifCond .ne 8, 3) := by decide +kernel
theorem dX7_read_21 : decode cX7_read 21 = .ok (.ldc 35, 2) := by decide +kernel
theorem dX7_read_23 : decode cX7_read 23 = .ok (.goto 5, 3) := by decide +kernel
theorem dX7_read_26 : decode cX7_read 26 = .ok (.iload 4, 2) := by decide +kernel
theorem dX7_read_28 : decode cX7_read 28 = .ok (.istore 4, 2) := by decide +kernel
theorem dX7_read_30 : decode cX7_read 30 = .ok (.iload 4, 2) := by decide +kernel
theorem dX7_read_32 : decode cX7_read 32 = .ok (.ifCond .eq 10, 3) := by decide +kernel
theorem dX7_read_35 : decode cX7_read 35 = .ok (.aload_n 0, 1) := by decide +kernel
theorem dX7_read_36 : decode cX7_read 36 = .ok (.iload 4, 2) := by decide +kernel
theorem dX7_read_38 : decode cX7_read 38 = .ok (.invokevirtual 37, 3) := by decide +kernel
theorem dX7_read_41 : decode cX7_read 41 = .ok (.ireturn, 1) := by decide +kernel
theorem dX7_read_42 : decode cX7_read 42 = .ok (.aload_n 0, 1) := by decide +kernel
theorem dX7_read_43 : decode cX7_read 43 = .ok (.invokevirtual 147, 3) := by decide +kernel
theorem dX7_read_46 : decode cX7_read 46 = .ok (.iconst 0, 1) := by decide +kernel
theorem dX7_read_47 : decode cX7_read 47 = .ok (.istore 5, 2) := by decide +kernel
theorem dX7_read_49 : decode cX7_read 49 = .ok (.iconst 0, 1) := by decide +kernel
theorem dX7_read_50 : decode cX7_read 50 = .ok (.istore 6, 2) := by decide +kernel
theorem dX7_read_52 : decode cX7_read 52 = .ok (.iload 6, 2) := by decide +kernel
theorem dX7_read_54 : decode cX7_read 54 = .ok (.bipush 36, 2) := by decide +kernel
theorem dX7_read_56 : decode cX7_read 56 = .ok (.if_icmp .ge 50, 3) := by decide +kernel
theorem dX7_read_59 : decode cX7_read 59 = .ok (.aload_n 0, 1) := by decide +kernel
theorem dX7_read_60 : decode cX7_read 60 = .ok (.iload_n 2, 1) := by decide +kernel
theorem dX7_read_61 : decode cX7_read 61 = .ok (.iconst 0, 1) := by decide +kernel
theorem dX7_read_62 : decode cX7_read 62 = .ok (.iload 6, 2) := by decide +kernel
theorem dX7_read_64 : decode cX7_read 64 = .ok (.bipush 6, 2) := by decide +kernel
theorem dX7_read_66 : decode cX7_read 66 = .ok (.idiv, 1) := by decide +kernel
theorem dX7_read_67 : decode cX7_read 67 = .ok (.invokevirtual 95, 3) := by decide +kernel
theorem dX7_read_70 : decode cX7_read 70 = .ok (.aload_n 0, 1) := by decide +kernel
theorem dX7_read_71 : decode cX7_read 71 = .ok (.iload_n 3, 1) := by decide +kernel
theorem dX7_read_72 : decode cX7_read 72 = .ok (.iconst 0, 1) := by decide +kernel
theorem dX7_read_73 : decode cX7_read 73 = .ok (.iload 6, 2) := by decide +kernel
theorem dX7_read_75 : decode cX7_read 75 = .ok (.bipush 6, 2) := by decide +kernel
theorem dX7_read_77 : decode cX7_read 77 = .ok (.irem, 1) := by decide +kernel
theorem dX7_read_78 : decode cX7_read 78 = .ok (.invokevirtual 95, 3) := by decide +kernel
theorem dX7_read_81 : decode cX7_read 81 = .ok (.iload 5, 2) := by decide +kernel
theorem dX7_read_83 : decode cX7_read 83 = .ok (.aload_n 0, 1) := by decide +kernel
theorem dX7_read_84 : decode cX7_read 84 = .ok (.iload_n 1, 1) := by decide +kernel
theorem dX7_read_85 : decode cX7_read 85 = .ok (.iload_n 2, 1) := by decide +kernel
theorem dX7_read_86 : decode cX7_read 86 = .ok (.invokevirtual 229, 3) := by decide +kernel
theorem dX7_read_89 : decode cX7_read 89 = .ok (.ifCond .eq 7, 3) := by decide +kernel
theorem dX7_read_92 : decode cX7_read 92 = .ok (.iconst 1, 1) := by decide +kernel
theorem dX7_read_93 : decode cX7_read 93 = .ok (.goto 4, 3) := by decide +kernel
theorem dX7_read_96 : decode cX7_read 96 = .ok (.iconst 0, 1) := by decide +kernel
theorem dX7_read_97 : decode cX7_read 97 = .ok (.iadd, 1) := by decide +kernel
theorem dX7_read_98 : decode cX7_read 98 = .ok (.istore 5, 2) := by decide +kernel
theorem dX7_read_100 : decode cX7_read 100 = .ok (.iinc 6 1, 3) := by decide +kernel
theorem dX7_read_103 : decode cX7_read 103 = .ok (.goto (-51), 3) := by decide +kernel
theorem dX7_read_106 : decode cX7_read 106 = .ok (.iload 5, 2) := by decide +kernel
theorem dX7_read_108 : decode cX7_read 108 = .ok (.ireturn, 1) := by decide +kernel
set_option maxRecDepth 20000 in
theorem ggX7_image_X7_copyAll : GoodIn wsX7_image wsX7_copyAll := goodIn_r _ [7] (by decide +kernel) (by decide +kernel)
set_option maxRecDepth 20000 in
theorem gX7_image_X7_copyAll : GoodIn wsX7_image (va_wsS RX7 143 yX7_copyAll wsX7_copyAll) := goodIn_app (goodIn_of _ (by decide +kernel)) ggX7_image_X7_copyAll
theorem dX7_image_0 : decode cX7_image 0 = .ok (.aload_n 0, 1) := by decide +kernel
theorem dX7_image_1 : decode cX7_image 1 = .ok (.getfield 9, 3) := by decide +kernel
theorem dX7_image_4 : decode cX7_image 4 = .ok (.aload_n 0, 1) := by decide +kernel
theorem dX7_image_5 : decode cX7_image 5 = .ok (.getfield 13, 3) := by decide +kernel
theorem dX7_image_8 : decode cX7_image 8 = .ok (.invokestatic 143, 3) := by decide +kernel
theorem dX7_image_11 : decode cX7_image 11 = .ok (.aload_n 0, 1) := by decide +kernel
theorem dX7_image_12 : decode cX7_image 12 = .ok (.iconst 1, 1) := by decide +kernel
theorem dX7_image_13 : decode cX7_image 13 = .ok (.putfield 232, 3) := by decide +kernel
theorem dX7_image_16 : decode cX7_image 16 = .ok (.iconst 1, 1) := by decide +kernel
theorem dX7_image_17 : decode cX7_image 17 = .ok (.ireturn, 1) := by decide +kernel
set_option maxRecDepth 20000 in
theorem ggX7_undo_X7_finds : GoodIn wsX7_undo wsX7_finds := goodIn_r _ [9, 10, 11, 15, 16, 17, 18, 19, 20, 21, 22, 23, 24, 25, 26, 27, 28, 29] (by decide +kernel) (by decide +kernel)
set_option maxRecDepth 20000 in
theorem gX7_undo_X7_finds : GoodIn wsX7_undo (wsV RX7 37 RX7 yX7_finds wsX7_finds) := goodIn_app (goodIn_of _ (by decide +kernel)) ggX7_undo_X7_finds
set_option maxRecDepth 20000 in
theorem ggX7_undo_X7_copyAll : GoodIn wsX7_undo wsX7_copyAll := goodIn_r _ [14] (by decide +kernel) (by decide +kernel)
set_option maxRecDepth 20000 in
theorem gX7_undo_X7_copyAll : GoodIn wsX7_undo (va_wsS RX7 143 yX7_copyAll wsX7_copyAll) := goodIn_app (goodIn_of _ (by decide +kernel)) ggX7_undo_X7_copyAll
theorem dX7_undo_0 : decode cX7_undo 0 = .ok (.aload_n 0, 1) := by decide +kernel
theorem dX7_undo_1 : decode cX7_undo 1 = .ok (.getfield 232, 3) := by decide +kernel
theorem dX7_undo_4 : decode cX7_undo 4 = .ok (.ifCond .ne 10, 3) := by decide +kernel
theorem dX7_undo_7 : decode cX7_undo 7 = .ok (.aload_n 0, 1) := by decide +kernel
theorem dX7_undo_8 : decode cX7_undo 8 = .ok (.ldc 36, 2) := by decide +kernel
theorem dX7_undo_10 : decode cX7_undo 10 = .ok (.invokevirtual 37, 3) := by decide +kernel
theorem dX7_undo_13 : decode cX7_undo 13 = .ok (.ireturn, 1) := by decide +kernel
theorem dX7_undo_14 : decode cX7_undo 14 = .ok (.aload_n 0, 1) := by decide +kernel
theorem dX7_undo_15 : decode cX7_undo 15 = .ok (.getfield 13, 3) := by decide +kernel
theorem dX7_undo_18 : decode cX7_undo 18 = .ok (.aload_n 0, 1) := by decide +kernel
theorem dX7_undo_19 : decode cX7_undo 19 = .ok (.getfield 9, 3) := by decide +kernel
theorem dX7_undo_22 : decode cX7_undo 22 = .ok (.invokestatic 143, 3) := by decide +kernel
theorem dX7_undo_25 : decode cX7_undo 25 = .ok (.aload_n 0, 1) := by decide +kernel
theorem dX7_undo_26 : decode cX7_undo 26 = .ok (.getfield 9, 3) := by decide +kernel
theorem dX7_undo_29 : decode cX7_undo 29 = .ok (.iconst 2, 1) := by decide +kernel
theorem dX7_undo_30 : decode cX7_undo 30 = .ok (.iaload, 1) := by decide +kernel
theorem dX7_undo_31 : decode cX7_undo 31 = .ok (.ireturn, 1) := by decide +kernel
theorem dX7_tear_0 : decode cX7_tear 0 = .ok (.aload_n 0, 1) := by decide +kernel
theorem dX7_tear_1 : decode cX7_tear 1 = .ok (.getfield 232, 3) := by decide +kernel
theorem dX7_tear_4 : decode cX7_tear 4 = .ok (.ifCond .eq 7, 3) := by decide +kernel
theorem dX7_tear_7 : decode cX7_tear 7 = .ok (.iconst 1, 1) := by decide +kernel
theorem dX7_tear_8 : decode cX7_tear 8 = .ok (.goto 4, 3) := by decide +kernel
theorem dX7_tear_11 : decode cX7_tear 11 = .ok (.iconst 0, 1) := by decide +kernel
theorem dX7_tear_12 : decode cX7_tear 12 = .ok (.istore_n 1, 1) := by decide +kernel
theorem dX7_tear_13 : decode cX7_tear 13 = .ok (.aload_n 0, 1) := by decide +kernel
theorem dX7_tear_14 : decode cX7_tear 14 = .ok (.iconst 0, 1) := by decide +kernel
theorem dX7_tear_15 : decode cX7_tear 15 = .ok (.putfield 232, 3) := by decide +kernel
theorem dX7_tear_18 : decode cX7_tear 18 = .ok (.iload_n 1, 1) := by decide +kernel
theorem dX7_tear_19 : decode cX7_tear 19 = .ok (.ireturn, 1) := by decide +kernel
set_option maxRecDepth 20000 in
theorem ggX7_count_X7_sums : GoodIn wsX7_count wsX7_sums := goodIn_r _ [8, 1, 9, 10, 11, 7, 12, 25, 26, 27, 28, 29, 30, 31, 32, 33, 34, 35, 36, 37, 38, 39] (by decide +kernel) (by decide +kernel)
set_option maxRecDepth 20000 in
theorem gX7_count_X7_sums : GoodIn wsX7_count (wsV RX7 89 RX7 yX7_sums wsX7_sums) := goodIn_app (goodIn_of _ (by decide +kernel)) ggX7_count_X7_sums
set_option maxRecDepth 20000 in
theorem ggX7_count_X7_thingsHad : GoodIn wsX7_count wsX7_thingsHad := goodIn_r _ [16, 1, 9, 10, 11, 7, 12, 25, 26, 27, 28, 29, 30, 31, 32, 33, 34, 35, 36, 37, 38, 39] (by decide +kernel) (by decide +kernel)
set_option maxRecDepth 20000 in
theorem gX7_count_X7_thingsHad : GoodIn wsX7_count (wsV RX7 78 RX7 yX7_thingsHad wsX7_thingsHad) := goodIn_app (goodIn_of _ (by decide +kernel)) ggX7_count_X7_thingsHad
set_option maxRecDepth 20000 in
theorem ggX7_count_X7_bits : GoodIn wsX7_count wsX7_bits := goodIn_r _ [19] (by decide +kernel) (by decide +kernel)
set_option maxRecDepth 20000 in
theorem gX7_count_X7_bits : GoodIn wsX7_count (va_wsS RX7 56 yX7_bits wsX7_bits) := goodIn_app (goodIn_of _ (by decide +kernel)) ggX7_count_X7_bits
set_option maxRecDepth 20000 in
theorem ggX7_count_X7_finds : GoodIn wsX7_count wsX7_finds := goodIn_r _ [23, 24, 3, 25, 26, 27, 28, 29, 30, 31, 32, 33, 34, 35, 36, 37, 38, 39] (by decide +kernel) (by decide +kernel)
set_option maxRecDepth 20000 in
theorem gX7_count_X7_finds : GoodIn wsX7_count (wsV RX7 37 RX7 yX7_finds wsX7_finds) := goodIn_app (goodIn_of _ (by decide +kernel)) ggX7_count_X7_finds
theorem dX7_count_0 : decode cX7_count 0 = .ok (.iload_n 1, 1) := by decide +kernel
theorem dX7_count_1 : decode cX7_count 1 = .ok (.tableswitch 60 0 3 #[31, 38, 43, 49], 31) := by decide +kernel
theorem dX7_count_32 : decode cX7_count 32 = .ok (.aload_n 0, 1) := by decide +kernel
theorem dX7_count_33 : decode cX7_count 33 = .ok (.getfield 9, 3) := by decide +kernel
theorem dX7_count_36 : decode cX7_count 36 = .ok (.iconst 2, 1) := by decide +kernel
theorem dX7_count_37 : decode cX7_count 37 = .ok (.iaload, 1) := by decide +kernel
theorem dX7_count_38 : decode cX7_count 38 = .ok (.ireturn, 1) := by decide +kernel
theorem dX7_count_39 : decode cX7_count 39 = .ok (.aload_n 0, 1) := by decide +kernel
theorem dX7_count_40 : decode cX7_count 40 = .ok (.getfield 159, 3) := by decide +kernel
theorem dX7_count_43 : decode cX7_count 43 = .ok (.ireturn, 1) := by decide +kernel
theorem dX7_count_44 : decode cX7_count 44 = .ok (.aload_n 0, 1) := by decide +kernel
theorem dX7_count_45 : decode cX7_count 45 = .ok (.iconst 3, 1) := by decide +kernel
theorem dX7_count_46 : decode cX7_count 46 = .ok (.invokevirtual 89, 3) := by decide +kernel
theorem dX7_count_49 : decode cX7_count 49 = .ok (.ireturn, 1) := by decide +kernel
theorem dX7_count_50 : decode cX7_count 50 = .ok (.bipush 10, 2) := by decide +kernel
theorem dX7_count_52 : decode cX7_count 52 = .ok (.aload_n 0, 1) := by decide +kernel
theorem dX7_count_53 : decode cX7_count 53 = .ok (.invokevirtual 78, 3) := by decide +kernel
theorem dX7_count_56 : decode cX7_count 56 = .ok (.invokestatic 56, 3) := by decide +kernel
theorem dX7_count_59 : decode cX7_count 59 = .ok (.isub, 1) := by decide +kernel
theorem dX7_count_60 : decode cX7_count 60 = .ok (.ireturn, 1) := by decide +kernel
theorem dX7_count_61 : decode cX7_count 61 = .ok (.aload_n 0, 1) := by decide +kernel
theorem dX7_count_62 : decode cX7_count 62 = .ok (.ldc 35, 2) := by decide +kernel
theorem dX7_count_64 : decode cX7_count 64 = .ok (.invokevirtual 37, 3) := by decide +kernel
theorem dX7_count_67 : decode cX7_count 67 = .ok (.ireturn, 1) := by decide +kernel
set_option maxRecDepth 20000 in
theorem ggX7_status_X7_in : GoodIn wsX7_status wsX7_in := goodIn_r _ [6] (by decide +kernel) (by decide +kernel)
set_option maxRecDepth 20000 in
theorem gX7_status_X7_in : GoodIn wsX7_status (va_wsS RX7 41 yX7_in wsX7_in) := goodIn_app (goodIn_of _ (by decide +kernel)) ggX7_status_X7_in
set_option maxRecDepth 20000 in
theorem ggX7_status_X7_finds : GoodIn wsX7_status wsX7_finds := goodIn_r _ [10, 2, 1, 11, 12, 13, 14, 15, 16, 17, 18, 19, 20, 21, 22, 23, 24, 25] (by decide +kernel) (by decide +kernel)
set_option maxRecDepth 20000 in
theorem gX7_status_X7_finds : GoodIn wsX7_status (wsV RX7 37 RX7 yX7_finds wsX7_finds) := goodIn_app (goodIn_of _ (by decide +kernel)) ggX7_status_X7_finds
theorem dX7_status_0 : decode cX7_status 0 = .ok (.iload_n 1, 1) := by decide +kernel
theorem dX7_status_1 : decode cX7_status 1 = .ok (.i2l, 1) := by decide +kernel
theorem dX7_status_2 : decode cX7_status 2 = .ok (.iconst (-1), 1) := by decide +kernel
theorem dX7_status_3 : decode cX7_status 3 = .ok (.bipush 6, 2) := by decide +kernel
theorem dX7_status_5 : decode cX7_status 5 = .ok (.invokestatic 41, 3) := by decide +kernel
theorem dX7_status_8 : decode cX7_status 8 = .ok (.ifCond .ne 10, 3) := by decide +kernel
theorem dX7_status_11 : decode cX7_status 11 = .ok (.aload_n 0, 1) := by decide +kernel
theorem dX7_status_12 : decode cX7_status 12 = .ok (.ldc 35, 2) := by decide +kernel
theorem dX7_status_14 : decode cX7_status 14 = .ok (.invokevirtual 37, 3) := by decide +kernel
theorem dX7_status_17 : decode cX7_status 17 = .ok (.ireturn, 1) := by decide +kernel
theorem dX7_status_18 : decode cX7_status 18 = .ok (.iconst 0, 1) := by decide +kernel
theorem dX7_status_19 : decode cX7_status 19 = .ok (.istore_n 2, 1) := by decide +kernel
theorem dX7_status_20 : decode cX7_status 20 = .ok (.iconst 0, 1) := by decide +kernel
theorem dX7_status_21 : decode cX7_status 21 = .ok (.istore_n 3, 1) := by decide +kernel
theorem dX7_status_22 : decode cX7_status 22 = .ok (.iload_n 3, 1) := by decide +kernel
theorem dX7_status_23 : decode cX7_status 23 = .ok (.bipush 7, 2) := by decide +kernel
theorem dX7_status_25 : decode cX7_status 25 = .ok (.if_icmp .ge 31, 3) := by decide +kernel
theorem dX7_status_28 : decode cX7_status 28 = .ok (.iload_n 2, 1) := by decide +kernel
theorem dX7_status_29 : decode cX7_status 29 = .ok (.iload_n 1, 1) := by decide +kernel
theorem dX7_status_30 : decode cX7_status 30 = .ok (.ifCond .lt 8, 3) := by decide +kernel
theorem dX7_status_33 : decode cX7_status 33 = .ok (.iload_n 1, 1) := by decide +kernel
theorem dX7_status_34 : decode cX7_status 34 = .ok (.iload_n 3, 1) := by decide +kernel
theorem dX7_status_35 : decode cX7_status 35 = .ok (.if_icmp .ne 12, 3) := by decide +kernel
theorem dX7_status_38 : decode cX7_status 38 = .ok (.aload_n 0, 1) := by decide +kernel
theorem dX7_status_39 : decode cX7_status 39 = .ok (.getfield 19, 3) := by decide +kernel
theorem dX7_status_42 : decode cX7_status 42 = .ok (.iload_n 3, 1) := by decide +kernel
theorem dX7_status_43 : decode cX7_status 43 = .ok (.iaload, 1) := by decide +kernel
theorem dX7_status_44 : decode cX7_status 44 = .ok (.goto 4, 3) := by decide +kernel
theorem dX7_status_47 : decode cX7_status 47 = .ok (.iconst 0, 1) := by decide +kernel
theorem dX7_status_48 : decode cX7_status 48 = .ok (.iadd, 1) := by decide +kernel
theorem dX7_status_49 : decode cX7_status 49 = .ok (.istore_n 2, 1) := by decide +kernel
theorem dX7_status_50 : decode cX7_status 50 = .ok (.iinc 3 1, 3) := by decide +kernel
theorem dX7_status_53 : decode cX7_status 53 = .ok (.goto (-31), 3) := by decide +kernel
theorem dX7_status_56 : decode cX7_status 56 = .ok (.iload_n 2, 1) := by decide +kernel
theorem dX7_status_57 : decode cX7_status 57 = .ok (.ireturn, 1) := by decide +kernel
theorem dJ6_bitCount_0f7a4_0 : decode cJ6_bitCount_0f7a4 0 = .ok (.iload_n 0, 1) := by decide +kernel
theorem dJ6_bitCount_0f7a4_1 : decode cJ6_bitCount_0f7a4 1 = .ok (.iload_n 0, 1) := by decide +kernel
theorem dJ6_bitCount_0f7a4_2 : decode cJ6_bitCount_0f7a4 2 = .ok (.iconst 1, 1) := by decide +kernel
theorem dJ6_bitCount_0f7a4_3 : decode cJ6_bitCount_0f7a4 3 = .ok (.iushr, 1) := by decide +kernel
theorem dJ6_bitCount_0f7a4_4 : decode cJ6_bitCount_0f7a4 4 = .ok (.ldc_w 265, 3) := by decide +kernel
theorem dJ6_bitCount_0f7a4_7 : decode cJ6_bitCount_0f7a4 7 = .ok (.iand, 1) := by decide +kernel
theorem dJ6_bitCount_0f7a4_8 : decode cJ6_bitCount_0f7a4 8 = .ok (.isub, 1) := by decide +kernel
theorem dJ6_bitCount_0f7a4_9 : decode cJ6_bitCount_0f7a4 9 = .ok (.istore_n 0, 1) := by decide +kernel
theorem dJ6_bitCount_0f7a4_10 : decode cJ6_bitCount_0f7a4 10 = .ok (.iload_n 0, 1) := by decide +kernel
theorem dJ6_bitCount_0f7a4_11 : decode cJ6_bitCount_0f7a4 11 = .ok (.ldc_w 266, 3) := by decide +kernel
theorem dJ6_bitCount_0f7a4_14 : decode cJ6_bitCount_0f7a4 14 = .ok (.iand, 1) := by decide +kernel
theorem dJ6_bitCount_0f7a4_15 : decode cJ6_bitCount_0f7a4 15 = .ok (.iload_n 0, 1) := by decide +kernel
theorem dJ6_bitCount_0f7a4_16 : decode cJ6_bitCount_0f7a4 16 = .ok (.iconst 2, 1) := by decide +kernel
theorem dJ6_bitCount_0f7a4_17 : decode cJ6_bitCount_0f7a4 17 = .ok (.iushr, 1) := by decide +kernel
theorem dJ6_bitCount_0f7a4_18 : decode cJ6_bitCount_0f7a4 18 = .ok (.ldc_w 266, 3) := by decide +kernel
theorem dJ6_bitCount_0f7a4_21 : decode cJ6_bitCount_0f7a4 21 = .ok (.iand, 1) := by decide +kernel
theorem dJ6_bitCount_0f7a4_22 : decode cJ6_bitCount_0f7a4 22 = .ok (.iadd, 1) := by decide +kernel
theorem dJ6_bitCount_0f7a4_23 : decode cJ6_bitCount_0f7a4 23 = .ok (.istore_n 0, 1) := by decide +kernel
theorem dJ6_bitCount_0f7a4_24 : decode cJ6_bitCount_0f7a4 24 = .ok (.iload_n 0, 1) := by decide +kernel
theorem dJ6_bitCount_0f7a4_25 : decode cJ6_bitCount_0f7a4 25 = .ok (.iload_n 0, 1) := by decide +kernel
theorem dJ6_bitCount_0f7a4_26 : decode cJ6_bitCount_0f7a4 26 = .ok (.iconst 4, 1) := by decide +kernel
theorem dJ6_bitCount_0f7a4_27 : decode cJ6_bitCount_0f7a4 27 = .ok (.iushr, 1) := by decide +kernel
theorem dJ6_bitCount_0f7a4_28 : decode cJ6_bitCount_0f7a4 28 = .ok (.iadd, 1) := by decide +kernel
theorem dJ6_bitCount_0f7a4_29 : decode cJ6_bitCount_0f7a4 29 = .ok (.ldc_w 267, 3) := by decide +kernel
theorem dJ6_bitCount_0f7a4_32 : decode cJ6_bitCount_0f7a4 32 = .ok (.iand, 1) := by decide +kernel
theorem dJ6_bitCount_0f7a4_33 : decode cJ6_bitCount_0f7a4 33 = .ok (.istore_n 0, 1) := by decide +kernel
theorem dJ6_bitCount_0f7a4_34 : decode cJ6_bitCount_0f7a4 34 = .ok (.iload_n 0, 1) := by decide +kernel
theorem dJ6_bitCount_0f7a4_35 : decode cJ6_bitCount_0f7a4 35 = .ok (.iload_n 0, 1) := by decide +kernel
theorem dJ6_bitCount_0f7a4_36 : decode cJ6_bitCount_0f7a4 36 = .ok (.bipush 8, 2) := by decide +kernel
theorem dJ6_bitCount_0f7a4_38 : decode cJ6_bitCount_0f7a4 38 = .ok (.iushr, 1) := by decide +kernel
theorem dJ6_bitCount_0f7a4_39 : decode cJ6_bitCount_0f7a4 39 = .ok (.iadd, 1) := by decide +kernel
theorem dJ6_bitCount_0f7a4_40 : decode cJ6_bitCount_0f7a4 40 = .ok (.istore_n 0, 1) := by decide +kernel
theorem dJ6_bitCount_0f7a4_41 : decode cJ6_bitCount_0f7a4 41 = .ok (.iload_n 0, 1) := by decide +kernel
theorem dJ6_bitCount_0f7a4_42 : decode cJ6_bitCount_0f7a4 42 = .ok (.iload_n 0, 1) := by decide +kernel
theorem dJ6_bitCount_0f7a4_43 : decode cJ6_bitCount_0f7a4 43 = .ok (.bipush 16, 2) := by decide +kernel
theorem dJ6_bitCount_0f7a4_45 : decode cJ6_bitCount_0f7a4 45 = .ok (.iushr, 1) := by decide +kernel
theorem dJ6_bitCount_0f7a4_46 : decode cJ6_bitCount_0f7a4 46 = .ok (.iadd, 1) := by decide +kernel
theorem dJ6_bitCount_0f7a4_47 : decode cJ6_bitCount_0f7a4 47 = .ok (.istore_n 0, 1) := by decide +kernel
theorem dJ6_bitCount_0f7a4_48 : decode cJ6_bitCount_0f7a4 48 = .ok (.iload_n 0, 1) := by decide +kernel
theorem dJ6_bitCount_0f7a4_49 : decode cJ6_bitCount_0f7a4 49 = .ok (.bipush 63, 2) := by decide +kernel
theorem dJ6_bitCount_0f7a4_51 : decode cJ6_bitCount_0f7a4 51 = .ok (.iand, 1) := by decide +kernel
theorem dJ6_bitCount_0f7a4_52 : decode cJ6_bitCount_0f7a4 52 = .ok (.ireturn, 1) := by decide +kernel
theorem dJ9_max_7cf53_0 : decode cJ9_max_7cf53 0 = .ok (.iload_n 0, 1) := by decide +kernel
theorem dJ9_max_7cf53_1 : decode cJ9_max_7cf53 1 = .ok (.iload_n 1, 1) := by decide +kernel
theorem dJ9_max_7cf53_2 : decode cJ9_max_7cf53 2 = .ok (.if_icmp .lt 7, 3) := by decide +kernel
theorem dJ9_max_7cf53_5 : decode cJ9_max_7cf53 5 = .ok (.iload_n 0, 1) := by decide +kernel
theorem dJ9_max_7cf53_6 : decode cJ9_max_7cf53 6 = .ok (.goto 4, 3) := by decide +kernel
theorem dJ9_max_7cf53_9 : decode cJ9_max_7cf53 9 = .ok (.iload_n 1, 1) := by decide +kernel
theorem dJ9_max_7cf53_10 : decode cJ9_max_7cf53 10 = .ok (.ireturn, 1) := by decide +kernel
theorem dJ9_min_7cf53_0 : decode cJ9_min_7cf53 0 = .ok (.iload_n 0, 1) := by decide +kernel
theorem dJ9_min_7cf53_1 : decode cJ9_min_7cf53 1 = .ok (.iload_n 1, 1) := by decide +kernel
theorem dJ9_min_7cf53_2 : decode cJ9_min_7cf53 2 = .ok (.if_icmp .gt 7, 3) := by decide +kernel
theorem dJ9_min_7cf53_5 : decode cJ9_min_7cf53 5 = .ok (.iload_n 0, 1) := by decide +kernel
theorem dJ9_min_7cf53_6 : decode cJ9_min_7cf53 6 = .ok (.goto 4, 3) := by decide +kernel
theorem dJ9_min_7cf53_9 : decode cJ9_min_7cf53 9 = .ok (.iload_n 1, 1) := by decide +kernel
theorem dJ9_min_7cf53_10 : decode cJ9_min_7cf53 10 = .ok (.ireturn, 1) := by decide +kernel
set_option maxRecDepth 20000 in
theorem ggJ0_length_8abf5_J0_coder_7d493 : GoodIn wsJ0_length_8abf5 wsJ0_coder_7d493 := goodIn_r _ [6, 7, 8] (by decide +kernel) (by decide +kernel)
set_option maxRecDepth 20000 in
theorem gJ0_length_8abf5_J0_coder_7d493 : GoodIn wsJ0_length_8abf5 (wsV RJ0 335 RJ0 yJ0_coder_7d493 wsJ0_coder_7d493) := goodIn_app (goodIn_of _ (by decide +kernel)) ggJ0_length_8abf5_J0_coder_7d493
theorem dJ0_length_8abf5_0 : decode cJ0_length_8abf5 0 = .ok (.aload_n 0, 1) := by decide +kernel
theorem dJ0_length_8abf5_1 : decode cJ0_length_8abf5 1 = .ok (.getfield 9, 3) := by decide +kernel
theorem dJ0_length_8abf5_4 : decode cJ0_length_8abf5 4 = .ok (.arraylength, 1) := by decide +kernel
theorem dJ0_length_8abf5_5 : decode cJ0_length_8abf5 5 = .ok (.aload_n 0, 1) := by decide +kernel
theorem dJ0_length_8abf5_6 : decode cJ0_length_8abf5 6 = .ok (.invokevirtual 335, 3) := by decide +kernel
theorem dJ0_length_8abf5_9 : decode cJ0_length_8abf5 9 = .ok (.ishr, 1) := by decide +kernel
theorem dJ0_length_8abf5_10 : decode cJ0_length_8abf5 10 = .ok (.ireturn, 1) := by decide +kernel
set_option maxRecDepth 20000 in
theorem ggJ0_charAt_5068e_J0_isLatin1_aae02 : GoodIn wsJ0_charAt_5068e wsJ0_isLatin1_aae02 := goodIn_r _ [6, 7, 8] (by decide +kernel) (by decide +kernel)
set_option maxRecDepth 20000 in
theorem gJ0_charAt_5068e_J0_isLatin1_aae02 : GoodIn wsJ0_charAt_5068e (wsV RJ0 492 RJ0 yJ0_isLatin1_aae02 wsJ0_isLatin1_aae02) := goodIn_app (goodIn_of _ (by decide +kernel)) ggJ0_charAt_5068e_J0_isLatin1_aae02
set_option maxRecDepth 20000 in
theorem ggJ0_charAt_5068e_J1_charAt_3b067 : GoodIn wsJ0_charAt_5068e wsJ1_charAt_3b067 := goodIn_r _ [12, 13, 14, 5, 15, 16, 17, 18, 19, 20] (by decide +kernel) (by decide +kernel)
set_option maxRecDepth 20000 in
theorem gJ0_charAt_5068e_J1_charAt_3b067 : GoodIn wsJ0_charAt_5068e (va_wsS RJ0 495 yJ1_charAt_3b067 wsJ1_charAt_3b067) := goodIn_app (goodIn_of _ (by decide +kernel)) ggJ0_charAt_5068e_J1_charAt_3b067
set_option maxRecDepth 20000 in
theorem ggJ0_charAt_5068e_J2_charAt_3b067 : GoodIn wsJ0_charAt_5068e wsJ2_charAt_3b067 := goodIn_r _ [24, 25, 26, 23, 27, 28, 29, 30, 31, 14, 5, 15, 16, 17, 18, 19, 20, 32, 33, 34, 35, 36, 37] (by decide +kernel) (by decide +kernel)
set_option maxRecDepth 20000 in
theorem gJ0_charAt_5068e_J2_charAt_3b067 : GoodIn wsJ0_charAt_5068e (va_wsS RJ0 498 yJ2_charAt_3b067 wsJ2_charAt_3b067) := goodIn_app (goodIn_of _ (by decide +kernel)) ggJ0_charAt_5068e_J2_charAt_3b067
theorem dJ0_charAt_5068e_0 : decode cJ0_charAt_5068e 0 = .ok (.aload_n 0, 1) := by decide +kernel
theorem dJ0_charAt_5068e_1 : decode cJ0_charAt_5068e 1 = .ok (.invokevirtual 492, 3) := by decide +kernel
theorem dJ0_charAt_5068e_4 : decode cJ0_charAt_5068e 4 = .ok (.ifCond .eq 12, 3) := by decide +kernel
theorem dJ0_charAt_5068e_7 : decode cJ0_charAt_5068e 7 = .ok (.aload_n 0, 1) := by decide +kernel
theorem dJ0_charAt_5068e_8 : decode cJ0_charAt_5068e 8 = .ok (.getfield 9, 3) := by decide +kernel
theorem dJ0_charAt_5068e_11 : decode cJ0_charAt_5068e 11 = .ok (.iload_n 1, 1) := by decide +kernel
theorem dJ0_charAt_5068e_12 : decode cJ0_charAt_5068e 12 = .ok (.invokestatic 495, 3) := by decide +kernel
theorem dJ0_charAt_5068e_15 : decode cJ0_charAt_5068e 15 = .ok (.ireturn, 1) := by decide +kernel
theorem dJ0_charAt_5068e_16 : decode cJ0_charAt_5068e 16 = .ok (.aload_n 0, 1) := by decide +kernel
theorem dJ0_charAt_5068e_17 : decode cJ0_charAt_5068e 17 = .ok (.getfield 9, 3) := by decide +kernel
theorem dJ0_charAt_5068e_20 : decode cJ0_charAt_5068e 20 = .ok (.iload_n 1, 1) := by decide +kernel
theorem dJ0_charAt_5068e_21 : decode cJ0_charAt_5068e 21 = .ok (.invokestatic 498, 3) := by decide +kernel
theorem dJ0_charAt_5068e_24 : decode cJ0_charAt_5068e 24 = .ok (.ireturn, 1) := by decide +kernel
theorem dJ0_coder_7d493_0 : decode cJ0_coder_7d493 0 = .ok (.getstatic 38, 3) := by decide +kernel
