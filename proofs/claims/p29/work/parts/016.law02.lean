theorem dL_isWaste_19 : decode cL_isWaste 19 = .ok (.iadd, 1) := by decide +kernel
theorem dL_isWaste_20 : decode cL_isWaste 20 = .ok (.invokevirtual 68, 3) := by decide +kernel
theorem dL_isWaste_23 : decode cL_isWaste 23 = .ok (.istore_n 3, 1) := by decide +kernel
theorem dL_isWaste_24 : decode cL_isWaste 24 = .ok (.aload_n 0, 1) := by decide +kernel
theorem dL_isWaste_25 : decode cL_isWaste 25 = .ok (.iload_n 1, 1) := by decide +kernel
theorem dL_isWaste_26 : decode cL_isWaste 26 = .ok (.invokevirtual 71, 3) := by decide +kernel
theorem dL_isWaste_29 : decode cL_isWaste 29 = .ok (.iload_n 2, 1) := by decide +kernel
theorem dL_isWaste_30 : decode cL_isWaste 30 = .ok (.if_icmp .ne 23, 3) := by decide +kernel
theorem dL_isWaste_33 : decode cL_isWaste 33 = .ok (.iload_n 3, 1) := by decide +kernel
theorem dL_isWaste_34 : decode cL_isWaste 34 = .ok (.iconst (-1), 1) := by decide +kernel
theorem dL_isWaste_35 : decode cL_isWaste 35 = .ok (.if_icmp .eq 14, 3) := by decide +kernel
theorem dL_isWaste_38 : decode cL_isWaste 38 = .ok (.iload_n 2, 1) := by decide +kernel
theorem dL_isWaste_39 : decode cL_isWaste 39 = .ok (.ifCond .lt 14, 3) := by decide +kernel
theorem dL_isWaste_42 : decode cL_isWaste 42 = .ok (.iload_n 2, 1) := by decide +kernel
theorem dL_isWaste_43 : decode cL_isWaste 43 = .ok (.iload_n 3, 1) := by decide +kernel
theorem dL_isWaste_44 : decode cL_isWaste 44 = .ok (.iconst 1, 1) := by decide +kernel
theorem dL_isWaste_45 : decode cL_isWaste 45 = .ok (.iadd, 1) := by decide +kernel
theorem dL_isWaste_46 : decode cL_isWaste 46 = .ok (.if_icmp .gt 7, 3) := by decide +kernel
theorem dL_isWaste_49 : decode cL_isWaste 49 = .ok (.iconst 1, 1) := by decide +kernel
theorem dL_isWaste_50 : decode cL_isWaste 50 = .ok (.goto 4, 3) := by decide +kernel
theorem dL_isWaste_53 : decode cL_isWaste 53 = .ok (.iconst 0, 1) := by decide +kernel
theorem dL_isWaste_54 : decode cL_isWaste 54 = .ok (.ireturn, 1) := by decide +kernel
set_option maxRecDepth 20000 in
theorem ggL_areCopies_X4_copyOf : GoodIn wsL_areCopies wsX4_copyOf := goodIn_ca (goodIn_r _ [5, 6, 7, 8, 9, 4, 10, 11, 12, 13, 14, 15, 16, 17, 18, 19, 20, 21, 22, 23, 24, 25, 75, 76, 77, 78, 79, 80, 81, 82, 83, 84, 85, 86, 87, 88, 89, 90, 91, 92, 93, 94, 95, 96, 97, 98] (by decide +kernel) (by decide +kernel)) (goodIn_sub (fun _ h => List.mem_cons_of_mem _ (List.mem_append_right _ h)) (by decide +kernel))
set_option maxRecDepth 20000 in
theorem gL_areCopies_X4_copyOf : GoodIn wsL_areCopies (wsV RL 58 RX4 yX4_copyOf wsX4_copyOf) := goodIn_app (goodIn_of _ (by decide +kernel)) ggL_areCopies_X4_copyOf
set_option maxRecDepth 20000 in
theorem ggL_areCopies_X4_stateOf : GoodIn wsL_areCopies wsX4_stateOf := goodIn_ca (goodIn_r _ [29, 7, 8, 9, 4, 10, 11, 12, 30, 31, 32, 16, 33, 19, 34, 20, 21, 22, 23, 24, 25, 75, 76, 77, 87, 88, 89, 90, 91, 92, 93, 94, 95, 96, 97, 98] (by decide +kernel) (by decide +kernel)) (goodIn_sub (fun _ h => List.mem_cons_of_mem _ (List.mem_append_right _ h)) (by decide +kernel))
set_option maxRecDepth 20000 in
theorem gL_areCopies_X4_stateOf : GoodIn wsL_areCopies (wsV RL 74 RX4 yX4_stateOf wsX4_stateOf) := goodIn_app (goodIn_of _ (by decide +kernel)) ggL_areCopies_X4_stateOf
set_option maxRecDepth 20000 in
theorem ggL_areCopies_X4_lenders : GoodIn wsL_areCopies wsX4_lenders := goodIn_ca (goodIn_r _ [38, 7, 8, 9, 4, 10, 11, 12, 39, 40, 41, 16, 42, 18, 43, 44, 45, 46, 47, 31, 32, 33, 19, 34, 20, 21, 22, 23, 24, 25, 48, 49, 50, 51, 52, 53, 54, 55, 56, 57, 58, 59, 60, 61, 62, 63, 64, 65, 66, 67, 68, 69, 75, 76, 77, 87, 88, 89, 90, 91, 92, 93, 94, 95, 96, 97, 98] (by decide +kernel) (by decide +kernel)) (goodIn_sub (fun _ h => List.mem_cons_of_mem _ (List.mem_append_right _ h)) (by decide +kernel))
set_option maxRecDepth 20000 in
theorem gL_areCopies_X4_lenders : GoodIn wsL_areCopies (wsV RL 77 RX4 yX4_lenders wsX4_lenders) := goodIn_app (goodIn_of _ (by decide +kernel)) ggL_areCopies_X4_lenders
set_option maxRecDepth 20000 in
theorem ggL_areCopies_X4_pieces : GoodIn wsL_areCopies wsX4_pieces := goodIn_ca (goodIn_r _ [73, 7, 8, 9, 4, 10, 11, 12, 74, 60, 61, 16, 62, 54, 20, 21, 22, 23, 24, 25, 75, 76, 77, 87, 88, 89, 90, 91, 92, 93, 94, 95, 96, 97, 98] (by decide +kernel) (by decide +kernel)) (goodIn_sub (fun _ h => List.mem_cons_of_mem _ (List.mem_append_right _ h)) (by decide +kernel))
set_option maxRecDepth 20000 in
theorem gL_areCopies_X4_pieces : GoodIn wsL_areCopies (wsV RL 80 RX4 yX4_pieces wsX4_pieces) := goodIn_app (goodIn_of _ (by decide +kernel)) ggL_areCopies_X4_pieces
theorem dL_areCopies_0 : decode cL_areCopies 0 = .ok (.iconst 0, 1) := by decide +kernel
theorem dL_areCopies_1 : decode cL_areCopies 1 = .ok (.istore 5, 2) := by decide +kernel
theorem dL_areCopies_3 : decode cL_areCopies 3 = .ok (.iconst 1, 1) := by decide +kernel
theorem dL_areCopies_4 : decode cL_areCopies 4 = .ok (.istore 6, 2) := by decide +kernel
theorem dL_areCopies_6 : decode cL_areCopies 6 = .ok (.iconst 0, 1) := by decide +kernel
theorem dL_areCopies_7 : decode cL_areCopies 7 = .ok (.istore 7, 2) := by decide +kernel
theorem dL_areCopies_9 : decode cL_areCopies 9 = .ok (.iload 7, 2) := by decide +kernel
theorem dL_areCopies_11 : decode cL_areCopies 11 = .ok (.iload 4, 2) := by decide +kernel
theorem dL_areCopies_13 : decode cL_areCopies 13 = .ok (.if_icmp .ge 74, 3) := by decide +kernel
theorem dL_areCopies_16 : decode cL_areCopies 16 = .ok (.iload 6, 2) := by decide +kernel
theorem dL_areCopies_18 : decode cL_areCopies 18 = .ok (.ifCond .eq 69, 3) := by decide +kernel
theorem dL_areCopies_21 : decode cL_areCopies 21 = .ok (.aload_n 0, 1) := by decide +kernel
theorem dL_areCopies_22 : decode cL_areCopies 22 = .ok (.iload 7, 2) := by decide +kernel
theorem dL_areCopies_24 : decode cL_areCopies 24 = .ok (.invokevirtual 58, 3) := by decide +kernel
theorem dL_areCopies_27 : decode cL_areCopies 27 = .ok (.istore 8, 2) := by decide +kernel
theorem dL_areCopies_29 : decode cL_areCopies 29 = .ok (.iload 8, 2) := by decide +kernel
theorem dL_areCopies_31 : decode cL_areCopies 31 = .ok (.iconst (-1), 1) := by decide +kernel
theorem dL_areCopies_32 : decode cL_areCopies 32 = .ok (.if_icmp .eq 23, 3) := by decide +kernel
theorem dL_areCopies_35 : decode cL_areCopies 35 = .ok (.iload 5, 2) := by decide +kernel
theorem dL_areCopies_37 : decode cL_areCopies 37 = .ok (.iload 8, 2) := by decide +kernel
theorem dL_areCopies_39 : decode cL_areCopies 39 = .ok (.ishr, 1) := by decide +kernel
theorem dL_areCopies_40 : decode cL_areCopies 40 = .ok (.iconst 1, 1) := by decide +kernel
theorem dL_areCopies_41 : decode cL_areCopies 41 = .ok (.iand, 1) := by decide +kernel
theorem dL_areCopies_42 : decode cL_areCopies 42 = .ok (.ifCond .ne 17, 3) := by decide +kernel
theorem dL_areCopies_45 : decode cL_areCopies 45 = .ok (.aload_n 0, 1) := by decide +kernel
theorem dL_areCopies_46 : decode cL_areCopies 46 = .ok (.iload 8, 2) := by decide +kernel
theorem dL_areCopies_48 : decode cL_areCopies 48 = .ok (.invokevirtual 74, 3) := by decide +kernel
theorem dL_areCopies_51 : decode cL_areCopies 51 = .ok (.iconst 1, 1) := by decide +kernel
theorem dL_areCopies_52 : decode cL_areCopies 52 = .ok (.if_icmp .ne 7, 3) := by decide +kernel
theorem dL_areCopies_55 : decode cL_areCopies 55 = .ok (.iconst 1, 1) := by decide +kernel
theorem dL_areCopies_56 : decode cL_areCopies 56 = .ok (.goto 4, 3) := by decide +kernel
theorem dL_areCopies_59 : decode cL_areCopies 59 = .ok (.iconst 0, 1) := by decide +kernel
theorem dL_areCopies_60 : decode cL_areCopies 60 = .ok (.istore 6, 2) := by decide +kernel
theorem dL_areCopies_62 : decode cL_areCopies 62 = .ok (.iload 5, 2) := by decide +kernel
theorem dL_areCopies_64 : decode cL_areCopies 64 = .ok (.iload 8, 2) := by decide +kernel
theorem dL_areCopies_66 : decode cL_areCopies 66 = .ok (.iconst (-1), 1) := by decide +kernel
theorem dL_areCopies_67 : decode cL_areCopies 67 = .ok (.if_icmp .ne 7, 3) := by decide +kernel
theorem dL_areCopies_70 : decode cL_areCopies 70 = .ok (.iconst 0, 1) := by decide +kernel
theorem dL_areCopies_71 : decode cL_areCopies 71 = .ok (.goto 7, 3) := by decide +kernel
theorem dL_areCopies_74 : decode cL_areCopies 74 = .ok (.iconst 1, 1) := by decide +kernel
theorem dL_areCopies_75 : decode cL_areCopies 75 = .ok (.iload 8, 2) := by decide +kernel
theorem dL_areCopies_77 : decode cL_areCopies 77 = .ok (.ishl, 1) := by decide +kernel
theorem dL_areCopies_78 : decode cL_areCopies 78 = .ok (.ior, 1) := by decide +kernel
theorem dL_areCopies_79 : decode cL_areCopies 79 = .ok (.istore 5, 2) := by decide +kernel
theorem dL_areCopies_81 : decode cL_areCopies 81 = .ok (.iinc 7 1, 3) := by decide +kernel
theorem dL_areCopies_84 : decode cL_areCopies 84 = .ok (.goto (-75), 3) := by decide +kernel
theorem dL_areCopies_87 : decode cL_areCopies 87 = .ok (.iconst 0, 1) := by decide +kernel
theorem dL_areCopies_88 : decode cL_areCopies 88 = .ok (.istore 7, 2) := by decide +kernel
theorem dL_areCopies_90 : decode cL_areCopies 90 = .ok (.iload 7, 2) := by decide +kernel
theorem dL_areCopies_92 : decode cL_areCopies 92 = .ok (.iload_n 3, 1) := by decide +kernel
theorem dL_areCopies_93 : decode cL_areCopies 93 = .ok (.if_icmp .ge 209, 3) := by decide +kernel
theorem dL_areCopies_96 : decode cL_areCopies 96 = .ok (.iload 6, 2) := by decide +kernel
theorem dL_areCopies_98 : decode cL_areCopies 98 = .ok (.ifCond .eq 204, 3) := by decide +kernel
theorem dL_areCopies_101 : decode cL_areCopies 101 = .ok (.aload_n 0, 1) := by decide +kernel
theorem dL_areCopies_102 : decode cL_areCopies 102 = .ok (.iload 7, 2) := by decide +kernel
theorem dL_areCopies_104 : decode cL_areCopies 104 = .ok (.invokevirtual 74, 3) := by decide +kernel
theorem dL_areCopies_107 : decode cL_areCopies 107 = .ok (.istore 8, 2) := by decide +kernel
theorem dL_areCopies_109 : decode cL_areCopies 109 = .ok (.aload_n 0, 1) := by decide +kernel
theorem dL_areCopies_110 : decode cL_areCopies 110 = .ok (.iload 7, 2) := by decide +kernel
theorem dL_areCopies_112 : decode cL_areCopies 112 = .ok (.invokevirtual 77, 3) := by decide +kernel
theorem dL_areCopies_115 : decode cL_areCopies 115 = .ok (.istore 9, 2) := by decide +kernel
theorem dL_areCopies_117 : decode cL_areCopies 117 = .ok (.iconst 1, 1) := by decide +kernel
theorem dL_areCopies_118 : decode cL_areCopies 118 = .ok (.istore 10, 2) := by decide +kernel
theorem dL_areCopies_120 : decode cL_areCopies 120 = .ok (.iconst 0, 1) := by decide +kernel
theorem dL_areCopies_121 : decode cL_areCopies 121 = .ok (.istore 11, 2) := by decide +kernel
theorem dL_areCopies_123 : decode cL_areCopies 123 = .ok (.iload 11, 2) := by decide +kernel
theorem dL_areCopies_125 : decode cL_areCopies 125 = .ok (.iconst 4, 1) := by decide +kernel
theorem dL_areCopies_126 : decode cL_areCopies 126 = .ok (.if_icmp .ge 80, 3) := by decide +kernel
theorem dL_areCopies_129 : decode cL_areCopies 129 = .ok (.aload_n 0, 1) := by decide +kernel
theorem dL_areCopies_130 : decode cL_areCopies 130 = .ok (.iload 7, 2) := by decide +kernel
theorem dL_areCopies_132 : decode cL_areCopies 132 = .ok (.iload 11, 2) := by decide +kernel
theorem dL_areCopies_134 : decode cL_areCopies 134 = .ok (.invokevirtual 80, 3) := by decide +kernel
theorem dL_areCopies_137 : decode cL_areCopies 137 = .ok (.istore 12, 2) := by decide +kernel
theorem dL_areCopies_139 : decode cL_areCopies 139 = .ok (.iload 10, 2) := by decide +kernel
theorem dL_areCopies_141 : decode cL_areCopies 141 = .ok (.ifCond .eq 23, 3) := by decide +kernel
theorem dL_areCopies_144 : decode cL_areCopies 144 = .ok (.iload 12, 2) := by decide +kernel
theorem dL_areCopies_146 : decode cL_areCopies 146 = .ok (.aload_n 2, 1) := by decide +kernel
theorem dL_areCopies_147 : decode cL_areCopies 147 = .ok (.iconst 4, 1) := by decide +kernel
theorem dL_areCopies_148 : decode cL_areCopies 148 = .ok (.aload_n 1, 1) := by decide +kernel
theorem dL_areCopies_149 : decode cL_areCopies 149 = .ok (.iload 7, 2) := by decide +kernel
theorem dL_areCopies_151 : decode cL_areCopies 151 = .ok (.iaload, 1) := by decide +kernel
theorem dL_areCopies_152 : decode cL_areCopies 152 = .ok (.imul, 1) := by decide +kernel
theorem dL_areCopies_153 : decode cL_areCopies 153 = .ok (.iload 11, 2) := by decide +kernel
theorem dL_areCopies_155 : decode cL_areCopies 155 = .ok (.iadd, 1) := by decide +kernel
theorem dL_areCopies_156 : decode cL_areCopies 156 = .ok (.iaload, 1) := by decide +kernel
theorem dL_areCopies_157 : decode cL_areCopies 157 = .ok (.if_icmp .ne 7, 3) := by decide +kernel
theorem dL_areCopies_160 : decode cL_areCopies 160 = .ok (.iconst 1, 1) := by decide +kernel
theorem dL_areCopies_161 : decode cL_areCopies 161 = .ok (.goto 4, 3) := by decide +kernel
theorem dL_areCopies_164 : decode cL_areCopies 164 = .ok (.iconst 0, 1) := by decide +kernel
theorem dL_areCopies_165 : decode cL_areCopies 165 = .ok (.istore 10, 2) := by decide +kernel
theorem dL_areCopies_167 : decode cL_areCopies 167 = .ok (.iload 6, 2) := by decide +kernel
theorem dL_areCopies_169 : decode cL_areCopies 169 = .ok (.ifCond .eq 28, 3) := by decide +kernel
theorem dL_areCopies_172 : decode cL_areCopies 172 = .ok (.iload 12, 2) := by decide +kernel
theorem dL_areCopies_174 : decode cL_areCopies 174 = .ok (.ifCond .lt 23, 3) := by decide +kernel
theorem dL_areCopies_177 : decode cL_areCopies 177 = .ok (.iload 12, 2) := by decide +kernel
theorem dL_areCopies_179 : decode cL_areCopies 179 = .ok (.aload_n 2, 1) := by decide +kernel
theorem dL_areCopies_180 : decode cL_areCopies 180 = .ok (.iconst 4, 1) := by decide +kernel
theorem dL_areCopies_181 : decode cL_areCopies 181 = .ok (.aload_n 1, 1) := by decide +kernel
theorem dL_areCopies_182 : decode cL_areCopies 182 = .ok (.iload 7, 2) := by decide +kernel
theorem dL_areCopies_184 : decode cL_areCopies 184 = .ok (.iaload, 1) := by decide +kernel
theorem dL_areCopies_185 : decode cL_areCopies 185 = .ok (.imul, 1) := by decide +kernel
theorem dL_areCopies_186 : decode cL_areCopies 186 = .ok (.iload 11, 2) := by decide +kernel
theorem dL_areCopies_188 : decode cL_areCopies 188 = .ok (.iadd, 1) := by decide +kernel
theorem dL_areCopies_189 : decode cL_areCopies 189 = .ok (.iaload, 1) := by decide +kernel
theorem dL_areCopies_190 : decode cL_areCopies 190 = .ok (.if_icmp .gt 7, 3) := by decide +kernel
theorem dL_areCopies_193 : decode cL_areCopies 193 = .ok (.iconst 1, 1) := by decide +kernel
theorem dL_areCopies_194 : decode cL_areCopies 194 = .ok (.goto 4, 3) := by decide +kernel
theorem dL_areCopies_197 : decode cL_areCopies 197 = .ok (.iconst 0, 1) := by decide +kernel
theorem dL_areCopies_198 : decode cL_areCopies 198 = .ok (.istore 6, 2) := by decide +kernel
theorem dL_areCopies_200 : decode cL_areCopies 200 = .ok (.iinc 11 1, 3) := by decide +kernel
theorem dL_areCopies_203 : decode cL_areCopies 203 = .ok (.goto (-80), 3) := by decide +kernel
theorem dL_areCopies_206 : decode cL_areCopies 206 = .ok (.iload 6, 2) := by decide +kernel
theorem dL_areCopies_208 : decode cL_areCopies 208 = .ok (.ifCond .eq 85, 3) := by decide +kernel
theorem dL_areCopies_211 : decode cL_areCopies 211 = .ok (.iload 8, 2) := by decide +kernel
theorem dL_areCopies_213 : decode cL_areCopies 213 = .ok (.iconst 1, 1) := by decide +kernel
theorem dL_areCopies_214 : decode cL_areCopies 214 = .ok (.if_icmp .ne 7, 3) := by decide +kernel
theorem dL_areCopies_217 : decode cL_areCopies 217 = .ok (.iconst 1, 1) := by decide +kernel
theorem dL_areCopies_218 : decode cL_areCopies 218 = .ok (.goto 4, 3) := by decide +kernel
theorem dL_areCopies_221 : decode cL_areCopies 221 = .ok (.iconst 0, 1) := by decide +kernel
theorem dL_areCopies_222 : decode cL_areCopies 222 = .ok (.iload 5, 2) := by decide +kernel
theorem dL_areCopies_224 : decode cL_areCopies 224 = .ok (.iload 7, 2) := by decide +kernel
theorem dL_areCopies_226 : decode cL_areCopies 226 = .ok (.ishr, 1) := by decide +kernel
theorem dL_areCopies_227 : decode cL_areCopies 227 = .ok (.iconst 1, 1) := by decide +kernel
theorem dL_areCopies_228 : decode cL_areCopies 228 = .ok (.iand, 1) := by decide +kernel
theorem dL_areCopies_229 : decode cL_areCopies 229 = .ok (.iconst 1, 1) := by decide +kernel
theorem dL_areCopies_230 : decode cL_areCopies 230 = .ok (.if_icmp .ne 7, 3) := by decide +kernel
theorem dL_areCopies_233 : decode cL_areCopies 233 = .ok (.iconst 1, 1) := by decide +kernel
theorem dL_areCopies_234 : decode cL_areCopies 234 = .ok (.goto 4, 3) := by decide +kernel
theorem dL_areCopies_237 : decode cL_areCopies 237 = .ok (.iconst 0, 1) := by decide +kernel
theorem dL_areCopies_238 : decode cL_areCopies 238 = .ok (.if_icmp .ne 55, 3) := by decide +kernel
theorem dL_areCopies_241 : decode cL_areCopies 241 = .ok (.iload 8, 2) := by decide +kernel
theorem dL_areCopies_243 : decode cL_areCopies 243 = .ok (.iconst 1, 1) := by decide +kernel
theorem dL_areCopies_244 : decode cL_areCopies 244 = .ok (.if_icmp .ne 8, 3) := by decide +kernel
theorem dL_areCopies_247 : decode cL_areCopies 247 = .ok (.iload 10, 2) := by decide +kernel
theorem dL_areCopies_249 : decode cL_areCopies 249 = .ok (.ifCond .eq 44, 3) := by decide +kernel
theorem dL_areCopies_252 : decode cL_areCopies 252 = .ok (.iload 8, 2) := by decide +kernel
theorem dL_areCopies_254 : decode cL_areCopies 254 = .ok (.ifCond .eq 9, 3) := by decide +kernel
theorem dL_areCopies_257 : decode cL_areCopies 257 = .ok (.iload 9, 2) := by decide +kernel
theorem dL_areCopies_259 : decode cL_areCopies 259 = .ok (.iconst (-1), 1) := by decide +kernel
theorem dL_areCopies_260 : decode cL_areCopies 260 = .ok (.if_icmp .ne 33, 3) := by decide +kernel
theorem dL_areCopies_263 : decode cL_areCopies 263 = .ok (.iload 8, 2) := by decide +kernel
theorem dL_areCopies_265 : decode cL_areCopies 265 = .ok (.ifCond .ne 18, 3) := by decide +kernel
theorem dL_areCopies_268 : decode cL_areCopies 268 = .ok (.iload 9, 2) := by decide +kernel
theorem dL_areCopies_270 : decode cL_areCopies 270 = .ok (.ifCond .ne 7, 3) := by decide +kernel
theorem dL_areCopies_273 : decode cL_areCopies 273 = .ok (.iconst 1, 1) := by decide +kernel
theorem dL_areCopies_274 : decode cL_areCopies 274 = .ok (.goto 4, 3) := by decide +kernel
theorem dL_areCopies_277 : decode cL_areCopies 277 = .ok (.iconst 0, 1) := by decide +kernel
theorem dL_areCopies_278 : decode cL_areCopies 278 = .ok (.iload 10, 2) := by decide +kernel
theorem dL_areCopies_280 : decode cL_areCopies 280 = .ok (.if_icmp .ne 13, 3) := by decide +kernel
theorem dL_areCopies_283 : decode cL_areCopies 283 = .ok (.iload 9, 2) := by decide +kernel
theorem dL_areCopies_285 : decode cL_areCopies 285 = .ok (.iload_n 3, 1) := by decide +kernel
theorem dL_areCopies_286 : decode cL_areCopies 286 = .ok (.if_icmp .ge 7, 3) := by decide +kernel
theorem dL_areCopies_289 : decode cL_areCopies 289 = .ok (.iconst 1, 1) := by decide +kernel
theorem dL_areCopies_290 : decode cL_areCopies 290 = .ok (.goto 4, 3) := by decide +kernel
theorem dL_areCopies_293 : decode cL_areCopies 293 = .ok (.iconst 0, 1) := by decide +kernel
theorem dL_areCopies_294 : decode cL_areCopies 294 = .ok (.istore 6, 2) := by decide +kernel
theorem dL_areCopies_296 : decode cL_areCopies 296 = .ok (.iinc 7 1, 3) := by decide +kernel
theorem dL_areCopies_299 : decode cL_areCopies 299 = .ok (.goto (-209), 3) := by decide +kernel
theorem dL_areCopies_302 : decode cL_areCopies 302 = .ok (.iload 6, 2) := by decide +kernel
theorem dL_areCopies_304 : decode cL_areCopies 304 = .ok (.ireturn, 1) := by decide +kernel
set_option maxRecDepth 20000 in
theorem ggL_pieces_X4_pieces : GoodIn wsL_pieces wsX4_pieces := goodIn_ca (goodIn_r _ [5, 6, 7, 8, 4, 9, 10, 11, 12, 13, 14, 15, 16, 17, 18, 19, 20, 21, 22, 23, 24, 25, 26, 27, 28, 29, 30, 31, 32, 33, 34, 35, 36, 37, 38] (by decide +kernel) (by decide +kernel)) (goodIn_sub (fun _ h => List.mem_cons_of_mem _ (List.mem_append_right _ h)) (by decide +kernel))
set_option maxRecDepth 20000 in
theorem gL_pieces_X4_pieces : GoodIn wsL_pieces (wsV RL 80 RX4 yX4_pieces wsX4_pieces) := goodIn_app (goodIn_of _ (by decide +kernel)) ggL_pieces_X4_pieces
theorem dL_pieces_0 : decode cL_pieces 0 = .ok (.iconst 0, 1) := by decide +kernel
theorem dL_pieces_1 : decode cL_pieces 1 = .ok (.istore_n 3, 1) := by decide +kernel
theorem dL_pieces_2 : decode cL_pieces 2 = .ok (.iconst 0, 1) := by decide +kernel
theorem dL_pieces_3 : decode cL_pieces 3 = .ok (.istore 4, 2) := by decide +kernel
theorem dL_pieces_5 : decode cL_pieces 5 = .ok (.iload 4, 2) := by decide +kernel
theorem dL_pieces_7 : decode cL_pieces 7 = .ok (.iload_n 1, 1) := by decide +kernel
theorem dL_pieces_8 : decode cL_pieces 8 = .ok (.if_icmp .ge 19, 3) := by decide +kernel
theorem dL_pieces_11 : decode cL_pieces 11 = .ok (.iload_n 3, 1) := by decide +kernel
theorem dL_pieces_12 : decode cL_pieces 12 = .ok (.aload_n 0, 1) := by decide +kernel
theorem dL_pieces_13 : decode cL_pieces 13 = .ok (.iload 4, 2) := by decide +kernel
theorem dL_pieces_15 : decode cL_pieces 15 = .ok (.iload_n 2, 1) := by decide +kernel
theorem dL_pieces_16 : decode cL_pieces 16 = .ok (.invokevirtual 80, 3) := by decide +kernel
theorem dL_pieces_19 : decode cL_pieces 19 = .ok (.iadd, 1) := by decide +kernel
theorem dL_pieces_20 : decode cL_pieces 20 = .ok (.istore_n 3, 1) := by decide +kernel
theorem dL_pieces_21 : decode cL_pieces 21 = .ok (.iinc 4 1, 3) := by decide +kernel
theorem dL_pieces_24 : decode cL_pieces 24 = .ok (.goto (-19), 3) := by decide +kernel
theorem dL_pieces_27 : decode cL_pieces 27 = .ok (.iload_n 3, 1) := by decide +kernel
theorem dL_pieces_28 : decode cL_pieces 28 = .ok (.ireturn, 1) := by decide +kernel
set_option maxRecDepth 20000 in
theorem ggL_areOffers_X4_offers : GoodIn wsL_areOffers wsX4_offers := goodIn_ca (goodIn_r _ [5, 6, 7, 8, 4, 9, 10, 11, 12, 13, 14, 15, 16, 17, 18, 19, 20, 21, 22, 23, 24, 25, 26, 27, 28, 29, 30, 31, 32, 33, 34, 35, 36, 37, 38, 39, 40, 41, 42, 43, 44, 45, 46, 47, 48, 49, 50, 51, 52, 53, 54, 55, 56, 57, 58, 59, 60, 61, 62, 63, 64, 65, 66, 67, 68, 69, 70, 71, 72, 73, 74, 75, 76, 77, 78, 79, 80, 81, 82, 83, 84, 85, 86, 87, 88, 89, 90, 91, 92, 93, 94, 95, 96, 97, 292, 293, 294, 295, 296, 297, 298, 299, 300, 301, 302, 303, 304, 305, 306, 307, 308, 309, 310, 311, 312, 313, 314, 315] (by decide +kernel) (by decide +kernel)) (goodIn_sub (fun _ h => List.mem_cons_of_mem _ (List.mem_append_left _ (List.mem_append_left _ (List.mem_append_right _ h)))) (by decide +kernel))
set_option maxRecDepth 20000 in
theorem gL_areOffers_X4_offers : GoodIn wsL_areOffers (wsV RL 61 RX4 yX4_offers wsX4_offers) := goodIn_app (goodIn_of _ (by decide +kernel)) ggL_areOffers_X4_offers
set_option maxRecDepth 20000 in
theorem ggL_areOffers_L_on : GoodIn wsL_areOffers wsL_on := goodIn_ca (goodIn_ca (goodIn_ca (goodIn_r _ [101, 102, 103, 104, 105, 100, 106, 107, 108, 109, 4, 110, 6, 16, 7, 8, 9, 10, 11, 33, 34, 35, 36, 37, 38, 39, 40, 28, 29, 30, 31, 32, 111, 112, 113, 24, 114, 26, 27, 115, 116, 117, 118, 119, 120, 121, 122, 123, 124, 125, 126, 127, 128, 129, 130, 131, 132, 133, 134, 135, 136, 137, 138, 139, 140, 141, 142, 143, 144, 145, 146, 147, 148, 149, 150, 151, 48, 49, 50, 51, 152, 69, 70, 153, 154, 155, 156, 46, 47, 157, 158, 159, 160, 161, 21, 22, 23, 25, 42, 43, 44, 45, 162, 163, 164, 165, 17, 18, 19, 20, 41, 52, 53, 54, 55, 56, 57, 58, 59, 60, 61, 62, 63, 64, 65, 66, 67, 68, 71, 72, 73, 74, 75, 76, 77, 78, 79, 80, 81, 82, 83, 84, 85, 86, 87, 88, 89, 90, 91, 92, 93, 94, 95, 96, 166, 167, 168, 169, 170, 171, 172, 173, 174, 175, 176, 177, 178, 179, 180, 181, 182, 183, 184, 185, 186, 187, 188, 189, 190, 191, 192, 193, 194, 195, 196, 197, 198, 199, 200, 201, 202, 203, 204, 205, 206, 207, 208, 209, 210, 211, 212, 213, 214, 215, 216, 217, 218, 219, 220, 221, 222, 223, 224, 225, 226, 227, 228, 229, 230, 231, 232, 233, 234, 235, 236, 237, 238, 239, 240, 241, 242, 243, 244, 245, 246, 247, 248, 249, 250, 251, 252, 253, 254, 255, 256, 257, 258, 259, 260, 261, 262, 263, 264, 265, 266, 267, 268, 269, 12, 13, 14, 15, 97, 270, 271, 272, 273, 274, 275, 276, 277, 278, 279, 280, 281, 282, 283, 284, 285, 286, 292, 293, 294, 295, 296, 297, 298, 299, 300, 301, 302, 303, 304, 305, 306, 307, 308, 309, 310, 311, 312, 313, 314, 315, 316, 317, 318, 319, 320] (by decide +kernel) (by decide +kernel)) (goodIn_sub (fun _ h => List.mem_cons_of_mem _ (List.mem_append_left _ (List.mem_append_left _ (List.mem_append_right _ h)))) (by decide +kernel))) (goodIn_sub (fun _ h => List.mem_cons_of_mem _ (List.mem_append_left _ (List.mem_append_right _ h))) (by decide +kernel))) (goodIn_sub (fun _ h => List.mem_cons_of_mem _ (List.mem_append_right _ h)) (by decide +kernel))
set_option maxRecDepth 20000 in
theorem gL_areOffers_L_on : GoodIn wsL_areOffers (va_wsS RL 55 yL_on wsL_on) := goodIn_app (goodIn_of _ (by decide +kernel)) ggL_areOffers_L_on
set_option maxRecDepth 20000 in
theorem ggL_areOffers_X4_offerAt : GoodIn wsL_areOffers wsX4_offerAt := goodIn_ca (goodIn_r _ [269, 6, 16, 7, 8, 4, 9, 10, 11, 12, 13, 14, 15, 17, 18, 19, 20, 21, 22, 23, 24, 25, 26, 27, 28, 29, 30, 31, 32, 33, 34, 35, 36, 37, 38, 39, 40, 41, 42, 43, 44, 45, 46, 47, 48, 49, 50, 51, 52, 53, 54, 55, 56, 57, 58, 59, 60, 61, 62, 63, 64, 65, 66, 67, 68, 69, 70, 71, 72, 73, 74, 75, 76, 77, 78, 79, 80, 81, 82, 83, 84, 85, 86, 87, 88, 89, 90, 91, 92, 93, 94, 95, 96, 97, 270, 271, 272, 273, 274, 248, 249, 275, 276, 277, 278, 292, 293, 294, 295, 296, 297, 298, 299, 300, 301, 302, 303, 304, 305, 306, 307, 308, 309, 310, 311, 312, 313, 314, 315] (by decide +kernel) (by decide +kernel)) (goodIn_sub (fun _ h => List.mem_cons_of_mem _ (List.mem_append_left _ (List.mem_append_left _ (List.mem_append_right _ h)))) (by decide +kernel))
set_option maxRecDepth 20000 in
theorem gL_areOffers_X4_offerAt : GoodIn wsL_areOffers (wsV RL 33 RX4 yX4_offerAt wsX4_offerAt) := goodIn_app (goodIn_of _ (by decide +kernel)) ggL_areOffers_X4_offerAt
set_option maxRecDepth 20000 in
theorem ggL_areOffers_X4_lenders : GoodIn wsL_areOffers wsX4_lenders := goodIn_ca (goodIn_r _ [290, 16, 7, 8, 4, 9, 10, 11, 291, 65, 66, 36, 67, 38, 68, 69, 50, 70, 71, 72, 73, 74, 39, 75, 40, 28, 29, 30, 31, 32, 76, 77, 78, 79, 80, 63, 81, 82, 83, 84, 85, 86, 87, 88, 89, 90, 91, 92, 93, 94, 95, 96, 292, 293, 294, 304, 305, 306, 307, 308, 309, 310, 311, 312, 313, 314, 315] (by decide +kernel) (by decide +kernel)) (goodIn_sub (fun _ h => List.mem_cons_of_mem _ (List.mem_append_left _ (List.mem_append_left _ (List.mem_append_right _ h)))) (by decide +kernel))
set_option maxRecDepth 20000 in
theorem gL_areOffers_X4_lenders : GoodIn wsL_areOffers (wsV RL 77 RX4 yX4_lenders wsX4_lenders) := goodIn_app (goodIn_of _ (by decide +kernel)) ggL_areOffers_X4_lenders
set_option maxRecDepth 20000 in
theorem ggL_areOffers_X4_left : GoodIn wsL_areOffers wsX4_left := goodIn_ca (goodIn_ca (goodIn_r _ [161, 6, 7, 8, 4, 9, 10, 11, 21, 22, 23, 24, 25, 26, 27, 28, 29, 30, 31, 32, 115, 116, 117, 118, 119, 42, 43, 44, 45, 46, 47, 48, 49, 50, 51, 292, 293, 294, 295, 296, 297, 298, 299, 300, 301, 302, 303, 315] (by decide +kernel) (by decide +kernel)) (goodIn_sub (fun _ h => List.mem_cons_of_mem _ (List.mem_append_left _ (List.mem_append_left _ (List.mem_append_right _ h)))) (by decide +kernel))) (goodIn_sub (fun _ h => List.mem_cons_of_mem _ (List.mem_append_left _ (List.mem_append_right _ h))) (by decide +kernel))
set_option maxRecDepth 20000 in
theorem gL_areOffers_X4_left : GoodIn wsL_areOffers (wsV RL 13 RX4 yX4_left wsX4_left) := goodIn_app (goodIn_of _ (by decide +kernel)) ggL_areOffers_X4_left
theorem dL_areOffers_0 : decode cL_areOffers 0 = .ok (.aload_n 0, 1) := by decide +kernel
theorem dL_areOffers_1 : decode cL_areOffers 1 = .ok (.iload_n 2, 1) := by decide +kernel
theorem dL_areOffers_2 : decode cL_areOffers 2 = .ok (.invokevirtual 61, 3) := by decide +kernel
theorem dL_areOffers_5 : decode cL_areOffers 5 = .ok (.istore 6, 2) := by decide +kernel
theorem dL_areOffers_7 : decode cL_areOffers 7 = .ok (.sipush 999, 3) := by decide +kernel
theorem dL_areOffers_10 : decode cL_areOffers 10 = .ok (.istore 7, 2) := by decide +kernel
theorem dL_areOffers_12 : decode cL_areOffers 12 = .ok (.iconst (-1), 1) := by decide +kernel
theorem dL_areOffers_13 : decode cL_areOffers 13 = .ok (.istore 8, 2) := by decide +kernel
theorem dL_areOffers_15 : decode cL_areOffers 15 = .ok (.aload_n 0, 1) := by decide +kernel
theorem dL_areOffers_16 : decode cL_areOffers 16 = .ok (.bipush 7, 2) := by decide +kernel
theorem dL_areOffers_18 : decode cL_areOffers 18 = .ok (.iload_n 2, 1) := by decide +kernel
theorem dL_areOffers_19 : decode cL_areOffers 19 = .ok (.iload 6, 2) := by decide +kernel
theorem dL_areOffers_21 : decode cL_areOffers 21 = .ok (.iconst 0, 1) := by decide +kernel
theorem dL_areOffers_22 : decode cL_areOffers 22 = .ok (.invokestatic 55, 3) := by decide +kernel
theorem dL_areOffers_25 : decode cL_areOffers 25 = .ok (.bipush (-11), 2) := by decide +kernel
theorem dL_areOffers_27 : decode cL_areOffers 27 = .ok (.if_icmp .ne 21, 3) := by decide +kernel
theorem dL_areOffers_30 : decode cL_areOffers 30 = .ok (.aload_n 0, 1) := by decide +kernel
theorem dL_areOffers_31 : decode cL_areOffers 31 = .ok (.bipush 7, 2) := by decide +kernel
theorem dL_areOffers_33 : decode cL_areOffers 33 = .ok (.iload_n 2, 1) := by decide +kernel
theorem dL_areOffers_34 : decode cL_areOffers 34 = .ok (.iconst (-1), 1) := by decide +kernel
theorem dL_areOffers_35 : decode cL_areOffers 35 = .ok (.iconst 0, 1) := by decide +kernel
theorem dL_areOffers_36 : decode cL_areOffers 36 = .ok (.invokestatic 55, 3) := by decide +kernel
theorem dL_areOffers_39 : decode cL_areOffers 39 = .ok (.bipush (-11), 2) := by decide +kernel
theorem dL_areOffers_41 : decode cL_areOffers 41 = .ok (.if_icmp .ne 7, 3) := by decide +kernel
theorem dL_areOffers_44 : decode cL_areOffers 44 = .ok (.iconst 1, 1) := by decide +kernel
theorem dL_areOffers_45 : decode cL_areOffers 45 = .ok (.goto 4, 3) := by decide +kernel
theorem dL_areOffers_48 : decode cL_areOffers 48 = .ok (.iconst 0, 1) := by decide +kernel
theorem dL_areOffers_49 : decode cL_areOffers 49 = .ok (.istore 9, 2) := by decide +kernel
theorem dL_areOffers_51 : decode cL_areOffers 51 = .ok (.iconst 0, 1) := by decide +kernel
theorem dL_areOffers_52 : decode cL_areOffers 52 = .ok (.istore 10, 2) := by decide +kernel
theorem dL_areOffers_54 : decode cL_areOffers 54 = .ok (.iload 10, 2) := by decide +kernel
theorem dL_areOffers_56 : decode cL_areOffers 56 = .ok (.iload 6, 2) := by decide +kernel
theorem dL_areOffers_58 : decode cL_areOffers 58 = .ok (.if_icmp .ge 156, 3) := by decide +kernel
theorem dL_areOffers_61 : decode cL_areOffers 61 = .ok (.iload 9, 2) := by decide +kernel
theorem dL_areOffers_63 : decode cL_areOffers 63 = .ok (.ifCond .eq 151, 3) := by decide +kernel
theorem dL_areOffers_66 : decode cL_areOffers 66 = .ok (.aload_n 0, 1) := by decide +kernel
theorem dL_areOffers_67 : decode cL_areOffers 67 = .ok (.iload_n 2, 1) := by decide +kernel
theorem dL_areOffers_68 : decode cL_areOffers 68 = .ok (.iload 10, 2) := by decide +kernel
theorem dL_areOffers_70 : decode cL_areOffers 70 = .ok (.invokevirtual 33, 3) := by decide +kernel
theorem dL_areOffers_73 : decode cL_areOffers 73 = .ok (.istore 11, 2) := by decide +kernel
theorem dL_areOffers_75 : decode cL_areOffers 75 = .ok (.aload_n 1, 1) := by decide +kernel
theorem dL_areOffers_76 : decode cL_areOffers 76 = .ok (.iconst 3, 1) := by decide +kernel
theorem dL_areOffers_77 : decode cL_areOffers 77 = .ok (.iload 11, 2) := by decide +kernel
theorem dL_areOffers_79 : decode cL_areOffers 79 = .ok (.imul, 1) := by decide +kernel
theorem dL_areOffers_80 : decode cL_areOffers 80 = .ok (.iconst 2, 1) := by decide +kernel
theorem dL_areOffers_81 : decode cL_areOffers 81 = .ok (.iadd, 1) := by decide +kernel
theorem dL_areOffers_82 : decode cL_areOffers 82 = .ok (.iaload, 1) := by decide +kernel
theorem dL_areOffers_83 : decode cL_areOffers 83 = .ok (.istore 12, 2) := by decide +kernel
theorem dL_areOffers_85 : decode cL_areOffers 85 = .ok (.iconst 0, 1) := by decide +kernel
theorem dL_areOffers_86 : decode cL_areOffers 86 = .ok (.istore 13, 2) := by decide +kernel
theorem dL_areOffers_88 : decode cL_areOffers 88 = .ok (.iconst 0, 1) := by decide +kernel
theorem dL_areOffers_89 : decode cL_areOffers 89 = .ok (.istore 14, 2) := by decide +kernel
theorem dL_areOffers_91 : decode cL_areOffers 91 = .ok (.iload 14, 2) := by decide +kernel
theorem dL_areOffers_93 : decode cL_areOffers 93 = .ok (.iload 5, 2) := by decide +kernel
theorem dL_areOffers_95 : decode cL_areOffers 95 = .ok (.if_icmp .ge 40, 3) := by decide +kernel
theorem dL_areOffers_98 : decode cL_areOffers 98 = .ok (.iload 13, 2) := by decide +kernel
theorem dL_areOffers_100 : decode cL_areOffers 100 = .ok (.ifCond .ne 22, 3) := by decide +kernel
theorem dL_areOffers_103 : decode cL_areOffers 103 = .ok (.aload 4, 2) := by decide +kernel
theorem dL_areOffers_105 : decode cL_areOffers 105 = .ok (.iload 14, 2) := by decide +kernel
theorem dL_areOffers_107 : decode cL_areOffers 107 = .ok (.iaload, 1) := by decide +kernel
