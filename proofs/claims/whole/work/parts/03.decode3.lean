theorem dX9_sheet_22 : decode cX9_sheet 22 = .ok (.iconst 0, 1) := by decide +kernel
theorem dX9_sheet_23 : decode cX9_sheet 23 = .ok (.putfield 92, 3) := by decide +kernel
theorem dX9_sheet_26 : decode cX9_sheet 26 = .ok (.aload_n 0, 1) := by decide +kernel
theorem dX9_sheet_27 : decode cX9_sheet 27 = .ok (.iconst (-1), 1) := by decide +kernel
theorem dX9_sheet_28 : decode cX9_sheet 28 = .ok (.putfield 107, 3) := by decide +kernel
theorem dX9_sheet_31 : decode cX9_sheet 31 = .ok (.aload_n 0, 1) := by decide +kernel
theorem dX9_sheet_32 : decode cX9_sheet 32 = .ok (.invokevirtual 117, 3) := by decide +kernel
theorem dX9_sheet_35 : decode cX9_sheet 35 = .ok (.aload_n 0, 1) := by decide +kernel
theorem dX9_sheet_36 : decode cX9_sheet 36 = .ok (.aload_n 0, 1) := by decide +kernel
theorem dX9_sheet_37 : decode cX9_sheet 37 = .ok (.getfield 104, 3) := by decide +kernel
theorem dX9_sheet_40 : decode cX9_sheet 40 = .ok (.iconst 1, 1) := by decide +kernel
theorem dX9_sheet_41 : decode cX9_sheet 41 = .ok (.if_icmp .ne 16, 3) := by decide +kernel
theorem dX9_sheet_44 : decode cX9_sheet 44 = .ok (.aload_n 0, 1) := by decide +kernel
theorem dX9_sheet_45 : decode cX9_sheet 45 = .ok (.getfield 101, 3) := by decide +kernel
theorem dX9_sheet_48 : decode cX9_sheet 48 = .ok (.bipush 119, 2) := by decide +kernel
theorem dX9_sheet_50 : decode cX9_sheet 50 = .ok (.if_icmp .ne 7, 3) := by decide +kernel
theorem dX9_sheet_53 : decode cX9_sheet 53 = .ok (.iconst 1, 1) := by decide +kernel
theorem dX9_sheet_54 : decode cX9_sheet 54 = .ok (.goto 4, 3) := by decide +kernel
theorem dX9_sheet_57 : decode cX9_sheet 57 = .ok (.iconst 0, 1) := by decide +kernel
theorem dX9_sheet_58 : decode cX9_sheet 58 = .ok (.iconst 1, 1) := by decide +kernel
theorem dX9_sheet_59 : decode cX9_sheet 59 = .ok (.invokevirtual 120, 3) := by decide +kernel
theorem dX9_sheet_62 : decode cX9_sheet 62 = .ok (.pop, 1) := by decide +kernel
theorem dX9_sheet_63 : decode cX9_sheet 63 = .ok (.aload_n 0, 1) := by decide +kernel
theorem dX9_sheet_64 : decode cX9_sheet 64 = .ok (.getfield 28, 3) := by decide +kernel
theorem dX9_sheet_67 : decode cX9_sheet 67 = .ok (.iconst 0, 1) := by decide +kernel
theorem dX9_sheet_68 : decode cX9_sheet 68 = .ok (.aload_n 0, 1) := by decide +kernel
theorem dX9_sheet_69 : decode cX9_sheet 69 = .ok (.iconst 4, 1) := by decide +kernel
theorem dX9_sheet_70 : decode cX9_sheet 70 = .ok (.bipush 20, 2) := by decide +kernel
theorem dX9_sheet_72 : decode cX9_sheet 72 = .ok (.invokevirtual 124, 3) := by decide +kernel
theorem dX9_sheet_75 : decode cX9_sheet 75 = .ok (.iastore, 1) := by decide +kernel
theorem dX9_sheet_76 : decode cX9_sheet 76 = .ok (.aload_n 0, 1) := by decide +kernel
theorem dX9_sheet_77 : decode cX9_sheet 77 = .ok (.getfield 28, 3) := by decide +kernel
theorem dX9_sheet_80 : decode cX9_sheet 80 = .ok (.iconst 1, 1) := by decide +kernel
theorem dX9_sheet_81 : decode cX9_sheet 81 = .ok (.aload_n 0, 1) := by decide +kernel
theorem dX9_sheet_82 : decode cX9_sheet 82 = .ok (.iconst 1, 1) := by decide +kernel
theorem dX9_sheet_83 : decode cX9_sheet 83 = .ok (.iconst 5, 1) := by decide +kernel
theorem dX9_sheet_84 : decode cX9_sheet 84 = .ok (.invokevirtual 130, 3) := by decide +kernel
theorem dX9_sheet_87 : decode cX9_sheet 87 = .ok (.iastore, 1) := by decide +kernel
theorem dX9_sheet_88 : decode cX9_sheet 88 = .ok (.aload_n 0, 1) := by decide +kernel
theorem dX9_sheet_89 : decode cX9_sheet 89 = .ok (.getfield 28, 3) := by decide +kernel
theorem dX9_sheet_92 : decode cX9_sheet 92 = .ok (.iconst 2, 1) := by decide +kernel
theorem dX9_sheet_93 : decode cX9_sheet 93 = .ok (.aload_n 0, 1) := by decide +kernel
theorem dX9_sheet_94 : decode cX9_sheet 94 = .ok (.iconst 1, 1) := by decide +kernel
theorem dX9_sheet_95 : decode cX9_sheet 95 = .ok (.bipush 87, 2) := by decide +kernel
theorem dX9_sheet_97 : decode cX9_sheet 97 = .ok (.invokevirtual 130, 3) := by decide +kernel
theorem dX9_sheet_100 : decode cX9_sheet 100 = .ok (.iastore, 1) := by decide +kernel
theorem dX9_sheet_101 : decode cX9_sheet 101 = .ok (.aload_n 0, 1) := by decide +kernel
theorem dX9_sheet_102 : decode cX9_sheet 102 = .ok (.aload_n 0, 1) := by decide +kernel
theorem dX9_sheet_103 : decode cX9_sheet 103 = .ok (.getfield 104, 3) := by decide +kernel
theorem dX9_sheet_106 : decode cX9_sheet 106 = .ok (.iconst 4, 1) := by decide +kernel
theorem dX9_sheet_107 : decode cX9_sheet 107 = .ok (.if_icmp .ne 7, 3) := by decide +kernel
theorem dX9_sheet_110 : decode cX9_sheet 110 = .ok (.iconst 1, 1) := by decide +kernel
theorem dX9_sheet_111 : decode cX9_sheet 111 = .ok (.goto 4, 3) := by decide +kernel
theorem dX9_sheet_114 : decode cX9_sheet 114 = .ok (.iconst 0, 1) := by decide +kernel
theorem dX9_sheet_115 : decode cX9_sheet 115 = .ok (.iconst 1, 1) := by decide +kernel
theorem dX9_sheet_116 : decode cX9_sheet 116 = .ok (.invokevirtual 120, 3) := by decide +kernel
theorem dX9_sheet_119 : decode cX9_sheet 119 = .ok (.pop, 1) := by decide +kernel
theorem dX9_sheet_120 : decode cX9_sheet 120 = .ok (.aload_n 0, 1) := by decide +kernel
theorem dX9_sheet_121 : decode cX9_sheet 121 = .ok (.invokevirtual 110, 3) := by decide +kernel
theorem dX9_sheet_124 : decode cX9_sheet 124 = .ok (.ifCond .eq 28, 3) := by decide +kernel
theorem dX9_sheet_127 : decode cX9_sheet 127 = .ok (.aload_n 0, 1) := by decide +kernel
theorem dX9_sheet_128 : decode cX9_sheet 128 = .ok (.getfield 104, 3) := by decide +kernel
theorem dX9_sheet_131 : decode cX9_sheet 131 = .ok (.iconst 1, 1) := by decide +kernel
theorem dX9_sheet_132 : decode cX9_sheet 132 = .ok (.if_icmp .ne 20, 3) := by decide +kernel
theorem dX9_sheet_135 : decode cX9_sheet 135 = .ok (.aload_n 0, 1) := by decide +kernel
theorem dX9_sheet_136 : decode cX9_sheet 136 = .ok (.getfield 101, 3) := by decide +kernel
theorem dX9_sheet_139 : decode cX9_sheet 139 = .ok (.invokestatic 127, 3) := by decide +kernel
theorem dX9_sheet_142 : decode cX9_sheet 142 = .ok (.ifCond .le 10, 3) := by decide +kernel
theorem dX9_sheet_145 : decode cX9_sheet 145 = .ok (.aload_n 0, 1) := by decide +kernel
theorem dX9_sheet_146 : decode cX9_sheet 146 = .ok (.invokevirtual 133, 3) := by decide +kernel
theorem dX9_sheet_149 : decode cX9_sheet 149 = .ok (.goto (-29), 3) := by decide +kernel
theorem dX9_sheet_152 : decode cX9_sheet 152 = .ok (.aload_n 0, 1) := by decide +kernel
theorem dX9_sheet_153 : decode cX9_sheet 153 = .ok (.aload_n 0, 1) := by decide +kernel
theorem dX9_sheet_154 : decode cX9_sheet 154 = .ok (.getfield 28, 3) := by decide +kernel
theorem dX9_sheet_157 : decode cX9_sheet 157 = .ok (.iconst 3, 1) := by decide +kernel
theorem dX9_sheet_158 : decode cX9_sheet 158 = .ok (.iaload, 1) := by decide +kernel
theorem dX9_sheet_159 : decode cX9_sheet 159 = .ok (.ifCond .le 14, 3) := by decide +kernel
theorem dX9_sheet_162 : decode cX9_sheet 162 = .ok (.aload_n 0, 1) := by decide +kernel
theorem dX9_sheet_163 : decode cX9_sheet 163 = .ok (.getfield 104, 3) := by decide +kernel
theorem dX9_sheet_166 : decode cX9_sheet 166 = .ok (.ifCond .ne 7, 3) := by decide +kernel
theorem dX9_sheet_169 : decode cX9_sheet 169 = .ok (.iconst 1, 1) := by decide +kernel
theorem dX9_sheet_170 : decode cX9_sheet 170 = .ok (.goto 4, 3) := by decide +kernel
theorem dX9_sheet_173 : decode cX9_sheet 173 = .ok (.iconst 0, 1) := by decide +kernel
theorem dX9_sheet_174 : decode cX9_sheet 174 = .ok (.iconst 1, 1) := by decide +kernel
theorem dX9_sheet_175 : decode cX9_sheet 175 = .ok (.invokevirtual 136, 3) := by decide +kernel
theorem dX9_sheet_178 : decode cX9_sheet 178 = .ok (.aload_n 0, 1) := by decide +kernel
theorem dX9_sheet_179 : decode cX9_sheet 179 = .ok (.aload_n 0, 1) := by decide +kernel
theorem dX9_sheet_180 : decode cX9_sheet 180 = .ok (.getfield 28, 3) := by decide +kernel
theorem dX9_sheet_183 : decode cX9_sheet 183 = .ok (.invokestatic 140, 3) := by decide +kernel
theorem dX9_sheet_186 : decode cX9_sheet 186 = .ok (.iconst 4, 1) := by decide +kernel
theorem dX9_sheet_187 : decode cX9_sheet 187 = .ok (.invokevirtual 136, 3) := by decide +kernel
theorem dX9_sheet_190 : decode cX9_sheet 190 = .ok (.aload_n 0, 1) := by decide +kernel
theorem dX9_sheet_191 : decode cX9_sheet 191 = .ok (.iconst 0, 1) := by decide +kernel
theorem dX9_sheet_192 : decode cX9_sheet 192 = .ok (.putfield 88, 3) := by decide +kernel
theorem dX9_sheet_195 : decode cX9_sheet 195 = .ok (.aload_n 0, 1) := by decide +kernel
theorem dX9_sheet_196 : decode cX9_sheet 196 = .ok (.invokevirtual 110, 3) := by decide +kernel
theorem dX9_sheet_199 : decode cX9_sheet 199 = .ok (.ifCond .ne 11, 3) := by decide +kernel
theorem dX9_sheet_202 : decode cX9_sheet 202 = .ok (.ldc 144, 2) := by decide +kernel
theorem dX9_sheet_204 : decode cX9_sheet 204 = .ok (.aload_n 0, 1) := by decide +kernel
theorem dX9_sheet_205 : decode cX9_sheet 205 = .ok (.getfield 107, 3) := by decide +kernel
theorem dX9_sheet_208 : decode cX9_sheet 208 = .ok (.isub, 1) := by decide +kernel
theorem dX9_sheet_209 : decode cX9_sheet 209 = .ok (.ireturn, 1) := by decide +kernel
theorem dX9_sheet_210 : decode cX9_sheet 210 = .ok (.aload_n 0, 1) := by decide +kernel
theorem dX9_sheet_211 : decode cX9_sheet 211 = .ok (.getfield 28, 3) := by decide +kernel
theorem dX9_sheet_214 : decode cX9_sheet 214 = .ok (.iconst 0, 1) := by decide +kernel
theorem dX9_sheet_215 : decode cX9_sheet 215 = .ok (.aload_n 0, 1) := by decide +kernel
theorem dX9_sheet_216 : decode cX9_sheet 216 = .ok (.getfield 25, 3) := by decide +kernel
theorem dX9_sheet_219 : decode cX9_sheet 219 = .ok (.iconst 0, 1) := by decide +kernel
theorem dX9_sheet_220 : decode cX9_sheet 220 = .ok (.invokestatic 145, 3) := by decide +kernel
theorem dX9_sheet_223 : decode cX9_sheet 223 = .ok (.aload_n 0, 1) := by decide +kernel
theorem dX9_sheet_224 : decode cX9_sheet 224 = .ok (.iconst 0, 1) := by decide +kernel
theorem dX9_sheet_225 : decode cX9_sheet 225 = .ok (.putfield 149, 3) := by decide +kernel
theorem dX9_sheet_228 : decode cX9_sheet 228 = .ok (.aload_n 0, 1) := by decide +kernel
theorem dX9_sheet_229 : decode cX9_sheet 229 = .ok (.getfield 25, 3) := by decide +kernel
theorem dX9_sheet_232 : decode cX9_sheet 232 = .ok (.iconst 3, 1) := by decide +kernel
theorem dX9_sheet_233 : decode cX9_sheet 233 = .ok (.iaload, 1) := by decide +kernel
theorem dX9_sheet_234 : decode cX9_sheet 234 = .ok (.ireturn, 1) := by decide +kernel
theorem dX9_fault_0 : decode cX9_fault 0 = .ok (.aload_n 0, 1) := by decide +kernel
theorem dX9_fault_1 : decode cX9_fault 1 = .ok (.getfield 114, 3) := by decide +kernel
theorem dX9_fault_4 : decode cX9_fault 4 = .ok (.ireturn, 1) := by decide +kernel
theorem dX9_isSheet_0 : decode cX9_isSheet 0 = .ok (.aload_n 0, 1) := by decide +kernel
theorem dX9_isSheet_1 : decode cX9_isSheet 1 = .ok (.getfield 25, 3) := by decide +kernel
theorem dX9_isSheet_4 : decode cX9_isSheet 4 = .ok (.iconst 0, 1) := by decide +kernel
theorem dX9_isSheet_5 : decode cX9_isSheet 5 = .ok (.iaload, 1) := by decide +kernel
theorem dX9_isSheet_6 : decode cX9_isSheet 6 = .ok (.ifCond .le 7, 3) := by decide +kernel
theorem dX9_isSheet_9 : decode cX9_isSheet 9 = .ok (.iconst 1, 1) := by decide +kernel
theorem dX9_isSheet_10 : decode cX9_isSheet 10 = .ok (.goto 4, 3) := by decide +kernel
theorem dX9_isSheet_13 : decode cX9_isSheet 13 = .ok (.iconst 0, 1) := by decide +kernel
theorem dX9_isSheet_14 : decode cX9_isSheet 14 = .ok (.ireturn, 1) := by decide +kernel
theorem dX9_isItem_0 : decode cX9_isItem 0 = .ok (.iload_n 1, 1) := by decide +kernel
theorem dX9_isItem_1 : decode cX9_isItem 1 = .ok (.iconst 0, 1) := by decide +kernel
theorem dX9_isItem_2 : decode cX9_isItem 2 = .ok (.aload_n 0, 1) := by decide +kernel
theorem dX9_isItem_3 : decode cX9_isItem 3 = .ok (.getfield 25, 3) := by decide +kernel
theorem dX9_isItem_6 : decode cX9_isItem 6 = .ok (.iconst 3, 1) := by decide +kernel
theorem dX9_isItem_7 : decode cX9_isItem 7 = .ok (.iaload, 1) := by decide +kernel
theorem dX9_isItem_8 : decode cX9_isItem 8 = .ok (.iconst 1, 1) := by decide +kernel
theorem dX9_isItem_9 : decode cX9_isItem 9 = .ok (.isub, 1) := by decide +kernel
theorem dX9_isItem_10 : decode cX9_isItem 10 = .ok (.invokestatic 62, 3) := by decide +kernel
theorem dX9_isItem_13 : decode cX9_isItem 13 = .ok (.ireturn, 1) := by decide +kernel
theorem dX9_romanSigns_0 : decode cX9_romanSigns 0 = .ok (.iload_n 0, 1) := by decide +kernel
theorem dX9_romanSigns_1 : decode cX9_romanSigns 1 = .ok (.bipush 9, 2) := by decide +kernel
theorem dX9_romanSigns_3 : decode cX9_romanSigns 3 = .ok (.if_icmp .eq 8, 3) := by decide +kernel
theorem dX9_romanSigns_6 : decode cX9_romanSigns 6 = .ok (.iload_n 0, 1) := by decide +kernel
theorem dX9_romanSigns_7 : decode cX9_romanSigns 7 = .ok (.iconst 4, 1) := by decide +kernel
theorem dX9_romanSigns_8 : decode cX9_romanSigns 8 = .ok (.if_icmp .ne 7, 3) := by decide +kernel
theorem dX9_romanSigns_11 : decode cX9_romanSigns 11 = .ok (.iconst 2, 1) := by decide +kernel
theorem dX9_romanSigns_12 : decode cX9_romanSigns 12 = .ok (.goto 15, 3) := by decide +kernel
theorem dX9_romanSigns_15 : decode cX9_romanSigns 15 = .ok (.iload_n 0, 1) := by decide +kernel
theorem dX9_romanSigns_16 : decode cX9_romanSigns 16 = .ok (.iconst 4, 1) := by decide +kernel
theorem dX9_romanSigns_17 : decode cX9_romanSigns 17 = .ok (.if_icmp .le 9, 3) := by decide +kernel
theorem dX9_romanSigns_20 : decode cX9_romanSigns 20 = .ok (.iload_n 0, 1) := by decide +kernel
theorem dX9_romanSigns_21 : decode cX9_romanSigns 21 = .ok (.iconst 4, 1) := by decide +kernel
theorem dX9_romanSigns_22 : decode cX9_romanSigns 22 = .ok (.isub, 1) := by decide +kernel
theorem dX9_romanSigns_23 : decode cX9_romanSigns 23 = .ok (.goto 4, 3) := by decide +kernel
theorem dX9_romanSigns_26 : decode cX9_romanSigns 26 = .ok (.iload_n 0, 1) := by decide +kernel
theorem dX9_romanSigns_27 : decode cX9_romanSigns 27 = .ok (.ireturn, 1) := by decide +kernel
theorem dX9_signs_0 : decode cX9_signs 0 = .ok (.iload_n 1, 1) := by decide +kernel
theorem dX9_signs_1 : decode cX9_signs 1 = .ok (.bipush 9, 2) := by decide +kernel
theorem dX9_signs_3 : decode cX9_signs 3 = .ok (.if_icmp .le 7, 3) := by decide +kernel
theorem dX9_signs_6 : decode cX9_signs 6 = .ok (.iconst 2, 1) := by decide +kernel
theorem dX9_signs_7 : decode cX9_signs 7 = .ok (.goto 4, 3) := by decide +kernel
theorem dX9_signs_10 : decode cX9_signs 10 = .ok (.iconst 1, 1) := by decide +kernel
theorem dX9_signs_11 : decode cX9_signs 11 = .ok (.istore_n 2, 1) := by decide +kernel
theorem dX9_signs_12 : decode cX9_signs 12 = .ok (.iload_n 0, 1) := by decide +kernel
theorem dX9_signs_13 : decode cX9_signs 13 = .ok (.iconst 2, 1) := by decide +kernel
theorem dX9_signs_14 : decode cX9_signs 14 = .ok (.if_icmp .ne 21, 3) := by decide +kernel
theorem dX9_signs_17 : decode cX9_signs 17 = .ok (.iload_n 1, 1) := by decide +kernel
theorem dX9_signs_18 : decode cX9_signs 18 = .ok (.bipush 10, 2) := by decide +kernel
theorem dX9_signs_20 : decode cX9_signs 20 = .ok (.idiv, 1) := by decide +kernel
theorem dX9_signs_21 : decode cX9_signs 21 = .ok (.invokestatic 152, 3) := by decide +kernel
theorem dX9_signs_24 : decode cX9_signs 24 = .ok (.iload_n 1, 1) := by decide +kernel
theorem dX9_signs_25 : decode cX9_signs 25 = .ok (.bipush 10, 2) := by decide +kernel
theorem dX9_signs_27 : decode cX9_signs 27 = .ok (.irem, 1) := by decide +kernel
theorem dX9_signs_28 : decode cX9_signs 28 = .ok (.invokestatic 152, 3) := by decide +kernel
theorem dX9_signs_31 : decode cX9_signs 31 = .ok (.iadd, 1) := by decide +kernel
theorem dX9_signs_32 : decode cX9_signs 32 = .ok (.goto 15, 3) := by decide +kernel
theorem dX9_signs_35 : decode cX9_signs 35 = .ok (.iload_n 0, 1) := by decide +kernel
theorem dX9_signs_36 : decode cX9_signs 36 = .ok (.iconst 3, 1) := by decide +kernel
theorem dX9_signs_37 : decode cX9_signs 37 = .ok (.if_icmp .ne 9, 3) := by decide +kernel
theorem dX9_signs_40 : decode cX9_signs 40 = .ok (.iload_n 2, 1) := by decide +kernel
theorem dX9_signs_41 : decode cX9_signs 41 = .ok (.iconst 1, 1) := by decide +kernel
theorem dX9_signs_42 : decode cX9_signs 42 = .ok (.iadd, 1) := by decide +kernel
theorem dX9_signs_43 : decode cX9_signs 43 = .ok (.goto 4, 3) := by decide +kernel
theorem dX9_signs_46 : decode cX9_signs 46 = .ok (.iload_n 2, 1) := by decide +kernel
theorem dX9_signs_47 : decode cX9_signs 47 = .ok (.ireturn, 1) := by decide +kernel
theorem dX9_wide_0 : decode cX9_wide 0 = .ok (.iconst 5, 1) := by decide +kernel
theorem dX9_wide_1 : decode cX9_wide 1 = .ok (.iconst 4, 1) := by decide +kernel
theorem dX9_wide_2 : decode cX9_wide 2 = .ok (.iload_n 1, 1) := by decide +kernel
theorem dX9_wide_3 : decode cX9_wide 3 = .ok (.imul, 1) := by decide +kernel
theorem dX9_wide_4 : decode cX9_wide 4 = .ok (.iadd, 1) := by decide +kernel
theorem dX9_wide_5 : decode cX9_wide 5 = .ok (.istore_n 2, 1) := by decide +kernel
theorem dX9_wide_6 : decode cX9_wide 6 = .ok (.aload_n 0, 1) := by decide +kernel
theorem dX9_wide_7 : decode cX9_wide 7 = .ok (.iload_n 2, 1) := by decide +kernel
theorem dX9_wide_8 : decode cX9_wide 8 = .ok (.iaload, 1) := by decide +kernel
theorem dX9_wide_9 : decode cX9_wide 9 = .ok (.iconst 3, 1) := by decide +kernel
theorem dX9_wide_10 : decode cX9_wide 10 = .ok (.if_icmp .le 20, 3) := by decide +kernel
theorem dX9_wide_13 : decode cX9_wide 13 = .ok (.aload_n 0, 1) := by decide +kernel
theorem dX9_wide_14 : decode cX9_wide 14 = .ok (.iload_n 2, 1) := by decide +kernel
theorem dX9_wide_15 : decode cX9_wide 15 = .ok (.iaload, 1) := by decide +kernel
theorem dX9_wide_16 : decode cX9_wide 16 = .ok (.iconst 4, 1) := by decide +kernel
theorem dX9_wide_17 : decode cX9_wide 17 = .ok (.if_icmp .ne 11, 3) := by decide +kernel
theorem dX9_wide_20 : decode cX9_wide 20 = .ok (.aload_n 0, 1) := by decide +kernel
theorem dX9_wide_21 : decode cX9_wide 21 = .ok (.iload_n 2, 1) := by decide +kernel
theorem dX9_wide_22 : decode cX9_wide 22 = .ok (.iconst 1, 1) := by decide +kernel
theorem dX9_wide_23 : decode cX9_wide 23 = .ok (.iadd, 1) := by decide +kernel
theorem dX9_wide_24 : decode cX9_wide 24 = .ok (.iaload, 1) := by decide +kernel
theorem dX9_wide_25 : decode cX9_wide 25 = .ok (.goto 4, 3) := by decide +kernel
theorem dX9_wide_28 : decode cX9_wide 28 = .ok (.iconst 0, 1) := by decide +kernel
theorem dX9_wide_29 : decode cX9_wide 29 = .ok (.ireturn, 1) := by decide +kernel
theorem dX9_wide_30 : decode cX9_wide 30 = .ok (.aload_n 0, 1) := by decide +kernel
theorem dX9_wide_31 : decode cX9_wide 31 = .ok (.iload_n 2, 1) := by decide +kernel
theorem dX9_wide_32 : decode cX9_wide 32 = .ok (.iaload, 1) := by decide +kernel
theorem dX9_wide_33 : decode cX9_wide 33 = .ok (.aload_n 0, 1) := by decide +kernel
theorem dX9_wide_34 : decode cX9_wide 34 = .ok (.iconst 5, 1) := by decide +kernel
theorem dX9_wide_35 : decode cX9_wide 35 = .ok (.iconst 4, 1) := by decide +kernel
theorem dX9_wide_36 : decode cX9_wide 36 = .ok (.aload_n 0, 1) := by decide +kernel
theorem dX9_wide_37 : decode cX9_wide 37 = .ok (.iload_n 2, 1) := by decide +kernel
theorem dX9_wide_38 : decode cX9_wide 38 = .ok (.iconst 1, 1) := by decide +kernel
theorem dX9_wide_39 : decode cX9_wide 39 = .ok (.iadd, 1) := by decide +kernel
theorem dX9_wide_40 : decode cX9_wide 40 = .ok (.iaload, 1) := by decide +kernel
theorem dX9_wide_41 : decode cX9_wide 41 = .ok (.imul, 1) := by decide +kernel
theorem dX9_wide_42 : decode cX9_wide 42 = .ok (.iadd, 1) := by decide +kernel
theorem dX9_wide_43 : decode cX9_wide 43 = .ok (.iconst 2, 1) := by decide +kernel
theorem dX9_wide_44 : decode cX9_wide 44 = .ok (.iadd, 1) := by decide +kernel
theorem dX9_wide_45 : decode cX9_wide 45 = .ok (.iaload, 1) := by decide +kernel
theorem dX9_wide_46 : decode cX9_wide 46 = .ok (.invokestatic 155, 3) := by decide +kernel
theorem dX9_wide_49 : decode cX9_wide 49 = .ok (.istore_n 3, 1) := by decide +kernel
theorem dX9_wide_50 : decode cX9_wide 50 = .ok (.iload_n 3, 1) := by decide +kernel
theorem dX9_wide_51 : decode cX9_wide 51 = .ok (.aload_n 0, 1) := by decide +kernel
theorem dX9_wide_52 : decode cX9_wide 52 = .ok (.iload_n 2, 1) := by decide +kernel
theorem dX9_wide_53 : decode cX9_wide 53 = .ok (.iconst 3, 1) := by decide +kernel
theorem dX9_wide_54 : decode cX9_wide 54 = .ok (.iadd, 1) := by decide +kernel
theorem dX9_wide_55 : decode cX9_wide 55 = .ok (.iaload, 1) := by decide +kernel
theorem dX9_wide_56 : decode cX9_wide 56 = .ok (.if_icmp .le 7, 3) := by decide +kernel
theorem dX9_wide_59 : decode cX9_wide 59 = .ok (.iload_n 3, 1) := by decide +kernel
theorem dX9_wide_60 : decode cX9_wide 60 = .ok (.goto 8, 3) := by decide +kernel
theorem dX9_wide_63 : decode cX9_wide 63 = .ok (.aload_n 0, 1) := by decide +kernel
theorem dX9_wide_64 : decode cX9_wide 64 = .ok (.iload_n 2, 1) := by decide +kernel
theorem dX9_wide_65 : decode cX9_wide 65 = .ok (.iconst 3, 1) := by decide +kernel
theorem dX9_wide_66 : decode cX9_wide 66 = .ok (.iadd, 1) := by decide +kernel
theorem dX9_wide_67 : decode cX9_wide 67 = .ok (.iaload, 1) := by decide +kernel
theorem dX9_wide_68 : decode cX9_wide 68 = .ok (.ireturn, 1) := by decide +kernel
theorem dX9_setsOut_0 : decode cX9_setsOut 0 = .ok (.aload_n 1, 1) := by decide +kernel
theorem dX9_setsOut_1 : decode cX9_setsOut 1 = .ok (.iconst 2, 1) := by decide +kernel
theorem dX9_setsOut_2 : decode cX9_setsOut 2 = .ok (.iaload, 1) := by decide +kernel
theorem dX9_setsOut_3 : decode cX9_setsOut 3 = .ok (.istore 4, 2) := by decide +kernel
theorem dX9_setsOut_5 : decode cX9_setsOut 5 = .ok (.iconst 0, 1) := by decide +kernel
theorem dX9_setsOut_6 : decode cX9_setsOut 6 = .ok (.istore 5, 2) := by decide +kernel
theorem dX9_setsOut_8 : decode cX9_setsOut 8 = .ok (.iconst 0, 1) := by decide +kernel
theorem dX9_setsOut_9 : decode cX9_setsOut 9 = .ok (.istore 6, 2) := by decide +kernel
theorem dX9_setsOut_11 : decode cX9_setsOut 11 = .ok (.iconst 0, 1) := by decide +kernel
theorem dX9_setsOut_12 : decode cX9_setsOut 12 = .ok (.istore 7, 2) := by decide +kernel
theorem dX9_setsOut_14 : decode cX9_setsOut 14 = .ok (.iload 7, 2) := by decide +kernel
theorem dX9_setsOut_16 : decode cX9_setsOut 16 = .ok (.aload_n 1, 1) := by decide +kernel
theorem dX9_setsOut_17 : decode cX9_setsOut 17 = .ok (.iconst 3, 1) := by decide +kernel
theorem dX9_setsOut_18 : decode cX9_setsOut 18 = .ok (.iaload, 1) := by decide +kernel
theorem dX9_setsOut_19 : decode cX9_setsOut 19 = .ok (.if_icmp .ge 147, 3) := by decide +kernel
theorem dX9_setsOut_22 : decode cX9_setsOut 22 = .ok (.aload_n 1, 1) := by decide +kernel
theorem dX9_setsOut_23 : decode cX9_setsOut 23 = .ok (.iload 7, 2) := by decide +kernel
theorem dX9_setsOut_25 : decode cX9_setsOut 25 = .ok (.invokestatic 158, 3) := by decide +kernel
theorem dX9_setsOut_28 : decode cX9_setsOut 28 = .ok (.iload 7, 2) := by decide +kernel
theorem dX9_setsOut_30 : decode cX9_setsOut 30 = .ok (.iload_n 2, 1) := by decide +kernel
theorem dX9_setsOut_31 : decode cX9_setsOut 31 = .ok (.if_icmp .ne 7, 3) := by decide +kernel
theorem dX9_setsOut_34 : decode cX9_setsOut 34 = .ok (.iload_n 3, 1) := by decide +kernel
theorem dX9_setsOut_35 : decode cX9_setsOut 35 = .ok (.goto 4, 3) := by decide +kernel
theorem dX9_setsOut_38 : decode cX9_setsOut 38 = .ok (.iconst 0, 1) := by decide +kernel
theorem dX9_setsOut_39 : decode cX9_setsOut 39 = .ok (.iadd, 1) := by decide +kernel
theorem dX9_setsOut_40 : decode cX9_setsOut 40 = .ok (.istore 8, 2) := by decide +kernel
theorem dX9_setsOut_42 : decode cX9_setsOut 42 = .ok (.aload_n 1, 1) := by decide +kernel
theorem dX9_setsOut_43 : decode cX9_setsOut 43 = .ok (.iconst 5, 1) := by decide +kernel
theorem dX9_setsOut_44 : decode cX9_setsOut 44 = .ok (.iconst 4, 1) := by decide +kernel
theorem dX9_setsOut_45 : decode cX9_setsOut 45 = .ok (.iload 7, 2) := by decide +kernel
theorem dX9_setsOut_47 : decode cX9_setsOut 47 = .ok (.imul, 1) := by decide +kernel
theorem dX9_setsOut_48 : decode cX9_setsOut 48 = .ok (.iadd, 1) := by decide +kernel
theorem dX9_setsOut_49 : decode cX9_setsOut 49 = .ok (.iaload, 1) := by decide +kernel
theorem dX9_setsOut_50 : decode cX9_setsOut 50 = .ok (.iconst 5, 1) := by decide +kernel
theorem dX9_setsOut_51 : decode cX9_setsOut 51 = .ok (.if_icmp .ne 7, 3) := by decide +kernel
theorem dX9_setsOut_54 : decode cX9_setsOut 54 = .ok (.iconst 1, 1) := by decide +kernel
theorem dX9_setsOut_55 : decode cX9_setsOut 55 = .ok (.goto 4, 3) := by decide +kernel
theorem dX9_setsOut_58 : decode cX9_setsOut 58 = .ok (.iconst 0, 1) := by decide +kernel
theorem dX9_setsOut_59 : decode cX9_setsOut 59 = .ok (.istore 9, 2) := by decide +kernel
theorem dX9_setsOut_61 : decode cX9_setsOut 61 = .ok (.iload 9, 2) := by decide +kernel
theorem dX9_setsOut_63 : decode cX9_setsOut 63 = .ok (.ifCond .ne 39, 3) := by decide +kernel
theorem dX9_setsOut_66 : decode cX9_setsOut 66 = .ok (.iload 6, 2) := by decide +kernel
theorem dX9_setsOut_68 : decode cX9_setsOut 68 = .ok (.ifCond .le 34, 3) := by decide +kernel
theorem dX9_setsOut_71 : decode cX9_setsOut 71 = .ok (.iload 6, 2) := by decide +kernel
theorem dX9_setsOut_73 : decode cX9_setsOut 73 = .ok (.iload 8, 2) := by decide +kernel
theorem dX9_setsOut_75 : decode cX9_setsOut 75 = .ok (.iadd, 1) := by decide +kernel
theorem dX9_setsOut_76 : decode cX9_setsOut 76 = .ok (.aload_n 1, 1) := by decide +kernel
theorem dX9_setsOut_77 : decode cX9_setsOut 77 = .ok (.iconst 0, 1) := by decide +kernel
theorem dX9_setsOut_78 : decode cX9_setsOut 78 = .ok (.iaload, 1) := by decide +kernel
theorem dX9_setsOut_79 : decode cX9_setsOut 79 = .ok (.if_icmp .le 23, 3) := by decide +kernel
theorem dX9_setsOut_82 : decode cX9_setsOut 82 = .ok (.iconst 0, 1) := by decide +kernel
theorem dX9_setsOut_83 : decode cX9_setsOut 83 = .ok (.istore 6, 2) := by decide +kernel
theorem dX9_setsOut_85 : decode cX9_setsOut 85 = .ok (.iinc 5 1, 3) := by decide +kernel
theorem dX9_setsOut_88 : decode cX9_setsOut 88 = .ok (.iload 5, 2) := by decide +kernel
theorem dX9_setsOut_90 : decode cX9_setsOut 90 = .ok (.aload_n 1, 1) := by decide +kernel
theorem dX9_setsOut_91 : decode cX9_setsOut 91 = .ok (.iconst 1, 1) := by decide +kernel
theorem dX9_setsOut_92 : decode cX9_setsOut 92 = .ok (.iaload, 1) := by decide +kernel
theorem dX9_setsOut_93 : decode cX9_setsOut 93 = .ok (.if_icmp .ne 9, 3) := by decide +kernel
theorem dX9_setsOut_96 : decode cX9_setsOut 96 = .ok (.iconst 0, 1) := by decide +kernel
theorem dX9_setsOut_97 : decode cX9_setsOut 97 = .ok (.istore 5, 2) := by decide +kernel
theorem dX9_setsOut_99 : decode cX9_setsOut 99 = .ok (.iinc 4 1, 3) := by decide +kernel
theorem dX9_setsOut_102 : decode cX9_setsOut 102 = .ok (.aload_n 0, 1) := by decide +kernel
theorem dX9_setsOut_103 : decode cX9_setsOut 103 = .ok (.getfield 44, 3) := by decide +kernel
theorem dX9_setsOut_106 : decode cX9_setsOut 106 = .ok (.iconst 3, 1) := by decide +kernel
theorem dX9_setsOut_107 : decode cX9_setsOut 107 = .ok (.iload 7, 2) := by decide +kernel
theorem dX9_setsOut_109 : decode cX9_setsOut 109 = .ok (.imul, 1) := by decide +kernel
theorem dX9_setsOut_110 : decode cX9_setsOut 110 = .ok (.iload 4, 2) := by decide +kernel
theorem dX9_setsOut_112 : decode cX9_setsOut 112 = .ok (.iastore, 1) := by decide +kernel
theorem dX9_setsOut_113 : decode cX9_setsOut 113 = .ok (.aload_n 0, 1) := by decide +kernel
theorem dX9_setsOut_114 : decode cX9_setsOut 114 = .ok (.getfield 44, 3) := by decide +kernel
theorem dX9_setsOut_117 : decode cX9_setsOut 117 = .ok (.iconst 3, 1) := by decide +kernel
theorem dX9_setsOut_118 : decode cX9_setsOut 118 = .ok (.iload 7, 2) := by decide +kernel
theorem dX9_setsOut_120 : decode cX9_setsOut 120 = .ok (.imul, 1) := by decide +kernel
theorem dX9_setsOut_121 : decode cX9_setsOut 121 = .ok (.iconst 1, 1) := by decide +kernel
theorem dX9_setsOut_122 : decode cX9_setsOut 122 = .ok (.iadd, 1) := by decide +kernel
theorem dX9_setsOut_123 : decode cX9_setsOut 123 = .ok (.iload 5, 2) := by decide +kernel
theorem dX9_setsOut_125 : decode cX9_setsOut 125 = .ok (.iastore, 1) := by decide +kernel
theorem dX9_setsOut_126 : decode cX9_setsOut 126 = .ok (.aload_n 0, 1) := by decide +kernel
theorem dX9_setsOut_127 : decode cX9_setsOut 127 = .ok (.getfield 44, 3) := by decide +kernel
theorem dX9_setsOut_130 : decode cX9_setsOut 130 = .ok (.iconst 3, 1) := by decide +kernel
theorem dX9_setsOut_131 : decode cX9_setsOut 131 = .ok (.iload 7, 2) := by decide +kernel
theorem dX9_setsOut_133 : decode cX9_setsOut 133 = .ok (.imul, 1) := by decide +kernel
theorem dX9_setsOut_134 : decode cX9_setsOut 134 = .ok (.iconst 2, 1) := by decide +kernel
theorem dX9_setsOut_135 : decode cX9_setsOut 135 = .ok (.iadd, 1) := by decide +kernel
theorem dX9_setsOut_136 : decode cX9_setsOut 136 = .ok (.iload 6, 2) := by decide +kernel
theorem dX9_setsOut_138 : decode cX9_setsOut 138 = .ok (.iastore, 1) := by decide +kernel
theorem dX9_setsOut_139 : decode cX9_setsOut 139 = .ok (.iload 6, 2) := by decide +kernel
theorem dX9_setsOut_141 : decode cX9_setsOut 141 = .ok (.iload 8, 2) := by decide +kernel
theorem dX9_setsOut_143 : decode cX9_setsOut 143 = .ok (.iadd, 1) := by decide +kernel
theorem dX9_setsOut_144 : decode cX9_setsOut 144 = .ok (.istore 6, 2) := by decide +kernel
theorem dX9_setsOut_146 : decode cX9_setsOut 146 = .ok (.iload 9, 2) := by decide +kernel
theorem dX9_setsOut_148 : decode cX9_setsOut 148 = .ok (.ifCond .eq 12, 3) := by decide +kernel
theorem dX9_setsOut_151 : decode cX9_setsOut 151 = .ok (.iinc 4 1, 3) := by decide +kernel
theorem dX9_setsOut_154 : decode cX9_setsOut 154 = .ok (.iconst 0, 1) := by decide +kernel
theorem dX9_setsOut_155 : decode cX9_setsOut 155 = .ok (.istore 5, 2) := by decide +kernel
theorem dX9_setsOut_157 : decode cX9_setsOut 157 = .ok (.iconst 0, 1) := by decide +kernel
theorem dX9_setsOut_158 : decode cX9_setsOut 158 = .ok (.istore 6, 2) := by decide +kernel
theorem dX9_setsOut_160 : decode cX9_setsOut 160 = .ok (.iinc 7 1, 3) := by decide +kernel
theorem dX9_setsOut_163 : decode cX9_setsOut 163 = .ok (.goto (-149), 3) := by decide +kernel
theorem dX9_setsOut_166 : decode cX9_setsOut 166 = .ok (.return_, 1) := by decide +kernel
theorem dX9_rounds_0 : decode cX9_rounds 0 = .ok (.aload_n 0, 1) := by decide +kernel
theorem dX9_rounds_1 : decode cX9_rounds 1 = .ok (.aload_n 1, 1) := by decide +kernel
theorem dX9_rounds_2 : decode cX9_rounds 2 = .ok (.ldc 56, 2) := by decide +kernel
theorem dX9_rounds_4 : decode cX9_rounds 4 = .ok (.iconst 0, 1) := by decide +kernel
theorem dX9_rounds_5 : decode cX9_rounds 5 = .ok (.invokevirtual 162, 3) := by decide +kernel
theorem dX9_rounds_8 : decode cX9_rounds 8 = .ok (.iconst 0, 1) := by decide +kernel
theorem dX9_rounds_9 : decode cX9_rounds 9 = .ok (.istore_n 2, 1) := by decide +kernel
theorem dX9_rounds_10 : decode cX9_rounds 10 = .ok (.iconst 0, 1) := by decide +kernel
theorem dX9_rounds_11 : decode cX9_rounds 11 = .ok (.istore_n 3, 1) := by decide +kernel
theorem dX9_rounds_12 : decode cX9_rounds 12 = .ok (.iload_n 3, 1) := by decide +kernel
theorem dX9_rounds_13 : decode cX9_rounds 13 = .ok (.aload_n 1, 1) := by decide +kernel
theorem dX9_rounds_14 : decode cX9_rounds 14 = .ok (.iconst 3, 1) := by decide +kernel
theorem dX9_rounds_15 : decode cX9_rounds 15 = .ok (.iaload, 1) := by decide +kernel
theorem dX9_rounds_16 : decode cX9_rounds 16 = .ok (.if_icmp .ge 54, 3) := by decide +kernel
theorem dX9_rounds_19 : decode cX9_rounds 19 = .ok (.iload_n 2, 1) := by decide +kernel
theorem dX9_rounds_20 : decode cX9_rounds 20 = .ok (.aload_n 1, 1) := by decide +kernel
theorem dX9_rounds_21 : decode cX9_rounds 21 = .ok (.iconst 5, 1) := by decide +kernel
theorem dX9_rounds_22 : decode cX9_rounds 22 = .ok (.iconst 4, 1) := by decide +kernel
theorem dX9_rounds_23 : decode cX9_rounds 23 = .ok (.iload_n 3, 1) := by decide +kernel
theorem dX9_rounds_24 : decode cX9_rounds 24 = .ok (.imul, 1) := by decide +kernel
theorem dX9_rounds_25 : decode cX9_rounds 25 = .ok (.iadd, 1) := by decide +kernel
theorem dX9_rounds_26 : decode cX9_rounds 26 = .ok (.iconst 2, 1) := by decide +kernel
theorem dX9_rounds_27 : decode cX9_rounds 27 = .ok (.iadd, 1) := by decide +kernel
theorem dX9_rounds_28 : decode cX9_rounds 28 = .ok (.iaload, 1) := by decide +kernel
theorem dX9_rounds_29 : decode cX9_rounds 29 = .ok (.aload_n 0, 1) := by decide +kernel
theorem dX9_rounds_30 : decode cX9_rounds 30 = .ok (.getfield 44, 3) := by decide +kernel
theorem dX9_rounds_33 : decode cX9_rounds 33 = .ok (.iconst 3, 1) := by decide +kernel
theorem dX9_rounds_34 : decode cX9_rounds 34 = .ok (.iload_n 3, 1) := by decide +kernel
theorem dX9_rounds_35 : decode cX9_rounds 35 = .ok (.imul, 1) := by decide +kernel
theorem dX9_rounds_36 : decode cX9_rounds 36 = .ok (.iaload, 1) := by decide +kernel
theorem dX9_rounds_37 : decode cX9_rounds 37 = .ok (.if_icmp .eq 7, 3) := by decide +kernel
theorem dX9_rounds_40 : decode cX9_rounds 40 = .ok (.iconst 1, 1) := by decide +kernel
theorem dX9_rounds_41 : decode cX9_rounds 41 = .ok (.goto 4, 3) := by decide +kernel
theorem dX9_rounds_44 : decode cX9_rounds 44 = .ok (.iconst 0, 1) := by decide +kernel
theorem dX9_rounds_45 : decode cX9_rounds 45 = .ok (.iadd, 1) := by decide +kernel
theorem dX9_rounds_46 : decode cX9_rounds 46 = .ok (.istore_n 2, 1) := by decide +kernel
theorem dX9_rounds_47 : decode cX9_rounds 47 = .ok (.aload_n 1, 1) := by decide +kernel
theorem dX9_rounds_48 : decode cX9_rounds 48 = .ok (.iconst 5, 1) := by decide +kernel
theorem dX9_rounds_49 : decode cX9_rounds 49 = .ok (.iconst 4, 1) := by decide +kernel
theorem dX9_rounds_50 : decode cX9_rounds 50 = .ok (.iload_n 3, 1) := by decide +kernel
theorem dX9_rounds_51 : decode cX9_rounds 51 = .ok (.imul, 1) := by decide +kernel
theorem dX9_rounds_52 : decode cX9_rounds 52 = .ok (.iadd, 1) := by decide +kernel
theorem dX9_rounds_53 : decode cX9_rounds 53 = .ok (.iconst 2, 1) := by decide +kernel
theorem dX9_rounds_54 : decode cX9_rounds 54 = .ok (.iadd, 1) := by decide +kernel
theorem dX9_rounds_55 : decode cX9_rounds 55 = .ok (.aload_n 0, 1) := by decide +kernel
theorem dX9_rounds_56 : decode cX9_rounds 56 = .ok (.getfield 44, 3) := by decide +kernel
theorem dX9_rounds_59 : decode cX9_rounds 59 = .ok (.iconst 3, 1) := by decide +kernel
theorem dX9_rounds_60 : decode cX9_rounds 60 = .ok (.iload_n 3, 1) := by decide +kernel
theorem dX9_rounds_61 : decode cX9_rounds 61 = .ok (.imul, 1) := by decide +kernel
theorem dX9_rounds_62 : decode cX9_rounds 62 = .ok (.iaload, 1) := by decide +kernel
theorem dX9_rounds_63 : decode cX9_rounds 63 = .ok (.iastore, 1) := by decide +kernel
theorem dX9_rounds_64 : decode cX9_rounds 64 = .ok (.iinc 3 1, 3) := by decide +kernel
theorem dX9_rounds_67 : decode cX9_rounds 67 = .ok (.goto (-55), 3) := by decide +kernel
theorem dX9_rounds_70 : decode cX9_rounds 70 = .ok (.aload_n 1, 1) := by decide +kernel
theorem dX9_rounds_71 : decode cX9_rounds 71 = .ok (.iconst 4, 1) := by decide +kernel
theorem dX9_rounds_72 : decode cX9_rounds 72 = .ok (.dup2, 1) := by decide +kernel
theorem dX9_rounds_73 : decode cX9_rounds 73 = .ok (.iaload, 1) := by decide +kernel
theorem dX9_rounds_74 : decode cX9_rounds 74 = .ok (.iconst 1, 1) := by decide +kernel
theorem dX9_rounds_75 : decode cX9_rounds 75 = .ok (.iadd, 1) := by decide +kernel
theorem dX9_rounds_76 : decode cX9_rounds 76 = .ok (.iastore, 1) := by decide +kernel
theorem dX9_rounds_77 : decode cX9_rounds 77 = .ok (.iload_n 2, 1) := by decide +kernel
theorem dX9_rounds_78 : decode cX9_rounds 78 = .ok (.ireturn, 1) := by decide +kernel
theorem dX9_isSettled_0 : decode cX9_isSettled 0 = .ok (.aload_n 0, 1) := by decide +kernel
theorem dX9_isSettled_1 : decode cX9_isSettled 1 = .ok (.aload_n 1, 1) := by decide +kernel
theorem dX9_isSettled_2 : decode cX9_isSettled 2 = .ok (.ldc 56, 2) := by decide +kernel
theorem dX9_isSettled_4 : decode cX9_isSettled 4 = .ok (.iconst 0, 1) := by decide +kernel
theorem dX9_isSettled_5 : decode cX9_isSettled 5 = .ok (.invokevirtual 162, 3) := by decide +kernel
theorem dX9_isSettled_8 : decode cX9_isSettled 8 = .ok (.iconst 1, 1) := by decide +kernel
theorem dX9_isSettled_9 : decode cX9_isSettled 9 = .ok (.istore_n 2, 1) := by decide +kernel
theorem dX9_isSettled_10 : decode cX9_isSettled 10 = .ok (.iconst 0, 1) := by decide +kernel
theorem dX9_isSettled_11 : decode cX9_isSettled 11 = .ok (.istore_n 3, 1) := by decide +kernel
theorem dX9_isSettled_12 : decode cX9_isSettled 12 = .ok (.iload_n 3, 1) := by decide +kernel
theorem dX9_isSettled_13 : decode cX9_isSettled 13 = .ok (.aload_n 1, 1) := by decide +kernel
theorem dX9_isSettled_14 : decode cX9_isSettled 14 = .ok (.iconst 3, 1) := by decide +kernel
theorem dX9_isSettled_15 : decode cX9_isSettled 15 = .ok (.iaload, 1) := by decide +kernel
theorem dX9_isSettled_16 : decode cX9_isSettled 16 = .ok (.if_icmp .ge 39, 3) := by decide +kernel
theorem dX9_isSettled_19 : decode cX9_isSettled 19 = .ok (.iload_n 2, 1) := by decide +kernel
theorem dX9_isSettled_20 : decode cX9_isSettled 20 = .ok (.ifCond .eq 27, 3) := by decide +kernel
theorem dX9_isSettled_23 : decode cX9_isSettled 23 = .ok (.aload_n 1, 1) := by decide +kernel
theorem dX9_isSettled_24 : decode cX9_isSettled 24 = .ok (.iconst 5, 1) := by decide +kernel
theorem dX9_isSettled_25 : decode cX9_isSettled 25 = .ok (.iconst 4, 1) := by decide +kernel
theorem dX9_isSettled_26 : decode cX9_isSettled 26 = .ok (.iload_n 3, 1) := by decide +kernel
theorem dX9_isSettled_27 : decode cX9_isSettled 27 = .ok (.imul, 1) := by decide +kernel
theorem dX9_isSettled_28 : decode cX9_isSettled 28 = .ok (.iadd, 1) := by decide +kernel
theorem dX9_isSettled_29 : decode cX9_isSettled 29 = .ok (.iconst 2, 1) := by decide +kernel
theorem dX9_isSettled_30 : decode cX9_isSettled 30 = .ok (.iadd, 1) := by decide +kernel
theorem dX9_isSettled_31 : decode cX9_isSettled 31 = .ok (.iaload, 1) := by decide +kernel
theorem dX9_isSettled_32 : decode cX9_isSettled 32 = .ok (.aload_n 0, 1) := by decide +kernel
theorem dX9_isSettled_33 : decode cX9_isSettled 33 = .ok (.getfield 44, 3) := by decide +kernel
theorem dX9_isSettled_36 : decode cX9_isSettled 36 = .ok (.iconst 3, 1) := by decide +kernel
theorem dX9_isSettled_37 : decode cX9_isSettled 37 = .ok (.iload_n 3, 1) := by decide +kernel
theorem dX9_isSettled_38 : decode cX9_isSettled 38 = .ok (.imul, 1) := by decide +kernel
theorem dX9_isSettled_39 : decode cX9_isSettled 39 = .ok (.iaload, 1) := by decide +kernel
theorem dX9_isSettled_40 : decode cX9_isSettled 40 = .ok (.if_icmp .ne 7, 3) := by decide +kernel
theorem dX9_isSettled_43 : decode cX9_isSettled 43 = .ok (.iconst 1, 1) := by decide +kernel
theorem dX9_isSettled_44 : decode cX9_isSettled 44 = .ok (.goto 4, 3) := by decide +kernel
theorem dX9_isSettled_47 : decode cX9_isSettled 47 = .ok (.iconst 0, 1) := by decide +kernel
theorem dX9_isSettled_48 : decode cX9_isSettled 48 = .ok (.istore_n 2, 1) := by decide +kernel
theorem dX9_isSettled_49 : decode cX9_isSettled 49 = .ok (.iinc 3 1, 3) := by decide +kernel
theorem dX9_isSettled_52 : decode cX9_isSettled 52 = .ok (.goto (-40), 3) := by decide +kernel
theorem dX9_isSettled_55 : decode cX9_isSettled 55 = .ok (.iload_n 2, 1) := by decide +kernel
theorem dX9_isSettled_56 : decode cX9_isSettled 56 = .ok (.ireturn, 1) := by decide +kernel
theorem dX9_begins_0 : decode cX9_begins 0 = .ok (.iconst 0, 1) := by decide +kernel
theorem dX9_begins_1 : decode cX9_begins 1 = .ok (.istore_n 1, 1) := by decide +kernel
theorem dX9_begins_2 : decode cX9_begins 2 = .ok (.iload_n 1, 1) := by decide +kernel
theorem dX9_begins_3 : decode cX9_begins 3 = .ok (.aload_n 0, 1) := by decide +kernel
theorem dX9_begins_4 : decode cX9_begins 4 = .ok (.iconst 3, 1) := by decide +kernel
theorem dX9_begins_5 : decode cX9_begins 5 = .ok (.iaload, 1) := by decide +kernel
theorem dX9_begins_6 : decode cX9_begins 6 = .ok (.if_icmp .ge 31, 3) := by decide +kernel
theorem dX9_begins_9 : decode cX9_begins 9 = .ok (.aload_n 0, 1) := by decide +kernel
theorem dX9_begins_10 : decode cX9_begins 10 = .ok (.iconst 5, 1) := by decide +kernel
theorem dX9_begins_11 : decode cX9_begins 11 = .ok (.iconst 4, 1) := by decide +kernel
theorem dX9_begins_12 : decode cX9_begins 12 = .ok (.iload_n 1, 1) := by decide +kernel
theorem dX9_begins_13 : decode cX9_begins 13 = .ok (.imul, 1) := by decide +kernel
theorem dX9_begins_14 : decode cX9_begins 14 = .ok (.iadd, 1) := by decide +kernel
theorem dX9_begins_15 : decode cX9_begins 15 = .ok (.iconst 2, 1) := by decide +kernel
theorem dX9_begins_16 : decode cX9_begins 16 = .ok (.iadd, 1) := by decide +kernel
theorem dX9_begins_17 : decode cX9_begins 17 = .ok (.aload_n 0, 1) := by decide +kernel
theorem dX9_begins_18 : decode cX9_begins 18 = .ok (.iconst 2, 1) := by decide +kernel
theorem dX9_begins_19 : decode cX9_begins 19 = .ok (.iaload, 1) := by decide +kernel
theorem dX9_begins_20 : decode cX9_begins 20 = .ok (.iastore, 1) := by decide +kernel
theorem dX9_begins_21 : decode cX9_begins 21 = .ok (.aload_n 0, 1) := by decide +kernel
theorem dX9_begins_22 : decode cX9_begins 22 = .ok (.iconst 5, 1) := by decide +kernel
theorem dX9_begins_23 : decode cX9_begins 23 = .ok (.iconst 4, 1) := by decide +kernel
theorem dX9_begins_24 : decode cX9_begins 24 = .ok (.iload_n 1, 1) := by decide +kernel
theorem dX9_begins_25 : decode cX9_begins 25 = .ok (.imul, 1) := by decide +kernel
theorem dX9_begins_26 : decode cX9_begins 26 = .ok (.iadd, 1) := by decide +kernel
theorem dX9_begins_27 : decode cX9_begins 27 = .ok (.iconst 3, 1) := by decide +kernel
theorem dX9_begins_28 : decode cX9_begins 28 = .ok (.iadd, 1) := by decide +kernel
theorem dX9_begins_29 : decode cX9_begins 29 = .ok (.iconst 0, 1) := by decide +kernel
theorem dX9_begins_30 : decode cX9_begins 30 = .ok (.iastore, 1) := by decide +kernel
theorem dX9_begins_31 : decode cX9_begins 31 = .ok (.iinc 1 1, 3) := by decide +kernel
theorem dX9_begins_34 : decode cX9_begins 34 = .ok (.goto (-32), 3) := by decide +kernel
theorem dX9_begins_37 : decode cX9_begins 37 = .ok (.return_, 1) := by decide +kernel
theorem dX9_keepsGuesses_0 : decode cX9_keepsGuesses 0 = .ok (.iconst 0, 1) := by decide +kernel
theorem dX9_keepsGuesses_1 : decode cX9_keepsGuesses 1 = .ok (.istore_n 3, 1) := by decide +kernel
theorem dX9_keepsGuesses_2 : decode cX9_keepsGuesses 2 = .ok (.iload_n 3, 1) := by decide +kernel
theorem dX9_keepsGuesses_3 : decode cX9_keepsGuesses 3 = .ok (.aload_n 1, 1) := by decide +kernel
theorem dX9_keepsGuesses_4 : decode cX9_keepsGuesses 4 = .ok (.iconst 3, 1) := by decide +kernel
theorem dX9_keepsGuesses_5 : decode cX9_keepsGuesses 5 = .ok (.iaload, 1) := by decide +kernel
theorem dX9_keepsGuesses_6 : decode cX9_keepsGuesses 6 = .ok (.if_icmp .ge 29, 3) := by decide +kernel
theorem dX9_keepsGuesses_9 : decode cX9_keepsGuesses 9 = .ok (.aload_n 0, 1) := by decide +kernel
theorem dX9_keepsGuesses_10 : decode cX9_keepsGuesses 10 = .ok (.getfield 50, 3) := by decide +kernel
theorem dX9_keepsGuesses_13 : decode cX9_keepsGuesses 13 = .ok (.bipush 12, 2) := by decide +kernel
theorem dX9_keepsGuesses_15 : decode cX9_keepsGuesses 15 = .ok (.iload_n 2, 1) := by decide +kernel
theorem dX9_keepsGuesses_16 : decode cX9_keepsGuesses 16 = .ok (.imul, 1) := by decide +kernel
theorem dX9_keepsGuesses_17 : decode cX9_keepsGuesses 17 = .ok (.iload_n 3, 1) := by decide +kernel
theorem dX9_keepsGuesses_18 : decode cX9_keepsGuesses 18 = .ok (.iadd, 1) := by decide +kernel
theorem dX9_keepsGuesses_19 : decode cX9_keepsGuesses 19 = .ok (.aload_n 1, 1) := by decide +kernel
theorem dX9_keepsGuesses_20 : decode cX9_keepsGuesses 20 = .ok (.iconst 5, 1) := by decide +kernel
theorem dX9_keepsGuesses_21 : decode cX9_keepsGuesses 21 = .ok (.iconst 4, 1) := by decide +kernel
theorem dX9_keepsGuesses_22 : decode cX9_keepsGuesses 22 = .ok (.iload_n 3, 1) := by decide +kernel
theorem dX9_keepsGuesses_23 : decode cX9_keepsGuesses 23 = .ok (.imul, 1) := by decide +kernel
theorem dX9_keepsGuesses_24 : decode cX9_keepsGuesses 24 = .ok (.iadd, 1) := by decide +kernel
theorem dX9_keepsGuesses_25 : decode cX9_keepsGuesses 25 = .ok (.iconst 2, 1) := by decide +kernel
theorem dX9_keepsGuesses_26 : decode cX9_keepsGuesses 26 = .ok (.iadd, 1) := by decide +kernel
theorem dX9_keepsGuesses_27 : decode cX9_keepsGuesses 27 = .ok (.iaload, 1) := by decide +kernel
theorem dX9_keepsGuesses_28 : decode cX9_keepsGuesses 28 = .ok (.iastore, 1) := by decide +kernel
theorem dX9_keepsGuesses_29 : decode cX9_keepsGuesses 29 = .ok (.iinc 3 1, 3) := by decide +kernel
theorem dX9_keepsGuesses_32 : decode cX9_keepsGuesses 32 = .ok (.goto (-30), 3) := by decide +kernel
theorem dX9_keepsGuesses_35 : decode cX9_keepsGuesses 35 = .ok (.return_, 1) := by decide +kernel
theorem dX9_areGuesses_0 : decode cX9_areGuesses 0 = .ok (.iconst 1, 1) := by decide +kernel
theorem dX9_areGuesses_1 : decode cX9_areGuesses 1 = .ok (.istore_n 3, 1) := by decide +kernel
theorem dX9_areGuesses_2 : decode cX9_areGuesses 2 = .ok (.iconst 0, 1) := by decide +kernel
theorem dX9_areGuesses_3 : decode cX9_areGuesses 3 = .ok (.istore 4, 2) := by decide +kernel
theorem dX9_areGuesses_5 : decode cX9_areGuesses 5 = .ok (.iload 4, 2) := by decide +kernel
theorem dX9_areGuesses_7 : decode cX9_areGuesses 7 = .ok (.aload_n 1, 1) := by decide +kernel
theorem dX9_areGuesses_8 : decode cX9_areGuesses 8 = .ok (.iconst 3, 1) := by decide +kernel
theorem dX9_areGuesses_9 : decode cX9_areGuesses 9 = .ok (.iaload, 1) := by decide +kernel
theorem dX9_areGuesses_10 : decode cX9_areGuesses 10 = .ok (.if_icmp .ge 44, 3) := by decide +kernel
theorem dX9_areGuesses_13 : decode cX9_areGuesses 13 = .ok (.iload_n 3, 1) := by decide +kernel
theorem dX9_areGuesses_14 : decode cX9_areGuesses 14 = .ok (.ifCond .eq 32, 3) := by decide +kernel
theorem dX9_areGuesses_17 : decode cX9_areGuesses 17 = .ok (.aload_n 0, 1) := by decide +kernel
theorem dX9_areGuesses_18 : decode cX9_areGuesses 18 = .ok (.getfield 50, 3) := by decide +kernel
theorem dX9_areGuesses_21 : decode cX9_areGuesses 21 = .ok (.bipush 12, 2) := by decide +kernel
theorem dX9_areGuesses_23 : decode cX9_areGuesses 23 = .ok (.iload_n 2, 1) := by decide +kernel
theorem dX9_areGuesses_24 : decode cX9_areGuesses 24 = .ok (.imul, 1) := by decide +kernel
theorem dX9_areGuesses_25 : decode cX9_areGuesses 25 = .ok (.iload 4, 2) := by decide +kernel
theorem dX9_areGuesses_27 : decode cX9_areGuesses 27 = .ok (.iadd, 1) := by decide +kernel
theorem dX9_areGuesses_28 : decode cX9_areGuesses 28 = .ok (.iaload, 1) := by decide +kernel
theorem dX9_areGuesses_29 : decode cX9_areGuesses 29 = .ok (.aload_n 1, 1) := by decide +kernel
theorem dX9_areGuesses_30 : decode cX9_areGuesses 30 = .ok (.iconst 5, 1) := by decide +kernel
theorem dX9_areGuesses_31 : decode cX9_areGuesses 31 = .ok (.iconst 4, 1) := by decide +kernel
theorem dX9_areGuesses_32 : decode cX9_areGuesses 32 = .ok (.iload 4, 2) := by decide +kernel
theorem dX9_areGuesses_34 : decode cX9_areGuesses 34 = .ok (.imul, 1) := by decide +kernel
theorem dX9_areGuesses_35 : decode cX9_areGuesses 35 = .ok (.iadd, 1) := by decide +kernel
theorem dX9_areGuesses_36 : decode cX9_areGuesses 36 = .ok (.iconst 2, 1) := by decide +kernel
theorem dX9_areGuesses_37 : decode cX9_areGuesses 37 = .ok (.iadd, 1) := by decide +kernel
theorem dX9_areGuesses_38 : decode cX9_areGuesses 38 = .ok (.iaload, 1) := by decide +kernel
theorem dX9_areGuesses_39 : decode cX9_areGuesses 39 = .ok (.if_icmp .ne 7, 3) := by decide +kernel
theorem dX9_areGuesses_42 : decode cX9_areGuesses 42 = .ok (.iconst 1, 1) := by decide +kernel
theorem dX9_areGuesses_43 : decode cX9_areGuesses 43 = .ok (.goto 4, 3) := by decide +kernel
theorem dX9_areGuesses_46 : decode cX9_areGuesses 46 = .ok (.iconst 0, 1) := by decide +kernel
theorem dX9_areGuesses_47 : decode cX9_areGuesses 47 = .ok (.istore_n 3, 1) := by decide +kernel
theorem dX9_areGuesses_48 : decode cX9_areGuesses 48 = .ok (.iinc 4 1, 3) := by decide +kernel
theorem dX9_areGuesses_51 : decode cX9_areGuesses 51 = .ok (.goto (-46), 3) := by decide +kernel
theorem dX9_areGuesses_54 : decode cX9_areGuesses 54 = .ok (.iload_n 3, 1) := by decide +kernel
theorem dX9_areGuesses_55 : decode cX9_areGuesses 55 = .ok (.ireturn, 1) := by decide +kernel
theorem dX9_freezes_0 : decode cX9_freezes 0 = .ok (.iconst 0, 1) := by decide +kernel
theorem dX9_freezes_1 : decode cX9_freezes 1 = .ok (.istore 4, 2) := by decide +kernel
theorem dX9_freezes_3 : decode cX9_freezes 3 = .ok (.iload 4, 2) := by decide +kernel
theorem dX9_freezes_5 : decode cX9_freezes 5 = .ok (.aload_n 1, 1) := by decide +kernel
theorem dX9_freezes_6 : decode cX9_freezes 6 = .ok (.iconst 3, 1) := by decide +kernel
theorem dX9_freezes_7 : decode cX9_freezes 7 = .ok (.iaload, 1) := by decide +kernel
theorem dX9_freezes_8 : decode cX9_freezes 8 = .ok (.if_icmp .ge 159, 3) := by decide +kernel
theorem dX9_freezes_11 : decode cX9_freezes 11 = .ok (.iconst 5, 1) := by decide +kernel
theorem dX9_freezes_12 : decode cX9_freezes 12 = .ok (.iconst 4, 1) := by decide +kernel
theorem dX9_freezes_13 : decode cX9_freezes 13 = .ok (.iload 4, 2) := by decide +kernel
theorem dX9_freezes_15 : decode cX9_freezes 15 = .ok (.imul, 1) := by decide +kernel
theorem dX9_freezes_16 : decode cX9_freezes 16 = .ok (.iadd, 1) := by decide +kernel
theorem dX9_freezes_17 : decode cX9_freezes 17 = .ok (.istore 5, 2) := by decide +kernel
theorem dX9_freezes_19 : decode cX9_freezes 19 = .ok (.iconst 0, 1) := by decide +kernel
theorem dX9_freezes_20 : decode cX9_freezes 20 = .ok (.istore 6, 2) := by decide +kernel
theorem dX9_freezes_22 : decode cX9_freezes 22 = .ok (.iconst 1, 1) := by decide +kernel
theorem dX9_freezes_23 : decode cX9_freezes 23 = .ok (.istore 7, 2) := by decide +kernel
theorem dX9_freezes_25 : decode cX9_freezes 25 = .ok (.iload_n 2, 1) := by decide +kernel
theorem dX9_freezes_26 : decode cX9_freezes 26 = .ok (.istore 8, 2) := by decide +kernel
theorem dX9_freezes_28 : decode cX9_freezes 28 = .ok (.iload 8, 2) := by decide +kernel
theorem dX9_freezes_30 : decode cX9_freezes 30 = .ok (.iload_n 3, 1) := by decide +kernel
theorem dX9_freezes_31 : decode cX9_freezes 31 = .ok (.if_icmp .ge 108, 3) := by decide +kernel
theorem dX9_freezes_34 : decode cX9_freezes 34 = .ok (.aload_n 1, 1) := by decide +kernel
theorem dX9_freezes_35 : decode cX9_freezes 35 = .ok (.iload 5, 2) := by decide +kernel
theorem dX9_freezes_37 : decode cX9_freezes 37 = .ok (.iaload, 1) := by decide +kernel
theorem dX9_freezes_38 : decode cX9_freezes 38 = .ok (.iconst 3, 1) := by decide +kernel
theorem dX9_freezes_39 : decode cX9_freezes 39 = .ok (.if_icmp .gt 100, 3) := by decide +kernel
theorem dX9_freezes_42 : decode cX9_freezes 42 = .ok (.aload_n 1, 1) := by decide +kernel
theorem dX9_freezes_43 : decode cX9_freezes 43 = .ok (.iload 5, 2) := by decide +kernel
theorem dX9_freezes_45 : decode cX9_freezes 45 = .ok (.iaload, 1) := by decide +kernel
theorem dX9_freezes_46 : decode cX9_freezes 46 = .ok (.aload_n 0, 1) := by decide +kernel
theorem dX9_freezes_47 : decode cX9_freezes 47 = .ok (.getfield 50, 3) := by decide +kernel
theorem dX9_freezes_50 : decode cX9_freezes 50 = .ok (.bipush 12, 2) := by decide +kernel
theorem dX9_freezes_52 : decode cX9_freezes 52 = .ok (.iload 8, 2) := by decide +kernel
theorem dX9_freezes_54 : decode cX9_freezes 54 = .ok (.imul, 1) := by decide +kernel
theorem dX9_freezes_55 : decode cX9_freezes 55 = .ok (.aload_n 1, 1) := by decide +kernel
theorem dX9_freezes_56 : decode cX9_freezes 56 = .ok (.iload 5, 2) := by decide +kernel
theorem dX9_freezes_58 : decode cX9_freezes 58 = .ok (.iconst 1, 1) := by decide +kernel
theorem dX9_freezes_59 : decode cX9_freezes 59 = .ok (.iadd, 1) := by decide +kernel
theorem dX9_freezes_60 : decode cX9_freezes 60 = .ok (.iaload, 1) := by decide +kernel
theorem dX9_freezes_61 : decode cX9_freezes 61 = .ok (.iadd, 1) := by decide +kernel
theorem dX9_freezes_62 : decode cX9_freezes 62 = .ok (.iaload, 1) := by decide +kernel
theorem dX9_freezes_63 : decode cX9_freezes 63 = .ok (.invokestatic 155, 3) := by decide +kernel
theorem dX9_freezes_66 : decode cX9_freezes 66 = .ok (.istore 9, 2) := by decide +kernel
theorem dX9_freezes_68 : decode cX9_freezes 68 = .ok (.iload 9, 2) := by decide +kernel
theorem dX9_freezes_70 : decode cX9_freezes 70 = .ok (.aload_n 1, 1) := by decide +kernel
theorem dX9_freezes_71 : decode cX9_freezes 71 = .ok (.iload 5, 2) := by decide +kernel
theorem dX9_freezes_73 : decode cX9_freezes 73 = .ok (.iconst 3, 1) := by decide +kernel
theorem dX9_freezes_74 : decode cX9_freezes 74 = .ok (.iadd, 1) := by decide +kernel
theorem dX9_freezes_75 : decode cX9_freezes 75 = .ok (.iaload, 1) := by decide +kernel
theorem dX9_freezes_76 : decode cX9_freezes 76 = .ok (.if_icmp .le 8, 3) := by decide +kernel
theorem dX9_freezes_79 : decode cX9_freezes 79 = .ok (.iload 9, 2) := by decide +kernel
theorem dX9_freezes_81 : decode cX9_freezes 81 = .ok (.goto 9, 3) := by decide +kernel
theorem dX9_freezes_84 : decode cX9_freezes 84 = .ok (.aload_n 1, 1) := by decide +kernel
theorem dX9_freezes_85 : decode cX9_freezes 85 = .ok (.iload 5, 2) := by decide +kernel
theorem dX9_freezes_87 : decode cX9_freezes 87 = .ok (.iconst 3, 1) := by decide +kernel
theorem dX9_freezes_88 : decode cX9_freezes 88 = .ok (.iadd, 1) := by decide +kernel
theorem dX9_freezes_89 : decode cX9_freezes 89 = .ok (.iaload, 1) := by decide +kernel
theorem dX9_freezes_90 : decode cX9_freezes 90 = .ok (.istore 9, 2) := by decide +kernel
theorem dX9_freezes_92 : decode cX9_freezes 92 = .ok (.iload 7, 2) := by decide +kernel
theorem dX9_freezes_94 : decode cX9_freezes 94 = .ok (.ifCond .eq 20, 3) := by decide +kernel
theorem dX9_freezes_97 : decode cX9_freezes 97 = .ok (.iload 8, 2) := by decide +kernel
theorem dX9_freezes_99 : decode cX9_freezes 99 = .ok (.iload_n 2, 1) := by decide +kernel
theorem dX9_freezes_100 : decode cX9_freezes 100 = .ok (.if_icmp .eq 10, 3) := by decide +kernel
theorem dX9_freezes_103 : decode cX9_freezes 103 = .ok (.iload 9, 2) := by decide +kernel
theorem dX9_freezes_105 : decode cX9_freezes 105 = .ok (.iload 6, 2) := by decide +kernel
theorem dX9_freezes_107 : decode cX9_freezes 107 = .ok (.if_icmp .ne 7, 3) := by decide +kernel
theorem dX9_freezes_110 : decode cX9_freezes 110 = .ok (.iconst 1, 1) := by decide +kernel
theorem dX9_freezes_111 : decode cX9_freezes 111 = .ok (.goto 4, 3) := by decide +kernel
theorem dX9_freezes_114 : decode cX9_freezes 114 = .ok (.iconst 0, 1) := by decide +kernel
theorem dX9_freezes_115 : decode cX9_freezes 115 = .ok (.istore 7, 2) := by decide +kernel
theorem dX9_freezes_117 : decode cX9_freezes 117 = .ok (.iload 9, 2) := by decide +kernel
theorem dX9_freezes_119 : decode cX9_freezes 119 = .ok (.iload 6, 2) := by decide +kernel
theorem dX9_freezes_121 : decode cX9_freezes 121 = .ok (.if_icmp .le 8, 3) := by decide +kernel
theorem dX9_freezes_124 : decode cX9_freezes 124 = .ok (.iload 9, 2) := by decide +kernel
theorem dX9_freezes_126 : decode cX9_freezes 126 = .ok (.goto 5, 3) := by decide +kernel
theorem dX9_freezes_129 : decode cX9_freezes 129 = .ok (.iload 6, 2) := by decide +kernel
theorem dX9_freezes_131 : decode cX9_freezes 131 = .ok (.istore 6, 2) := by decide +kernel
theorem dX9_freezes_133 : decode cX9_freezes 133 = .ok (.iinc 8 1, 3) := by decide +kernel
theorem dX9_freezes_136 : decode cX9_freezes 136 = .ok (.goto (-108), 3) := by decide +kernel
theorem dX9_freezes_139 : decode cX9_freezes 139 = .ok (.aload_n 1, 1) := by decide +kernel
theorem dX9_freezes_140 : decode cX9_freezes 140 = .ok (.iload 5, 2) := by decide +kernel
theorem dX9_freezes_142 : decode cX9_freezes 142 = .ok (.iconst 3, 1) := by decide +kernel
theorem dX9_freezes_143 : decode cX9_freezes 143 = .ok (.iadd, 1) := by decide +kernel
theorem dX9_freezes_144 : decode cX9_freezes 144 = .ok (.iload 7, 2) := by decide +kernel
theorem dX9_freezes_146 : decode cX9_freezes 146 = .ok (.ifCond .eq 12, 3) := by decide +kernel
theorem dX9_freezes_149 : decode cX9_freezes 149 = .ok (.aload_n 1, 1) := by decide +kernel
theorem dX9_freezes_150 : decode cX9_freezes 150 = .ok (.iload 5, 2) := by decide +kernel
theorem dX9_freezes_152 : decode cX9_freezes 152 = .ok (.iconst 3, 1) := by decide +kernel
theorem dX9_freezes_153 : decode cX9_freezes 153 = .ok (.iadd, 1) := by decide +kernel
theorem dX9_freezes_154 : decode cX9_freezes 154 = .ok (.iaload, 1) := by decide +kernel
theorem dX9_freezes_155 : decode cX9_freezes 155 = .ok (.goto 5, 3) := by decide +kernel
theorem dX9_freezes_158 : decode cX9_freezes 158 = .ok (.iload 6, 2) := by decide +kernel
theorem dX9_freezes_160 : decode cX9_freezes 160 = .ok (.iastore, 1) := by decide +kernel
theorem dX9_freezes_161 : decode cX9_freezes 161 = .ok (.iinc 4 1, 3) := by decide +kernel
theorem dX9_freezes_164 : decode cX9_freezes 164 = .ok (.goto (-161), 3) := by decide +kernel
theorem dX9_freezes_167 : decode cX9_freezes 167 = .ok (.return_, 1) := by decide +kernel
theorem dX9_settles_0 : decode cX9_settles 0 = .ok (.aload_n 0, 1) := by decide +kernel
theorem dX9_settles_1 : decode cX9_settles 1 = .ok (.iconst 0, 1) := by decide +kernel
theorem dX9_settles_2 : decode cX9_settles 2 = .ok (.putfield 166, 3) := by decide +kernel
theorem dX9_settles_5 : decode cX9_settles 5 = .ok (.aload_n 0, 1) := by decide +kernel
theorem dX9_settles_6 : decode cX9_settles 6 = .ok (.iconst 0, 1) := by decide +kernel
theorem dX9_settles_7 : decode cX9_settles 7 = .ok (.putfield 169, 3) := by decide +kernel
theorem dX9_settles_10 : decode cX9_settles 10 = .ok (.aload_n 0, 1) := by decide +kernel
theorem dX9_settles_11 : decode cX9_settles 11 = .ok (.iconst 0, 1) := by decide +kernel
theorem dX9_settles_12 : decode cX9_settles 12 = .ok (.putfield 172, 3) := by decide +kernel
theorem dX9_settles_15 : decode cX9_settles 15 = .ok (.iconst 0, 1) := by decide +kernel
theorem dX9_settles_16 : decode cX9_settles 16 = .ok (.istore_n 2, 1) := by decide +kernel
theorem dX9_settles_17 : decode cX9_settles 17 = .ok (.aload_n 0, 1) := by decide +kernel
theorem dX9_settles_18 : decode cX9_settles 18 = .ok (.aload_n 1, 1) := by decide +kernel
theorem dX9_settles_19 : decode cX9_settles 19 = .ok (.iconst 0, 1) := by decide +kernel
theorem dX9_settles_20 : decode cX9_settles 20 = .ok (.invokevirtual 175, 3) := by decide +kernel
theorem dX9_settles_23 : decode cX9_settles 23 = .ok (.aload_n 0, 1) := by decide +kernel
theorem dX9_settles_24 : decode cX9_settles 24 = .ok (.getfield 166, 3) := by decide +kernel
theorem dX9_settles_27 : decode cX9_settles 27 = .ok (.sipush 200, 3) := by decide +kernel
theorem dX9_settles_30 : decode cX9_settles 30 = .ok (.if_icmp .ge 134, 3) := by decide +kernel
theorem dX9_settles_33 : decode cX9_settles 33 = .ok (.aload_n 0, 1) := by decide +kernel
theorem dX9_settles_34 : decode cX9_settles 34 = .ok (.aload_n 1, 1) := by decide +kernel
theorem dX9_settles_35 : decode cX9_settles 35 = .ok (.invokevirtual 179, 3) := by decide +kernel
theorem dX9_settles_38 : decode cX9_settles 38 = .ok (.ifCond .ne 126, 3) := by decide +kernel
theorem dX9_settles_41 : decode cX9_settles 41 = .ok (.aload_n 0, 1) := by decide +kernel
theorem dX9_settles_42 : decode cX9_settles 42 = .ok (.aload_n 1, 1) := by decide +kernel
theorem dX9_settles_43 : decode cX9_settles 43 = .ok (.invokevirtual 182, 3) := by decide +kernel
theorem dX9_settles_46 : decode cX9_settles 46 = .ok (.pop, 1) := by decide +kernel
theorem dX9_settles_47 : decode cX9_settles 47 = .ok (.aload_n 0, 1) := by decide +kernel
theorem dX9_settles_48 : decode cX9_settles 48 = .ok (.dup, 1) := by decide +kernel
theorem dX9_settles_49 : decode cX9_settles 49 = .ok (.getfield 166, 3) := by decide +kernel
theorem dX9_settles_52 : decode cX9_settles 52 = .ok (.iconst 1, 1) := by decide +kernel
theorem dX9_settles_53 : decode cX9_settles 53 = .ok (.iadd, 1) := by decide +kernel
theorem dX9_settles_54 : decode cX9_settles 54 = .ok (.putfield 166, 3) := by decide +kernel
theorem dX9_settles_57 : decode cX9_settles 57 = .ok (.ldc 56, 2) := by decide +kernel
theorem dX9_settles_59 : decode cX9_settles 59 = .ok (.istore_n 3, 1) := by decide +kernel
theorem dX9_settles_60 : decode cX9_settles 60 = .ok (.iload_n 2, 1) := by decide +kernel
theorem dX9_settles_61 : decode cX9_settles 61 = .ok (.istore 4, 2) := by decide +kernel
theorem dX9_settles_63 : decode cX9_settles 63 = .ok (.iload 4, 2) := by decide +kernel
theorem dX9_settles_65 : decode cX9_settles 65 = .ok (.aload_n 0, 1) := by decide +kernel
theorem dX9_settles_66 : decode cX9_settles 66 = .ok (.getfield 166, 3) := by decide +kernel
theorem dX9_settles_69 : decode cX9_settles 69 = .ok (.iconst 2, 1) := by decide +kernel
theorem dX9_settles_70 : decode cX9_settles 70 = .ok (.isub, 1) := by decide +kernel
theorem dX9_settles_71 : decode cX9_settles 71 = .ok (.if_icmp .gt 26, 3) := by decide +kernel
theorem dX9_settles_74 : decode cX9_settles 74 = .ok (.aload_n 0, 1) := by decide +kernel
theorem dX9_settles_75 : decode cX9_settles 75 = .ok (.aload_n 1, 1) := by decide +kernel
theorem dX9_settles_76 : decode cX9_settles 76 = .ok (.iload 4, 2) := by decide +kernel
theorem dX9_settles_78 : decode cX9_settles 78 = .ok (.invokevirtual 185, 3) := by decide +kernel
theorem dX9_settles_81 : decode cX9_settles 81 = .ok (.ifCond .eq 8, 3) := by decide +kernel
theorem dX9_settles_84 : decode cX9_settles 84 = .ok (.iload 4, 2) := by decide +kernel
theorem dX9_settles_86 : decode cX9_settles 86 = .ok (.goto 4, 3) := by decide +kernel
theorem dX9_settles_89 : decode cX9_settles 89 = .ok (.iload_n 3, 1) := by decide +kernel
theorem dX9_settles_90 : decode cX9_settles 90 = .ok (.istore_n 3, 1) := by decide +kernel
theorem dX9_settles_91 : decode cX9_settles 91 = .ok (.iinc 4 1, 3) := by decide +kernel
theorem dX9_settles_94 : decode cX9_settles 94 = .ok (.goto (-31), 3) := by decide +kernel
theorem dX9_settles_97 : decode cX9_settles 97 = .ok (.aload_n 0, 1) := by decide +kernel
theorem dX9_settles_98 : decode cX9_settles 98 = .ok (.aload_n 1, 1) := by decide +kernel
theorem dX9_settles_99 : decode cX9_settles 99 = .ok (.aload_n 0, 1) := by decide +kernel
theorem dX9_settles_100 : decode cX9_settles 100 = .ok (.getfield 166, 3) := by decide +kernel
theorem dX9_settles_103 : decode cX9_settles 103 = .ok (.invokevirtual 175, 3) := by decide +kernel
theorem dX9_settles_106 : decode cX9_settles 106 = .ok (.iload_n 3, 1) := by decide +kernel
theorem dX9_settles_107 : decode cX9_settles 107 = .ok (.ldc 56, 2) := by decide +kernel
theorem dX9_settles_109 : decode cX9_settles 109 = .ok (.if_icmp .eq 52, 3) := by decide +kernel
theorem dX9_settles_112 : decode cX9_settles 112 = .ok (.aload_n 0, 1) := by decide +kernel
theorem dX9_settles_113 : decode cX9_settles 113 = .ok (.dup, 1) := by decide +kernel
theorem dX9_settles_114 : decode cX9_settles 114 = .ok (.getfield 169, 3) := by decide +kernel
theorem dX9_settles_117 : decode cX9_settles 117 = .ok (.iconst 1, 1) := by decide +kernel
theorem dX9_settles_118 : decode cX9_settles 118 = .ok (.iadd, 1) := by decide +kernel
theorem dX9_settles_119 : decode cX9_settles 119 = .ok (.putfield 169, 3) := by decide +kernel
theorem dX9_settles_122 : decode cX9_settles 122 = .ok (.aload_n 0, 1) := by decide +kernel
theorem dX9_settles_123 : decode cX9_settles 123 = .ok (.aload_n 0, 1) := by decide +kernel
theorem dX9_settles_124 : decode cX9_settles 124 = .ok (.getfield 172, 3) := by decide +kernel
theorem dX9_settles_127 : decode cX9_settles 127 = .ok (.ifCond .ne 12, 3) := by decide +kernel
theorem dX9_settles_130 : decode cX9_settles 130 = .ok (.aload_n 0, 1) := by decide +kernel
theorem dX9_settles_131 : decode cX9_settles 131 = .ok (.getfield 166, 3) := by decide +kernel
theorem dX9_settles_134 : decode cX9_settles 134 = .ok (.iload_n 3, 1) := by decide +kernel
theorem dX9_settles_135 : decode cX9_settles 135 = .ok (.isub, 1) := by decide +kernel
theorem dX9_settles_136 : decode cX9_settles 136 = .ok (.goto 7, 3) := by decide +kernel
theorem dX9_settles_139 : decode cX9_settles 139 = .ok (.aload_n 0, 1) := by decide +kernel
theorem dX9_settles_140 : decode cX9_settles 140 = .ok (.getfield 172, 3) := by decide +kernel
theorem dX9_settles_143 : decode cX9_settles 143 = .ok (.putfield 172, 3) := by decide +kernel
theorem dX9_settles_146 : decode cX9_settles 146 = .ok (.aload_n 0, 1) := by decide +kernel
theorem dX9_settles_147 : decode cX9_settles 147 = .ok (.aload_n 1, 1) := by decide +kernel
theorem dX9_settles_148 : decode cX9_settles 148 = .ok (.iload_n 3, 1) := by decide +kernel
theorem dX9_settles_149 : decode cX9_settles 149 = .ok (.aload_n 0, 1) := by decide +kernel
theorem dX9_settles_150 : decode cX9_settles 150 = .ok (.getfield 166, 3) := by decide +kernel
theorem dX9_settles_153 : decode cX9_settles 153 = .ok (.invokevirtual 189, 3) := by decide +kernel
theorem dX9_settles_156 : decode cX9_settles 156 = .ok (.aload_n 0, 1) := by decide +kernel
theorem dX9_settles_157 : decode cX9_settles 157 = .ok (.getfield 166, 3) := by decide +kernel
theorem dX9_settles_160 : decode cX9_settles 160 = .ok (.istore_n 2, 1) := by decide +kernel
theorem dX9_settles_161 : decode cX9_settles 161 = .ok (.goto (-138), 3) := by decide +kernel
theorem dX9_settles_164 : decode cX9_settles 164 = .ok (.return_, 1) := by decide +kernel
theorem dX9_notes_0 : decode cX9_notes 0 = .ok (.aload_n 0, 1) := by decide +kernel
theorem dX9_notes_1 : decode cX9_notes 1 = .ok (.getfield 149, 3) := by decide +kernel
theorem dX9_notes_4 : decode cX9_notes 4 = .ok (.bipush 24, 2) := by decide +kernel
theorem dX9_notes_6 : decode cX9_notes 6 = .ok (.if_icmp .ne 43, 3) := by decide +kernel
theorem dX9_notes_9 : decode cX9_notes 9 = .ok (.iconst 0, 1) := by decide +kernel
theorem dX9_notes_10 : decode cX9_notes 10 = .ok (.istore_n 1, 1) := by decide +kernel
theorem dX9_notes_11 : decode cX9_notes 11 = .ok (.iload_n 1, 1) := by decide +kernel
theorem dX9_notes_12 : decode cX9_notes 12 = .ok (.sipush 1219, 3) := by decide +kernel
theorem dX9_notes_15 : decode cX9_notes 15 = .ok (.if_icmp .ge 24, 3) := by decide +kernel
theorem dX9_notes_18 : decode cX9_notes 18 = .ok (.aload_n 0, 1) := by decide +kernel
theorem dX9_notes_19 : decode cX9_notes 19 = .ok (.getfield 34, 3) := by decide +kernel
theorem dX9_notes_22 : decode cX9_notes 22 = .ok (.iload_n 1, 1) := by decide +kernel
theorem dX9_notes_23 : decode cX9_notes 23 = .ok (.aload_n 0, 1) := by decide +kernel
theorem dX9_notes_24 : decode cX9_notes 24 = .ok (.getfield 34, 3) := by decide +kernel
theorem dX9_notes_27 : decode cX9_notes 27 = .ok (.iload_n 1, 1) := by decide +kernel
theorem dX9_notes_28 : decode cX9_notes 28 = .ok (.bipush 53, 2) := by decide +kernel
theorem dX9_notes_30 : decode cX9_notes 30 = .ok (.iadd, 1) := by decide +kernel
theorem dX9_notes_31 : decode cX9_notes 31 = .ok (.iaload, 1) := by decide +kernel
theorem dX9_notes_32 : decode cX9_notes 32 = .ok (.iastore, 1) := by decide +kernel
theorem dX9_notes_33 : decode cX9_notes 33 = .ok (.iinc 1 1, 3) := by decide +kernel
theorem dX9_notes_36 : decode cX9_notes 36 = .ok (.goto (-25), 3) := by decide +kernel
theorem dX9_notes_39 : decode cX9_notes 39 = .ok (.aload_n 0, 1) := by decide +kernel
theorem dX9_notes_40 : decode cX9_notes 40 = .ok (.dup, 1) := by decide +kernel
theorem dX9_notes_41 : decode cX9_notes 41 = .ok (.getfield 149, 3) := by decide +kernel
theorem dX9_notes_44 : decode cX9_notes 44 = .ok (.iconst 1, 1) := by decide +kernel
theorem dX9_notes_45 : decode cX9_notes 45 = .ok (.isub, 1) := by decide +kernel
theorem dX9_notes_46 : decode cX9_notes 46 = .ok (.putfield 149, 3) := by decide +kernel
theorem dX9_notes_49 : decode cX9_notes 49 = .ok (.aload_n 0, 1) := by decide +kernel
theorem dX9_notes_50 : decode cX9_notes 50 = .ok (.getfield 25, 3) := by decide +kernel
theorem dX9_notes_53 : decode cX9_notes 53 = .ok (.iconst 0, 1) := by decide +kernel
theorem dX9_notes_54 : decode cX9_notes 54 = .ok (.aload_n 0, 1) := by decide +kernel
theorem dX9_notes_55 : decode cX9_notes 55 = .ok (.getfield 34, 3) := by decide +kernel
theorem dX9_notes_58 : decode cX9_notes 58 = .ok (.bipush 53, 2) := by decide +kernel
theorem dX9_notes_60 : decode cX9_notes 60 = .ok (.aload_n 0, 1) := by decide +kernel
theorem dX9_notes_61 : decode cX9_notes 61 = .ok (.getfield 149, 3) := by decide +kernel
theorem dX9_notes_64 : decode cX9_notes 64 = .ok (.imul, 1) := by decide +kernel
theorem dX9_notes_65 : decode cX9_notes 65 = .ok (.invokestatic 145, 3) := by decide +kernel
theorem dX9_notes_68 : decode cX9_notes 68 = .ok (.aload_n 0, 1) := by decide +kernel
theorem dX9_notes_69 : decode cX9_notes 69 = .ok (.dup, 1) := by decide +kernel
theorem dX9_notes_70 : decode cX9_notes 70 = .ok (.getfield 149, 3) := by decide +kernel
theorem dX9_notes_73 : decode cX9_notes 73 = .ok (.iconst 1, 1) := by decide +kernel
theorem dX9_notes_74 : decode cX9_notes 74 = .ok (.iadd, 1) := by decide +kernel
theorem dX9_notes_75 : decode cX9_notes 75 = .ok (.putfield 149, 3) := by decide +kernel
theorem dX9_notes_78 : decode cX9_notes 78 = .ok (.return_, 1) := by decide +kernel
theorem dX9_round_0 : decode cX9_round 0 = .ok (.aload_n 0, 1) := by decide +kernel
theorem dX9_round_1 : decode cX9_round 1 = .ok (.invokevirtual 191, 3) := by decide +kernel
theorem dX9_round_4 : decode cX9_round 4 = .ok (.ifCond .ne 6, 3) := by decide +kernel
theorem dX9_round_7 : decode cX9_round 7 = .ok (.ldc 194, 2) := by decide +kernel
theorem dX9_round_9 : decode cX9_round 9 = .ok (.ireturn, 1) := by decide +kernel
theorem dX9_round_10 : decode cX9_round 10 = .ok (.aload_n 0, 1) := by decide +kernel
theorem dX9_round_11 : decode cX9_round 11 = .ok (.getfield 25, 3) := by decide +kernel
theorem dX9_round_14 : decode cX9_round 14 = .ok (.iconst 4, 1) := by decide +kernel
theorem dX9_round_15 : decode cX9_round 15 = .ok (.iaload, 1) := by decide +kernel
theorem dX9_round_16 : decode cX9_round 16 = .ok (.sipush 9999, 3) := by decide +kernel
theorem dX9_round_19 : decode cX9_round 19 = .ok (.if_icmp .ne 6, 3) := by decide +kernel
theorem dX9_round_22 : decode cX9_round 22 = .ok (.ldc 91, 2) := by decide +kernel
theorem dX9_round_24 : decode cX9_round 24 = .ok (.ireturn, 1) := by decide +kernel
theorem dX9_round_25 : decode cX9_round 25 = .ok (.aload_n 0, 1) := by decide +kernel
theorem dX9_round_26 : decode cX9_round 26 = .ok (.invokevirtual 195, 3) := by decide +kernel
theorem dX9_round_29 : decode cX9_round 29 = .ok (.aload_n 0, 1) := by decide +kernel
theorem dX9_round_30 : decode cX9_round 30 = .ok (.aload_n 0, 1) := by decide +kernel
theorem dX9_round_31 : decode cX9_round 31 = .ok (.getfield 25, 3) := by decide +kernel
theorem dX9_round_34 : decode cX9_round 34 = .ok (.invokevirtual 182, 3) := by decide +kernel
theorem dX9_round_37 : decode cX9_round 37 = .ok (.ireturn, 1) := by decide +kernel
theorem dX9_settle_0 : decode cX9_settle 0 = .ok (.aload_n 0, 1) := by decide +kernel
theorem dX9_settle_1 : decode cX9_settle 1 = .ok (.invokevirtual 191, 3) := by decide +kernel
theorem dX9_settle_4 : decode cX9_settle 4 = .ok (.ifCond .ne 6, 3) := by decide +kernel
theorem dX9_settle_7 : decode cX9_settle 7 = .ok (.ldc 194, 2) := by decide +kernel
theorem dX9_settle_9 : decode cX9_settle 9 = .ok (.ireturn, 1) := by decide +kernel
theorem dX9_settle_10 : decode cX9_settle 10 = .ok (.aload_n 0, 1) := by decide +kernel
theorem dX9_settle_11 : decode cX9_settle 11 = .ok (.getfield 25, 3) := by decide +kernel
theorem dX9_settle_14 : decode cX9_settle 14 = .ok (.iconst 0, 1) := by decide +kernel
theorem dX9_settle_15 : decode cX9_settle 15 = .ok (.aload_n 0, 1) := by decide +kernel
theorem dX9_settle_16 : decode cX9_settle 16 = .ok (.getfield 31, 3) := by decide +kernel
theorem dX9_settle_19 : decode cX9_settle 19 = .ok (.iconst 0, 1) := by decide +kernel
theorem dX9_settle_20 : decode cX9_settle 20 = .ok (.invokestatic 145, 3) := by decide +kernel
theorem dX9_settle_23 : decode cX9_settle 23 = .ok (.aload_n 0, 1) := by decide +kernel
theorem dX9_settle_24 : decode cX9_settle 24 = .ok (.aload_n 0, 1) := by decide +kernel
theorem dX9_settle_25 : decode cX9_settle 25 = .ok (.getfield 31, 3) := by decide +kernel
theorem dX9_settle_28 : decode cX9_settle 28 = .ok (.invokevirtual 198, 3) := by decide +kernel
theorem dX9_settle_31 : decode cX9_settle 31 = .ok (.aload_n 0, 1) := by decide +kernel
theorem dX9_settle_32 : decode cX9_settle 32 = .ok (.getfield 31, 3) := by decide +kernel
theorem dX9_settle_35 : decode cX9_settle 35 = .ok (.iconst 4, 1) := by decide +kernel
theorem dX9_settle_36 : decode cX9_settle 36 = .ok (.iaload, 1) := by decide +kernel
theorem dX9_settle_37 : decode cX9_settle 37 = .ok (.sipush 9999, 3) := by decide +kernel
theorem dX9_settle_40 : decode cX9_settle 40 = .ok (.if_icmp .le 6, 3) := by decide +kernel
theorem dX9_settle_43 : decode cX9_settle 43 = .ok (.ldc 91, 2) := by decide +kernel
theorem dX9_settle_45 : decode cX9_settle 45 = .ok (.ireturn, 1) := by decide +kernel
theorem dX9_settle_46 : decode cX9_settle 46 = .ok (.aload_n 0, 1) := by decide +kernel
theorem dX9_settle_47 : decode cX9_settle 47 = .ok (.invokevirtual 195, 3) := by decide +kernel
theorem dX9_settle_50 : decode cX9_settle 50 = .ok (.aload_n 0, 1) := by decide +kernel
theorem dX9_settle_51 : decode cX9_settle 51 = .ok (.getfield 31, 3) := by decide +kernel
theorem dX9_settle_54 : decode cX9_settle 54 = .ok (.iconst 0, 1) := by decide +kernel
theorem dX9_settle_55 : decode cX9_settle 55 = .ok (.aload_n 0, 1) := by decide +kernel
theorem dX9_settle_56 : decode cX9_settle 56 = .ok (.getfield 25, 3) := by decide +kernel
theorem dX9_settle_59 : decode cX9_settle 59 = .ok (.iconst 0, 1) := by decide +kernel
theorem dX9_settle_60 : decode cX9_settle 60 = .ok (.invokestatic 145, 3) := by decide +kernel
theorem dX9_settle_63 : decode cX9_settle 63 = .ok (.aload_n 0, 1) := by decide +kernel
theorem dX9_settle_64 : decode cX9_settle 64 = .ok (.getfield 166, 3) := by decide +kernel
theorem dX9_settle_67 : decode cX9_settle 67 = .ok (.ireturn, 1) := by decide +kernel
theorem dX9_isNumber_0 : decode cX9_isNumber 0 = .ok (.iload_n 1, 1) := by decide +kernel
theorem dX9_isNumber_1 : decode cX9_isNumber 1 = .ok (.iconst 5, 1) := by decide +kernel
theorem dX9_isNumber_2 : decode cX9_isNumber 2 = .ok (.if_icmp .eq 31, 3) := by decide +kernel
theorem dX9_isNumber_5 : decode cX9_isNumber 5 = .ok (.iload_n 1, 1) := by decide +kernel
theorem dX9_isNumber_6 : decode cX9_isNumber 6 = .ok (.iconst 4, 1) := by decide +kernel
theorem dX9_isNumber_7 : decode cX9_isNumber 7 = .ok (.if_icmp .ne 13, 3) := by decide +kernel
theorem dX9_isNumber_10 : decode cX9_isNumber 10 = .ok (.iload_n 2, 1) := by decide +kernel
theorem dX9_isNumber_11 : decode cX9_isNumber 11 = .ok (.iconst 1, 1) := by decide +kernel
theorem dX9_isNumber_12 : decode cX9_isNumber 12 = .ok (.bipush 20, 2) := by decide +kernel
theorem dX9_isNumber_14 : decode cX9_isNumber 14 = .ok (.invokestatic 62, 3) := by decide +kernel
theorem dX9_isNumber_17 : decode cX9_isNumber 17 = .ok (.ifCond .ne 16, 3) := by decide +kernel
theorem dX9_isNumber_20 : decode cX9_isNumber 20 = .ok (.iload_n 1, 1) := by decide +kernel
theorem dX9_isNumber_21 : decode cX9_isNumber 21 = .ok (.iconst 3, 1) := by decide +kernel
theorem dX9_isNumber_22 : decode cX9_isNumber 22 = .ok (.if_icmp .gt 15, 3) := by decide +kernel
theorem dX9_isNumber_25 : decode cX9_isNumber 25 = .ok (.aload_n 0, 1) := by decide +kernel
theorem dX9_isNumber_26 : decode cX9_isNumber 26 = .ok (.iload_n 2, 1) := by decide +kernel
theorem dX9_isNumber_27 : decode cX9_isNumber 27 = .ok (.invokevirtual 202, 3) := by decide +kernel
theorem dX9_isNumber_30 : decode cX9_isNumber 30 = .ok (.ifCond .eq 7, 3) := by decide +kernel
theorem dX9_isNumber_33 : decode cX9_isNumber 33 = .ok (.iconst 1, 1) := by decide +kernel
theorem dX9_isNumber_34 : decode cX9_isNumber 34 = .ok (.goto 4, 3) := by decide +kernel
theorem dX9_isNumber_37 : decode cX9_isNumber 37 = .ok (.iconst 0, 1) := by decide +kernel
theorem dX9_isNumber_38 : decode cX9_isNumber 38 = .ok (.ireturn, 1) := by decide +kernel
theorem dX9_number_0 : decode cX9_number 0 = .ok (.aload_n 0, 1) := by decide +kernel
theorem dX9_number_1 : decode cX9_number 1 = .ok (.iload_n 1, 1) := by decide +kernel
theorem dX9_number_2 : decode cX9_number 2 = .ok (.invokevirtual 202, 3) := by decide +kernel
theorem dX9_number_5 : decode cX9_number 5 = .ok (.ifCond .eq 35, 3) := by decide +kernel
theorem dX9_number_8 : decode cX9_number 8 = .ok (.aload_n 0, 1) := by decide +kernel
theorem dX9_number_9 : decode cX9_number 9 = .ok (.getfield 25, 3) := by decide +kernel
theorem dX9_number_12 : decode cX9_number 12 = .ok (.iconst 5, 1) := by decide +kernel
theorem dX9_number_13 : decode cX9_number 13 = .ok (.iconst 4, 1) := by decide +kernel
theorem dX9_number_14 : decode cX9_number 14 = .ok (.iload_n 1, 1) := by decide +kernel
theorem dX9_number_15 : decode cX9_number 15 = .ok (.imul, 1) := by decide +kernel
theorem dX9_number_16 : decode cX9_number 16 = .ok (.iadd, 1) := by decide +kernel
theorem dX9_number_17 : decode cX9_number 17 = .ok (.iaload, 1) := by decide +kernel
theorem dX9_number_18 : decode cX9_number 18 = .ok (.iconst 5, 1) := by decide +kernel
theorem dX9_number_19 : decode cX9_number 19 = .ok (.if_icmp .eq 21, 3) := by decide +kernel
theorem dX9_number_22 : decode cX9_number 22 = .ok (.aload_n 0, 1) := by decide +kernel
theorem dX9_number_23 : decode cX9_number 23 = .ok (.aload_n 0, 1) := by decide +kernel
theorem dX9_number_24 : decode cX9_number 24 = .ok (.getfield 25, 3) := by decide +kernel
theorem dX9_number_27 : decode cX9_number 27 = .ok (.iconst 5, 1) := by decide +kernel
theorem dX9_number_28 : decode cX9_number 28 = .ok (.iconst 4, 1) := by decide +kernel
theorem dX9_number_29 : decode cX9_number 29 = .ok (.iload_n 1, 1) := by decide +kernel
theorem dX9_number_30 : decode cX9_number 30 = .ok (.imul, 1) := by decide +kernel
theorem dX9_number_31 : decode cX9_number 31 = .ok (.iadd, 1) := by decide +kernel
theorem dX9_number_32 : decode cX9_number 32 = .ok (.iaload, 1) := by decide +kernel
theorem dX9_number_33 : decode cX9_number 33 = .ok (.iload_n 2, 1) := by decide +kernel
theorem dX9_number_34 : decode cX9_number 34 = .ok (.invokevirtual 205, 3) := by decide +kernel
theorem dX9_number_37 : decode cX9_number 37 = .ok (.ifCond .ne 6, 3) := by decide +kernel
theorem dX9_number_40 : decode cX9_number 40 = .ok (.ldc 70, 2) := by decide +kernel
theorem dX9_number_42 : decode cX9_number 42 = .ok (.ireturn, 1) := by decide +kernel
theorem dX9_number_43 : decode cX9_number 43 = .ok (.aload_n 0, 1) := by decide +kernel
theorem dX9_number_44 : decode cX9_number 44 = .ok (.invokevirtual 195, 3) := by decide +kernel
theorem dX9_number_47 : decode cX9_number 47 = .ok (.aload_n 0, 1) := by decide +kernel
theorem dX9_number_48 : decode cX9_number 48 = .ok (.getfield 25, 3) := by decide +kernel
theorem dX9_number_51 : decode cX9_number 51 = .ok (.iconst 5, 1) := by decide +kernel
theorem dX9_number_52 : decode cX9_number 52 = .ok (.iconst 4, 1) := by decide +kernel
theorem dX9_number_53 : decode cX9_number 53 = .ok (.iload_n 1, 1) := by decide +kernel
theorem dX9_number_54 : decode cX9_number 54 = .ok (.imul, 1) := by decide +kernel
theorem dX9_number_55 : decode cX9_number 55 = .ok (.iadd, 1) := by decide +kernel
theorem dX9_number_56 : decode cX9_number 56 = .ok (.iconst 1, 1) := by decide +kernel
theorem dX9_number_57 : decode cX9_number 57 = .ok (.iadd, 1) := by decide +kernel
theorem dX9_number_58 : decode cX9_number 58 = .ok (.iaload, 1) := by decide +kernel
theorem dX9_number_59 : decode cX9_number 59 = .ok (.istore_n 3, 1) := by decide +kernel
theorem dX9_number_60 : decode cX9_number 60 = .ok (.aload_n 0, 1) := by decide +kernel
theorem dX9_number_61 : decode cX9_number 61 = .ok (.getfield 25, 3) := by decide +kernel
theorem dX9_number_64 : decode cX9_number 64 = .ok (.iconst 5, 1) := by decide +kernel
theorem dX9_number_65 : decode cX9_number 65 = .ok (.iconst 4, 1) := by decide +kernel
theorem dX9_number_66 : decode cX9_number 66 = .ok (.iload_n 1, 1) := by decide +kernel
theorem dX9_number_67 : decode cX9_number 67 = .ok (.imul, 1) := by decide +kernel
theorem dX9_number_68 : decode cX9_number 68 = .ok (.iadd, 1) := by decide +kernel
theorem dX9_number_69 : decode cX9_number 69 = .ok (.iconst 1, 1) := by decide +kernel
theorem dX9_number_70 : decode cX9_number 70 = .ok (.iadd, 1) := by decide +kernel
theorem dX9_number_71 : decode cX9_number 71 = .ok (.iload_n 2, 1) := by decide +kernel
theorem dX9_number_72 : decode cX9_number 72 = .ok (.iastore, 1) := by decide +kernel
theorem dX9_number_73 : decode cX9_number 73 = .ok (.iload_n 3, 1) := by decide +kernel
theorem dX9_number_74 : decode cX9_number 74 = .ok (.ireturn, 1) := by decide +kernel
theorem dX9_rule_0 : decode cX9_rule 0 = .ok (.aload_n 0, 1) := by decide +kernel
theorem dX9_rule_1 : decode cX9_rule 1 = .ok (.invokevirtual 191, 3) := by decide +kernel
theorem dX9_rule_4 : decode cX9_rule 4 = .ok (.ifCond .ne 6, 3) := by decide +kernel
theorem dX9_rule_7 : decode cX9_rule 7 = .ok (.ldc 194, 2) := by decide +kernel
theorem dX9_rule_9 : decode cX9_rule 9 = .ok (.ireturn, 1) := by decide +kernel
theorem dX9_rule_10 : decode cX9_rule 10 = .ok (.iload_n 1, 1) := by decide +kernel
theorem dX9_rule_11 : decode cX9_rule 11 = .ok (.ifCond .ne 13, 3) := by decide +kernel
theorem dX9_rule_14 : decode cX9_rule 14 = .ok (.iload_n 2, 1) := by decide +kernel
theorem dX9_rule_15 : decode cX9_rule 15 = .ok (.iconst 4, 1) := by decide +kernel
theorem dX9_rule_16 : decode cX9_rule 16 = .ok (.bipush 20, 2) := by decide +kernel
theorem dX9_rule_18 : decode cX9_rule 18 = .ok (.invokestatic 62, 3) := by decide +kernel
theorem dX9_rule_21 : decode cX9_rule 21 = .ok (.ifCond .ne 32, 3) := by decide +kernel
theorem dX9_rule_24 : decode cX9_rule 24 = .ok (.iload_n 1, 1) := by decide +kernel
theorem dX9_rule_25 : decode cX9_rule 25 = .ok (.iconst 1, 1) := by decide +kernel
theorem dX9_rule_26 : decode cX9_rule 26 = .ok (.if_icmp .ne 12, 3) := by decide +kernel
theorem dX9_rule_29 : decode cX9_rule 29 = .ok (.iload_n 2, 1) := by decide +kernel
theorem dX9_rule_30 : decode cX9_rule 30 = .ok (.iconst 1, 1) := by decide +kernel
theorem dX9_rule_31 : decode cX9_rule 31 = .ok (.iconst 5, 1) := by decide +kernel
theorem dX9_rule_32 : decode cX9_rule 32 = .ok (.invokestatic 62, 3) := by decide +kernel
theorem dX9_rule_35 : decode cX9_rule 35 = .ok (.ifCond .ne 18, 3) := by decide +kernel
theorem dX9_rule_38 : decode cX9_rule 38 = .ok (.iload_n 1, 1) := by decide +kernel
theorem dX9_rule_39 : decode cX9_rule 39 = .ok (.iconst 2, 1) := by decide +kernel
theorem dX9_rule_40 : decode cX9_rule 40 = .ok (.if_icmp .ne 17, 3) := by decide +kernel
theorem dX9_rule_43 : decode cX9_rule 43 = .ok (.iload_n 2, 1) := by decide +kernel
theorem dX9_rule_44 : decode cX9_rule 44 = .ok (.iconst 1, 1) := by decide +kernel
theorem dX9_rule_45 : decode cX9_rule 45 = .ok (.bipush 87, 2) := by decide +kernel
theorem dX9_rule_47 : decode cX9_rule 47 = .ok (.invokestatic 62, 3) := by decide +kernel
theorem dX9_rule_50 : decode cX9_rule 50 = .ok (.ifCond .eq 7, 3) := by decide +kernel
theorem dX9_rule_53 : decode cX9_rule 53 = .ok (.iconst 1, 1) := by decide +kernel
theorem dX9_rule_54 : decode cX9_rule 54 = .ok (.goto 4, 3) := by decide +kernel
theorem dX9_rule_57 : decode cX9_rule 57 = .ok (.iconst 0, 1) := by decide +kernel
theorem dX9_rule_58 : decode cX9_rule 58 = .ok (.istore_n 3, 1) := by decide +kernel
theorem dX9_rule_59 : decode cX9_rule 59 = .ok (.iload_n 3, 1) := by decide +kernel
theorem dX9_rule_60 : decode cX9_rule 60 = .ok (.ifCond .ne 6, 3) := by decide +kernel
theorem dX9_rule_63 : decode cX9_rule 63 = .ok (.ldc 70, 2) := by decide +kernel
theorem dX9_rule_65 : decode cX9_rule 65 = .ok (.ireturn, 1) := by decide +kernel
theorem dX9_rule_66 : decode cX9_rule 66 = .ok (.aload_n 0, 1) := by decide +kernel
theorem dX9_rule_67 : decode cX9_rule 67 = .ok (.invokevirtual 195, 3) := by decide +kernel
theorem dX9_rule_70 : decode cX9_rule 70 = .ok (.aload_n 0, 1) := by decide +kernel
theorem dX9_rule_71 : decode cX9_rule 71 = .ok (.getfield 25, 3) := by decide +kernel
theorem dX9_rule_74 : decode cX9_rule 74 = .ok (.iload_n 1, 1) := by decide +kernel
theorem dX9_rule_75 : decode cX9_rule 75 = .ok (.iaload, 1) := by decide +kernel
theorem dX9_rule_76 : decode cX9_rule 76 = .ok (.istore 4, 2) := by decide +kernel
theorem dX9_rule_78 : decode cX9_rule 78 = .ok (.aload_n 0, 1) := by decide +kernel
theorem dX9_rule_79 : decode cX9_rule 79 = .ok (.getfield 25, 3) := by decide +kernel
theorem dX9_rule_82 : decode cX9_rule 82 = .ok (.iload_n 1, 1) := by decide +kernel
theorem dX9_rule_83 : decode cX9_rule 83 = .ok (.iload_n 2, 1) := by decide +kernel
theorem dX9_rule_84 : decode cX9_rule 84 = .ok (.iastore, 1) := by decide +kernel
theorem dX9_rule_85 : decode cX9_rule 85 = .ok (.iload 4, 2) := by decide +kernel
theorem dX9_rule_87 : decode cX9_rule 87 = .ok (.ireturn, 1) := by decide +kernel
theorem dX9_frozenOnes_0 : decode cX9_frozenOnes 0 = .ok (.iconst 0, 1) := by decide +kernel
theorem dX9_frozenOnes_1 : decode cX9_frozenOnes 1 = .ok (.istore_n 1, 1) := by decide +kernel
theorem dX9_frozenOnes_2 : decode cX9_frozenOnes 2 = .ok (.iconst 0, 1) := by decide +kernel
theorem dX9_frozenOnes_3 : decode cX9_frozenOnes 3 = .ok (.istore_n 2, 1) := by decide +kernel
theorem dX9_frozenOnes_4 : decode cX9_frozenOnes 4 = .ok (.iload_n 2, 1) := by decide +kernel
theorem dX9_frozenOnes_5 : decode cX9_frozenOnes 5 = .ok (.aload_n 0, 1) := by decide +kernel
theorem dX9_frozenOnes_6 : decode cX9_frozenOnes 6 = .ok (.iconst 3, 1) := by decide +kernel
theorem dX9_frozenOnes_7 : decode cX9_frozenOnes 7 = .ok (.iaload, 1) := by decide +kernel
theorem dX9_frozenOnes_8 : decode cX9_frozenOnes 8 = .ok (.if_icmp .ge 31, 3) := by decide +kernel
theorem dX9_frozenOnes_11 : decode cX9_frozenOnes 11 = .ok (.iload_n 1, 1) := by decide +kernel
theorem dX9_frozenOnes_12 : decode cX9_frozenOnes 12 = .ok (.aload_n 0, 1) := by decide +kernel
theorem dX9_frozenOnes_13 : decode cX9_frozenOnes 13 = .ok (.iconst 5, 1) := by decide +kernel
theorem dX9_frozenOnes_14 : decode cX9_frozenOnes 14 = .ok (.iconst 4, 1) := by decide +kernel
theorem dX9_frozenOnes_15 : decode cX9_frozenOnes 15 = .ok (.iload_n 2, 1) := by decide +kernel
theorem dX9_frozenOnes_16 : decode cX9_frozenOnes 16 = .ok (.imul, 1) := by decide +kernel
theorem dX9_frozenOnes_17 : decode cX9_frozenOnes 17 = .ok (.iadd, 1) := by decide +kernel
theorem dX9_frozenOnes_18 : decode cX9_frozenOnes 18 = .ok (.iconst 3, 1) := by decide +kernel
theorem dX9_frozenOnes_19 : decode cX9_frozenOnes 19 = .ok (.iadd, 1) := by decide +kernel
theorem dX9_frozenOnes_20 : decode cX9_frozenOnes 20 = .ok (.iaload, 1) := by decide +kernel
theorem dX9_frozenOnes_21 : decode cX9_frozenOnes 21 = .ok (.ifCond .le 9, 3) := by decide +kernel
theorem dX9_frozenOnes_24 : decode cX9_frozenOnes 24 = .ok (.iconst 1, 1) := by decide +kernel
theorem dX9_frozenOnes_25 : decode cX9_frozenOnes 25 = .ok (.iload_n 2, 1) := by decide +kernel
theorem dX9_frozenOnes_26 : decode cX9_frozenOnes 26 = .ok (.ishl, 1) := by decide +kernel
theorem dX9_frozenOnes_27 : decode cX9_frozenOnes 27 = .ok (.goto 4, 3) := by decide +kernel
theorem dX9_frozenOnes_30 : decode cX9_frozenOnes 30 = .ok (.iconst 0, 1) := by decide +kernel
theorem dX9_frozenOnes_31 : decode cX9_frozenOnes 31 = .ok (.ior, 1) := by decide +kernel
theorem dX9_frozenOnes_32 : decode cX9_frozenOnes 32 = .ok (.istore_n 1, 1) := by decide +kernel
theorem dX9_frozenOnes_33 : decode cX9_frozenOnes 33 = .ok (.iinc 2 1, 3) := by decide +kernel
theorem dX9_frozenOnes_36 : decode cX9_frozenOnes 36 = .ok (.goto (-32), 3) := by decide +kernel
theorem dX9_frozenOnes_39 : decode cX9_frozenOnes 39 = .ok (.iload_n 1, 1) := by decide +kernel
theorem dX9_frozenOnes_40 : decode cX9_frozenOnes 40 = .ok (.ireturn, 1) := by decide +kernel
theorem dX9_ones_0 : decode cX9_ones 0 = .ok (.iconst 0, 1) := by decide +kernel
theorem dX9_ones_1 : decode cX9_ones 1 = .ok (.istore_n 1, 1) := by decide +kernel
theorem dX9_ones_2 : decode cX9_ones 2 = .ok (.iconst 0, 1) := by decide +kernel
theorem dX9_ones_3 : decode cX9_ones 3 = .ok (.istore_n 2, 1) := by decide +kernel
theorem dX9_ones_4 : decode cX9_ones 4 = .ok (.iload_n 2, 1) := by decide +kernel
theorem dX9_ones_5 : decode cX9_ones 5 = .ok (.bipush 12, 2) := by decide +kernel
theorem dX9_ones_7 : decode cX9_ones 7 = .ok (.if_icmp .ge 17, 3) := by decide +kernel
theorem dX9_ones_10 : decode cX9_ones 10 = .ok (.iload_n 1, 1) := by decide +kernel
theorem dX9_ones_11 : decode cX9_ones 11 = .ok (.iload_n 0, 1) := by decide +kernel
theorem dX9_ones_12 : decode cX9_ones 12 = .ok (.iload_n 2, 1) := by decide +kernel
theorem dX9_ones_13 : decode cX9_ones 13 = .ok (.ishr, 1) := by decide +kernel
theorem dX9_ones_14 : decode cX9_ones 14 = .ok (.iconst 1, 1) := by decide +kernel
theorem dX9_ones_15 : decode cX9_ones 15 = .ok (.iand, 1) := by decide +kernel
theorem dX9_ones_16 : decode cX9_ones 16 = .ok (.iadd, 1) := by decide +kernel
theorem dX9_ones_17 : decode cX9_ones 17 = .ok (.istore_n 1, 1) := by decide +kernel
theorem dX9_ones_18 : decode cX9_ones 18 = .ok (.iinc 2 1, 3) := by decide +kernel
theorem dX9_ones_21 : decode cX9_ones 21 = .ok (.goto (-17), 3) := by decide +kernel
theorem dX9_ones_24 : decode cX9_ones 24 = .ok (.iload_n 1, 1) := by decide +kernel
theorem dX9_ones_25 : decode cX9_ones 25 = .ok (.ireturn, 1) := by decide +kernel
theorem dX9_anew_0 : decode cX9_anew 0 = .ok (.aload_n 0, 1) := by decide +kernel
theorem dX9_anew_1 : decode cX9_anew 1 = .ok (.invokevirtual 191, 3) := by decide +kernel
theorem dX9_anew_4 : decode cX9_anew 4 = .ok (.ifCond .ne 6, 3) := by decide +kernel
theorem dX9_anew_7 : decode cX9_anew 7 = .ok (.ldc 194, 2) := by decide +kernel
theorem dX9_anew_9 : decode cX9_anew 9 = .ok (.ireturn, 1) := by decide +kernel
theorem dX9_anew_10 : decode cX9_anew 10 = .ok (.aload_n 0, 1) := by decide +kernel
theorem dX9_anew_11 : decode cX9_anew 11 = .ok (.invokevirtual 195, 3) := by decide +kernel
theorem dX9_anew_14 : decode cX9_anew 14 = .ok (.aload_n 0, 1) := by decide +kernel
theorem dX9_anew_15 : decode cX9_anew 15 = .ok (.getfield 25, 3) := by decide +kernel
theorem dX9_anew_18 : decode cX9_anew 18 = .ok (.invokestatic 209, 3) := by decide +kernel
theorem dX9_anew_21 : decode cX9_anew 21 = .ok (.invokestatic 212, 3) := by decide +kernel
theorem dX9_anew_24 : decode cX9_anew 24 = .ok (.istore_n 1, 1) := by decide +kernel
theorem dX9_anew_25 : decode cX9_anew 25 = .ok (.aload_n 0, 1) := by decide +kernel
theorem dX9_anew_26 : decode cX9_anew 26 = .ok (.getfield 25, 3) := by decide +kernel
theorem dX9_anew_29 : decode cX9_anew 29 = .ok (.invokestatic 215, 3) := by decide +kernel
theorem dX9_anew_32 : decode cX9_anew 32 = .ok (.iload_n 1, 1) := by decide +kernel
theorem dX9_anew_33 : decode cX9_anew 33 = .ok (.ireturn, 1) := by decide +kernel
theorem dX9_undo_0 : decode cX9_undo 0 = .ok (.aload_n 0, 1) := by decide +kernel
theorem dX9_undo_1 : decode cX9_undo 1 = .ok (.getfield 149, 3) := by decide +kernel
theorem dX9_undo_4 : decode cX9_undo 4 = .ok (.ifCond .ne 6, 3) := by decide +kernel
theorem dX9_undo_7 : decode cX9_undo 7 = .ok (.ldc 194, 2) := by decide +kernel
theorem dX9_undo_9 : decode cX9_undo 9 = .ok (.ireturn, 1) := by decide +kernel
theorem dX9_undo_10 : decode cX9_undo 10 = .ok (.aload_n 0, 1) := by decide +kernel
theorem dX9_undo_11 : decode cX9_undo 11 = .ok (.dup, 1) := by decide +kernel
theorem dX9_undo_12 : decode cX9_undo 12 = .ok (.getfield 149, 3) := by decide +kernel
theorem dX9_undo_15 : decode cX9_undo 15 = .ok (.iconst 1, 1) := by decide +kernel
theorem dX9_undo_16 : decode cX9_undo 16 = .ok (.isub, 1) := by decide +kernel
theorem dX9_undo_17 : decode cX9_undo 17 = .ok (.putfield 149, 3) := by decide +kernel
theorem dX9_undo_20 : decode cX9_undo 20 = .ok (.aload_n 0, 1) := by decide +kernel
theorem dX9_undo_21 : decode cX9_undo 21 = .ok (.getfield 34, 3) := by decide +kernel
theorem dX9_undo_24 : decode cX9_undo 24 = .ok (.bipush 53, 2) := by decide +kernel
theorem dX9_undo_26 : decode cX9_undo 26 = .ok (.aload_n 0, 1) := by decide +kernel
theorem dX9_undo_27 : decode cX9_undo 27 = .ok (.getfield 149, 3) := by decide +kernel
theorem dX9_undo_30 : decode cX9_undo 30 = .ok (.imul, 1) := by decide +kernel
theorem dX9_undo_31 : decode cX9_undo 31 = .ok (.aload_n 0, 1) := by decide +kernel
theorem dX9_undo_32 : decode cX9_undo 32 = .ok (.getfield 25, 3) := by decide +kernel
theorem dX9_undo_35 : decode cX9_undo 35 = .ok (.iconst 0, 1) := by decide +kernel
theorem dX9_undo_36 : decode cX9_undo 36 = .ok (.invokestatic 145, 3) := by decide +kernel
theorem dX9_undo_39 : decode cX9_undo 39 = .ok (.aload_n 0, 1) := by decide +kernel
theorem dX9_undo_40 : decode cX9_undo 40 = .ok (.getfield 149, 3) := by decide +kernel
theorem dX9_undo_43 : decode cX9_undo 43 = .ok (.ireturn, 1) := by decide +kernel
theorem dX9_item_0 : decode cX9_item 0 = .ok (.aload_n 0, 1) := by decide +kernel
theorem dX9_item_1 : decode cX9_item 1 = .ok (.iload_n 1, 1) := by decide +kernel
theorem dX9_item_2 : decode cX9_item 2 = .ok (.invokevirtual 202, 3) := by decide +kernel
theorem dX9_item_5 : decode cX9_item 5 = .ok (.ifCond .ne 6, 3) := by decide +kernel
theorem dX9_item_8 : decode cX9_item 8 = .ok (.ldc 70, 2) := by decide +kernel
theorem dX9_item_10 : decode cX9_item 10 = .ok (.ireturn, 1) := by decide +kernel
theorem dX9_item_11 : decode cX9_item 11 = .ok (.aload_n 0, 1) := by decide +kernel
theorem dX9_item_12 : decode cX9_item 12 = .ok (.aload_n 0, 1) := by decide +kernel
theorem dX9_item_13 : decode cX9_item 13 = .ok (.getfield 25, 3) := by decide +kernel
theorem dX9_item_16 : decode cX9_item 16 = .ok (.ldc 56, 2) := by decide +kernel
theorem dX9_item_18 : decode cX9_item 18 = .ok (.iconst 0, 1) := by decide +kernel
theorem dX9_item_19 : decode cX9_item 19 = .ok (.invokevirtual 162, 3) := by decide +kernel
theorem dX9_item_22 : decode cX9_item 22 = .ok (.iload_n 2, 1) := by decide +kernel
theorem dX9_item_23 : decode cX9_item 23 = .ok (.tableswitch 120 0 6 #[41, 54, 67, 80, 89, 98, 109], 41) := by decide +kernel
theorem dX9_item_64 : decode cX9_item 64 = .ok (.aload_n 0, 1) := by decide +kernel
theorem dX9_item_65 : decode cX9_item 65 = .ok (.getfield 25, 3) := by decide +kernel
theorem dX9_item_68 : decode cX9_item 68 = .ok (.iconst 5, 1) := by decide +kernel
theorem dX9_item_69 : decode cX9_item 69 = .ok (.iconst 4, 1) := by decide +kernel
theorem dX9_item_70 : decode cX9_item 70 = .ok (.iload_n 1, 1) := by decide +kernel
theorem dX9_item_71 : decode cX9_item 71 = .ok (.imul, 1) := by decide +kernel
theorem dX9_item_72 : decode cX9_item 72 = .ok (.iadd, 1) := by decide +kernel
theorem dX9_item_73 : decode cX9_item 73 = .ok (.iconst 1, 1) := by decide +kernel
theorem dX9_item_74 : decode cX9_item 74 = .ok (.iadd, 1) := by decide +kernel
theorem dX9_item_75 : decode cX9_item 75 = .ok (.iaload, 1) := by decide +kernel
theorem dX9_item_76 : decode cX9_item 76 = .ok (.ireturn, 1) := by decide +kernel
theorem dX9_item_77 : decode cX9_item 77 = .ok (.aload_n 0, 1) := by decide +kernel
theorem dX9_item_78 : decode cX9_item 78 = .ok (.getfield 25, 3) := by decide +kernel
theorem dX9_item_81 : decode cX9_item 81 = .ok (.iconst 5, 1) := by decide +kernel
theorem dX9_item_82 : decode cX9_item 82 = .ok (.iconst 4, 1) := by decide +kernel
theorem dX9_item_83 : decode cX9_item 83 = .ok (.iload_n 1, 1) := by decide +kernel
theorem dX9_item_84 : decode cX9_item 84 = .ok (.imul, 1) := by decide +kernel
theorem dX9_item_85 : decode cX9_item 85 = .ok (.iadd, 1) := by decide +kernel
theorem dX9_item_86 : decode cX9_item 86 = .ok (.iconst 2, 1) := by decide +kernel
theorem dX9_item_87 : decode cX9_item 87 = .ok (.iadd, 1) := by decide +kernel
theorem dX9_item_88 : decode cX9_item 88 = .ok (.iaload, 1) := by decide +kernel
theorem dX9_item_89 : decode cX9_item 89 = .ok (.ireturn, 1) := by decide +kernel
theorem dX9_item_90 : decode cX9_item 90 = .ok (.aload_n 0, 1) := by decide +kernel
theorem dX9_item_91 : decode cX9_item 91 = .ok (.getfield 25, 3) := by decide +kernel
theorem dX9_item_94 : decode cX9_item 94 = .ok (.iconst 5, 1) := by decide +kernel
theorem dX9_item_95 : decode cX9_item 95 = .ok (.iconst 4, 1) := by decide +kernel
theorem dX9_item_96 : decode cX9_item 96 = .ok (.iload_n 1, 1) := by decide +kernel
theorem dX9_item_97 : decode cX9_item 97 = .ok (.imul, 1) := by decide +kernel
theorem dX9_item_98 : decode cX9_item 98 = .ok (.iadd, 1) := by decide +kernel
theorem dX9_item_99 : decode cX9_item 99 = .ok (.iconst 3, 1) := by decide +kernel
theorem dX9_item_100 : decode cX9_item 100 = .ok (.iadd, 1) := by decide +kernel
theorem dX9_item_101 : decode cX9_item 101 = .ok (.iaload, 1) := by decide +kernel
theorem dX9_item_102 : decode cX9_item 102 = .ok (.ireturn, 1) := by decide +kernel
theorem dX9_item_103 : decode cX9_item 103 = .ok (.aload_n 0, 1) := by decide +kernel
theorem dX9_item_104 : decode cX9_item 104 = .ok (.getfield 25, 3) := by decide +kernel
theorem dX9_item_107 : decode cX9_item 107 = .ok (.iload_n 1, 1) := by decide +kernel
theorem dX9_item_108 : decode cX9_item 108 = .ok (.invokestatic 158, 3) := by decide +kernel
theorem dX9_item_111 : decode cX9_item 111 = .ok (.ireturn, 1) := by decide +kernel
theorem dX9_item_112 : decode cX9_item 112 = .ok (.aload_n 0, 1) := by decide +kernel
theorem dX9_item_113 : decode cX9_item 113 = .ok (.getfield 44, 3) := by decide +kernel
theorem dX9_item_116 : decode cX9_item 116 = .ok (.iconst 3, 1) := by decide +kernel
theorem dX9_item_117 : decode cX9_item 117 = .ok (.iload_n 1, 1) := by decide +kernel
theorem dX9_item_118 : decode cX9_item 118 = .ok (.imul, 1) := by decide +kernel
theorem dX9_item_119 : decode cX9_item 119 = .ok (.iaload, 1) := by decide +kernel
theorem dX9_item_120 : decode cX9_item 120 = .ok (.ireturn, 1) := by decide +kernel
theorem dX9_item_121 : decode cX9_item 121 = .ok (.aload_n 0, 1) := by decide +kernel
theorem dX9_item_122 : decode cX9_item 122 = .ok (.getfield 44, 3) := by decide +kernel
theorem dX9_item_125 : decode cX9_item 125 = .ok (.iconst 3, 1) := by decide +kernel
theorem dX9_item_126 : decode cX9_item 126 = .ok (.iload_n 1, 1) := by decide +kernel
theorem dX9_item_127 : decode cX9_item 127 = .ok (.imul, 1) := by decide +kernel
theorem dX9_item_128 : decode cX9_item 128 = .ok (.iconst 1, 1) := by decide +kernel
theorem dX9_item_129 : decode cX9_item 129 = .ok (.iadd, 1) := by decide +kernel
theorem dX9_item_130 : decode cX9_item 130 = .ok (.iaload, 1) := by decide +kernel
theorem dX9_item_131 : decode cX9_item 131 = .ok (.ireturn, 1) := by decide +kernel
theorem dX9_item_132 : decode cX9_item 132 = .ok (.aload_n 0, 1) := by decide +kernel
theorem dX9_item_133 : decode cX9_item 133 = .ok (.getfield 44, 3) := by decide +kernel
theorem dX9_item_136 : decode cX9_item 136 = .ok (.iconst 3, 1) := by decide +kernel
theorem dX9_item_137 : decode cX9_item 137 = .ok (.iload_n 1, 1) := by decide +kernel
theorem dX9_item_138 : decode cX9_item 138 = .ok (.imul, 1) := by decide +kernel
theorem dX9_item_139 : decode cX9_item 139 = .ok (.iconst 2, 1) := by decide +kernel
theorem dX9_item_140 : decode cX9_item 140 = .ok (.iadd, 1) := by decide +kernel
theorem dX9_item_141 : decode cX9_item 141 = .ok (.iaload, 1) := by decide +kernel
theorem dX9_item_142 : decode cX9_item 142 = .ok (.ireturn, 1) := by decide +kernel
theorem dX9_item_143 : decode cX9_item 143 = .ok (.ldc 70, 2) := by decide +kernel
theorem dX9_item_145 : decode cX9_item 145 = .ok (.ireturn, 1) := by decide +kernel
theorem dX9_romanSign_0 : decode cX9_romanSign 0 = .ok (.iload_n 0, 1) := by decide +kernel
theorem dX9_romanSign_1 : decode cX9_romanSign 1 = .ok (.bipush 9, 2) := by decide +kernel
theorem dX9_romanSign_3 : decode cX9_romanSign 3 = .ok (.if_icmp .eq 8, 3) := by decide +kernel
theorem dX9_romanSign_6 : decode cX9_romanSign 6 = .ok (.iload_n 0, 1) := by decide +kernel
theorem dX9_romanSign_7 : decode cX9_romanSign 7 = .ok (.iconst 4, 1) := by decide +kernel
theorem dX9_romanSign_8 : decode cX9_romanSign 8 = .ok (.if_icmp .ne 24, 3) := by decide +kernel
theorem dX9_romanSign_11 : decode cX9_romanSign 11 = .ok (.iload_n 1, 1) := by decide +kernel
theorem dX9_romanSign_12 : decode cX9_romanSign 12 = .ok (.ifCond .ne 7, 3) := by decide +kernel
theorem dX9_romanSign_15 : decode cX9_romanSign 15 = .ok (.iload_n 2, 1) := by decide +kernel
theorem dX9_romanSign_16 : decode cX9_romanSign 16 = .ok (.goto 15, 3) := by decide +kernel
theorem dX9_romanSign_19 : decode cX9_romanSign 19 = .ok (.iload_n 0, 1) := by decide +kernel
theorem dX9_romanSign_20 : decode cX9_romanSign 20 = .ok (.bipush 9, 2) := by decide +kernel
theorem dX9_romanSign_22 : decode cX9_romanSign 22 = .ok (.if_icmp .ne 8, 3) := by decide +kernel
theorem dX9_romanSign_25 : decode cX9_romanSign 25 = .ok (.iload 4, 2) := by decide +kernel
theorem dX9_romanSign_27 : decode cX9_romanSign 27 = .ok (.goto 4, 3) := by decide +kernel
theorem dX9_romanSign_30 : decode cX9_romanSign 30 = .ok (.iload_n 3, 1) := by decide +kernel
theorem dX9_romanSign_31 : decode cX9_romanSign 31 = .ok (.ireturn, 1) := by decide +kernel
theorem dX9_romanSign_32 : decode cX9_romanSign 32 = .ok (.iload_n 0, 1) := by decide +kernel
theorem dX9_romanSign_33 : decode cX9_romanSign 33 = .ok (.iconst 4, 1) := by decide +kernel
theorem dX9_romanSign_34 : decode cX9_romanSign 34 = .ok (.if_icmp .le 11, 3) := by decide +kernel
theorem dX9_romanSign_37 : decode cX9_romanSign 37 = .ok (.iload_n 1, 1) := by decide +kernel
theorem dX9_romanSign_38 : decode cX9_romanSign 38 = .ok (.ifCond .ne 7, 3) := by decide +kernel
theorem dX9_romanSign_41 : decode cX9_romanSign 41 = .ok (.iload_n 3, 1) := by decide +kernel
theorem dX9_romanSign_42 : decode cX9_romanSign 42 = .ok (.goto 4, 3) := by decide +kernel
theorem dX9_romanSign_45 : decode cX9_romanSign 45 = .ok (.iload_n 2, 1) := by decide +kernel
theorem dX9_romanSign_46 : decode cX9_romanSign 46 = .ok (.ireturn, 1) := by decide +kernel
theorem dX9_print_0 : decode cX9_print 0 = .ok (.aload_n 0, 1) := by decide +kernel
theorem dX9_print_1 : decode cX9_print 1 = .ok (.iload_n 1, 1) := by decide +kernel
theorem dX9_print_2 : decode cX9_print 2 = .ok (.invokevirtual 202, 3) := by decide +kernel
theorem dX9_print_5 : decode cX9_print 5 = .ok (.ifCond .eq 21, 3) := by decide +kernel
theorem dX9_print_8 : decode cX9_print 8 = .ok (.aload_n 0, 1) := by decide +kernel
theorem dX9_print_9 : decode cX9_print 9 = .ok (.getfield 25, 3) := by decide +kernel
theorem dX9_print_12 : decode cX9_print 12 = .ok (.iconst 5, 1) := by decide +kernel
theorem dX9_print_13 : decode cX9_print 13 = .ok (.iconst 4, 1) := by decide +kernel
theorem dX9_print_14 : decode cX9_print 14 = .ok (.iload_n 1, 1) := by decide +kernel
theorem dX9_print_15 : decode cX9_print 15 = .ok (.imul, 1) := by decide +kernel
theorem dX9_print_16 : decode cX9_print 16 = .ok (.iadd, 1) := by decide +kernel
theorem dX9_print_17 : decode cX9_print 17 = .ok (.iaload, 1) := by decide +kernel
theorem dX9_print_18 : decode cX9_print 18 = .ok (.iconst 3, 1) := by decide +kernel
theorem dX9_print_19 : decode cX9_print 19 = .ok (.if_icmp .gt 7, 3) := by decide +kernel
theorem dX9_print_22 : decode cX9_print 22 = .ok (.iload_n 2, 1) := by decide +kernel
theorem dX9_print_23 : decode cX9_print 23 = .ok (.ifCond .ge 6, 3) := by decide +kernel
theorem dX9_print_26 : decode cX9_print 26 = .ok (.ldc 70, 2) := by decide +kernel
theorem dX9_print_28 : decode cX9_print 28 = .ok (.ireturn, 1) := by decide +kernel
theorem dX9_print_29 : decode cX9_print 29 = .ok (.aload_n 0, 1) := by decide +kernel
theorem dX9_print_30 : decode cX9_print 30 = .ok (.getfield 25, 3) := by decide +kernel
theorem dX9_print_33 : decode cX9_print 33 = .ok (.iconst 5, 1) := by decide +kernel
theorem dX9_print_34 : decode cX9_print 34 = .ok (.iconst 4, 1) := by decide +kernel
theorem dX9_print_35 : decode cX9_print 35 = .ok (.iload_n 1, 1) := by decide +kernel
theorem dX9_print_36 : decode cX9_print 36 = .ok (.imul, 1) := by decide +kernel
theorem dX9_print_37 : decode cX9_print 37 = .ok (.iadd, 1) := by decide +kernel
theorem dX9_print_38 : decode cX9_print 38 = .ok (.iaload, 1) := by decide +kernel
theorem dX9_print_39 : decode cX9_print 39 = .ok (.istore_n 3, 1) := by decide +kernel
theorem dX9_print_40 : decode cX9_print 40 = .ok (.aload_n 0, 1) := by decide +kernel
theorem dX9_print_41 : decode cX9_print 41 = .ok (.getfield 25, 3) := by decide +kernel
theorem dX9_print_44 : decode cX9_print 44 = .ok (.iconst 5, 1) := by decide +kernel
theorem dX9_print_45 : decode cX9_print 45 = .ok (.iconst 4, 1) := by decide +kernel
theorem dX9_print_46 : decode cX9_print 46 = .ok (.aload_n 0, 1) := by decide +kernel
theorem dX9_print_47 : decode cX9_print 47 = .ok (.getfield 25, 3) := by decide +kernel
theorem dX9_print_50 : decode cX9_print 50 = .ok (.iconst 5, 1) := by decide +kernel
theorem dX9_print_51 : decode cX9_print 51 = .ok (.iconst 4, 1) := by decide +kernel
theorem dX9_print_52 : decode cX9_print 52 = .ok (.iload_n 1, 1) := by decide +kernel
theorem dX9_print_53 : decode cX9_print 53 = .ok (.imul, 1) := by decide +kernel
theorem dX9_print_54 : decode cX9_print 54 = .ok (.iadd, 1) := by decide +kernel
theorem dX9_print_55 : decode cX9_print 55 = .ok (.iconst 1, 1) := by decide +kernel
theorem dX9_print_56 : decode cX9_print 56 = .ok (.iadd, 1) := by decide +kernel
theorem dX9_print_57 : decode cX9_print 57 = .ok (.iaload, 1) := by decide +kernel
theorem dX9_print_58 : decode cX9_print 58 = .ok (.imul, 1) := by decide +kernel
theorem dX9_print_59 : decode cX9_print 59 = .ok (.iadd, 1) := by decide +kernel
theorem dX9_print_60 : decode cX9_print 60 = .ok (.iconst 2, 1) := by decide +kernel
theorem dX9_print_61 : decode cX9_print 61 = .ok (.iadd, 1) := by decide +kernel
theorem dX9_print_62 : decode cX9_print 62 = .ok (.iaload, 1) := by decide +kernel
theorem dX9_print_63 : decode cX9_print 63 = .ok (.istore 4, 2) := by decide +kernel
theorem dX9_print_65 : decode cX9_print 65 = .ok (.iload_n 3, 1) := by decide +kernel
theorem dX9_print_66 : decode cX9_print 66 = .ok (.iload 4, 2) := by decide +kernel
theorem dX9_print_68 : decode cX9_print 68 = .ok (.invokestatic 155, 3) := by decide +kernel
theorem dX9_print_71 : decode cX9_print 71 = .ok (.istore 5, 2) := by decide +kernel
theorem dX9_print_73 : decode cX9_print 73 = .ok (.iload_n 2, 1) := by decide +kernel
theorem dX9_print_74 : decode cX9_print 74 = .ok (.iload 5, 2) := by decide +kernel
theorem dX9_print_76 : decode cX9_print 76 = .ok (.if_icmp .lt 27, 3) := by decide +kernel
theorem dX9_print_79 : decode cX9_print 79 = .ok (.iload_n 2, 1) := by decide +kernel
theorem dX9_print_80 : decode cX9_print 80 = .ok (.aload_n 0, 1) := by decide +kernel
theorem dX9_print_81 : decode cX9_print 81 = .ok (.getfield 25, 3) := by decide +kernel
theorem dX9_print_84 : decode cX9_print 84 = .ok (.iconst 5, 1) := by decide +kernel
theorem dX9_print_85 : decode cX9_print 85 = .ok (.iconst 4, 1) := by decide +kernel
theorem dX9_print_86 : decode cX9_print 86 = .ok (.iload_n 1, 1) := by decide +kernel
theorem dX9_print_87 : decode cX9_print 87 = .ok (.imul, 1) := by decide +kernel
theorem dX9_print_88 : decode cX9_print 88 = .ok (.iadd, 1) := by decide +kernel
theorem dX9_print_89 : decode cX9_print 89 = .ok (.iconst 3, 1) := by decide +kernel
theorem dX9_print_90 : decode cX9_print 90 = .ok (.iadd, 1) := by decide +kernel
theorem dX9_print_91 : decode cX9_print 91 = .ok (.iaload, 1) := by decide +kernel
theorem dX9_print_92 : decode cX9_print 92 = .ok (.if_icmp .ge 8, 3) := by decide +kernel
theorem dX9_print_95 : decode cX9_print 95 = .ok (.bipush 32, 2) := by decide +kernel
theorem dX9_print_97 : decode cX9_print 97 = .ok (.goto 5, 3) := by decide +kernel
theorem dX9_print_100 : decode cX9_print 100 = .ok (.ldc 56, 2) := by decide +kernel
theorem dX9_print_102 : decode cX9_print 102 = .ok (.ireturn, 1) := by decide +kernel
theorem dX9_print_103 : decode cX9_print 103 = .ok (.iload_n 3, 1) := by decide +kernel
theorem dX9_print_104 : decode cX9_print 104 = .ok (.iconst 2, 1) := by decide +kernel
theorem dX9_print_105 : decode cX9_print 105 = .ok (.if_icmp .ne 56, 3) := by decide +kernel
theorem dX9_print_108 : decode cX9_print 108 = .ok (.iload 4, 2) := by decide +kernel
theorem dX9_print_110 : decode cX9_print 110 = .ok (.bipush 10, 2) := by decide +kernel
theorem dX9_print_112 : decode cX9_print 112 = .ok (.idiv, 1) := by decide +kernel
theorem dX9_print_113 : decode cX9_print 113 = .ok (.invokestatic 152, 3) := by decide +kernel
theorem dX9_print_116 : decode cX9_print 116 = .ok (.istore 6, 2) := by decide +kernel
theorem dX9_print_118 : decode cX9_print 118 = .ok (.iload_n 2, 1) := by decide +kernel
theorem dX9_print_119 : decode cX9_print 119 = .ok (.iload 6, 2) := by decide +kernel
theorem dX9_print_121 : decode cX9_print 121 = .ok (.if_icmp .ge 21, 3) := by decide +kernel
theorem dX9_print_124 : decode cX9_print 124 = .ok (.iload 4, 2) := by decide +kernel
theorem dX9_print_126 : decode cX9_print 126 = .ok (.bipush 10, 2) := by decide +kernel
theorem dX9_print_128 : decode cX9_print 128 = .ok (.idiv, 1) := by decide +kernel
theorem dX9_print_129 : decode cX9_print 129 = .ok (.iload_n 2, 1) := by decide +kernel
theorem dX9_print_130 : decode cX9_print 130 = .ok (.bipush 120, 2) := by decide +kernel
theorem dX9_print_132 : decode cX9_print 132 = .ok (.bipush 108, 2) := by decide +kernel
theorem dX9_print_134 : decode cX9_print 134 = .ok (.bipush 99, 2) := by decide +kernel
theorem dX9_print_136 : decode cX9_print 136 = .ok (.invokestatic 218, 3) := by decide +kernel
theorem dX9_print_139 : decode cX9_print 139 = .ok (.goto 21, 3) := by decide +kernel
theorem dX9_print_142 : decode cX9_print 142 = .ok (.iload 4, 2) := by decide +kernel
theorem dX9_print_144 : decode cX9_print 144 = .ok (.bipush 10, 2) := by decide +kernel
theorem dX9_print_146 : decode cX9_print 146 = .ok (.irem, 1) := by decide +kernel
theorem dX9_print_147 : decode cX9_print 147 = .ok (.iload_n 2, 1) := by decide +kernel
theorem dX9_print_148 : decode cX9_print 148 = .ok (.iload 6, 2) := by decide +kernel
theorem dX9_print_150 : decode cX9_print 150 = .ok (.isub, 1) := by decide +kernel
theorem dX9_print_151 : decode cX9_print 151 = .ok (.bipush 105, 2) := by decide +kernel
theorem dX9_print_153 : decode cX9_print 153 = .ok (.bipush 118, 2) := by decide +kernel
theorem dX9_print_155 : decode cX9_print 155 = .ok (.bipush 120, 2) := by decide +kernel
theorem dX9_print_157 : decode cX9_print 157 = .ok (.invokestatic 218, 3) := by decide +kernel
theorem dX9_print_160 : decode cX9_print 160 = .ok (.ireturn, 1) := by decide +kernel
theorem dX9_print_161 : decode cX9_print 161 = .ok (.iload_n 3, 1) := by decide +kernel
theorem dX9_print_162 : decode cX9_print 162 = .ok (.iconst 3, 1) := by decide +kernel
theorem dX9_print_163 : decode cX9_print 163 = .ok (.if_icmp .ne 14, 3) := by decide +kernel
theorem dX9_print_166 : decode cX9_print 166 = .ok (.iload_n 2, 1) := by decide +kernel
theorem dX9_print_167 : decode cX9_print 167 = .ok (.iload 5, 2) := by decide +kernel
theorem dX9_print_169 : decode cX9_print 169 = .ok (.iconst 1, 1) := by decide +kernel
theorem dX9_print_170 : decode cX9_print 170 = .ok (.isub, 1) := by decide +kernel
theorem dX9_print_171 : decode cX9_print 171 = .ok (.if_icmp .ne 6, 3) := by decide +kernel
theorem dX9_print_174 : decode cX9_print 174 = .ok (.bipush 102, 2) := by decide +kernel
theorem dX9_print_176 : decode cX9_print 176 = .ok (.ireturn, 1) := by decide +kernel
theorem dX9_print_177 : decode cX9_print 177 = .ok (.bipush 48, 2) := by decide +kernel
theorem dX9_print_179 : decode cX9_print 179 = .ok (.iload 4, 2) := by decide +kernel
theorem dX9_print_181 : decode cX9_print 181 = .ok (.bipush 9, 2) := by decide +kernel
theorem dX9_print_183 : decode cX9_print 183 = .ok (.if_icmp .le 15, 3) := by decide +kernel
theorem dX9_print_186 : decode cX9_print 186 = .ok (.iload_n 2, 1) := by decide +kernel
theorem dX9_print_187 : decode cX9_print 187 = .ok (.ifCond .ne 11, 3) := by decide +kernel
theorem dX9_print_190 : decode cX9_print 190 = .ok (.iload 4, 2) := by decide +kernel
theorem dX9_print_192 : decode cX9_print 192 = .ok (.bipush 10, 2) := by decide +kernel
theorem dX9_print_194 : decode cX9_print 194 = .ok (.idiv, 1) := by decide +kernel
theorem dX9_print_195 : decode cX9_print 195 = .ok (.goto 8, 3) := by decide +kernel
theorem dX9_print_198 : decode cX9_print 198 = .ok (.iload 4, 2) := by decide +kernel
theorem dX9_print_200 : decode cX9_print 200 = .ok (.bipush 10, 2) := by decide +kernel
theorem dX9_print_202 : decode cX9_print 202 = .ok (.irem, 1) := by decide +kernel
theorem dX9_print_203 : decode cX9_print 203 = .ok (.iadd, 1) := by decide +kernel
theorem dX9_print_204 : decode cX9_print 204 = .ok (.ireturn, 1) := by decide +kernel
theorem dX9_behind_0 : decode cX9_behind 0 = .ok (.aload_n 0, 1) := by decide +kernel
theorem dX9_behind_1 : decode cX9_behind 1 = .ok (.iload_n 1, 1) := by decide +kernel
theorem dX9_behind_2 : decode cX9_behind 2 = .ok (.invokevirtual 202, 3) := by decide +kernel
theorem dX9_behind_5 : decode cX9_behind 5 = .ok (.ifCond .eq 13, 3) := by decide +kernel
theorem dX9_behind_8 : decode cX9_behind 8 = .ok (.iload_n 2, 1) := by decide +kernel
theorem dX9_behind_9 : decode cX9_behind 9 = .ok (.iconst 0, 1) := by decide +kernel
theorem dX9_behind_10 : decode cX9_behind 10 = .ok (.bipush 60, 2) := by decide +kernel
theorem dX9_behind_12 : decode cX9_behind 12 = .ok (.invokestatic 62, 3) := by decide +kernel
theorem dX9_behind_15 : decode cX9_behind 15 = .ok (.ifCond .ne 6, 3) := by decide +kernel
theorem dX9_behind_18 : decode cX9_behind 18 = .ok (.ldc 70, 2) := by decide +kernel
theorem dX9_behind_20 : decode cX9_behind 20 = .ok (.ireturn, 1) := by decide +kernel
theorem dX9_behind_21 : decode cX9_behind 21 = .ok (.aload_n 0, 1) := by decide +kernel
theorem dX9_behind_22 : decode cX9_behind 22 = .ok (.getfield 25, 3) := by decide +kernel
theorem dX9_behind_25 : decode cX9_behind 25 = .ok (.iconst 0, 1) := by decide +kernel
theorem dX9_behind_26 : decode cX9_behind 26 = .ok (.aload_n 0, 1) := by decide +kernel
theorem dX9_behind_27 : decode cX9_behind 27 = .ok (.getfield 31, 3) := by decide +kernel
theorem dX9_behind_30 : decode cX9_behind 30 = .ok (.iconst 0, 1) := by decide +kernel
theorem dX9_behind_31 : decode cX9_behind 31 = .ok (.invokestatic 145, 3) := by decide +kernel
theorem dX9_behind_34 : decode cX9_behind 34 = .ok (.iconst 0, 1) := by decide +kernel
theorem dX9_behind_35 : decode cX9_behind 35 = .ok (.istore_n 3, 1) := by decide +kernel
theorem dX9_behind_36 : decode cX9_behind 36 = .ok (.iload_n 3, 1) := by decide +kernel
theorem dX9_behind_37 : decode cX9_behind 37 = .ok (.iload_n 2, 1) := by decide +kernel
theorem dX9_behind_38 : decode cX9_behind 38 = .ok (.if_icmp .ge 18, 3) := by decide +kernel
theorem dX9_behind_41 : decode cX9_behind 41 = .ok (.aload_n 0, 1) := by decide +kernel
theorem dX9_behind_42 : decode cX9_behind 42 = .ok (.aload_n 0, 1) := by decide +kernel
theorem dX9_behind_43 : decode cX9_behind 43 = .ok (.getfield 31, 3) := by decide +kernel
theorem dX9_behind_46 : decode cX9_behind 46 = .ok (.invokevirtual 182, 3) := by decide +kernel
theorem dX9_behind_49 : decode cX9_behind 49 = .ok (.pop, 1) := by decide +kernel
theorem dX9_behind_50 : decode cX9_behind 50 = .ok (.iinc 3 1, 3) := by decide +kernel
theorem dX9_behind_53 : decode cX9_behind 53 = .ok (.goto (-17), 3) := by decide +kernel
theorem dX9_behind_56 : decode cX9_behind 56 = .ok (.aload_n 0, 1) := by decide +kernel
theorem dX9_behind_57 : decode cX9_behind 57 = .ok (.getfield 31, 3) := by decide +kernel
theorem dX9_behind_60 : decode cX9_behind 60 = .ok (.iconst 5, 1) := by decide +kernel
theorem dX9_behind_61 : decode cX9_behind 61 = .ok (.iconst 4, 1) := by decide +kernel
theorem dX9_behind_62 : decode cX9_behind 62 = .ok (.iload_n 1, 1) := by decide +kernel
theorem dX9_behind_63 : decode cX9_behind 63 = .ok (.imul, 1) := by decide +kernel
theorem dX9_behind_64 : decode cX9_behind 64 = .ok (.iadd, 1) := by decide +kernel
theorem dX9_behind_65 : decode cX9_behind 65 = .ok (.iconst 2, 1) := by decide +kernel
theorem dX9_behind_66 : decode cX9_behind 66 = .ok (.iadd, 1) := by decide +kernel
theorem dX9_behind_67 : decode cX9_behind 67 = .ok (.iaload, 1) := by decide +kernel
theorem dX9_behind_68 : decode cX9_behind 68 = .ok (.ireturn, 1) := by decide +kernel
theorem dX9_lies_0 : decode cX9_lies 0 = .ok (.aload_n 0, 1) := by decide +kernel
theorem dX9_lies_1 : decode cX9_lies 1 = .ok (.invokevirtual 191, 3) := by decide +kernel
theorem dX9_lies_4 : decode cX9_lies 4 = .ok (.ifCond .ne 6, 3) := by decide +kernel
theorem dX9_lies_7 : decode cX9_lies 7 = .ok (.ldc 194, 2) := by decide +kernel
theorem dX9_lies_9 : decode cX9_lies 9 = .ok (.ireturn, 1) := by decide +kernel
theorem dX9_lies_10 : decode cX9_lies 10 = .ok (.aload_n 0, 1) := by decide +kernel
theorem dX9_lies_11 : decode cX9_lies 11 = .ok (.aload_n 0, 1) := by decide +kernel
theorem dX9_lies_12 : decode cX9_lies 12 = .ok (.getfield 25, 3) := by decide +kernel
theorem dX9_lies_15 : decode cX9_lies 15 = .ok (.ldc 56, 2) := by decide +kernel
theorem dX9_lies_17 : decode cX9_lies 17 = .ok (.iconst 0, 1) := by decide +kernel
theorem dX9_lies_18 : decode cX9_lies 18 = .ok (.invokevirtual 162, 3) := by decide +kernel
theorem dX9_lies_21 : decode cX9_lies 21 = .ok (.iconst 0, 1) := by decide +kernel
theorem dX9_lies_22 : decode cX9_lies 22 = .ok (.istore_n 1, 1) := by decide +kernel
theorem dX9_lies_23 : decode cX9_lies 23 = .ok (.iconst 0, 1) := by decide +kernel
theorem dX9_lies_24 : decode cX9_lies 24 = .ok (.istore_n 2, 1) := by decide +kernel
theorem dX9_lies_25 : decode cX9_lies 25 = .ok (.iload_n 2, 1) := by decide +kernel
theorem dX9_lies_26 : decode cX9_lies 26 = .ok (.aload_n 0, 1) := by decide +kernel
theorem dX9_lies_27 : decode cX9_lies 27 = .ok (.getfield 25, 3) := by decide +kernel
theorem dX9_lies_30 : decode cX9_lies 30 = .ok (.iconst 3, 1) := by decide +kernel
theorem dX9_lies_31 : decode cX9_lies 31 = .ok (.iaload, 1) := by decide +kernel
theorem dX9_lies_32 : decode cX9_lies 32 = .ok (.if_icmp .ge 69, 3) := by decide +kernel
theorem dX9_lies_35 : decode cX9_lies 35 = .ok (.aload_n 0, 1) := by decide +kernel
theorem dX9_lies_36 : decode cX9_lies 36 = .ok (.getfield 25, 3) := by decide +kernel
theorem dX9_lies_39 : decode cX9_lies 39 = .ok (.iconst 5, 1) := by decide +kernel
theorem dX9_lies_40 : decode cX9_lies 40 = .ok (.iconst 4, 1) := by decide +kernel
theorem dX9_lies_41 : decode cX9_lies 41 = .ok (.iload_n 2, 1) := by decide +kernel
theorem dX9_lies_42 : decode cX9_lies 42 = .ok (.imul, 1) := by decide +kernel
theorem dX9_lies_43 : decode cX9_lies 43 = .ok (.iadd, 1) := by decide +kernel
theorem dX9_lies_44 : decode cX9_lies 44 = .ok (.iconst 1, 1) := by decide +kernel
theorem dX9_lies_45 : decode cX9_lies 45 = .ok (.iadd, 1) := by decide +kernel
theorem dX9_lies_46 : decode cX9_lies 46 = .ok (.iaload, 1) := by decide +kernel
theorem dX9_lies_47 : decode cX9_lies 47 = .ok (.istore_n 3, 1) := by decide +kernel
theorem dX9_lies_48 : decode cX9_lies 48 = .ok (.iload_n 1, 1) := by decide +kernel
theorem dX9_lies_49 : decode cX9_lies 49 = .ok (.aload_n 0, 1) := by decide +kernel
theorem dX9_lies_50 : decode cX9_lies 50 = .ok (.getfield 25, 3) := by decide +kernel
theorem dX9_lies_53 : decode cX9_lies 53 = .ok (.iconst 5, 1) := by decide +kernel
theorem dX9_lies_54 : decode cX9_lies 54 = .ok (.iconst 4, 1) := by decide +kernel
theorem dX9_lies_55 : decode cX9_lies 55 = .ok (.iload_n 2, 1) := by decide +kernel
theorem dX9_lies_56 : decode cX9_lies 56 = .ok (.imul, 1) := by decide +kernel
theorem dX9_lies_57 : decode cX9_lies 57 = .ok (.iadd, 1) := by decide +kernel
theorem dX9_lies_58 : decode cX9_lies 58 = .ok (.iaload, 1) := by decide +kernel
theorem dX9_lies_59 : decode cX9_lies 59 = .ok (.iconst 3, 1) := by decide +kernel
theorem dX9_lies_60 : decode cX9_lies 60 = .ok (.if_icmp .gt 32, 3) := by decide +kernel
theorem dX9_lies_63 : decode cX9_lies 63 = .ok (.aload_n 0, 1) := by decide +kernel
theorem dX9_lies_64 : decode cX9_lies 64 = .ok (.getfield 25, 3) := by decide +kernel
theorem dX9_lies_67 : decode cX9_lies 67 = .ok (.iconst 5, 1) := by decide +kernel
theorem dX9_lies_68 : decode cX9_lies 68 = .ok (.iconst 4, 1) := by decide +kernel
theorem dX9_lies_69 : decode cX9_lies 69 = .ok (.iload_n 3, 1) := by decide +kernel
theorem dX9_lies_70 : decode cX9_lies 70 = .ok (.imul, 1) := by decide +kernel
theorem dX9_lies_71 : decode cX9_lies 71 = .ok (.iadd, 1) := by decide +kernel
theorem dX9_lies_72 : decode cX9_lies 72 = .ok (.iconst 2, 1) := by decide +kernel
theorem dX9_lies_73 : decode cX9_lies 73 = .ok (.iadd, 1) := by decide +kernel
theorem dX9_lies_74 : decode cX9_lies 74 = .ok (.iaload, 1) := by decide +kernel
theorem dX9_lies_75 : decode cX9_lies 75 = .ok (.aload_n 0, 1) := by decide +kernel
theorem dX9_lies_76 : decode cX9_lies 76 = .ok (.getfield 44, 3) := by decide +kernel
theorem dX9_lies_79 : decode cX9_lies 79 = .ok (.iconst 3, 1) := by decide +kernel
theorem dX9_lies_80 : decode cX9_lies 80 = .ok (.iload_n 3, 1) := by decide +kernel
theorem dX9_lies_81 : decode cX9_lies 81 = .ok (.imul, 1) := by decide +kernel
theorem dX9_lies_82 : decode cX9_lies 82 = .ok (.iaload, 1) := by decide +kernel
theorem dX9_lies_83 : decode cX9_lies 83 = .ok (.if_icmp .eq 9, 3) := by decide +kernel
theorem dX9_lies_86 : decode cX9_lies 86 = .ok (.iconst 1, 1) := by decide +kernel
theorem dX9_lies_87 : decode cX9_lies 87 = .ok (.iload_n 2, 1) := by decide +kernel
theorem dX9_lies_88 : decode cX9_lies 88 = .ok (.ishl, 1) := by decide +kernel
theorem dX9_lies_89 : decode cX9_lies 89 = .ok (.goto 4, 3) := by decide +kernel
theorem dX9_lies_92 : decode cX9_lies 92 = .ok (.iconst 0, 1) := by decide +kernel
theorem dX9_lies_93 : decode cX9_lies 93 = .ok (.ior, 1) := by decide +kernel
theorem dX9_lies_94 : decode cX9_lies 94 = .ok (.istore_n 1, 1) := by decide +kernel
theorem dX9_lies_95 : decode cX9_lies 95 = .ok (.iinc 2 1, 3) := by decide +kernel
theorem dX9_lies_98 : decode cX9_lies 98 = .ok (.goto (-73), 3) := by decide +kernel
theorem dX9_lies_101 : decode cX9_lies 101 = .ok (.iload_n 1, 1) := by decide +kernel
theorem dX9_lies_102 : decode cX9_lies 102 = .ok (.ireturn, 1) := by decide +kernel
theorem dX9_settled_0 : decode cX9_settled 0 = .ok (.aload_n 0, 1) := by decide +kernel
theorem dX9_settled_1 : decode cX9_settled 1 = .ok (.invokevirtual 191, 3) := by decide +kernel
theorem dX9_settled_4 : decode cX9_settled 4 = .ok (.ifCond .ne 6, 3) := by decide +kernel
theorem dX9_settled_7 : decode cX9_settled 7 = .ok (.ldc 194, 2) := by decide +kernel
theorem dX9_settled_9 : decode cX9_settled 9 = .ok (.ireturn, 1) := by decide +kernel
theorem dX9_settled_10 : decode cX9_settled 10 = .ok (.iload_n 1, 1) := by decide +kernel
theorem dX9_settled_11 : decode cX9_settled 11 = .ok (.iconst 0, 1) := by decide +kernel
theorem dX9_settled_12 : decode cX9_settled 12 = .ok (.iconst 5, 1) := by decide +kernel
theorem dX9_settled_13 : decode cX9_settled 13 = .ok (.invokestatic 62, 3) := by decide +kernel
theorem dX9_settled_16 : decode cX9_settled 16 = .ok (.ifCond .ne 6, 3) := by decide +kernel
theorem dX9_settled_19 : decode cX9_settled 19 = .ok (.ldc 70, 2) := by decide +kernel
theorem dX9_settled_21 : decode cX9_settled 21 = .ok (.ireturn, 1) := by decide +kernel
theorem dX9_settled_22 : decode cX9_settled 22 = .ok (.aload_n 0, 1) := by decide +kernel
theorem dX9_settled_23 : decode cX9_settled 23 = .ok (.getfield 25, 3) := by decide +kernel
theorem dX9_settled_26 : decode cX9_settled 26 = .ok (.iconst 0, 1) := by decide +kernel
theorem dX9_settled_27 : decode cX9_settled 27 = .ok (.aload_n 0, 1) := by decide +kernel
theorem dX9_settled_28 : decode cX9_settled 28 = .ok (.getfield 31, 3) := by decide +kernel
theorem dX9_settled_31 : decode cX9_settled 31 = .ok (.iconst 0, 1) := by decide +kernel
theorem dX9_settled_32 : decode cX9_settled 32 = .ok (.invokestatic 145, 3) := by decide +kernel
theorem dX9_settled_35 : decode cX9_settled 35 = .ok (.aload_n 0, 1) := by decide +kernel
theorem dX9_settled_36 : decode cX9_settled 36 = .ok (.aload_n 0, 1) := by decide +kernel
theorem dX9_settled_37 : decode cX9_settled 37 = .ok (.getfield 31, 3) := by decide +kernel
theorem dX9_settled_40 : decode cX9_settled 40 = .ok (.invokevirtual 198, 3) := by decide +kernel
theorem dX9_settled_43 : decode cX9_settled 43 = .ok (.iload_n 1, 1) := by decide +kernel
theorem dX9_settled_44 : decode cX9_settled 44 = .ok (.tableswitch 67 0 4 #[36, 41, 46, 51, 59], 36) := by decide +kernel
theorem dX9_settled_80 : decode cX9_settled 80 = .ok (.aload_n 0, 1) := by decide +kernel
theorem dX9_settled_81 : decode cX9_settled 81 = .ok (.getfield 166, 3) := by decide +kernel
theorem dX9_settled_84 : decode cX9_settled 84 = .ok (.ireturn, 1) := by decide +kernel
theorem dX9_settled_85 : decode cX9_settled 85 = .ok (.aload_n 0, 1) := by decide +kernel
theorem dX9_settled_86 : decode cX9_settled 86 = .ok (.getfield 169, 3) := by decide +kernel
theorem dX9_settled_89 : decode cX9_settled 89 = .ok (.ireturn, 1) := by decide +kernel
theorem dX9_settled_90 : decode cX9_settled 90 = .ok (.aload_n 0, 1) := by decide +kernel
theorem dX9_settled_91 : decode cX9_settled 91 = .ok (.getfield 172, 3) := by decide +kernel
theorem dX9_settled_94 : decode cX9_settled 94 = .ok (.ireturn, 1) := by decide +kernel
theorem dX9_settled_95 : decode cX9_settled 95 = .ok (.aload_n 0, 1) := by decide +kernel
theorem dX9_settled_96 : decode cX9_settled 96 = .ok (.getfield 31, 3) := by decide +kernel
theorem dX9_settled_99 : decode cX9_settled 99 = .ok (.invokestatic 209, 3) := by decide +kernel
theorem dX9_settled_102 : decode cX9_settled 102 = .ok (.ireturn, 1) := by decide +kernel
theorem dX9_settled_103 : decode cX9_settled 103 = .ok (.aload_n 0, 1) := by decide +kernel
theorem dX9_settled_104 : decode cX9_settled 104 = .ok (.getfield 31, 3) := by decide +kernel
theorem dX9_settled_107 : decode cX9_settled 107 = .ok (.invokestatic 222, 3) := by decide +kernel
theorem dX9_settled_110 : decode cX9_settled 110 = .ok (.ireturn, 1) := by decide +kernel
theorem dX9_settled_111 : decode cX9_settled 111 = .ok (.aload_n 0, 1) := by decide +kernel
theorem dX9_settled_112 : decode cX9_settled 112 = .ok (.aload_n 0, 1) := by decide +kernel
theorem dX9_settled_113 : decode cX9_settled 113 = .ok (.getfield 31, 3) := by decide +kernel
theorem dX9_settled_116 : decode cX9_settled 116 = .ok (.invokevirtual 179, 3) := by decide +kernel
theorem dX9_settled_119 : decode cX9_settled 119 = .ok (.ifCond .eq 7, 3) := by decide +kernel
theorem dX9_settled_122 : decode cX9_settled 122 = .ok (.iconst 1, 1) := by decide +kernel
theorem dX9_settled_123 : decode cX9_settled 123 = .ok (.goto 4, 3) := by decide +kernel
theorem dX9_settled_126 : decode cX9_settled 126 = .ok (.iconst 0, 1) := by decide +kernel
theorem dX9_settled_127 : decode cX9_settled 127 = .ok (.ireturn, 1) := by decide +kernel
theorem dX9_last_0 : decode cX9_last 0 = .ok (.aload_n 0, 1) := by decide +kernel
theorem dX9_last_1 : decode cX9_last 1 = .ok (.iconst 5, 1) := by decide +kernel
theorem dX9_last_2 : decode cX9_last 2 = .ok (.iconst 4, 1) := by decide +kernel
theorem dX9_last_3 : decode cX9_last 3 = .ok (.aload_n 0, 1) := by decide +kernel
theorem dX9_last_4 : decode cX9_last 4 = .ok (.iconst 3, 1) := by decide +kernel
theorem dX9_last_5 : decode cX9_last 5 = .ok (.iaload, 1) := by decide +kernel
theorem dX9_last_6 : decode cX9_last 6 = .ok (.iconst 1, 1) := by decide +kernel
theorem dX9_last_7 : decode cX9_last 7 = .ok (.isub, 1) := by decide +kernel
theorem dX9_last_8 : decode cX9_last 8 = .ok (.imul, 1) := by decide +kernel
theorem dX9_last_9 : decode cX9_last 9 = .ok (.iadd, 1) := by decide +kernel
theorem dX9_last_10 : decode cX9_last 10 = .ok (.iconst 2, 1) := by decide +kernel
theorem dX9_last_11 : decode cX9_last 11 = .ok (.iadd, 1) := by decide +kernel
theorem dX9_last_12 : decode cX9_last 12 = .ok (.iaload, 1) := by decide +kernel
theorem dX9_last_13 : decode cX9_last 13 = .ok (.ireturn, 1) := by decide +kernel
theorem dX9_ends_0 : decode cX9_ends 0 = .ok (.aload_n 0, 1) := by decide +kernel
theorem dX9_ends_1 : decode cX9_ends 1 = .ok (.iload_n 1, 1) := by decide +kernel
theorem dX9_ends_2 : decode cX9_ends 2 = .ok (.invokevirtual 202, 3) := by decide +kernel
theorem dX9_ends_5 : decode cX9_ends 5 = .ok (.ifCond .ne 6, 3) := by decide +kernel
theorem dX9_ends_8 : decode cX9_ends 8 = .ok (.ldc 70, 2) := by decide +kernel
theorem dX9_ends_10 : decode cX9_ends 10 = .ok (.ireturn, 1) := by decide +kernel
theorem dX9_ends_11 : decode cX9_ends 11 = .ok (.aload_n 0, 1) := by decide +kernel
theorem dX9_ends_12 : decode cX9_ends 12 = .ok (.getfield 25, 3) := by decide +kernel
theorem dX9_ends_15 : decode cX9_ends 15 = .ok (.iconst 0, 1) := by decide +kernel
theorem dX9_ends_16 : decode cX9_ends 16 = .ok (.aload_n 0, 1) := by decide +kernel
theorem dX9_ends_17 : decode cX9_ends 17 = .ok (.getfield 31, 3) := by decide +kernel
theorem dX9_ends_20 : decode cX9_ends 20 = .ok (.iconst 0, 1) := by decide +kernel
theorem dX9_ends_21 : decode cX9_ends 21 = .ok (.invokestatic 145, 3) := by decide +kernel
theorem dX9_ends_24 : decode cX9_ends 24 = .ok (.aload_n 0, 1) := by decide +kernel
theorem dX9_ends_25 : decode cX9_ends 25 = .ok (.aload_n 0, 1) := by decide +kernel
theorem dX9_ends_26 : decode cX9_ends 26 = .ok (.getfield 31, 3) := by decide +kernel
theorem dX9_ends_29 : decode cX9_ends 29 = .ok (.invokevirtual 198, 3) := by decide +kernel
theorem dX9_ends_32 : decode cX9_ends 32 = .ok (.aload_n 0, 1) := by decide +kernel
theorem dX9_ends_33 : decode cX9_ends 33 = .ok (.getfield 31, 3) := by decide +kernel
theorem dX9_ends_36 : decode cX9_ends 36 = .ok (.iconst 5, 1) := by decide +kernel
theorem dX9_ends_37 : decode cX9_ends 37 = .ok (.iconst 4, 1) := by decide +kernel
theorem dX9_ends_38 : decode cX9_ends 38 = .ok (.iload_n 1, 1) := by decide +kernel
theorem dX9_ends_39 : decode cX9_ends 39 = .ok (.imul, 1) := by decide +kernel
theorem dX9_ends_40 : decode cX9_ends 40 = .ok (.iadd, 1) := by decide +kernel
theorem dX9_ends_41 : decode cX9_ends 41 = .ok (.iconst 2, 1) := by decide +kernel
theorem dX9_ends_42 : decode cX9_ends 42 = .ok (.iadd, 1) := by decide +kernel
theorem dX9_ends_43 : decode cX9_ends 43 = .ok (.iaload, 1) := by decide +kernel
theorem dX9_ends_44 : decode cX9_ends 44 = .ok (.ireturn, 1) := by decide +kernel
theorem dX9_moves_0 : decode cX9_moves 0 = .ok (.aload_n 0, 1) := by decide +kernel
theorem dX9_moves_1 : decode cX9_moves 1 = .ok (.iload_n 1, 1) := by decide +kernel
theorem dX9_moves_2 : decode cX9_moves 2 = .ok (.invokevirtual 202, 3) := by decide +kernel
theorem dX9_moves_5 : decode cX9_moves 5 = .ok (.ifCond .eq 17, 3) := by decide +kernel
theorem dX9_moves_8 : decode cX9_moves 8 = .ok (.aload_n 0, 1) := by decide +kernel
theorem dX9_moves_9 : decode cX9_moves 9 = .ok (.getfield 25, 3) := by decide +kernel
theorem dX9_moves_12 : decode cX9_moves 12 = .ok (.iconst 5, 1) := by decide +kernel
theorem dX9_moves_13 : decode cX9_moves 13 = .ok (.iconst 4, 1) := by decide +kernel
theorem dX9_moves_14 : decode cX9_moves 14 = .ok (.iload_n 1, 1) := by decide +kernel
theorem dX9_moves_15 : decode cX9_moves 15 = .ok (.imul, 1) := by decide +kernel
theorem dX9_moves_16 : decode cX9_moves 16 = .ok (.iadd, 1) := by decide +kernel
theorem dX9_moves_17 : decode cX9_moves 17 = .ok (.iaload, 1) := by decide +kernel
theorem dX9_moves_18 : decode cX9_moves 18 = .ok (.iconst 5, 1) := by decide +kernel
theorem dX9_moves_19 : decode cX9_moves 19 = .ok (.if_icmp .ne 6, 3) := by decide +kernel
theorem dX9_moves_22 : decode cX9_moves 22 = .ok (.ldc 70, 2) := by decide +kernel
theorem dX9_moves_24 : decode cX9_moves 24 = .ok (.ireturn, 1) := by decide +kernel
theorem dX9_moves_25 : decode cX9_moves 25 = .ok (.aload_n 0, 1) := by decide +kernel
theorem dX9_moves_26 : decode cX9_moves 26 = .ok (.aload_n 0, 1) := by decide +kernel
theorem dX9_moves_27 : decode cX9_moves 27 = .ok (.getfield 25, 3) := by decide +kernel
theorem dX9_moves_30 : decode cX9_moves 30 = .ok (.ldc 56, 2) := by decide +kernel
theorem dX9_moves_32 : decode cX9_moves 32 = .ok (.iconst 0, 1) := by decide +kernel
theorem dX9_moves_33 : decode cX9_moves 33 = .ok (.invokevirtual 162, 3) := by decide +kernel
theorem dX9_moves_36 : decode cX9_moves 36 = .ok (.iconst 0, 1) := by decide +kernel
theorem dX9_moves_37 : decode cX9_moves 37 = .ok (.istore_n 2, 1) := by decide +kernel
theorem dX9_moves_38 : decode cX9_moves 38 = .ok (.iload_n 2, 1) := by decide +kernel
theorem dX9_moves_39 : decode cX9_moves 39 = .ok (.bipush 36, 2) := by decide +kernel
theorem dX9_moves_41 : decode cX9_moves 41 = .ok (.if_icmp .ge 21, 3) := by decide +kernel
theorem dX9_moves_44 : decode cX9_moves 44 = .ok (.aload_n 0, 1) := by decide +kernel
theorem dX9_moves_45 : decode cX9_moves 45 = .ok (.getfield 47, 3) := by decide +kernel
theorem dX9_moves_48 : decode cX9_moves 48 = .ok (.iload_n 2, 1) := by decide +kernel
theorem dX9_moves_49 : decode cX9_moves 49 = .ok (.aload_n 0, 1) := by decide +kernel
theorem dX9_moves_50 : decode cX9_moves 50 = .ok (.getfield 44, 3) := by decide +kernel
theorem dX9_moves_53 : decode cX9_moves 53 = .ok (.iload_n 2, 1) := by decide +kernel
theorem dX9_moves_54 : decode cX9_moves 54 = .ok (.iaload, 1) := by decide +kernel
theorem dX9_moves_55 : decode cX9_moves 55 = .ok (.iastore, 1) := by decide +kernel
theorem dX9_moves_56 : decode cX9_moves 56 = .ok (.iinc 2 1, 3) := by decide +kernel
theorem dX9_moves_59 : decode cX9_moves 59 = .ok (.goto (-21), 3) := by decide +kernel
theorem dX9_moves_62 : decode cX9_moves 62 = .ok (.aload_n 0, 1) := by decide +kernel
theorem dX9_moves_63 : decode cX9_moves 63 = .ok (.aload_n 0, 1) := by decide +kernel
theorem dX9_moves_64 : decode cX9_moves 64 = .ok (.getfield 25, 3) := by decide +kernel
theorem dX9_moves_67 : decode cX9_moves 67 = .ok (.iload_n 1, 1) := by decide +kernel
theorem dX9_moves_68 : decode cX9_moves 68 = .ok (.iconst 1, 1) := by decide +kernel
theorem dX9_moves_69 : decode cX9_moves 69 = .ok (.invokevirtual 162, 3) := by decide +kernel
theorem dX9_moves_72 : decode cX9_moves 72 = .ok (.iconst 0, 1) := by decide +kernel
theorem dX9_moves_73 : decode cX9_moves 73 = .ok (.istore_n 2, 1) := by decide +kernel
theorem dX9_moves_74 : decode cX9_moves 74 = .ok (.iconst 0, 1) := by decide +kernel
theorem dX9_moves_75 : decode cX9_moves 75 = .ok (.istore_n 3, 1) := by decide +kernel
theorem dX9_moves_76 : decode cX9_moves 76 = .ok (.iload_n 3, 1) := by decide +kernel
theorem dX9_moves_77 : decode cX9_moves 77 = .ok (.aload_n 0, 1) := by decide +kernel
theorem dX9_moves_78 : decode cX9_moves 78 = .ok (.getfield 25, 3) := by decide +kernel
theorem dX9_moves_81 : decode cX9_moves 81 = .ok (.iconst 3, 1) := by decide +kernel
theorem dX9_moves_82 : decode cX9_moves 82 = .ok (.iaload, 1) := by decide +kernel
theorem dX9_moves_83 : decode cX9_moves 83 = .ok (.if_icmp .ge 96, 3) := by decide +kernel
theorem dX9_moves_86 : decode cX9_moves 86 = .ok (.aload_n 0, 1) := by decide +kernel
theorem dX9_moves_87 : decode cX9_moves 87 = .ok (.getfield 47, 3) := by decide +kernel
theorem dX9_moves_90 : decode cX9_moves 90 = .ok (.iconst 3, 1) := by decide +kernel
theorem dX9_moves_91 : decode cX9_moves 91 = .ok (.iload_n 3, 1) := by decide +kernel
theorem dX9_moves_92 : decode cX9_moves 92 = .ok (.imul, 1) := by decide +kernel
theorem dX9_moves_93 : decode cX9_moves 93 = .ok (.iaload, 1) := by decide +kernel
theorem dX9_moves_94 : decode cX9_moves 94 = .ok (.aload_n 0, 1) := by decide +kernel
theorem dX9_moves_95 : decode cX9_moves 95 = .ok (.getfield 44, 3) := by decide +kernel
theorem dX9_moves_98 : decode cX9_moves 98 = .ok (.iconst 3, 1) := by decide +kernel
theorem dX9_moves_99 : decode cX9_moves 99 = .ok (.iload_n 3, 1) := by decide +kernel
theorem dX9_moves_100 : decode cX9_moves 100 = .ok (.imul, 1) := by decide +kernel
theorem dX9_moves_101 : decode cX9_moves 101 = .ok (.iaload, 1) := by decide +kernel
theorem dX9_moves_102 : decode cX9_moves 102 = .ok (.if_icmp .ne 53, 3) := by decide +kernel
theorem dX9_moves_105 : decode cX9_moves 105 = .ok (.aload_n 0, 1) := by decide +kernel
theorem dX9_moves_106 : decode cX9_moves 106 = .ok (.getfield 47, 3) := by decide +kernel
theorem dX9_moves_109 : decode cX9_moves 109 = .ok (.iconst 3, 1) := by decide +kernel
theorem dX9_moves_110 : decode cX9_moves 110 = .ok (.iload_n 3, 1) := by decide +kernel
theorem dX9_moves_111 : decode cX9_moves 111 = .ok (.imul, 1) := by decide +kernel
theorem dX9_moves_112 : decode cX9_moves 112 = .ok (.iconst 1, 1) := by decide +kernel
theorem dX9_moves_113 : decode cX9_moves 113 = .ok (.iadd, 1) := by decide +kernel
theorem dX9_moves_114 : decode cX9_moves 114 = .ok (.iaload, 1) := by decide +kernel
theorem dX9_moves_115 : decode cX9_moves 115 = .ok (.aload_n 0, 1) := by decide +kernel
theorem dX9_moves_116 : decode cX9_moves 116 = .ok (.getfield 44, 3) := by decide +kernel
theorem dX9_moves_119 : decode cX9_moves 119 = .ok (.iconst 3, 1) := by decide +kernel
theorem dX9_moves_120 : decode cX9_moves 120 = .ok (.iload_n 3, 1) := by decide +kernel
theorem dX9_moves_121 : decode cX9_moves 121 = .ok (.imul, 1) := by decide +kernel
theorem dX9_moves_122 : decode cX9_moves 122 = .ok (.iconst 1, 1) := by decide +kernel
theorem dX9_moves_123 : decode cX9_moves 123 = .ok (.iadd, 1) := by decide +kernel
theorem dX9_moves_124 : decode cX9_moves 124 = .ok (.iaload, 1) := by decide +kernel
theorem dX9_moves_125 : decode cX9_moves 125 = .ok (.if_icmp .ne 30, 3) := by decide +kernel
theorem dX9_moves_128 : decode cX9_moves 128 = .ok (.aload_n 0, 1) := by decide +kernel
theorem dX9_moves_129 : decode cX9_moves 129 = .ok (.getfield 47, 3) := by decide +kernel
theorem dX9_moves_132 : decode cX9_moves 132 = .ok (.iconst 3, 1) := by decide +kernel
theorem dX9_moves_133 : decode cX9_moves 133 = .ok (.iload_n 3, 1) := by decide +kernel
theorem dX9_moves_134 : decode cX9_moves 134 = .ok (.imul, 1) := by decide +kernel
theorem dX9_moves_135 : decode cX9_moves 135 = .ok (.iconst 2, 1) := by decide +kernel
theorem dX9_moves_136 : decode cX9_moves 136 = .ok (.iadd, 1) := by decide +kernel
theorem dX9_moves_137 : decode cX9_moves 137 = .ok (.iaload, 1) := by decide +kernel
theorem dX9_moves_138 : decode cX9_moves 138 = .ok (.aload_n 0, 1) := by decide +kernel
theorem dX9_moves_139 : decode cX9_moves 139 = .ok (.getfield 44, 3) := by decide +kernel
theorem dX9_moves_142 : decode cX9_moves 142 = .ok (.iconst 3, 1) := by decide +kernel
theorem dX9_moves_143 : decode cX9_moves 143 = .ok (.iload_n 3, 1) := by decide +kernel
theorem dX9_moves_144 : decode cX9_moves 144 = .ok (.imul, 1) := by decide +kernel
theorem dX9_moves_145 : decode cX9_moves 145 = .ok (.iconst 2, 1) := by decide +kernel
theorem dX9_moves_146 : decode cX9_moves 146 = .ok (.iadd, 1) := by decide +kernel
theorem dX9_moves_147 : decode cX9_moves 147 = .ok (.iaload, 1) := by decide +kernel
theorem dX9_moves_148 : decode cX9_moves 148 = .ok (.if_icmp .ne 7, 3) := by decide +kernel
theorem dX9_moves_151 : decode cX9_moves 151 = .ok (.iconst 1, 1) := by decide +kernel
theorem dX9_moves_152 : decode cX9_moves 152 = .ok (.goto 4, 3) := by decide +kernel
theorem dX9_moves_155 : decode cX9_moves 155 = .ok (.iconst 0, 1) := by decide +kernel
theorem dX9_moves_156 : decode cX9_moves 156 = .ok (.istore 4, 2) := by decide +kernel
theorem dX9_moves_158 : decode cX9_moves 158 = .ok (.iload_n 2, 1) := by decide +kernel
theorem dX9_moves_159 : decode cX9_moves 159 = .ok (.iload 4, 2) := by decide +kernel
theorem dX9_moves_161 : decode cX9_moves 161 = .ok (.ifCond .eq 7, 3) := by decide +kernel
theorem dX9_moves_164 : decode cX9_moves 164 = .ok (.iconst 0, 1) := by decide +kernel
theorem dX9_moves_165 : decode cX9_moves 165 = .ok (.goto 6, 3) := by decide +kernel
theorem dX9_moves_168 : decode cX9_moves 168 = .ok (.iconst 1, 1) := by decide +kernel
theorem dX9_moves_169 : decode cX9_moves 169 = .ok (.iload_n 3, 1) := by decide +kernel
theorem dX9_moves_170 : decode cX9_moves 170 = .ok (.ishl, 1) := by decide +kernel
theorem dX9_moves_171 : decode cX9_moves 171 = .ok (.ior, 1) := by decide +kernel
theorem dX9_moves_172 : decode cX9_moves 172 = .ok (.istore_n 2, 1) := by decide +kernel
theorem dX9_moves_173 : decode cX9_moves 173 = .ok (.iinc 3 1, 3) := by decide +kernel
theorem dX9_moves_176 : decode cX9_moves 176 = .ok (.goto (-100), 3) := by decide +kernel
theorem dX9_moves_179 : decode cX9_moves 179 = .ok (.iload_n 2, 1) := by decide +kernel
theorem dX9_moves_180 : decode cX9_moves 180 = .ok (.ireturn, 1) := by decide +kernel
theorem dX9_lastBy_0 : decode cX9_lastBy 0 = .ok (.aload_n 0, 1) := by decide +kernel
theorem dX9_lastBy_1 : decode cX9_lastBy 1 = .ok (.getfield 25, 3) := by decide +kernel
theorem dX9_lastBy_4 : decode cX9_lastBy 4 = .ok (.iconst 0, 1) := by decide +kernel
theorem dX9_lastBy_5 : decode cX9_lastBy 5 = .ok (.aload_n 0, 1) := by decide +kernel
theorem dX9_lastBy_6 : decode cX9_lastBy 6 = .ok (.getfield 31, 3) := by decide +kernel
theorem dX9_lastBy_9 : decode cX9_lastBy 9 = .ok (.iconst 0, 1) := by decide +kernel
theorem dX9_lastBy_10 : decode cX9_lastBy 10 = .ok (.invokestatic 145, 3) := by decide +kernel
theorem dX9_lastBy_13 : decode cX9_lastBy 13 = .ok (.aload_n 0, 1) := by decide +kernel
theorem dX9_lastBy_14 : decode cX9_lastBy 14 = .ok (.getfield 31, 3) := by decide +kernel
theorem dX9_lastBy_17 : decode cX9_lastBy 17 = .ok (.iload_n 1, 1) := by decide +kernel
theorem dX9_lastBy_18 : decode cX9_lastBy 18 = .ok (.iload_n 2, 1) := by decide +kernel
theorem dX9_lastBy_19 : decode cX9_lastBy 19 = .ok (.iastore, 1) := by decide +kernel
theorem dX9_lastBy_20 : decode cX9_lastBy 20 = .ok (.aload_n 0, 1) := by decide +kernel
theorem dX9_lastBy_21 : decode cX9_lastBy 21 = .ok (.getfield 31, 3) := by decide +kernel
theorem dX9_lastBy_24 : decode cX9_lastBy 24 = .ok (.invokestatic 215, 3) := by decide +kernel
theorem dX9_lastBy_27 : decode cX9_lastBy 27 = .ok (.aload_n 0, 1) := by decide +kernel
theorem dX9_lastBy_28 : decode cX9_lastBy 28 = .ok (.aload_n 0, 1) := by decide +kernel
theorem dX9_lastBy_29 : decode cX9_lastBy 29 = .ok (.getfield 31, 3) := by decide +kernel
theorem dX9_lastBy_32 : decode cX9_lastBy 32 = .ok (.invokevirtual 198, 3) := by decide +kernel
theorem dX9_lastBy_35 : decode cX9_lastBy 35 = .ok (.aload_n 0, 1) := by decide +kernel
theorem dX9_lastBy_36 : decode cX9_lastBy 36 = .ok (.getfield 31, 3) := by decide +kernel
theorem dX9_lastBy_39 : decode cX9_lastBy 39 = .ok (.invokestatic 222, 3) := by decide +kernel
theorem dX9_lastBy_42 : decode cX9_lastBy 42 = .ok (.ireturn, 1) := by decide +kernel
theorem dX9_room_0 : decode cX9_room 0 = .ok (.aload_n 0, 1) := by decide +kernel
theorem dX9_room_1 : decode cX9_room 1 = .ok (.iload_n 1, 1) := by decide +kernel
theorem dX9_room_2 : decode cX9_room 2 = .ok (.invokevirtual 202, 3) := by decide +kernel
theorem dX9_room_5 : decode cX9_room 5 = .ok (.ifCond .eq 17, 3) := by decide +kernel
theorem dX9_room_8 : decode cX9_room 8 = .ok (.aload_n 0, 1) := by decide +kernel
theorem dX9_room_9 : decode cX9_room 9 = .ok (.getfield 25, 3) := by decide +kernel
theorem dX9_room_12 : decode cX9_room 12 = .ok (.iconst 5, 1) := by decide +kernel
theorem dX9_room_13 : decode cX9_room 13 = .ok (.iconst 4, 1) := by decide +kernel
theorem dX9_room_14 : decode cX9_room 14 = .ok (.iload_n 1, 1) := by decide +kernel
theorem dX9_room_15 : decode cX9_room 15 = .ok (.imul, 1) := by decide +kernel
theorem dX9_room_16 : decode cX9_room 16 = .ok (.iadd, 1) := by decide +kernel
theorem dX9_room_17 : decode cX9_room 17 = .ok (.iaload, 1) := by decide +kernel
theorem dX9_room_18 : decode cX9_room 18 = .ok (.iconst 4, 1) := by decide +kernel
theorem dX9_room_19 : decode cX9_room 19 = .ok (.if_icmp .eq 6, 3) := by decide +kernel
theorem dX9_room_22 : decode cX9_room 22 = .ok (.ldc 70, 2) := by decide +kernel
theorem dX9_room_24 : decode cX9_room 24 = .ok (.ireturn, 1) := by decide +kernel
theorem dX9_room_25 : decode cX9_room 25 = .ok (.iconst 5, 1) := by decide +kernel
theorem dX9_room_26 : decode cX9_room 26 = .ok (.iconst 4, 1) := by decide +kernel
theorem dX9_room_27 : decode cX9_room 27 = .ok (.iload_n 1, 1) := by decide +kernel
theorem dX9_room_28 : decode cX9_room 28 = .ok (.imul, 1) := by decide +kernel
theorem dX9_room_29 : decode cX9_room 29 = .ok (.iadd, 1) := by decide +kernel
theorem dX9_room_30 : decode cX9_room 30 = .ok (.iconst 1, 1) := by decide +kernel
theorem dX9_room_31 : decode cX9_room 31 = .ok (.iadd, 1) := by decide +kernel
theorem dX9_room_32 : decode cX9_room 32 = .ok (.istore_n 2, 1) := by decide +kernel
theorem dX9_room_33 : decode cX9_room 33 = .ok (.aload_n 0, 1) := by decide +kernel
theorem dX9_room_34 : decode cX9_room 34 = .ok (.iload_n 2, 1) := by decide +kernel
theorem dX9_room_35 : decode cX9_room 35 = .ok (.aload_n 0, 1) := by decide +kernel
theorem dX9_room_36 : decode cX9_room 36 = .ok (.getfield 25, 3) := by decide +kernel
theorem dX9_room_39 : decode cX9_room 39 = .ok (.iload_n 2, 1) := by decide +kernel
theorem dX9_room_40 : decode cX9_room 40 = .ok (.iaload, 1) := by decide +kernel
theorem dX9_room_41 : decode cX9_room 41 = .ok (.invokevirtual 225, 3) := by decide +kernel
theorem dX9_room_44 : decode cX9_room 44 = .ok (.istore_n 3, 1) := by decide +kernel
theorem dX9_room_45 : decode cX9_room 45 = .ok (.bipush 20, 2) := by decide +kernel
theorem dX9_room_47 : decode cX9_room 47 = .ok (.istore 4, 2) := by decide +kernel
theorem dX9_room_49 : decode cX9_room 49 = .ok (.iload 4, 2) := by decide +kernel
theorem dX9_room_51 : decode cX9_room 51 = .ok (.aload_n 0, 1) := by decide +kernel
theorem dX9_room_52 : decode cX9_room 52 = .ok (.getfield 25, 3) := by decide +kernel
theorem dX9_room_55 : decode cX9_room 55 = .ok (.iload_n 2, 1) := by decide +kernel
theorem dX9_room_56 : decode cX9_room 56 = .ok (.iaload, 1) := by decide +kernel
theorem dX9_room_57 : decode cX9_room 57 = .ok (.if_icmp .le 20, 3) := by decide +kernel
theorem dX9_room_60 : decode cX9_room 60 = .ok (.aload_n 0, 1) := by decide +kernel
theorem dX9_room_61 : decode cX9_room 61 = .ok (.iload_n 2, 1) := by decide +kernel
theorem dX9_room_62 : decode cX9_room 62 = .ok (.iload 4, 2) := by decide +kernel
theorem dX9_room_64 : decode cX9_room 64 = .ok (.invokevirtual 225, 3) := by decide +kernel
theorem dX9_room_67 : decode cX9_room 67 = .ok (.iload_n 3, 1) := by decide +kernel
theorem dX9_room_68 : decode cX9_room 68 = .ok (.if_icmp .eq 9, 3) := by decide +kernel
theorem dX9_room_71 : decode cX9_room 71 = .ok (.iinc 4 (-1), 3) := by decide +kernel
theorem dX9_room_74 : decode cX9_room 74 = .ok (.goto (-25), 3) := by decide +kernel
theorem dX9_room_77 : decode cX9_room 77 = .ok (.iload 4, 2) := by decide +kernel
theorem dX9_room_79 : decode cX9_room 79 = .ok (.ireturn, 1) := by decide +kernel
theorem dX9_restless_0 : decode cX9_restless 0 = .ok (.aload_n 0, 1) := by decide +kernel
theorem dX9_restless_1 : decode cX9_restless 1 = .ok (.invokevirtual 191, 3) := by decide +kernel
theorem dX9_restless_4 : decode cX9_restless 4 = .ok (.ifCond .ne 6, 3) := by decide +kernel
theorem dX9_restless_7 : decode cX9_restless 7 = .ok (.ldc 194, 2) := by decide +kernel
theorem dX9_restless_9 : decode cX9_restless 9 = .ok (.ireturn, 1) := by decide +kernel
theorem dX9_restless_10 : decode cX9_restless 10 = .ok (.iconst 1, 1) := by decide +kernel
theorem dX9_restless_11 : decode cX9_restless 11 = .ok (.istore_n 1, 1) := by decide +kernel
theorem dX9_restless_12 : decode cX9_restless 12 = .ok (.iload_n 1, 1) := by decide +kernel
theorem dX9_restless_13 : decode cX9_restless 13 = .ok (.bipush 88, 2) := by decide +kernel
theorem dX9_restless_15 : decode cX9_restless 15 = .ok (.if_icmp .ge 25, 3) := by decide +kernel
theorem dX9_restless_18 : decode cX9_restless 18 = .ok (.aload_n 0, 1) := by decide +kernel
theorem dX9_restless_19 : decode cX9_restless 19 = .ok (.iconst 2, 1) := by decide +kernel
theorem dX9_restless_20 : decode cX9_restless 20 = .ok (.iload_n 1, 1) := by decide +kernel
theorem dX9_restless_21 : decode cX9_restless 21 = .ok (.invokevirtual 225, 3) := by decide +kernel
theorem dX9_restless_24 : decode cX9_restless 24 = .ok (.pop, 1) := by decide +kernel
theorem dX9_restless_25 : decode cX9_restless 25 = .ok (.aload_n 0, 1) := by decide +kernel
theorem dX9_restless_26 : decode cX9_restless 26 = .ok (.getfield 169, 3) := by decide +kernel
theorem dX9_restless_29 : decode cX9_restless 29 = .ok (.ifCond .le 5, 3) := by decide +kernel
theorem dX9_restless_32 : decode cX9_restless 32 = .ok (.iload_n 1, 1) := by decide +kernel
theorem dX9_restless_33 : decode cX9_restless 33 = .ok (.ireturn, 1) := by decide +kernel
theorem dX9_restless_34 : decode cX9_restless 34 = .ok (.iinc 1 1, 3) := by decide +kernel
theorem dX9_restless_37 : decode cX9_restless 37 = .ok (.goto (-25), 3) := by decide +kernel
theorem dX9_restless_40 : decode cX9_restless 40 = .ok (.ldc 56, 2) := by decide +kernel
theorem dX9_restless_42 : decode cX9_restless 42 = .ok (.ireturn, 1) := by decide +kernel
theorem dX9_isSeen_0 : decode cX9_isSeen 0 = .ok (.aload_n 0, 1) := by decide +kernel
theorem dX9_isSeen_1 : decode cX9_isSeen 1 = .ok (.getfield 25, 3) := by decide +kernel
theorem dX9_isSeen_4 : decode cX9_isSeen 4 = .ok (.iconst 0, 1) := by decide +kernel
theorem dX9_isSeen_5 : decode cX9_isSeen 5 = .ok (.aload_n 0, 1) := by decide +kernel
theorem dX9_isSeen_6 : decode cX9_isSeen 6 = .ok (.getfield 31, 3) := by decide +kernel
theorem dX9_isSeen_9 : decode cX9_isSeen 9 = .ok (.iconst 0, 1) := by decide +kernel
theorem dX9_isSeen_10 : decode cX9_isSeen 10 = .ok (.invokestatic 145, 3) := by decide +kernel
theorem dX9_isSeen_13 : decode cX9_isSeen 13 = .ok (.aload_n 0, 1) := by decide +kernel
theorem dX9_isSeen_14 : decode cX9_isSeen 14 = .ok (.getfield 31, 3) := by decide +kernel
theorem dX9_isSeen_17 : decode cX9_isSeen 17 = .ok (.iload 4, 2) := by decide +kernel
theorem dX9_isSeen_19 : decode cX9_isSeen 19 = .ok (.iload 5, 2) := by decide +kernel
theorem dX9_isSeen_21 : decode cX9_isSeen 21 = .ok (.iastore, 1) := by decide +kernel
theorem dX9_isSeen_22 : decode cX9_isSeen 22 = .ok (.iconst 1, 1) := by decide +kernel
theorem dX9_isSeen_23 : decode cX9_isSeen 23 = .ok (.istore 6, 2) := by decide +kernel
theorem dX9_isSeen_25 : decode cX9_isSeen 25 = .ok (.iconst 0, 1) := by decide +kernel
theorem dX9_isSeen_26 : decode cX9_isSeen 26 = .ok (.istore 7, 2) := by decide +kernel
theorem dX9_isSeen_28 : decode cX9_isSeen 28 = .ok (.iload 7, 2) := by decide +kernel
theorem dX9_isSeen_30 : decode cX9_isSeen 30 = .ok (.iload_n 3, 1) := by decide +kernel
theorem dX9_isSeen_31 : decode cX9_isSeen 31 = .ok (.if_icmp .ge 54, 3) := by decide +kernel
theorem dX9_isSeen_34 : decode cX9_isSeen 34 = .ok (.aload_n 0, 1) := by decide +kernel
theorem dX9_isSeen_35 : decode cX9_isSeen 35 = .ok (.aload_n 0, 1) := by decide +kernel
theorem dX9_isSeen_36 : decode cX9_isSeen 36 = .ok (.getfield 31, 3) := by decide +kernel
theorem dX9_isSeen_39 : decode cX9_isSeen 39 = .ok (.invokevirtual 182, 3) := by decide +kernel
theorem dX9_isSeen_42 : decode cX9_isSeen 42 = .ok (.pop, 1) := by decide +kernel
theorem dX9_isSeen_43 : decode cX9_isSeen 43 = .ok (.iload 6, 2) := by decide +kernel
theorem dX9_isSeen_45 : decode cX9_isSeen 45 = .ok (.ifCond .eq 31, 3) := by decide +kernel
theorem dX9_isSeen_48 : decode cX9_isSeen 48 = .ok (.aload_n 0, 1) := by decide +kernel
theorem dX9_isSeen_49 : decode cX9_isSeen 49 = .ok (.getfield 31, 3) := by decide +kernel
theorem dX9_isSeen_52 : decode cX9_isSeen 52 = .ok (.iconst 5, 1) := by decide +kernel
theorem dX9_isSeen_53 : decode cX9_isSeen 53 = .ok (.iconst 4, 1) := by decide +kernel
theorem dX9_isSeen_54 : decode cX9_isSeen 54 = .ok (.iload_n 1, 1) := by decide +kernel
theorem dX9_isSeen_55 : decode cX9_isSeen 55 = .ok (.imul, 1) := by decide +kernel
theorem dX9_isSeen_56 : decode cX9_isSeen 56 = .ok (.iadd, 1) := by decide +kernel
theorem dX9_isSeen_57 : decode cX9_isSeen 57 = .ok (.iconst 2, 1) := by decide +kernel
theorem dX9_isSeen_58 : decode cX9_isSeen 58 = .ok (.iadd, 1) := by decide +kernel
theorem dX9_isSeen_59 : decode cX9_isSeen 59 = .ok (.iaload, 1) := by decide +kernel
theorem dX9_isSeen_60 : decode cX9_isSeen 60 = .ok (.aload_n 0, 1) := by decide +kernel
theorem dX9_isSeen_61 : decode cX9_isSeen 61 = .ok (.getfield 16, 3) := by decide +kernel
theorem dX9_isSeen_64 : decode cX9_isSeen 64 = .ok (.iload_n 2, 1) := by decide +kernel
theorem dX9_isSeen_65 : decode cX9_isSeen 65 = .ok (.iload 7, 2) := by decide +kernel
theorem dX9_isSeen_67 : decode cX9_isSeen 67 = .ok (.iadd, 1) := by decide +kernel
theorem dX9_isSeen_68 : decode cX9_isSeen 68 = .ok (.iaload, 1) := by decide +kernel
theorem dX9_isSeen_69 : decode cX9_isSeen 69 = .ok (.if_icmp .ne 7, 3) := by decide +kernel
theorem dX9_isSeen_72 : decode cX9_isSeen 72 = .ok (.iconst 1, 1) := by decide +kernel
theorem dX9_isSeen_73 : decode cX9_isSeen 73 = .ok (.goto 4, 3) := by decide +kernel
theorem dX9_isSeen_76 : decode cX9_isSeen 76 = .ok (.iconst 0, 1) := by decide +kernel
theorem dX9_isSeen_77 : decode cX9_isSeen 77 = .ok (.istore 6, 2) := by decide +kernel
theorem dX9_isSeen_79 : decode cX9_isSeen 79 = .ok (.iinc 7 1, 3) := by decide +kernel
theorem dX9_isSeen_82 : decode cX9_isSeen 82 = .ok (.goto (-54), 3) := by decide +kernel
theorem dX9_isSeen_85 : decode cX9_isSeen 85 = .ok (.iload 6, 2) := by decide +kernel
theorem dX9_isSeen_87 : decode cX9_isSeen 87 = .ok (.ireturn, 1) := by decide +kernel
theorem dX9_fits_0 : decode cX9_fits 0 = .ok (.aload_n 0, 1) := by decide +kernel
theorem dX9_fits_1 : decode cX9_fits 1 = .ok (.iload_n 1, 1) := by decide +kernel
theorem dX9_fits_2 : decode cX9_fits 2 = .ok (.invokevirtual 202, 3) := by decide +kernel
theorem dX9_fits_5 : decode cX9_fits 5 = .ok (.ifCond .eq 31, 3) := by decide +kernel
theorem dX9_fits_8 : decode cX9_fits 8 = .ok (.iload_n 2, 1) := by decide +kernel
theorem dX9_fits_9 : decode cX9_fits 9 = .ok (.invokestatic 66, 3) := by decide +kernel
theorem dX9_fits_12 : decode cX9_fits 12 = .ok (.ifCond .eq 24, 3) := by decide +kernel
theorem dX9_fits_15 : decode cX9_fits 15 = .ok (.iload 4, 2) := by decide +kernel
theorem dX9_fits_17 : decode cX9_fits 17 = .ok (.iconst 1, 1) := by decide +kernel
theorem dX9_fits_18 : decode cX9_fits 18 = .ok (.bipush 12, 2) := by decide +kernel
theorem dX9_fits_20 : decode cX9_fits 20 = .ok (.invokestatic 62, 3) := by decide +kernel
theorem dX9_fits_23 : decode cX9_fits 23 = .ok (.ifCond .eq 13, 3) := by decide +kernel
theorem dX9_fits_26 : decode cX9_fits 26 = .ok (.iload 5, 2) := by decide +kernel
theorem dX9_fits_28 : decode cX9_fits 28 = .ok (.iconst 0, 1) := by decide +kernel
theorem dX9_fits_29 : decode cX9_fits 29 = .ok (.iconst 3, 1) := by decide +kernel
theorem dX9_fits_30 : decode cX9_fits 30 = .ok (.invokestatic 62, 3) := by decide +kernel
theorem dX9_fits_33 : decode cX9_fits 33 = .ok (.ifCond .ne 6, 3) := by decide +kernel
theorem dX9_fits_36 : decode cX9_fits 36 = .ok (.ldc 70, 2) := by decide +kernel
theorem dX9_fits_38 : decode cX9_fits 38 = .ok (.ireturn, 1) := by decide +kernel
theorem dX9_fits_39 : decode cX9_fits 39 = .ok (.aload_n 0, 1) := by decide +kernel
theorem dX9_fits_40 : decode cX9_fits 40 = .ok (.iload_n 2, 1) := by decide +kernel
theorem dX9_fits_41 : decode cX9_fits 41 = .ok (.invokevirtual 78, 3) := by decide +kernel
theorem dX9_fits_44 : decode cX9_fits 44 = .ok (.ifCond .eq 9, 3) := by decide +kernel
theorem dX9_fits_47 : decode cX9_fits 47 = .ok (.aload_n 0, 1) := by decide +kernel
theorem dX9_fits_48 : decode cX9_fits 48 = .ok (.iconst 1, 1) := by decide +kernel
theorem dX9_fits_49 : decode cX9_fits 49 = .ok (.invokevirtual 71, 3) := by decide +kernel
theorem dX9_fits_52 : decode cX9_fits 52 = .ok (.ireturn, 1) := by decide +kernel
theorem dX9_fits_53 : decode cX9_fits 53 = .ok (.aload_n 0, 1) := by decide +kernel
theorem dX9_fits_54 : decode cX9_fits 54 = .ok (.iload_n 2, 1) := by decide +kernel
theorem dX9_fits_55 : decode cX9_fits 55 = .ok (.iload_n 3, 1) := by decide +kernel
theorem dX9_fits_56 : decode cX9_fits 56 = .ok (.iload 4, 2) := by decide +kernel
theorem dX9_fits_58 : decode cX9_fits 58 = .ok (.invokevirtual 85, 3) := by decide +kernel
theorem dX9_fits_61 : decode cX9_fits 61 = .ok (.ifCond .ne 9, 3) := by decide +kernel
theorem dX9_fits_64 : decode cX9_fits 64 = .ok (.aload_n 0, 1) := by decide +kernel
theorem dX9_fits_65 : decode cX9_fits 65 = .ok (.iconst 2, 1) := by decide +kernel
theorem dX9_fits_66 : decode cX9_fits 66 = .ok (.invokevirtual 71, 3) := by decide +kernel
theorem dX9_fits_69 : decode cX9_fits 69 = .ok (.ireturn, 1) := by decide +kernel
theorem dX9_fits_70 : decode cX9_fits 70 = .ok (.bipush 40, 2) := by decide +kernel
theorem dX9_fits_72 : decode cX9_fits 72 = .ok (.iload_n 2, 1) := by decide +kernel
theorem dX9_fits_73 : decode cX9_fits 73 = .ok (.imul, 1) := by decide +kernel
theorem dX9_fits_74 : decode cX9_fits 74 = .ok (.iload_n 3, 1) := by decide +kernel
theorem dX9_fits_75 : decode cX9_fits 75 = .ok (.iadd, 1) := by decide +kernel
theorem dX9_fits_76 : decode cX9_fits 76 = .ok (.istore 6, 2) := by decide +kernel
theorem dX9_fits_78 : decode cX9_fits 78 = .ok (.iconst 5, 1) := by decide +kernel
theorem dX9_fits_79 : decode cX9_fits 79 = .ok (.iconst 4, 1) := by decide +kernel
theorem dX9_fits_80 : decode cX9_fits 80 = .ok (.iload_n 1, 1) := by decide +kernel
theorem dX9_fits_81 : decode cX9_fits 81 = .ok (.imul, 1) := by decide +kernel
theorem dX9_fits_82 : decode cX9_fits 82 = .ok (.iadd, 1) := by decide +kernel
theorem dX9_fits_83 : decode cX9_fits 83 = .ok (.istore 7, 2) := by decide +kernel
theorem dX9_fits_85 : decode cX9_fits 85 = .ok (.iconst 0, 1) := by decide +kernel
theorem dX9_fits_86 : decode cX9_fits 86 = .ok (.istore 8, 2) := by decide +kernel
theorem dX9_fits_88 : decode cX9_fits 88 = .ok (.iconst 0, 1) := by decide +kernel
theorem dX9_fits_89 : decode cX9_fits 89 = .ok (.istore 9, 2) := by decide +kernel
theorem dX9_fits_91 : decode cX9_fits 91 = .ok (.ldc 56, 2) := by decide +kernel
theorem dX9_fits_93 : decode cX9_fits 93 = .ok (.istore 10, 2) := by decide +kernel
theorem dX9_fits_95 : decode cX9_fits 95 = .ok (.iload 5, 2) := by decide +kernel
theorem dX9_fits_97 : decode cX9_fits 97 = .ok (.ifCond .ne 7, 3) := by decide +kernel
theorem dX9_fits_100 : decode cX9_fits 100 = .ok (.iconst 5, 1) := by decide +kernel
theorem dX9_fits_101 : decode cX9_fits 101 = .ok (.goto 16, 3) := by decide +kernel
theorem dX9_fits_104 : decode cX9_fits 104 = .ok (.iload 5, 2) := by decide +kernel
theorem dX9_fits_106 : decode cX9_fits 106 = .ok (.iconst 1, 1) := by decide +kernel
theorem dX9_fits_107 : decode cX9_fits 107 = .ok (.if_icmp .ne 8, 3) := by decide +kernel
theorem dX9_fits_110 : decode cX9_fits 110 = .ok (.bipush 20, 2) := by decide +kernel
theorem dX9_fits_112 : decode cX9_fits 112 = .ok (.goto 5, 3) := by decide +kernel
theorem dX9_fits_115 : decode cX9_fits 115 = .ok (.bipush 87, 2) := by decide +kernel
theorem dX9_fits_117 : decode cX9_fits 117 = .ok (.istore 11, 2) := by decide +kernel
theorem dX9_fits_119 : decode cX9_fits 119 = .ok (.iload 11, 2) := by decide +kernel
theorem dX9_fits_121 : decode cX9_fits 121 = .ok (.iload 5, 2) := by decide +kernel
theorem dX9_fits_123 : decode cX9_fits 123 = .ok (.iconst 1, 1) := by decide +kernel
theorem dX9_fits_124 : decode cX9_fits 124 = .ok (.if_icmp .ne 7, 3) := by decide +kernel
theorem dX9_fits_127 : decode cX9_fits 127 = .ok (.iconst (-1), 1) := by decide +kernel
theorem dX9_fits_128 : decode cX9_fits 128 = .ok (.goto 4, 3) := by decide +kernel
theorem dX9_fits_131 : decode cX9_fits 131 = .ok (.iconst 0, 1) := by decide +kernel
theorem dX9_fits_132 : decode cX9_fits 132 = .ok (.if_icmp .le 133, 3) := by decide +kernel
theorem dX9_fits_135 : decode cX9_fits 135 = .ok (.iload 5, 2) := by decide +kernel
theorem dX9_fits_137 : decode cX9_fits 137 = .ok (.iconst 1, 1) := by decide +kernel
theorem dX9_fits_138 : decode cX9_fits 138 = .ok (.if_icmp .gt 45, 3) := by decide +kernel
theorem dX9_fits_141 : decode cX9_fits 141 = .ok (.iload 5, 2) := by decide +kernel
theorem dX9_fits_143 : decode cX9_fits 143 = .ok (.ifCond .ne 24, 3) := by decide +kernel
theorem dX9_fits_146 : decode cX9_fits 146 = .ok (.aload_n 0, 1) := by decide +kernel
theorem dX9_fits_147 : decode cX9_fits 147 = .ok (.iload 11, 2) := by decide +kernel
theorem dX9_fits_149 : decode cX9_fits 149 = .ok (.aload_n 0, 1) := by decide +kernel
theorem dX9_fits_150 : decode cX9_fits 150 = .ok (.getfield 25, 3) := by decide +kernel
theorem dX9_fits_153 : decode cX9_fits 153 = .ok (.iload 7, 2) := by decide +kernel
theorem dX9_fits_155 : decode cX9_fits 155 = .ok (.iconst 1, 1) := by decide +kernel
theorem dX9_fits_156 : decode cX9_fits 156 = .ok (.iadd, 1) := by decide +kernel
theorem dX9_fits_157 : decode cX9_fits 157 = .ok (.iaload, 1) := by decide +kernel
theorem dX9_fits_158 : decode cX9_fits 158 = .ok (.invokevirtual 205, 3) := by decide +kernel
theorem dX9_fits_161 : decode cX9_fits 161 = .ok (.ifCond .eq 26, 3) := by decide +kernel
theorem dX9_fits_164 : decode cX9_fits 164 = .ok (.goto 19, 3) := by decide +kernel
theorem dX9_fits_167 : decode cX9_fits 167 = .ok (.aload_n 0, 1) := by decide +kernel
theorem dX9_fits_168 : decode cX9_fits 168 = .ok (.aload_n 0, 1) := by decide +kernel
theorem dX9_fits_169 : decode cX9_fits 169 = .ok (.getfield 25, 3) := by decide +kernel
theorem dX9_fits_172 : decode cX9_fits 172 = .ok (.iload 7, 2) := by decide +kernel
theorem dX9_fits_174 : decode cX9_fits 174 = .ok (.iaload, 1) := by decide +kernel
theorem dX9_fits_175 : decode cX9_fits 175 = .ok (.iload 11, 2) := by decide +kernel
theorem dX9_fits_177 : decode cX9_fits 177 = .ok (.invokevirtual 205, 3) := by decide +kernel
theorem dX9_fits_180 : decode cX9_fits 180 = .ok (.ifCond .eq 7, 3) := by decide +kernel
theorem dX9_fits_183 : decode cX9_fits 183 = .ok (.iconst 1, 1) := by decide +kernel
theorem dX9_fits_184 : decode cX9_fits 184 = .ok (.goto 4, 3) := by decide +kernel
theorem dX9_fits_187 : decode cX9_fits 187 = .ok (.iconst 0, 1) := by decide +kernel
theorem dX9_fits_188 : decode cX9_fits 188 = .ok (.istore 12, 2) := by decide +kernel
theorem dX9_fits_190 : decode cX9_fits 190 = .ok (.iload 12, 2) := by decide +kernel
theorem dX9_fits_192 : decode cX9_fits 192 = .ok (.ifCond .eq 67, 3) := by decide +kernel
theorem dX9_fits_195 : decode cX9_fits 195 = .ok (.aload_n 0, 1) := by decide +kernel
theorem dX9_fits_196 : decode cX9_fits 196 = .ok (.iload_n 1, 1) := by decide +kernel
theorem dX9_fits_197 : decode cX9_fits 197 = .ok (.iload 6, 2) := by decide +kernel
theorem dX9_fits_199 : decode cX9_fits 199 = .ok (.iload 4, 2) := by decide +kernel
theorem dX9_fits_201 : decode cX9_fits 201 = .ok (.iload 5, 2) := by decide +kernel
theorem dX9_fits_203 : decode cX9_fits 203 = .ok (.ifCond .ne 8, 3) := by decide +kernel
theorem dX9_fits_206 : decode cX9_fits 206 = .ok (.iload 7, 2) := by decide +kernel
theorem dX9_fits_208 : decode cX9_fits 208 = .ok (.goto 17, 3) := by decide +kernel
theorem dX9_fits_211 : decode cX9_fits 211 = .ok (.iload 5, 2) := by decide +kernel
theorem dX9_fits_213 : decode cX9_fits 213 = .ok (.iconst 1, 1) := by decide +kernel
theorem dX9_fits_214 : decode cX9_fits 214 = .ok (.if_icmp .ne 10, 3) := by decide +kernel
theorem dX9_fits_217 : decode cX9_fits 217 = .ok (.iload 7, 2) := by decide +kernel
theorem dX9_fits_219 : decode cX9_fits 219 = .ok (.iconst 1, 1) := by decide +kernel
theorem dX9_fits_220 : decode cX9_fits 220 = .ok (.iadd, 1) := by decide +kernel
theorem dX9_fits_221 : decode cX9_fits 221 = .ok (.goto 4, 3) := by decide +kernel
theorem dX9_fits_224 : decode cX9_fits 224 = .ok (.iconst 2, 1) := by decide +kernel
theorem dX9_fits_225 : decode cX9_fits 225 = .ok (.iload 11, 2) := by decide +kernel
theorem dX9_fits_227 : decode cX9_fits 227 = .ok (.invokevirtual 228, 3) := by decide +kernel
theorem dX9_fits_230 : decode cX9_fits 230 = .ok (.ifCond .eq 29, 3) := by decide +kernel
theorem dX9_fits_233 : decode cX9_fits 233 = .ok (.iload 8, 2) := by decide +kernel
theorem dX9_fits_235 : decode cX9_fits 235 = .ok (.iload 5, 2) := by decide +kernel
theorem dX9_fits_237 : decode cX9_fits 237 = .ok (.iconst 2, 1) := by decide +kernel
theorem dX9_fits_238 : decode cX9_fits 238 = .ok (.if_icmp .ge 10, 3) := by decide +kernel
theorem dX9_fits_241 : decode cX9_fits 241 = .ok (.iconst 1, 1) := by decide +kernel
theorem dX9_fits_242 : decode cX9_fits 242 = .ok (.iload 11, 2) := by decide +kernel
theorem dX9_fits_244 : decode cX9_fits 244 = .ok (.ishl, 1) := by decide +kernel
theorem dX9_fits_245 : decode cX9_fits 245 = .ok (.goto 4, 3) := by decide +kernel
theorem dX9_fits_248 : decode cX9_fits 248 = .ok (.iconst 0, 1) := by decide +kernel
theorem dX9_fits_249 : decode cX9_fits 249 = .ok (.ior, 1) := by decide +kernel
theorem dX9_fits_250 : decode cX9_fits 250 = .ok (.istore 8, 2) := by decide +kernel
theorem dX9_fits_252 : decode cX9_fits 252 = .ok (.iinc 9 1, 3) := by decide +kernel
theorem dX9_fits_255 : decode cX9_fits 255 = .ok (.iload 11, 2) := by decide +kernel
theorem dX9_fits_257 : decode cX9_fits 257 = .ok (.istore 10, 2) := by decide +kernel
theorem dX9_fits_259 : decode cX9_fits 259 = .ok (.iinc 11 (-1), 3) := by decide +kernel
theorem dX9_fits_262 : decode cX9_fits 262 = .ok (.goto (-143), 3) := by decide +kernel
theorem dX9_fits_265 : decode cX9_fits 265 = .ok (.aload_n 0, 1) := by decide +kernel
theorem dX9_fits_266 : decode cX9_fits 266 = .ok (.iload 5, 2) := by decide +kernel
theorem dX9_fits_268 : decode cX9_fits 268 = .ok (.iconst 2, 1) := by decide +kernel
theorem dX9_fits_269 : decode cX9_fits 269 = .ok (.if_icmp .ge 8, 3) := by decide +kernel
theorem dX9_fits_272 : decode cX9_fits 272 = .ok (.iload 8, 2) := by decide +kernel
theorem dX9_fits_274 : decode cX9_fits 274 = .ok (.goto 16, 3) := by decide +kernel
theorem dX9_fits_277 : decode cX9_fits 277 = .ok (.iload 5, 2) := by decide +kernel
theorem dX9_fits_279 : decode cX9_fits 279 = .ok (.iconst 2, 1) := by decide +kernel
theorem dX9_fits_280 : decode cX9_fits 280 = .ok (.if_icmp .ne 8, 3) := by decide +kernel
theorem dX9_fits_283 : decode cX9_fits 283 = .ok (.iload 9, 2) := by decide +kernel
theorem dX9_fits_285 : decode cX9_fits 285 = .ok (.goto 5, 3) := by decide +kernel
theorem dX9_fits_288 : decode cX9_fits 288 = .ok (.iload 10, 2) := by decide +kernel
theorem dX9_fits_290 : decode cX9_fits 290 = .ok (.invokevirtual 75, 3) := by decide +kernel
theorem dX9_fits_293 : decode cX9_fits 293 = .ok (.ireturn, 1) := by decide +kernel
theorem dX9_chance_0 : decode cX9_chance 0 = .ok (.aload_n 0, 1) := by decide +kernel
theorem dX9_chance_1 : decode cX9_chance 1 = .ok (.invokevirtual 191, 3) := by decide +kernel
theorem dX9_chance_4 : decode cX9_chance 4 = .ok (.ifCond .ne 7, 3) := by decide +kernel
theorem dX9_chance_7 : decode cX9_chance 7 = .ok (.ldc2_w 232, 3) := by decide +kernel
theorem dX9_chance_10 : decode cX9_chance 10 = .ok (.lreturn, 1) := by decide +kernel
theorem dX9_chance_11 : decode cX9_chance 11 = .ok (.iload_n 1, 1) := by decide +kernel
theorem dX9_chance_12 : decode cX9_chance 12 = .ok (.iconst 0, 1) := by decide +kernel
theorem dX9_chance_13 : decode cX9_chance 13 = .ok (.bipush 10, 2) := by decide +kernel
theorem dX9_chance_15 : decode cX9_chance 15 = .ok (.invokestatic 62, 3) := by decide +kernel
theorem dX9_chance_18 : decode cX9_chance 18 = .ok (.ifCond .eq 12, 3) := by decide +kernel
theorem dX9_chance_21 : decode cX9_chance 21 = .ok (.iload_n 2, 1) := by decide +kernel
theorem dX9_chance_22 : decode cX9_chance 22 = .ok (.iconst 0, 1) := by decide +kernel
theorem dX9_chance_23 : decode cX9_chance 23 = .ok (.iconst 1, 1) := by decide +kernel
theorem dX9_chance_24 : decode cX9_chance 24 = .ok (.invokestatic 62, 3) := by decide +kernel
theorem dX9_chance_27 : decode cX9_chance 27 = .ok (.ifCond .ne 7, 3) := by decide +kernel
theorem dX9_chance_30 : decode cX9_chance 30 = .ok (.ldc2_w 234, 3) := by decide +kernel
theorem dX9_chance_33 : decode cX9_chance 33 = .ok (.lreturn, 1) := by decide +kernel
theorem dX9_chance_34 : decode cX9_chance 34 = .ok (.iconst 0, 1) := by decide +kernel
theorem dX9_chance_35 : decode cX9_chance 35 = .ok (.istore_n 3, 1) := by decide +kernel
theorem dX9_chance_36 : decode cX9_chance 36 = .ok (.lconst 1, 1) := by decide +kernel
theorem dX9_chance_37 : decode cX9_chance 37 = .ok (.lstore 4, 2) := by decide +kernel
theorem dX9_chance_39 : decode cX9_chance 39 = .ok (.iconst 0, 1) := by decide +kernel
theorem dX9_chance_40 : decode cX9_chance 40 = .ok (.istore 6, 2) := by decide +kernel
theorem dX9_chance_42 : decode cX9_chance 42 = .ok (.iload 6, 2) := by decide +kernel
theorem dX9_chance_44 : decode cX9_chance 44 = .ok (.aload_n 0, 1) := by decide +kernel
theorem dX9_chance_45 : decode cX9_chance 45 = .ok (.getfield 25, 3) := by decide +kernel
theorem dX9_chance_48 : decode cX9_chance 48 = .ok (.iconst 3, 1) := by decide +kernel
theorem dX9_chance_49 : decode cX9_chance 49 = .ok (.iaload, 1) := by decide +kernel
theorem dX9_chance_50 : decode cX9_chance 50 = .ok (.if_icmp .ge 64, 3) := by decide +kernel
theorem dX9_chance_53 : decode cX9_chance 53 = .ok (.aload_n 0, 1) := by decide +kernel
theorem dX9_chance_54 : decode cX9_chance 54 = .ok (.getfield 25, 3) := by decide +kernel
theorem dX9_chance_57 : decode cX9_chance 57 = .ok (.iconst 5, 1) := by decide +kernel
theorem dX9_chance_58 : decode cX9_chance 58 = .ok (.iconst 4, 1) := by decide +kernel
theorem dX9_chance_59 : decode cX9_chance 59 = .ok (.iload 6, 2) := by decide +kernel
theorem dX9_chance_61 : decode cX9_chance 61 = .ok (.imul, 1) := by decide +kernel
theorem dX9_chance_62 : decode cX9_chance 62 = .ok (.iadd, 1) := by decide +kernel
theorem dX9_chance_63 : decode cX9_chance 63 = .ok (.iaload, 1) := by decide +kernel
theorem dX9_chance_64 : decode cX9_chance 64 = .ok (.iconst 4, 1) := by decide +kernel
theorem dX9_chance_65 : decode cX9_chance 65 = .ok (.if_icmp .ne 7, 3) := by decide +kernel
theorem dX9_chance_68 : decode cX9_chance 68 = .ok (.iconst 1, 1) := by decide +kernel
theorem dX9_chance_69 : decode cX9_chance 69 = .ok (.goto 4, 3) := by decide +kernel
theorem dX9_chance_72 : decode cX9_chance 72 = .ok (.iconst 0, 1) := by decide +kernel
theorem dX9_chance_73 : decode cX9_chance 73 = .ok (.istore 7, 2) := by decide +kernel
theorem dX9_chance_75 : decode cX9_chance 75 = .ok (.iload_n 3, 1) := by decide +kernel
theorem dX9_chance_76 : decode cX9_chance 76 = .ok (.iload 7, 2) := by decide +kernel
theorem dX9_chance_78 : decode cX9_chance 78 = .ok (.ifCond .eq 10, 3) := by decide +kernel
theorem dX9_chance_81 : decode cX9_chance 81 = .ok (.iconst 1, 1) := by decide +kernel
theorem dX9_chance_82 : decode cX9_chance 82 = .ok (.iload 6, 2) := by decide +kernel
theorem dX9_chance_84 : decode cX9_chance 84 = .ok (.ishl, 1) := by decide +kernel
theorem dX9_chance_85 : decode cX9_chance 85 = .ok (.goto 4, 3) := by decide +kernel
theorem dX9_chance_88 : decode cX9_chance 88 = .ok (.iconst 0, 1) := by decide +kernel
theorem dX9_chance_89 : decode cX9_chance 89 = .ok (.ior, 1) := by decide +kernel
theorem dX9_chance_90 : decode cX9_chance 90 = .ok (.istore_n 3, 1) := by decide +kernel
theorem dX9_chance_91 : decode cX9_chance 91 = .ok (.lload 4, 2) := by decide +kernel
theorem dX9_chance_93 : decode cX9_chance 93 = .ok (.iload 7, 2) := by decide +kernel
theorem dX9_chance_95 : decode cX9_chance 95 = .ok (.ifCond .eq 9, 3) := by decide +kernel
theorem dX9_chance_98 : decode cX9_chance 98 = .ok (.ldc2_w 236, 3) := by decide +kernel
theorem dX9_chance_101 : decode cX9_chance 101 = .ok (.goto 4, 3) := by decide +kernel
theorem dX9_chance_104 : decode cX9_chance 104 = .ok (.lconst 1, 1) := by decide +kernel
theorem dX9_chance_105 : decode cX9_chance 105 = .ok (.lmul, 1) := by decide +kernel
theorem dX9_chance_106 : decode cX9_chance 106 = .ok (.lstore 4, 2) := by decide +kernel
theorem dX9_chance_108 : decode cX9_chance 108 = .ok (.iinc 6 1, 3) := by decide +kernel
theorem dX9_chance_111 : decode cX9_chance 111 = .ok (.goto (-69), 3) := by decide +kernel
theorem dX9_chance_114 : decode cX9_chance 114 = .ok (.lconst 0, 1) := by decide +kernel
theorem dX9_chance_115 : decode cX9_chance 115 = .ok (.lstore 6, 2) := by decide +kernel
theorem dX9_chance_117 : decode cX9_chance 117 = .ok (.iconst 0, 1) := by decide +kernel
theorem dX9_chance_118 : decode cX9_chance 118 = .ok (.istore 8, 2) := by decide +kernel
theorem dX9_chance_120 : decode cX9_chance 120 = .ok (.iload 8, 2) := by decide +kernel
theorem dX9_chance_122 : decode cX9_chance 122 = .ok (.iload_n 3, 1) := by decide +kernel
theorem dX9_chance_123 : decode cX9_chance 123 = .ok (.if_icmp .gt 190, 3) := by decide +kernel
theorem dX9_chance_126 : decode cX9_chance 126 = .ok (.iload 8, 2) := by decide +kernel
theorem dX9_chance_128 : decode cX9_chance 128 = .ok (.iload_n 3, 1) := by decide +kernel
theorem dX9_chance_129 : decode cX9_chance 129 = .ok (.iconst (-1), 1) := by decide +kernel
theorem dX9_chance_130 : decode cX9_chance 130 = .ok (.ixor, 1) := by decide +kernel
theorem dX9_chance_131 : decode cX9_chance 131 = .ok (.iand, 1) := by decide +kernel
theorem dX9_chance_132 : decode cX9_chance 132 = .ok (.ifCond .ne 175, 3) := by decide +kernel
theorem dX9_chance_135 : decode cX9_chance 135 = .ok (.lconst 1, 1) := by decide +kernel
theorem dX9_chance_136 : decode cX9_chance 136 = .ok (.lstore 9, 2) := by decide +kernel
theorem dX9_chance_138 : decode cX9_chance 138 = .ok (.aload_n 0, 1) := by decide +kernel
theorem dX9_chance_139 : decode cX9_chance 139 = .ok (.getfield 25, 3) := by decide +kernel
theorem dX9_chance_142 : decode cX9_chance 142 = .ok (.iconst 0, 1) := by decide +kernel
theorem dX9_chance_143 : decode cX9_chance 143 = .ok (.aload_n 0, 1) := by decide +kernel
theorem dX9_chance_144 : decode cX9_chance 144 = .ok (.getfield 31, 3) := by decide +kernel
theorem dX9_chance_147 : decode cX9_chance 147 = .ok (.iconst 0, 1) := by decide +kernel
theorem dX9_chance_148 : decode cX9_chance 148 = .ok (.invokestatic 145, 3) := by decide +kernel
theorem dX9_chance_151 : decode cX9_chance 151 = .ok (.iconst 0, 1) := by decide +kernel
theorem dX9_chance_152 : decode cX9_chance 152 = .ok (.istore 11, 2) := by decide +kernel
theorem dX9_chance_154 : decode cX9_chance 154 = .ok (.iload 11, 2) := by decide +kernel
theorem dX9_chance_156 : decode cX9_chance 156 = .ok (.aload_n 0, 1) := by decide +kernel
theorem dX9_chance_157 : decode cX9_chance 157 = .ok (.getfield 25, 3) := by decide +kernel
theorem dX9_chance_160 : decode cX9_chance 160 = .ok (.iconst 3, 1) := by decide +kernel
theorem dX9_chance_161 : decode cX9_chance 161 = .ok (.iaload, 1) := by decide +kernel
theorem dX9_chance_162 : decode cX9_chance 162 = .ok (.if_icmp .ge 94, 3) := by decide +kernel
theorem dX9_chance_165 : decode cX9_chance 165 = .ok (.iconst 5, 1) := by decide +kernel
theorem dX9_chance_166 : decode cX9_chance 166 = .ok (.iconst 4, 1) := by decide +kernel
theorem dX9_chance_167 : decode cX9_chance 167 = .ok (.iload 11, 2) := by decide +kernel
theorem dX9_chance_169 : decode cX9_chance 169 = .ok (.imul, 1) := by decide +kernel
theorem dX9_chance_170 : decode cX9_chance 170 = .ok (.iadd, 1) := by decide +kernel
theorem dX9_chance_171 : decode cX9_chance 171 = .ok (.iconst 1, 1) := by decide +kernel
theorem dX9_chance_172 : decode cX9_chance 172 = .ok (.iadd, 1) := by decide +kernel
theorem dX9_chance_173 : decode cX9_chance 173 = .ok (.istore 12, 2) := by decide +kernel
theorem dX9_chance_175 : decode cX9_chance 175 = .ok (.lload 9, 2) := by decide +kernel
theorem dX9_chance_177 : decode cX9_chance 177 = .ok (.iload_n 3, 1) := by decide +kernel
theorem dX9_chance_178 : decode cX9_chance 178 = .ok (.iload 11, 2) := by decide +kernel
theorem dX9_chance_180 : decode cX9_chance 180 = .ok (.invokestatic 238, 3) := by decide +kernel
theorem dX9_chance_183 : decode cX9_chance 183 = .ok (.ifCond .ne 7, 3) := by decide +kernel
theorem dX9_chance_186 : decode cX9_chance 186 = .ok (.lconst 1, 1) := by decide +kernel
theorem dX9_chance_187 : decode cX9_chance 187 = .ok (.goto 23, 3) := by decide +kernel
theorem dX9_chance_190 : decode cX9_chance 190 = .ok (.iload 8, 2) := by decide +kernel
theorem dX9_chance_192 : decode cX9_chance 192 = .ok (.iload 11, 2) := by decide +kernel
theorem dX9_chance_194 : decode cX9_chance 194 = .ok (.invokestatic 238, 3) := by decide +kernel
theorem dX9_chance_197 : decode cX9_chance 197 = .ok (.ifCond .eq 8, 3) := by decide +kernel
theorem dX9_chance_200 : decode cX9_chance 200 = .ok (.iload_n 1, 1) := by decide +kernel
theorem dX9_chance_201 : decode cX9_chance 201 = .ok (.i2l, 1) := by decide +kernel
theorem dX9_chance_202 : decode cX9_chance 202 = .ok (.goto 8, 3) := by decide +kernel
theorem dX9_chance_205 : decode cX9_chance 205 = .ok (.bipush 10, 2) := by decide +kernel
theorem dX9_chance_207 : decode cX9_chance 207 = .ok (.iload_n 1, 1) := by decide +kernel
theorem dX9_chance_208 : decode cX9_chance 208 = .ok (.isub, 1) := by decide +kernel
theorem dX9_chance_209 : decode cX9_chance 209 = .ok (.i2l, 1) := by decide +kernel
theorem dX9_chance_210 : decode cX9_chance 210 = .ok (.lmul, 1) := by decide +kernel
theorem dX9_chance_211 : decode cX9_chance 211 = .ok (.lstore 9, 2) := by decide +kernel
theorem dX9_chance_213 : decode cX9_chance 213 = .ok (.aload_n 0, 1) := by decide +kernel
theorem dX9_chance_214 : decode cX9_chance 214 = .ok (.getfield 31, 3) := by decide +kernel
theorem dX9_chance_217 : decode cX9_chance 217 = .ok (.iload 12, 2) := by decide +kernel
theorem dX9_chance_219 : decode cX9_chance 219 = .ok (.dup2, 1) := by decide +kernel
theorem dX9_chance_220 : decode cX9_chance 220 = .ok (.iaload, 1) := by decide +kernel
theorem dX9_chance_221 : decode cX9_chance 221 = .ok (.iload 8, 2) := by decide +kernel
theorem dX9_chance_223 : decode cX9_chance 223 = .ok (.iload 11, 2) := by decide +kernel
theorem dX9_chance_225 : decode cX9_chance 225 = .ok (.invokestatic 238, 3) := by decide +kernel
theorem dX9_chance_228 : decode cX9_chance 228 = .ok (.ifCond .eq 19, 3) := by decide +kernel
theorem dX9_chance_231 : decode cX9_chance 231 = .ok (.aload_n 0, 1) := by decide +kernel
theorem dX9_chance_232 : decode cX9_chance 232 = .ok (.getfield 31, 3) := by decide +kernel
theorem dX9_chance_235 : decode cX9_chance 235 = .ok (.iload 12, 2) := by decide +kernel
theorem dX9_chance_237 : decode cX9_chance 237 = .ok (.iaload, 1) := by decide +kernel
theorem dX9_chance_238 : decode cX9_chance 238 = .ok (.bipush 20, 2) := by decide +kernel
theorem dX9_chance_240 : decode cX9_chance 240 = .ok (.if_icmp .ge 7, 3) := by decide +kernel
theorem dX9_chance_243 : decode cX9_chance 243 = .ok (.iconst 1, 1) := by decide +kernel
theorem dX9_chance_244 : decode cX9_chance 244 = .ok (.goto 4, 3) := by decide +kernel
theorem dX9_chance_247 : decode cX9_chance 247 = .ok (.iconst 0, 1) := by decide +kernel
theorem dX9_chance_248 : decode cX9_chance 248 = .ok (.iadd, 1) := by decide +kernel
theorem dX9_chance_249 : decode cX9_chance 249 = .ok (.iastore, 1) := by decide +kernel
theorem dX9_chance_250 : decode cX9_chance 250 = .ok (.iinc 11 1, 3) := by decide +kernel
theorem dX9_chance_253 : decode cX9_chance 253 = .ok (.goto (-99), 3) := by decide +kernel
theorem dX9_chance_256 : decode cX9_chance 256 = .ok (.aload_n 0, 1) := by decide +kernel
theorem dX9_chance_257 : decode cX9_chance 257 = .ok (.getfield 31, 3) := by decide +kernel
theorem dX9_chance_260 : decode cX9_chance 260 = .ok (.invokestatic 215, 3) := by decide +kernel
theorem dX9_chance_263 : decode cX9_chance 263 = .ok (.lload 9, 2) := by decide +kernel
theorem dX9_chance_265 : decode cX9_chance 265 = .ok (.lconst 0, 1) := by decide +kernel
theorem dX9_chance_266 : decode cX9_chance 266 = .ok (.lcmp, 1) := by decide +kernel
theorem dX9_chance_267 : decode cX9_chance 267 = .ok (.ifCond .le 40, 3) := by decide +kernel
theorem dX9_chance_270 : decode cX9_chance 270 = .ok (.aload_n 0, 1) := by decide +kernel
theorem dX9_chance_271 : decode cX9_chance 271 = .ok (.aload_n 0, 1) := by decide +kernel
theorem dX9_chance_272 : decode cX9_chance 272 = .ok (.getfield 31, 3) := by decide +kernel
theorem dX9_chance_275 : decode cX9_chance 275 = .ok (.invokevirtual 198, 3) := by decide +kernel
theorem dX9_chance_278 : decode cX9_chance 278 = .ok (.lload 6, 2) := by decide +kernel
theorem dX9_chance_280 : decode cX9_chance 280 = .ok (.aload_n 0, 1) := by decide +kernel
theorem dX9_chance_281 : decode cX9_chance 281 = .ok (.getfield 169, 3) := by decide +kernel
theorem dX9_chance_284 : decode cX9_chance 284 = .ok (.ifCond .ne 19, 3) := by decide +kernel
theorem dX9_chance_287 : decode cX9_chance 287 = .ok (.aload_n 0, 1) := by decide +kernel
theorem dX9_chance_288 : decode cX9_chance 288 = .ok (.aload_n 0, 1) := by decide +kernel
theorem dX9_chance_289 : decode cX9_chance 289 = .ok (.getfield 31, 3) := by decide +kernel
theorem dX9_chance_292 : decode cX9_chance 292 = .ok (.invokevirtual 179, 3) := by decide +kernel
theorem dX9_chance_295 : decode cX9_chance 295 = .ok (.ifCond .eq 8, 3) := by decide +kernel
theorem dX9_chance_298 : decode cX9_chance 298 = .ok (.lload 9, 2) := by decide +kernel
theorem dX9_chance_300 : decode cX9_chance 300 = .ok (.goto 4, 3) := by decide +kernel
theorem dX9_chance_303 : decode cX9_chance 303 = .ok (.lconst 0, 1) := by decide +kernel
theorem dX9_chance_304 : decode cX9_chance 304 = .ok (.ladd, 1) := by decide +kernel
theorem dX9_chance_305 : decode cX9_chance 305 = .ok (.lstore 6, 2) := by decide +kernel
theorem dX9_chance_307 : decode cX9_chance 307 = .ok (.iinc 8 1, 3) := by decide +kernel
theorem dX9_chance_310 : decode cX9_chance 310 = .ok (.goto (-190), 3) := by decide +kernel
