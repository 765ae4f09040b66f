theorem dX11_pickText_1 : decode cX11_pickText 1 = .ok (.invokevirtual 196, 3) := by decide +kernel
theorem dX11_pickText_4 : decode cX11_pickText 4 = .ok (.ifCond .eq 13, 3) := by decide +kernel
theorem dX11_pickText_7 : decode cX11_pickText 7 = .ok (.aload_n 0, 1) := by decide +kernel
theorem dX11_pickText_8 : decode cX11_pickText 8 = .ok (.iconst 0, 1) := by decide +kernel
theorem dX11_pickText_9 : decode cX11_pickText 9 = .ok (.bipush 11, 2) := by decide +kernel
theorem dX11_pickText_11 : decode cX11_pickText 11 = .ok (.invokevirtual 190, 3) := by decide +kernel
theorem dX11_pickText_14 : decode cX11_pickText 14 = .ok (.goto 4, 3) := by decide +kernel
theorem dX11_pickText_17 : decode cX11_pickText 17 = .ok (.iconst (-1), 1) := by decide +kernel
theorem dX11_pickText_18 : decode cX11_pickText 18 = .ok (.istore_n 1, 1) := by decide +kernel
theorem dX11_pickText_19 : decode cX11_pickText 19 = .ok (.aload_n 0, 1) := by decide +kernel
theorem dX11_pickText_20 : decode cX11_pickText 20 = .ok (.getfield 29, 3) := by decide +kernel
theorem dX11_pickText_23 : decode cX11_pickText 23 = .ok (.iconst (-1), 1) := by decide +kernel
theorem dX11_pickText_24 : decode cX11_pickText 24 = .ok (.if_icmp .ne 11, 3) := by decide +kernel
theorem dX11_pickText_27 : decode cX11_pickText 27 = .ok (.aload_n 0, 1) := by decide +kernel
theorem dX11_pickText_28 : decode cX11_pickText 28 = .ok (.iload_n 1, 1) := by decide +kernel
theorem dX11_pickText_29 : decode cX11_pickText 29 = .ok (.invokevirtual 200, 3) := by decide +kernel
theorem dX11_pickText_32 : decode cX11_pickText 32 = .ok (.goto 4, 3) := by decide +kernel
theorem dX11_pickText_35 : decode cX11_pickText 35 = .ok (.iconst 0, 1) := by decide +kernel
theorem dX11_pickText_36 : decode cX11_pickText 36 = .ok (.ireturn, 1) := by decide +kernel
theorem dX11_act_0 : decode cX11_act 0 = .ok (.aload_n 0, 1) := by decide +kernel
theorem dX11_act_1 : decode cX11_act 1 = .ok (.invokevirtual 175, 3) := by decide +kernel
theorem dX11_act_4 : decode cX11_act 4 = .ok (.istore_n 1, 1) := by decide +kernel
theorem dX11_act_5 : decode cX11_act 5 = .ok (.iconst 0, 1) := by decide +kernel
theorem dX11_act_6 : decode cX11_act 6 = .ok (.istore_n 2, 1) := by decide +kernel
theorem dX11_act_7 : decode cX11_act 7 = .ok (.aload_n 0, 1) := by decide +kernel
theorem dX11_act_8 : decode cX11_act 8 = .ok (.ldc 203, 2) := by decide +kernel
theorem dX11_act_10 : decode cX11_act 10 = .ok (.invokevirtual 205, 3) := by decide +kernel
theorem dX11_act_13 : decode cX11_act 13 = .ok (.ifCond .eq 10, 3) := by decide +kernel
theorem dX11_act_16 : decode cX11_act 16 = .ok (.aload_n 0, 1) := by decide +kernel
theorem dX11_act_17 : decode cX11_act 17 = .ok (.invokevirtual 209, 3) := by decide +kernel
theorem dX11_act_20 : decode cX11_act 20 = .ok (.goto 209, 3) := by decide +kernel
theorem dX11_act_23 : decode cX11_act 23 = .ok (.aload_n 0, 1) := by decide +kernel
theorem dX11_act_24 : decode cX11_act 24 = .ok (.ldc 212, 2) := by decide +kernel
theorem dX11_act_26 : decode cX11_act 26 = .ok (.invokevirtual 205, 3) := by decide +kernel
theorem dX11_act_29 : decode cX11_act 29 = .ok (.ifCond .eq 11, 3) := by decide +kernel
theorem dX11_act_32 : decode cX11_act 32 = .ok (.aload_n 0, 1) := by decide +kernel
theorem dX11_act_33 : decode cX11_act 33 = .ok (.invokevirtual 214, 3) := by decide +kernel
theorem dX11_act_36 : decode cX11_act 36 = .ok (.istore_n 2, 1) := by decide +kernel
theorem dX11_act_37 : decode cX11_act 37 = .ok (.goto 192, 3) := by decide +kernel
theorem dX11_act_40 : decode cX11_act 40 = .ok (.aload_n 0, 1) := by decide +kernel
theorem dX11_act_41 : decode cX11_act 41 = .ok (.ldc 217, 2) := by decide +kernel
theorem dX11_act_43 : decode cX11_act 43 = .ok (.invokevirtual 205, 3) := by decide +kernel
theorem dX11_act_46 : decode cX11_act 46 = .ok (.ifCond .eq 32, 3) := by decide +kernel
theorem dX11_act_49 : decode cX11_act 49 = .ok (.aload_n 0, 1) := by decide +kernel
theorem dX11_act_50 : decode cX11_act 50 = .ok (.iconst 0, 1) := by decide +kernel
theorem dX11_act_51 : decode cX11_act 51 = .ok (.bipush 63, 2) := by decide +kernel
theorem dX11_act_53 : decode cX11_act 53 = .ok (.invokevirtual 190, 3) := by decide +kernel
theorem dX11_act_56 : decode cX11_act 56 = .ok (.istore_n 3, 1) := by decide +kernel
theorem dX11_act_57 : decode cX11_act 57 = .ok (.aload_n 0, 1) := by decide +kernel
theorem dX11_act_58 : decode cX11_act 58 = .ok (.getfield 29, 3) := by decide +kernel
theorem dX11_act_61 : decode cX11_act 61 = .ok (.iconst (-1), 1) := by decide +kernel
theorem dX11_act_62 : decode cX11_act 62 = .ok (.if_icmp .ne 11, 3) := by decide +kernel
theorem dX11_act_65 : decode cX11_act 65 = .ok (.aload_n 0, 1) := by decide +kernel
theorem dX11_act_66 : decode cX11_act 66 = .ok (.iload_n 3, 1) := by decide +kernel
theorem dX11_act_67 : decode cX11_act 67 = .ok (.invokevirtual 219, 3) := by decide +kernel
theorem dX11_act_70 : decode cX11_act 70 = .ok (.goto 4, 3) := by decide +kernel
theorem dX11_act_73 : decode cX11_act 73 = .ok (.iconst 0, 1) := by decide +kernel
theorem dX11_act_74 : decode cX11_act 74 = .ok (.istore_n 2, 1) := by decide +kernel
theorem dX11_act_75 : decode cX11_act 75 = .ok (.goto 154, 3) := by decide +kernel
theorem dX11_act_78 : decode cX11_act 78 = .ok (.aload_n 0, 1) := by decide +kernel
theorem dX11_act_79 : decode cX11_act 79 = .ok (.ldc 222, 2) := by decide +kernel
theorem dX11_act_81 : decode cX11_act 81 = .ok (.invokevirtual 205, 3) := by decide +kernel
theorem dX11_act_84 : decode cX11_act 84 = .ok (.ifCond .eq 19, 3) := by decide +kernel
theorem dX11_act_87 : decode cX11_act 87 = .ok (.aload_n 0, 1) := by decide +kernel
theorem dX11_act_88 : decode cX11_act 88 = .ok (.getfield 7, 3) := by decide +kernel
theorem dX11_act_91 : decode cX11_act 91 = .ok (.bipush 6, 2) := by decide +kernel
theorem dX11_act_93 : decode cX11_act 93 = .ok (.aload_n 0, 1) := by decide +kernel
theorem dX11_act_94 : decode cX11_act 94 = .ok (.getfield 7, 3) := by decide +kernel
theorem dX11_act_97 : decode cX11_act 97 = .ok (.iconst 5, 1) := by decide +kernel
theorem dX11_act_98 : decode cX11_act 98 = .ok (.iaload, 1) := by decide +kernel
theorem dX11_act_99 : decode cX11_act 99 = .ok (.iastore, 1) := by decide +kernel
theorem dX11_act_100 : decode cX11_act 100 = .ok (.goto 129, 3) := by decide +kernel
theorem dX11_act_103 : decode cX11_act 103 = .ok (.aload_n 0, 1) := by decide +kernel
theorem dX11_act_104 : decode cX11_act 104 = .ok (.ldc 224, 2) := by decide +kernel
theorem dX11_act_106 : decode cX11_act 106 = .ok (.invokevirtual 205, 3) := by decide +kernel
theorem dX11_act_109 : decode cX11_act 109 = .ok (.ifCond .eq 10, 3) := by decide +kernel
theorem dX11_act_112 : decode cX11_act 112 = .ok (.aload_n 0, 1) := by decide +kernel
theorem dX11_act_113 : decode cX11_act 113 = .ok (.invokevirtual 118, 3) := by decide +kernel
theorem dX11_act_116 : decode cX11_act 116 = .ok (.goto 113, 3) := by decide +kernel
theorem dX11_act_119 : decode cX11_act 119 = .ok (.aload_n 0, 1) := by decide +kernel
theorem dX11_act_120 : decode cX11_act 120 = .ok (.ldc 226, 2) := by decide +kernel
theorem dX11_act_122 : decode cX11_act 122 = .ok (.invokevirtual 205, 3) := by decide +kernel
theorem dX11_act_125 : decode cX11_act 125 = .ok (.ifCond .eq 11, 3) := by decide +kernel
theorem dX11_act_128 : decode cX11_act 128 = .ok (.aload_n 0, 1) := by decide +kernel
theorem dX11_act_129 : decode cX11_act 129 = .ok (.invokevirtual 228, 3) := by decide +kernel
theorem dX11_act_132 : decode cX11_act 132 = .ok (.istore_n 3, 1) := by decide +kernel
theorem dX11_act_133 : decode cX11_act 133 = .ok (.goto 96, 3) := by decide +kernel
theorem dX11_act_136 : decode cX11_act 136 = .ok (.aload_n 0, 1) := by decide +kernel
theorem dX11_act_137 : decode cX11_act 137 = .ok (.ldc 231, 2) := by decide +kernel
theorem dX11_act_139 : decode cX11_act 139 = .ok (.invokevirtual 205, 3) := by decide +kernel
theorem dX11_act_142 : decode cX11_act 142 = .ok (.ifCond .eq 11, 3) := by decide +kernel
theorem dX11_act_145 : decode cX11_act 145 = .ok (.aload_n 0, 1) := by decide +kernel
theorem dX11_act_146 : decode cX11_act 146 = .ok (.invokevirtual 233, 3) := by decide +kernel
theorem dX11_act_149 : decode cX11_act 149 = .ok (.istore_n 2, 1) := by decide +kernel
theorem dX11_act_150 : decode cX11_act 150 = .ok (.goto 79, 3) := by decide +kernel
theorem dX11_act_153 : decode cX11_act 153 = .ok (.aload_n 0, 1) := by decide +kernel
theorem dX11_act_154 : decode cX11_act 154 = .ok (.ldc 236, 2) := by decide +kernel
theorem dX11_act_156 : decode cX11_act 156 = .ok (.invokevirtual 205, 3) := by decide +kernel
theorem dX11_act_159 : decode cX11_act 159 = .ok (.ifCond .eq 32, 3) := by decide +kernel
theorem dX11_act_162 : decode cX11_act 162 = .ok (.aload_n 0, 1) := by decide +kernel
theorem dX11_act_163 : decode cX11_act 163 = .ok (.iconst 1, 1) := by decide +kernel
theorem dX11_act_164 : decode cX11_act 164 = .ok (.bipush 20, 2) := by decide +kernel
theorem dX11_act_166 : decode cX11_act 166 = .ok (.invokevirtual 190, 3) := by decide +kernel
theorem dX11_act_169 : decode cX11_act 169 = .ok (.istore_n 3, 1) := by decide +kernel
theorem dX11_act_170 : decode cX11_act 170 = .ok (.aload_n 0, 1) := by decide +kernel
theorem dX11_act_171 : decode cX11_act 171 = .ok (.getfield 29, 3) := by decide +kernel
theorem dX11_act_174 : decode cX11_act 174 = .ok (.iconst (-1), 1) := by decide +kernel
theorem dX11_act_175 : decode cX11_act 175 = .ok (.if_icmp .ne 11, 3) := by decide +kernel
theorem dX11_act_178 : decode cX11_act 178 = .ok (.aload_n 0, 1) := by decide +kernel
theorem dX11_act_179 : decode cX11_act 179 = .ok (.iload_n 3, 1) := by decide +kernel
theorem dX11_act_180 : decode cX11_act 180 = .ok (.invokevirtual 238, 3) := by decide +kernel
theorem dX11_act_183 : decode cX11_act 183 = .ok (.goto 4, 3) := by decide +kernel
theorem dX11_act_186 : decode cX11_act 186 = .ok (.iconst 0, 1) := by decide +kernel
theorem dX11_act_187 : decode cX11_act 187 = .ok (.istore_n 2, 1) := by decide +kernel
theorem dX11_act_188 : decode cX11_act 188 = .ok (.goto 41, 3) := by decide +kernel
theorem dX11_act_191 : decode cX11_act 191 = .ok (.aload_n 0, 1) := by decide +kernel
theorem dX11_act_192 : decode cX11_act 192 = .ok (.ldc 241, 2) := by decide +kernel
theorem dX11_act_194 : decode cX11_act 194 = .ok (.invokevirtual 205, 3) := by decide +kernel
theorem dX11_act_197 : decode cX11_act 197 = .ok (.ifCond .eq 11, 3) := by decide +kernel
theorem dX11_act_200 : decode cX11_act 200 = .ok (.aload_n 0, 1) := by decide +kernel
theorem dX11_act_201 : decode cX11_act 201 = .ok (.invokevirtual 243, 3) := by decide +kernel
theorem dX11_act_204 : decode cX11_act 204 = .ok (.istore_n 2, 1) := by decide +kernel
theorem dX11_act_205 : decode cX11_act 205 = .ok (.goto 24, 3) := by decide +kernel
theorem dX11_act_208 : decode cX11_act 208 = .ok (.aload_n 0, 1) := by decide +kernel
theorem dX11_act_209 : decode cX11_act 209 = .ok (.ldc 246, 2) := by decide +kernel
theorem dX11_act_211 : decode cX11_act 211 = .ok (.invokevirtual 205, 3) := by decide +kernel
theorem dX11_act_214 : decode cX11_act 214 = .ok (.ifCond .eq 10, 3) := by decide +kernel
theorem dX11_act_217 : decode cX11_act 217 = .ok (.aload_n 0, 1) := by decide +kernel
theorem dX11_act_218 : decode cX11_act 218 = .ok (.invokevirtual 115, 3) := by decide +kernel
theorem dX11_act_221 : decode cX11_act 221 = .ok (.goto 8, 3) := by decide +kernel
theorem dX11_act_224 : decode cX11_act 224 = .ok (.aload_n 0, 1) := by decide +kernel
theorem dX11_act_225 : decode cX11_act 225 = .ok (.iload_n 1, 1) := by decide +kernel
theorem dX11_act_226 : decode cX11_act 226 = .ok (.invokevirtual 187, 3) := by decide +kernel
theorem dX11_act_229 : decode cX11_act 229 = .ok (.iload_n 2, 1) := by decide +kernel
theorem dX11_act_230 : decode cX11_act 230 = .ok (.ifCond .le 8, 3) := by decide +kernel
theorem dX11_act_233 : decode cX11_act 233 = .ok (.aload_n 0, 1) := by decide +kernel
theorem dX11_act_234 : decode cX11_act 234 = .ok (.iload_n 1, 1) := by decide +kernel
theorem dX11_act_235 : decode cX11_act 235 = .ok (.invokevirtual 187, 3) := by decide +kernel
theorem dX11_act_238 : decode cX11_act 238 = .ok (.iload_n 2, 1) := by decide +kernel
theorem dX11_act_239 : decode cX11_act 239 = .ok (.ireturn, 1) := by decide +kernel
theorem dX11_acts_0 : decode cX11_acts 0 = .ok (.aload_n 0, 1) := by decide +kernel
theorem dX11_acts_1 : decode cX11_acts 1 = .ok (.iconst (-1), 1) := by decide +kernel
theorem dX11_acts_2 : decode cX11_acts 2 = .ok (.putfield 29, 3) := by decide +kernel
theorem dX11_acts_5 : decode cX11_acts 5 = .ok (.aload_n 0, 1) := by decide +kernel
theorem dX11_acts_6 : decode cX11_acts 6 = .ok (.aload_n 0, 1) := by decide +kernel
theorem dX11_acts_7 : decode cX11_acts 7 = .ok (.getfield 162, 3) := by decide +kernel
theorem dX11_acts_10 : decode cX11_acts 10 = .ok (.putfield 172, 3) := by decide +kernel
theorem dX11_acts_13 : decode cX11_acts 13 = .ok (.aload_n 0, 1) := by decide +kernel
theorem dX11_acts_14 : decode cX11_acts 14 = .ok (.iconst 0, 1) := by decide +kernel
theorem dX11_acts_15 : decode cX11_acts 15 = .ok (.putfield 162, 3) := by decide +kernel
theorem dX11_acts_18 : decode cX11_acts 18 = .ok (.aload_n 0, 1) := by decide +kernel
theorem dX11_acts_19 : decode cX11_acts 19 = .ok (.iconst 0, 1) := by decide +kernel
theorem dX11_acts_20 : decode cX11_acts 20 = .ok (.putfield 169, 3) := by decide +kernel
theorem dX11_acts_23 : decode cX11_acts 23 = .ok (.aload_n 0, 1) := by decide +kernel
theorem dX11_acts_24 : decode cX11_acts 24 = .ok (.invokevirtual 248, 3) := by decide +kernel
theorem dX11_acts_27 : decode cX11_acts 27 = .ok (.iconst 0, 1) := by decide +kernel
theorem dX11_acts_28 : decode cX11_acts 28 = .ok (.istore_n 1, 1) := by decide +kernel
theorem dX11_acts_29 : decode cX11_acts 29 = .ok (.iconst 0, 1) := by decide +kernel
theorem dX11_acts_30 : decode cX11_acts 30 = .ok (.istore_n 2, 1) := by decide +kernel
theorem dX11_acts_31 : decode cX11_acts 31 = .ok (.aload_n 0, 1) := by decide +kernel
theorem dX11_acts_32 : decode cX11_acts 32 = .ok (.invokevirtual 175, 3) := by decide +kernel
theorem dX11_acts_35 : decode cX11_acts 35 = .ok (.aload_n 0, 1) := by decide +kernel
theorem dX11_acts_36 : decode cX11_acts 36 = .ok (.getfield 172, 3) := by decide +kernel
theorem dX11_acts_39 : decode cX11_acts 39 = .ok (.if_icmp .ge 7, 3) := by decide +kernel
theorem dX11_acts_42 : decode cX11_acts 42 = .ok (.iconst 1, 1) := by decide +kernel
theorem dX11_acts_43 : decode cX11_acts 43 = .ok (.goto 4, 3) := by decide +kernel
theorem dX11_acts_46 : decode cX11_acts 46 = .ok (.iconst 0, 1) := by decide +kernel
theorem dX11_acts_47 : decode cX11_acts 47 = .ok (.istore_n 3, 1) := by decide +kernel
theorem dX11_acts_48 : decode cX11_acts 48 = .ok (.iload_n 3, 1) := by decide +kernel
theorem dX11_acts_49 : decode cX11_acts 49 = .ok (.ifCond .eq 105, 3) := by decide +kernel
theorem dX11_acts_52 : decode cX11_acts 52 = .ok (.aload_n 0, 1) := by decide +kernel
theorem dX11_acts_53 : decode cX11_acts 53 = .ok (.getfield 29, 3) := by decide +kernel
theorem dX11_acts_56 : decode cX11_acts 56 = .ok (.iconst (-1), 1) := by decide +kernel
theorem dX11_acts_57 : decode cX11_acts 57 = .ok (.if_icmp .ne 97, 3) := by decide +kernel
theorem dX11_acts_60 : decode cX11_acts 60 = .ok (.iload_n 1, 1) := by decide +kernel
theorem dX11_acts_61 : decode cX11_acts 61 = .ok (.bipush 14, 2) := by decide +kernel
theorem dX11_acts_63 : decode cX11_acts 63 = .ok (.if_icmp .ne 11, 3) := by decide +kernel
theorem dX11_acts_66 : decode cX11_acts 66 = .ok (.aload_n 0, 1) := by decide +kernel
theorem dX11_acts_67 : decode cX11_acts 67 = .ok (.aload_n 0, 1) := by decide +kernel
theorem dX11_acts_68 : decode cX11_acts 68 = .ok (.invokevirtual 175, 3) := by decide +kernel
theorem dX11_acts_71 : decode cX11_acts 71 = .ok (.invokevirtual 187, 3) := by decide +kernel
theorem dX11_acts_74 : decode cX11_acts 74 = .ok (.aload_n 0, 1) := by decide +kernel
theorem dX11_acts_75 : decode cX11_acts 75 = .ok (.getfield 29, 3) := by decide +kernel
theorem dX11_acts_78 : decode cX11_acts 78 = .ok (.iconst (-1), 1) := by decide +kernel
theorem dX11_acts_79 : decode cX11_acts 79 = .ok (.if_icmp .ne 8, 3) := by decide +kernel
theorem dX11_acts_82 : decode cX11_acts 82 = .ok (.aload_n 0, 1) := by decide +kernel
theorem dX11_acts_83 : decode cX11_acts 83 = .ok (.invokevirtual 251, 3) := by decide +kernel
theorem dX11_acts_86 : decode cX11_acts 86 = .ok (.istore_n 2, 1) := by decide +kernel
theorem dX11_acts_87 : decode cX11_acts 87 = .ok (.iinc 1 1, 3) := by decide +kernel
theorem dX11_acts_90 : decode cX11_acts 90 = .ok (.aload_n 0, 1) := by decide +kernel
theorem dX11_acts_91 : decode cX11_acts 91 = .ok (.invokevirtual 175, 3) := by decide +kernel
theorem dX11_acts_94 : decode cX11_acts 94 = .ok (.aload_n 0, 1) := by decide +kernel
theorem dX11_acts_95 : decode cX11_acts 95 = .ok (.getfield 172, 3) := by decide +kernel
theorem dX11_acts_98 : decode cX11_acts 98 = .ok (.if_icmp .ge 7, 3) := by decide +kernel
theorem dX11_acts_101 : decode cX11_acts 101 = .ok (.iconst 1, 1) := by decide +kernel
theorem dX11_acts_102 : decode cX11_acts 102 = .ok (.goto 4, 3) := by decide +kernel
theorem dX11_acts_105 : decode cX11_acts 105 = .ok (.iconst 0, 1) := by decide +kernel
theorem dX11_acts_106 : decode cX11_acts 106 = .ok (.istore_n 3, 1) := by decide +kernel
theorem dX11_acts_107 : decode cX11_acts 107 = .ok (.iload_n 3, 1) := by decide +kernel
theorem dX11_acts_108 : decode cX11_acts 108 = .ok (.ifCond .eq (-60), 3) := by decide +kernel
theorem dX11_acts_111 : decode cX11_acts 111 = .ok (.aload_n 0, 1) := by decide +kernel
theorem dX11_acts_112 : decode cX11_acts 112 = .ok (.getfield 29, 3) := by decide +kernel
theorem dX11_acts_115 : decode cX11_acts 115 = .ok (.iconst (-1), 1) := by decide +kernel
theorem dX11_acts_116 : decode cX11_acts 116 = .ok (.if_icmp .ne (-68), 3) := by decide +kernel
theorem dX11_acts_119 : decode cX11_acts 119 = .ok (.aload_n 0, 1) := by decide +kernel
theorem dX11_acts_120 : decode cX11_acts 120 = .ok (.getfield 26, 3) := by decide +kernel
theorem dX11_acts_123 : decode cX11_acts 123 = .ok (.aload_n 0, 1) := by decide +kernel
theorem dX11_acts_124 : decode cX11_acts 124 = .ok (.getfield 169, 3) := by decide +kernel
theorem dX11_acts_127 : decode cX11_acts 127 = .ok (.iaload, 1) := by decide +kernel
theorem dX11_acts_128 : decode cX11_acts 128 = .ok (.bipush 59, 2) := by decide +kernel
theorem dX11_acts_130 : decode cX11_acts 130 = .ok (.if_icmp .eq 11, 3) := by decide +kernel
theorem dX11_acts_133 : decode cX11_acts 133 = .ok (.aload_n 0, 1) := by decide +kernel
theorem dX11_acts_134 : decode cX11_acts 134 = .ok (.aload_n 0, 1) := by decide +kernel
theorem dX11_acts_135 : decode cX11_acts 135 = .ok (.getfield 169, 3) := by decide +kernel
theorem dX11_acts_138 : decode cX11_acts 138 = .ok (.invokevirtual 187, 3) := by decide +kernel
theorem dX11_acts_141 : decode cX11_acts 141 = .ok (.aload_n 0, 1) := by decide +kernel
theorem dX11_acts_142 : decode cX11_acts 142 = .ok (.dup, 1) := by decide +kernel
theorem dX11_acts_143 : decode cX11_acts 143 = .ok (.getfield 169, 3) := by decide +kernel
theorem dX11_acts_146 : decode cX11_acts 146 = .ok (.iconst 1, 1) := by decide +kernel
theorem dX11_acts_147 : decode cX11_acts 147 = .ok (.iadd, 1) := by decide +kernel
theorem dX11_acts_148 : decode cX11_acts 148 = .ok (.putfield 169, 3) := by decide +kernel
theorem dX11_acts_151 : decode cX11_acts 151 = .ok (.goto (-103), 3) := by decide +kernel
theorem dX11_acts_154 : decode cX11_acts 154 = .ok (.aload_n 0, 1) := by decide +kernel
theorem dX11_acts_155 : decode cX11_acts 155 = .ok (.aload_n 0, 1) := by decide +kernel
theorem dX11_acts_156 : decode cX11_acts 156 = .ok (.getfield 29, 3) := by decide +kernel
theorem dX11_acts_159 : decode cX11_acts 159 = .ok (.iconst (-1), 1) := by decide +kernel
theorem dX11_acts_160 : decode cX11_acts 160 = .ok (.if_icmp .ne 7, 3) := by decide +kernel
theorem dX11_acts_163 : decode cX11_acts 163 = .ok (.iconst 0, 1) := by decide +kernel
theorem dX11_acts_164 : decode cX11_acts 164 = .ok (.goto 4, 3) := by decide +kernel
theorem dX11_acts_167 : decode cX11_acts 167 = .ok (.iconst 1, 1) := by decide +kernel
theorem dX11_acts_168 : decode cX11_acts 168 = .ok (.putfield 43, 3) := by decide +kernel
theorem dX11_acts_171 : decode cX11_acts 171 = .ok (.aload_n 0, 1) := by decide +kernel
theorem dX11_acts_172 : decode cX11_acts 172 = .ok (.getfield 43, 3) := by decide +kernel
theorem dX11_acts_175 : decode cX11_acts 175 = .ok (.ifCond .ne 26, 3) := by decide +kernel
theorem dX11_acts_178 : decode cX11_acts 178 = .ok (.aload_n 0, 1) := by decide +kernel
theorem dX11_acts_179 : decode cX11_acts 179 = .ok (.iload_n 1, 1) := by decide +kernel
theorem dX11_acts_180 : decode cX11_acts 180 = .ok (.ifCond .le 7, 3) := by decide +kernel
theorem dX11_acts_183 : decode cX11_acts 183 = .ok (.iconst 0, 1) := by decide +kernel
theorem dX11_acts_184 : decode cX11_acts 184 = .ok (.goto 7, 3) := by decide +kernel
theorem dX11_acts_187 : decode cX11_acts 187 = .ok (.aload_n 0, 1) := by decide +kernel
theorem dX11_acts_188 : decode cX11_acts 188 = .ok (.getfield 153, 3) := by decide +kernel
theorem dX11_acts_191 : decode cX11_acts 191 = .ok (.putfield 153, 3) := by decide +kernel
theorem dX11_acts_194 : decode cX11_acts 194 = .ok (.aload_n 0, 1) := by decide +kernel
theorem dX11_acts_195 : decode cX11_acts 195 = .ok (.iconst 0, 1) := by decide +kernel
theorem dX11_acts_196 : decode cX11_acts 196 = .ok (.putfield 149, 3) := by decide +kernel
theorem dX11_acts_199 : decode cX11_acts 199 = .ok (.iload_n 1, 1) := by decide +kernel
theorem dX11_acts_200 : decode cX11_acts 200 = .ok (.ireturn, 1) := by decide +kernel
theorem dX11_acts_201 : decode cX11_acts 201 = .ok (.aload_n 0, 1) := by decide +kernel
theorem dX11_acts_202 : decode cX11_acts 202 = .ok (.iload_n 2, 1) := by decide +kernel
theorem dX11_acts_203 : decode cX11_acts 203 = .ok (.ifCond .le 7, 3) := by decide +kernel
theorem dX11_acts_206 : decode cX11_acts 206 = .ok (.iload_n 2, 1) := by decide +kernel
theorem dX11_acts_207 : decode cX11_acts 207 = .ok (.goto 7, 3) := by decide +kernel
theorem dX11_acts_210 : decode cX11_acts 210 = .ok (.aload_n 0, 1) := by decide +kernel
theorem dX11_acts_211 : decode cX11_acts 211 = .ok (.getfield 153, 3) := by decide +kernel
theorem dX11_acts_214 : decode cX11_acts 214 = .ok (.putfield 153, 3) := by decide +kernel
theorem dX11_acts_217 : decode cX11_acts 217 = .ok (.aload_n 0, 1) := by decide +kernel
theorem dX11_acts_218 : decode cX11_acts 218 = .ok (.invokevirtual 159, 3) := by decide +kernel
theorem dX11_acts_221 : decode cX11_acts 221 = .ok (.iconst 0, 1) := by decide +kernel
theorem dX11_acts_222 : decode cX11_acts 222 = .ok (.ireturn, 1) := by decide +kernel
theorem dX11_fault_0 : decode cX11_fault 0 = .ok (.aload_n 0, 1) := by decide +kernel
theorem dX11_fault_1 : decode cX11_fault 1 = .ok (.iconst 0, 1) := by decide +kernel
theorem dX11_fault_2 : decode cX11_fault 2 = .ok (.putfield 43, 3) := by decide +kernel
theorem dX11_fault_5 : decode cX11_fault 5 = .ok (.aload_n 0, 1) := by decide +kernel
theorem dX11_fault_6 : decode cX11_fault 6 = .ok (.getfield 29, 3) := by decide +kernel
theorem dX11_fault_9 : decode cX11_fault 9 = .ok (.ireturn, 1) := by decide +kernel
theorem dX11_why_0 : decode cX11_why 0 = .ok (.aload_n 0, 1) := by decide +kernel
theorem dX11_why_1 : decode cX11_why 1 = .ok (.iconst 0, 1) := by decide +kernel
theorem dX11_why_2 : decode cX11_why 2 = .ok (.putfield 43, 3) := by decide +kernel
theorem dX11_why_5 : decode cX11_why 5 = .ok (.aload_n 0, 1) := by decide +kernel
theorem dX11_why_6 : decode cX11_why 6 = .ok (.getfield 153, 3) := by decide +kernel
theorem dX11_why_9 : decode cX11_why 9 = .ok (.ireturn, 1) := by decide +kernel
theorem dX11_store_0 : decode cX11_store 0 = .ok (.aload_n 0, 1) := by decide +kernel
theorem dX11_store_1 : decode cX11_store 1 = .ok (.iload_n 1, 1) := by decide +kernel
theorem dX11_store_2 : decode cX11_store 2 = .ok (.bipush 50, 2) := by decide +kernel
theorem dX11_store_4 : decode cX11_store 4 = .ok (.sipush 200, 3) := by decide +kernel
theorem dX11_store_7 : decode cX11_store 7 = .ok (.invokestatic 165, 3) := by decide +kernel
theorem dX11_store_10 : decode cX11_store 10 = .ok (.ifCond .eq 37, 3) := by decide +kernel
theorem dX11_store_13 : decode cX11_store 13 = .ok (.iload_n 2, 1) := by decide +kernel
theorem dX11_store_14 : decode cX11_store 14 = .ok (.iconst 0, 1) := by decide +kernel
theorem dX11_store_15 : decode cX11_store 15 = .ok (.bipush 40, 2) := by decide +kernel
theorem dX11_store_17 : decode cX11_store 17 = .ok (.invokestatic 165, 3) := by decide +kernel
theorem dX11_store_20 : decode cX11_store 20 = .ok (.ifCond .eq 27, 3) := by decide +kernel
theorem dX11_store_23 : decode cX11_store 23 = .ok (.iload_n 3, 1) := by decide +kernel
theorem dX11_store_24 : decode cX11_store 24 = .ok (.iconst 2, 1) := by decide +kernel
theorem dX11_store_25 : decode cX11_store 25 = .ok (.bipush 16, 2) := by decide +kernel
theorem dX11_store_27 : decode cX11_store 27 = .ok (.invokestatic 165, 3) := by decide +kernel
theorem dX11_store_30 : decode cX11_store 30 = .ok (.ifCond .eq 17, 3) := by decide +kernel
theorem dX11_store_33 : decode cX11_store 33 = .ok (.iload 4, 2) := by decide +kernel
theorem dX11_store_35 : decode cX11_store 35 = .ok (.iconst 1, 1) := by decide +kernel
theorem dX11_store_36 : decode cX11_store 36 = .ok (.iconst 4, 1) := by decide +kernel
theorem dX11_store_37 : decode cX11_store 37 = .ok (.invokestatic 165, 3) := by decide +kernel
theorem dX11_store_40 : decode cX11_store 40 = .ok (.ifCond .eq 7, 3) := by decide +kernel
theorem dX11_store_43 : decode cX11_store 43 = .ok (.iconst 0, 1) := by decide +kernel
theorem dX11_store_44 : decode cX11_store 44 = .ok (.goto 4, 3) := by decide +kernel
theorem dX11_store_47 : decode cX11_store 47 = .ok (.iconst 1, 1) := by decide +kernel
theorem dX11_store_48 : decode cX11_store 48 = .ok (.putfield 43, 3) := by decide +kernel
theorem dX11_store_51 : decode cX11_store 51 = .ok (.aload_n 0, 1) := by decide +kernel
theorem dX11_store_52 : decode cX11_store 52 = .ok (.getfield 43, 3) := by decide +kernel
theorem dX11_store_55 : decode cX11_store 55 = .ok (.ifCond .le 5, 3) := by decide +kernel
theorem dX11_store_58 : decode cX11_store 58 = .ok (.iconst 0, 1) := by decide +kernel
theorem dX11_store_59 : decode cX11_store 59 = .ok (.ireturn, 1) := by decide +kernel
theorem dX11_store_60 : decode cX11_store 60 = .ok (.aload_n 0, 1) := by decide +kernel
theorem dX11_store_61 : decode cX11_store 61 = .ok (.iload_n 1, 1) := by decide +kernel
theorem dX11_store_62 : decode cX11_store 62 = .ok (.iload_n 2, 1) := by decide +kernel
theorem dX11_store_63 : decode cX11_store 63 = .ok (.iload_n 3, 1) := by decide +kernel
theorem dX11_store_64 : decode cX11_store 64 = .ok (.iload 4, 2) := by decide +kernel
theorem dX11_store_66 : decode cX11_store 66 = .ok (.invokevirtual 39, 3) := by decide +kernel
theorem dX11_store_69 : decode cX11_store 69 = .ok (.aload_n 0, 1) := by decide +kernel
theorem dX11_store_70 : decode cX11_store 70 = .ok (.iconst 0, 1) := by decide +kernel
theorem dX11_store_71 : decode cX11_store 71 = .ok (.putfield 149, 3) := by decide +kernel
theorem dX11_store_74 : decode cX11_store 74 = .ok (.aload_n 0, 1) := by decide +kernel
theorem dX11_store_75 : decode cX11_store 75 = .ok (.iconst 0, 1) := by decide +kernel
theorem dX11_store_76 : decode cX11_store 76 = .ok (.putfield 153, 3) := by decide +kernel
theorem dX11_store_79 : decode cX11_store 79 = .ok (.aload_n 0, 1) := by decide +kernel
theorem dX11_store_80 : decode cX11_store 80 = .ok (.invokevirtual 60, 3) := by decide +kernel
theorem dX11_store_83 : decode cX11_store 83 = .ok (.ireturn, 1) := by decide +kernel
theorem dX11_isKey_0 : decode cX11_isKey 0 = .ok (.iload_n 0, 1) := by decide +kernel
theorem dX11_isKey_1 : decode cX11_isKey 1 = .ok (.iconst 0, 1) := by decide +kernel
theorem dX11_isKey_2 : decode cX11_isKey 2 = .ok (.bipush 63, 2) := by decide +kernel
theorem dX11_isKey_4 : decode cX11_isKey 4 = .ok (.invokestatic 165, 3) := by decide +kernel
theorem dX11_isKey_7 : decode cX11_isKey 7 = .ok (.ireturn, 1) := by decide +kernel
theorem dX11_put_0 : decode cX11_put 0 = .ok (.aload_n 0, 1) := by decide +kernel
theorem dX11_put_1 : decode cX11_put 1 = .ok (.iload_n 1, 1) := by decide +kernel
theorem dX11_put_2 : decode cX11_put 2 = .ok (.invokestatic 254, 3) := by decide +kernel
theorem dX11_put_5 : decode cX11_put 5 = .ok (.ifCond .ne 7, 3) := by decide +kernel
theorem dX11_put_8 : decode cX11_put 8 = .ok (.iconst 1, 1) := by decide +kernel
theorem dX11_put_9 : decode cX11_put 9 = .ok (.goto 29, 3) := by decide +kernel
theorem dX11_put_12 : decode cX11_put 12 = .ok (.iload_n 2, 1) := by decide +kernel
theorem dX11_put_13 : decode cX11_put 13 = .ok (.iconst 1, 1) := by decide +kernel
theorem dX11_put_14 : decode cX11_put 14 = .ok (.bipush 40, 2) := by decide +kernel
theorem dX11_put_16 : decode cX11_put 16 = .ok (.invokestatic 165, 3) := by decide +kernel
theorem dX11_put_19 : decode cX11_put 19 = .ok (.ifCond .eq 14, 3) := by decide +kernel
theorem dX11_put_22 : decode cX11_put 22 = .ok (.iload_n 3, 1) := by decide +kernel
theorem dX11_put_23 : decode cX11_put 23 = .ok (.iconst 0, 1) := by decide +kernel
theorem dX11_put_24 : decode cX11_put 24 = .ok (.sipush 255, 3) := by decide +kernel
theorem dX11_put_27 : decode cX11_put 27 = .ok (.invokestatic 165, 3) := by decide +kernel
theorem dX11_put_30 : decode cX11_put 30 = .ok (.ifCond .ne 7, 3) := by decide +kernel
theorem dX11_put_33 : decode cX11_put 33 = .ok (.iconst 2, 1) := by decide +kernel
theorem dX11_put_34 : decode cX11_put 34 = .ok (.goto 4, 3) := by decide +kernel
theorem dX11_put_37 : decode cX11_put 37 = .ok (.iconst 0, 1) := by decide +kernel
theorem dX11_put_38 : decode cX11_put 38 = .ok (.putfield 43, 3) := by decide +kernel
theorem dX11_put_41 : decode cX11_put 41 = .ok (.aload_n 0, 1) := by decide +kernel
theorem dX11_put_42 : decode cX11_put 42 = .ok (.getfield 43, 3) := by decide +kernel
theorem dX11_put_45 : decode cX11_put 45 = .ok (.ifCond .le 5, 3) := by decide +kernel
theorem dX11_put_48 : decode cX11_put 48 = .ok (.iconst 0, 1) := by decide +kernel
theorem dX11_put_49 : decode cX11_put 49 = .ok (.ireturn, 1) := by decide +kernel
theorem dX11_put_50 : decode cX11_put 50 = .ok (.aload_n 0, 1) := by decide +kernel
theorem dX11_put_51 : decode cX11_put 51 = .ok (.invokevirtual 248, 3) := by decide +kernel
theorem dX11_put_54 : decode cX11_put 54 = .ok (.aload_n 0, 1) := by decide +kernel
theorem dX11_put_55 : decode cX11_put 55 = .ok (.aload_n 0, 1) := by decide +kernel
theorem dX11_put_56 : decode cX11_put 56 = .ok (.iload_n 1, 1) := by decide +kernel
theorem dX11_put_57 : decode cX11_put 57 = .ok (.iload_n 2, 1) := by decide +kernel
theorem dX11_put_58 : decode cX11_put 58 = .ok (.iload_n 3, 1) := by decide +kernel
theorem dX11_put_59 : decode cX11_put 59 = .ok (.invokevirtual 193, 3) := by decide +kernel
theorem dX11_put_62 : decode cX11_put 62 = .ok (.iconst 3, 1) := by decide +kernel
theorem dX11_put_63 : decode cX11_put 63 = .ok (.invokevirtual 257, 3) := by decide +kernel
theorem dX11_put_66 : decode cX11_put 66 = .ok (.ifCond .eq 12, 3) := by decide +kernel
theorem dX11_put_69 : decode cX11_put 69 = .ok (.aload_n 0, 1) := by decide +kernel
theorem dX11_put_70 : decode cX11_put 70 = .ok (.getfield 7, 3) := by decide +kernel
theorem dX11_put_73 : decode cX11_put 73 = .ok (.iconst 5, 1) := by decide +kernel
theorem dX11_put_74 : decode cX11_put 74 = .ok (.iaload, 1) := by decide +kernel
theorem dX11_put_75 : decode cX11_put 75 = .ok (.goto 4, 3) := by decide +kernel
theorem dX11_put_78 : decode cX11_put 78 = .ok (.iconst 0, 1) := by decide +kernel
theorem dX11_put_79 : decode cX11_put 79 = .ok (.ireturn, 1) := by decide +kernel
theorem dX11_drop_0 : decode cX11_drop 0 = .ok (.aload_n 0, 1) := by decide +kernel
theorem dX11_drop_1 : decode cX11_drop 1 = .ok (.iload_n 1, 1) := by decide +kernel
theorem dX11_drop_2 : decode cX11_drop 2 = .ok (.invokestatic 254, 3) := by decide +kernel
theorem dX11_drop_5 : decode cX11_drop 5 = .ok (.ifCond .eq 7, 3) := by decide +kernel
theorem dX11_drop_8 : decode cX11_drop 8 = .ok (.iconst 0, 1) := by decide +kernel
theorem dX11_drop_9 : decode cX11_drop 9 = .ok (.goto 4, 3) := by decide +kernel
theorem dX11_drop_12 : decode cX11_drop 12 = .ok (.iconst 1, 1) := by decide +kernel
theorem dX11_drop_13 : decode cX11_drop 13 = .ok (.putfield 43, 3) := by decide +kernel
theorem dX11_drop_16 : decode cX11_drop 16 = .ok (.aload_n 0, 1) := by decide +kernel
theorem dX11_drop_17 : decode cX11_drop 17 = .ok (.getfield 43, 3) := by decide +kernel
theorem dX11_drop_20 : decode cX11_drop 20 = .ok (.ifCond .le 5, 3) := by decide +kernel
theorem dX11_drop_23 : decode cX11_drop 23 = .ok (.iconst 0, 1) := by decide +kernel
theorem dX11_drop_24 : decode cX11_drop 24 = .ok (.ireturn, 1) := by decide +kernel
theorem dX11_drop_25 : decode cX11_drop 25 = .ok (.aload_n 0, 1) := by decide +kernel
theorem dX11_drop_26 : decode cX11_drop 26 = .ok (.invokevirtual 248, 3) := by decide +kernel
theorem dX11_drop_29 : decode cX11_drop 29 = .ok (.aload_n 0, 1) := by decide +kernel
theorem dX11_drop_30 : decode cX11_drop 30 = .ok (.aload_n 0, 1) := by decide +kernel
theorem dX11_drop_31 : decode cX11_drop 31 = .ok (.iload_n 1, 1) := by decide +kernel
theorem dX11_drop_32 : decode cX11_drop 32 = .ok (.invokevirtual 219, 3) := by decide +kernel
theorem dX11_drop_35 : decode cX11_drop 35 = .ok (.iconst 2, 1) := by decide +kernel
theorem dX11_drop_36 : decode cX11_drop 36 = .ok (.invokevirtual 257, 3) := by decide +kernel
theorem dX11_drop_39 : decode cX11_drop 39 = .ok (.ifCond .eq 12, 3) := by decide +kernel
theorem dX11_drop_42 : decode cX11_drop 42 = .ok (.aload_n 0, 1) := by decide +kernel
theorem dX11_drop_43 : decode cX11_drop 43 = .ok (.getfield 7, 3) := by decide +kernel
theorem dX11_drop_46 : decode cX11_drop 46 = .ok (.iconst 5, 1) := by decide +kernel
theorem dX11_drop_47 : decode cX11_drop 47 = .ok (.iaload, 1) := by decide +kernel
theorem dX11_drop_48 : decode cX11_drop 48 = .ok (.goto 4, 3) := by decide +kernel
theorem dX11_drop_51 : decode cX11_drop 51 = .ok (.iconst 0, 1) := by decide +kernel
theorem dX11_drop_52 : decode cX11_drop 52 = .ok (.ireturn, 1) := by decide +kernel
theorem dX11_sync_0 : decode cX11_sync 0 = .ok (.aload_n 0, 1) := by decide +kernel
theorem dX11_sync_1 : decode cX11_sync 1 = .ok (.invokevirtual 248, 3) := by decide +kernel
theorem dX11_sync_4 : decode cX11_sync 4 = .ok (.aload_n 0, 1) := by decide +kernel
theorem dX11_sync_5 : decode cX11_sync 5 = .ok (.getfield 7, 3) := by decide +kernel
theorem dX11_sync_8 : decode cX11_sync 8 = .ok (.iconst 5, 1) := by decide +kernel
theorem dX11_sync_9 : decode cX11_sync 9 = .ok (.iaload, 1) := by decide +kernel
theorem dX11_sync_10 : decode cX11_sync 10 = .ok (.aload_n 0, 1) := by decide +kernel
theorem dX11_sync_11 : decode cX11_sync 11 = .ok (.getfield 7, 3) := by decide +kernel
theorem dX11_sync_14 : decode cX11_sync 14 = .ok (.bipush 6, 2) := by decide +kernel
theorem dX11_sync_16 : decode cX11_sync 16 = .ok (.iaload, 1) := by decide +kernel
theorem dX11_sync_17 : decode cX11_sync 17 = .ok (.isub, 1) := by decide +kernel
theorem dX11_sync_18 : decode cX11_sync 18 = .ok (.istore_n 1, 1) := by decide +kernel
theorem dX11_sync_19 : decode cX11_sync 19 = .ok (.aload_n 0, 1) := by decide +kernel
theorem dX11_sync_20 : decode cX11_sync 20 = .ok (.getfield 7, 3) := by decide +kernel
theorem dX11_sync_23 : decode cX11_sync 23 = .ok (.bipush 6, 2) := by decide +kernel
theorem dX11_sync_25 : decode cX11_sync 25 = .ok (.aload_n 0, 1) := by decide +kernel
theorem dX11_sync_26 : decode cX11_sync 26 = .ok (.getfield 7, 3) := by decide +kernel
theorem dX11_sync_29 : decode cX11_sync 29 = .ok (.iconst 5, 1) := by decide +kernel
theorem dX11_sync_30 : decode cX11_sync 30 = .ok (.iaload, 1) := by decide +kernel
theorem dX11_sync_31 : decode cX11_sync 31 = .ok (.iastore, 1) := by decide +kernel
theorem dX11_sync_32 : decode cX11_sync 32 = .ok (.aload_n 0, 1) := by decide +kernel
theorem dX11_sync_33 : decode cX11_sync 33 = .ok (.iconst 0, 1) := by decide +kernel
theorem dX11_sync_34 : decode cX11_sync 34 = .ok (.iconst 0, 1) := by decide +kernel
theorem dX11_sync_35 : decode cX11_sync 35 = .ok (.invokevirtual 257, 3) := by decide +kernel
theorem dX11_sync_38 : decode cX11_sync 38 = .ok (.ifCond .eq 7, 3) := by decide +kernel
theorem dX11_sync_41 : decode cX11_sync 41 = .ok (.iload_n 1, 1) := by decide +kernel
theorem dX11_sync_42 : decode cX11_sync 42 = .ok (.goto 4, 3) := by decide +kernel
theorem dX11_sync_45 : decode cX11_sync 45 = .ok (.iconst 0, 1) := by decide +kernel
theorem dX11_sync_46 : decode cX11_sync 46 = .ok (.ireturn, 1) := by decide +kernel
theorem dX11_flush_0 : decode cX11_flush 0 = .ok (.aload_n 0, 1) := by decide +kernel
theorem dX11_flush_1 : decode cX11_flush 1 = .ok (.invokevirtual 248, 3) := by decide +kernel
theorem dX11_flush_4 : decode cX11_flush 4 = .ok (.aload_n 0, 1) := by decide +kernel
theorem dX11_flush_5 : decode cX11_flush 5 = .ok (.invokevirtual 118, 3) := by decide +kernel
theorem dX11_flush_8 : decode cX11_flush 8 = .ok (.aload_n 0, 1) := by decide +kernel
theorem dX11_flush_9 : decode cX11_flush 9 = .ok (.iconst 0, 1) := by decide +kernel
theorem dX11_flush_10 : decode cX11_flush 10 = .ok (.iconst 0, 1) := by decide +kernel
theorem dX11_flush_11 : decode cX11_flush 11 = .ok (.invokevirtual 257, 3) := by decide +kernel
theorem dX11_flush_14 : decode cX11_flush 14 = .ok (.ifCond .eq 12, 3) := by decide +kernel
theorem dX11_flush_17 : decode cX11_flush 17 = .ok (.aload_n 0, 1) := by decide +kernel
theorem dX11_flush_18 : decode cX11_flush 18 = .ok (.getfield 7, 3) := by decide +kernel
theorem dX11_flush_21 : decode cX11_flush 21 = .ok (.iconst 4, 1) := by decide +kernel
theorem dX11_flush_22 : decode cX11_flush 22 = .ok (.iaload, 1) := by decide +kernel
theorem dX11_flush_23 : decode cX11_flush 23 = .ok (.goto 4, 3) := by decide +kernel
theorem dX11_flush_26 : decode cX11_flush 26 = .ok (.iconst 0, 1) := by decide +kernel
theorem dX11_flush_27 : decode cX11_flush 27 = .ok (.ireturn, 1) := by decide +kernel
theorem dX11_allRows_0 : decode cX11_allRows 0 = .ok (.iconst 0, 1) := by decide +kernel
theorem dX11_allRows_1 : decode cX11_allRows 1 = .ok (.istore_n 1, 1) := by decide +kernel
theorem dX11_allRows_2 : decode cX11_allRows 2 = .ok (.iconst 1, 1) := by decide +kernel
theorem dX11_allRows_3 : decode cX11_allRows 3 = .ok (.istore_n 2, 1) := by decide +kernel
theorem dX11_allRows_4 : decode cX11_allRows 4 = .ok (.iload_n 2, 1) := by decide +kernel
theorem dX11_allRows_5 : decode cX11_allRows 5 = .ok (.aload_n 0, 1) := by decide +kernel
theorem dX11_allRows_6 : decode cX11_allRows 6 = .ok (.getfield 7, 3) := by decide +kernel
theorem dX11_allRows_9 : decode cX11_allRows 9 = .ok (.iconst 4, 1) := by decide +kernel
theorem dX11_allRows_10 : decode cX11_allRows 10 = .ok (.iaload, 1) := by decide +kernel
theorem dX11_allRows_11 : decode cX11_allRows 11 = .ok (.if_icmp .gt 17, 3) := by decide +kernel
theorem dX11_allRows_14 : decode cX11_allRows 14 = .ok (.iload_n 1, 1) := by decide +kernel
theorem dX11_allRows_15 : decode cX11_allRows 15 = .ok (.aload_n 0, 1) := by decide +kernel
theorem dX11_allRows_16 : decode cX11_allRows 16 = .ok (.iload_n 2, 1) := by decide +kernel
theorem dX11_allRows_17 : decode cX11_allRows 17 = .ok (.invokevirtual 108, 3) := by decide +kernel
theorem dX11_allRows_20 : decode cX11_allRows 20 = .ok (.iadd, 1) := by decide +kernel
theorem dX11_allRows_21 : decode cX11_allRows 21 = .ok (.istore_n 1, 1) := by decide +kernel
theorem dX11_allRows_22 : decode cX11_allRows 22 = .ok (.iinc 2 1, 3) := by decide +kernel
theorem dX11_allRows_25 : decode cX11_allRows 25 = .ok (.goto (-21), 3) := by decide +kernel
theorem dX11_allRows_28 : decode cX11_allRows 28 = .ok (.iload_n 1, 1) := by decide +kernel
theorem dX11_allRows_29 : decode cX11_allRows 29 = .ok (.ireturn, 1) := by decide +kernel
theorem dX11_merge_0 : decode cX11_merge 0 = .ok (.aload_n 0, 1) := by decide +kernel
theorem dX11_merge_1 : decode cX11_merge 1 = .ok (.invokevirtual 248, 3) := by decide +kernel
theorem dX11_merge_4 : decode cX11_merge 4 = .ok (.aload_n 0, 1) := by decide +kernel
theorem dX11_merge_5 : decode cX11_merge 5 = .ok (.invokevirtual 260, 3) := by decide +kernel
theorem dX11_merge_8 : decode cX11_merge 8 = .ok (.istore_n 1, 1) := by decide +kernel
theorem dX11_merge_9 : decode cX11_merge 9 = .ok (.aload_n 0, 1) := by decide +kernel
theorem dX11_merge_10 : decode cX11_merge 10 = .ok (.invokevirtual 115, 3) := by decide +kernel
theorem dX11_merge_13 : decode cX11_merge 13 = .ok (.aload_n 0, 1) := by decide +kernel
theorem dX11_merge_14 : decode cX11_merge 14 = .ok (.iconst 0, 1) := by decide +kernel
theorem dX11_merge_15 : decode cX11_merge 15 = .ok (.iconst 0, 1) := by decide +kernel
theorem dX11_merge_16 : decode cX11_merge 16 = .ok (.invokevirtual 257, 3) := by decide +kernel
theorem dX11_merge_19 : decode cX11_merge 19 = .ok (.ifCond .eq 12, 3) := by decide +kernel
theorem dX11_merge_22 : decode cX11_merge 22 = .ok (.iload_n 1, 1) := by decide +kernel
theorem dX11_merge_23 : decode cX11_merge 23 = .ok (.aload_n 0, 1) := by decide +kernel
theorem dX11_merge_24 : decode cX11_merge 24 = .ok (.invokevirtual 260, 3) := by decide +kernel
theorem dX11_merge_27 : decode cX11_merge 27 = .ok (.isub, 1) := by decide +kernel
theorem dX11_merge_28 : decode cX11_merge 28 = .ok (.goto 4, 3) := by decide +kernel
theorem dX11_merge_31 : decode cX11_merge 31 = .ok (.iconst 0, 1) := by decide +kernel
theorem dX11_merge_32 : decode cX11_merge 32 = .ok (.ireturn, 1) := by decide +kernel
theorem dX11_crash_0 : decode cX11_crash 0 = .ok (.aload_n 0, 1) := by decide +kernel
theorem dX11_crash_1 : decode cX11_crash 1 = .ok (.invokevirtual 248, 3) := by decide +kernel
theorem dX11_crash_4 : decode cX11_crash 4 = .ok (.aload_n 0, 1) := by decide +kernel
theorem dX11_crash_5 : decode cX11_crash 5 = .ok (.invokevirtual 228, 3) := by decide +kernel
theorem dX11_crash_8 : decode cX11_crash 8 = .ok (.istore_n 1, 1) := by decide +kernel
theorem dX11_crash_9 : decode cX11_crash 9 = .ok (.aload_n 0, 1) := by decide +kernel
theorem dX11_crash_10 : decode cX11_crash 10 = .ok (.iconst 0, 1) := by decide +kernel
theorem dX11_crash_11 : decode cX11_crash 11 = .ok (.iconst 0, 1) := by decide +kernel
theorem dX11_crash_12 : decode cX11_crash 12 = .ok (.invokevirtual 257, 3) := by decide +kernel
theorem dX11_crash_15 : decode cX11_crash 15 = .ok (.ifCond .eq 7, 3) := by decide +kernel
theorem dX11_crash_18 : decode cX11_crash 18 = .ok (.iload_n 1, 1) := by decide +kernel
theorem dX11_crash_19 : decode cX11_crash 19 = .ok (.goto 4, 3) := by decide +kernel
theorem dX11_crash_22 : decode cX11_crash 22 = .ok (.iconst 0, 1) := by decide +kernel
theorem dX11_crash_23 : decode cX11_crash 23 = .ok (.ireturn, 1) := by decide +kernel
theorem dX11_isSegment_0 : decode cX11_isSegment 0 = .ok (.iload_n 0, 1) := by decide +kernel
theorem dX11_isSegment_1 : decode cX11_isSegment 1 = .ok (.iconst 0, 1) := by decide +kernel
theorem dX11_isSegment_2 : decode cX11_isSegment 2 = .ok (.bipush 11, 2) := by decide +kernel
theorem dX11_isSegment_4 : decode cX11_isSegment 4 = .ok (.invokestatic 165, 3) := by decide +kernel
theorem dX11_isSegment_7 : decode cX11_isSegment 7 = .ok (.ireturn, 1) := by decide +kernel
theorem dX11_pick_0 : decode cX11_pick 0 = .ok (.aload_n 0, 1) := by decide +kernel
theorem dX11_pick_1 : decode cX11_pick 1 = .ok (.iload_n 1, 1) := by decide +kernel
theorem dX11_pick_2 : decode cX11_pick 2 = .ok (.iconst (-1), 1) := by decide +kernel
theorem dX11_pick_3 : decode cX11_pick 3 = .ok (.if_icmp .eq 10, 3) := by decide +kernel
theorem dX11_pick_6 : decode cX11_pick 6 = .ok (.iload_n 1, 1) := by decide +kernel
theorem dX11_pick_7 : decode cX11_pick 7 = .ok (.invokestatic 263, 3) := by decide +kernel
theorem dX11_pick_10 : decode cX11_pick 10 = .ok (.ifCond .eq 7, 3) := by decide +kernel
theorem dX11_pick_13 : decode cX11_pick 13 = .ok (.iconst 0, 1) := by decide +kernel
theorem dX11_pick_14 : decode cX11_pick 14 = .ok (.goto 4, 3) := by decide +kernel
theorem dX11_pick_17 : decode cX11_pick 17 = .ok (.iconst 1, 1) := by decide +kernel
theorem dX11_pick_18 : decode cX11_pick 18 = .ok (.putfield 43, 3) := by decide +kernel
theorem dX11_pick_21 : decode cX11_pick 21 = .ok (.aload_n 0, 1) := by decide +kernel
theorem dX11_pick_22 : decode cX11_pick 22 = .ok (.getfield 43, 3) := by decide +kernel
theorem dX11_pick_25 : decode cX11_pick 25 = .ok (.ifCond .le 5, 3) := by decide +kernel
theorem dX11_pick_28 : decode cX11_pick 28 = .ok (.iconst 0, 1) := by decide +kernel
theorem dX11_pick_29 : decode cX11_pick 29 = .ok (.ireturn, 1) := by decide +kernel
theorem dX11_pick_30 : decode cX11_pick 30 = .ok (.aload_n 0, 1) := by decide +kernel
theorem dX11_pick_31 : decode cX11_pick 31 = .ok (.invokevirtual 248, 3) := by decide +kernel
theorem dX11_pick_34 : decode cX11_pick 34 = .ok (.aload_n 0, 1) := by decide +kernel
theorem dX11_pick_35 : decode cX11_pick 35 = .ok (.aload_n 0, 1) := by decide +kernel
theorem dX11_pick_36 : decode cX11_pick 36 = .ok (.iload_n 1, 1) := by decide +kernel
theorem dX11_pick_37 : decode cX11_pick 37 = .ok (.invokevirtual 200, 3) := by decide +kernel
theorem dX11_pick_40 : decode cX11_pick 40 = .ok (.iconst 2, 1) := by decide +kernel
theorem dX11_pick_41 : decode cX11_pick 41 = .ok (.invokevirtual 257, 3) := by decide +kernel
theorem dX11_pick_44 : decode cX11_pick 44 = .ok (.ifCond .eq 13, 3) := by decide +kernel
theorem dX11_pick_47 : decode cX11_pick 47 = .ok (.aload_n 0, 1) := by decide +kernel
theorem dX11_pick_48 : decode cX11_pick 48 = .ok (.getfield 7, 3) := by decide +kernel
theorem dX11_pick_51 : decode cX11_pick 51 = .ok (.bipush 9, 2) := by decide +kernel
theorem dX11_pick_53 : decode cX11_pick 53 = .ok (.iaload, 1) := by decide +kernel
theorem dX11_pick_54 : decode cX11_pick 54 = .ok (.goto 4, 3) := by decide +kernel
theorem dX11_pick_57 : decode cX11_pick 57 = .ok (.iconst 0, 1) := by decide +kernel
theorem dX11_pick_58 : decode cX11_pick 58 = .ok (.ireturn, 1) := by decide +kernel
theorem dX11_step_0 : decode cX11_step 0 = .ok (.aload_n 0, 1) := by decide +kernel
theorem dX11_step_1 : decode cX11_step 1 = .ok (.iload_n 1, 1) := by decide +kernel
theorem dX11_step_2 : decode cX11_step 2 = .ok (.iconst 1, 1) := by decide +kernel
theorem dX11_step_3 : decode cX11_step 3 = .ok (.bipush 20, 2) := by decide +kernel
theorem dX11_step_5 : decode cX11_step 5 = .ok (.invokestatic 165, 3) := by decide +kernel
theorem dX11_step_8 : decode cX11_step 8 = .ok (.ifCond .eq 7, 3) := by decide +kernel
theorem dX11_step_11 : decode cX11_step 11 = .ok (.iconst 0, 1) := by decide +kernel
theorem dX11_step_12 : decode cX11_step 12 = .ok (.goto 4, 3) := by decide +kernel
theorem dX11_step_15 : decode cX11_step 15 = .ok (.iconst 1, 1) := by decide +kernel
theorem dX11_step_16 : decode cX11_step 16 = .ok (.putfield 43, 3) := by decide +kernel
theorem dX11_step_19 : decode cX11_step 19 = .ok (.aload_n 0, 1) := by decide +kernel
theorem dX11_step_20 : decode cX11_step 20 = .ok (.getfield 43, 3) := by decide +kernel
theorem dX11_step_23 : decode cX11_step 23 = .ok (.ifCond .le 5, 3) := by decide +kernel
theorem dX11_step_26 : decode cX11_step 26 = .ok (.iconst 0, 1) := by decide +kernel
theorem dX11_step_27 : decode cX11_step 27 = .ok (.ireturn, 1) := by decide +kernel
theorem dX11_step_28 : decode cX11_step 28 = .ok (.aload_n 0, 1) := by decide +kernel
theorem dX11_step_29 : decode cX11_step 29 = .ok (.invokevirtual 248, 3) := by decide +kernel
theorem dX11_step_32 : decode cX11_step 32 = .ok (.aload_n 0, 1) := by decide +kernel
theorem dX11_step_33 : decode cX11_step 33 = .ok (.aload_n 0, 1) := by decide +kernel
theorem dX11_step_34 : decode cX11_step 34 = .ok (.iload_n 1, 1) := by decide +kernel
theorem dX11_step_35 : decode cX11_step 35 = .ok (.invokevirtual 238, 3) := by decide +kernel
theorem dX11_step_38 : decode cX11_step 38 = .ok (.iconst 2, 1) := by decide +kernel
theorem dX11_step_39 : decode cX11_step 39 = .ok (.invokevirtual 257, 3) := by decide +kernel
theorem dX11_step_42 : decode cX11_step 42 = .ok (.ifCond .eq 10, 3) := by decide +kernel
theorem dX11_step_45 : decode cX11_step 45 = .ok (.aload_n 0, 1) := by decide +kernel
theorem dX11_step_46 : decode cX11_step 46 = .ok (.getfield 137, 3) := by decide +kernel
theorem dX11_step_49 : decode cX11_step 49 = .ok (.goto 4, 3) := by decide +kernel
theorem dX11_step_52 : decode cX11_step 52 = .ok (.iconst 0, 1) := by decide +kernel
theorem dX11_step_53 : decode cX11_step 53 = .ok (.ireturn, 1) := by decide +kernel
theorem dX11_quit_0 : decode cX11_quit 0 = .ok (.aload_n 0, 1) := by decide +kernel
theorem dX11_quit_1 : decode cX11_quit 1 = .ok (.invokevirtual 248, 3) := by decide +kernel
theorem dX11_quit_4 : decode cX11_quit 4 = .ok (.aload_n 0, 1) := by decide +kernel
theorem dX11_quit_5 : decode cX11_quit 5 = .ok (.invokevirtual 140, 3) := by decide +kernel
theorem dX11_quit_8 : decode cX11_quit 8 = .ok (.istore_n 1, 1) := by decide +kernel
theorem dX11_quit_9 : decode cX11_quit 9 = .ok (.aload_n 0, 1) := by decide +kernel
theorem dX11_quit_10 : decode cX11_quit 10 = .ok (.aload_n 0, 1) := by decide +kernel
theorem dX11_quit_11 : decode cX11_quit 11 = .ok (.invokevirtual 243, 3) := by decide +kernel
theorem dX11_quit_14 : decode cX11_quit 14 = .ok (.iconst 1, 1) := by decide +kernel
theorem dX11_quit_15 : decode cX11_quit 15 = .ok (.invokevirtual 257, 3) := by decide +kernel
theorem dX11_quit_18 : decode cX11_quit 18 = .ok (.ifCond .eq 7, 3) := by decide +kernel
theorem dX11_quit_21 : decode cX11_quit 21 = .ok (.iload_n 1, 1) := by decide +kernel
theorem dX11_quit_22 : decode cX11_quit 22 = .ok (.goto 4, 3) := by decide +kernel
theorem dX11_quit_25 : decode cX11_quit 25 = .ok (.iconst 0, 1) := by decide +kernel
theorem dX11_quit_26 : decode cX11_quit 26 = .ok (.ireturn, 1) := by decide +kernel
theorem dX11_undo_0 : decode cX11_undo 0 = .ok (.aload_n 0, 1) := by decide +kernel
theorem dX11_undo_1 : decode cX11_undo 1 = .ok (.aload_n 0, 1) := by decide +kernel
theorem dX11_undo_2 : decode cX11_undo 2 = .ok (.getfield 149, 3) := by decide +kernel
theorem dX11_undo_5 : decode cX11_undo 5 = .ok (.ifCond .ne 7, 3) := by decide +kernel
theorem dX11_undo_8 : decode cX11_undo 8 = .ok (.iconst 1, 1) := by decide +kernel
theorem dX11_undo_9 : decode cX11_undo 9 = .ok (.goto 4, 3) := by decide +kernel
theorem dX11_undo_12 : decode cX11_undo 12 = .ok (.iconst 0, 1) := by decide +kernel
theorem dX11_undo_13 : decode cX11_undo 13 = .ok (.putfield 43, 3) := by decide +kernel
theorem dX11_undo_16 : decode cX11_undo 16 = .ok (.aload_n 0, 1) := by decide +kernel
theorem dX11_undo_17 : decode cX11_undo 17 = .ok (.getfield 43, 3) := by decide +kernel
theorem dX11_undo_20 : decode cX11_undo 20 = .ok (.ifCond .le 5, 3) := by decide +kernel
theorem dX11_undo_23 : decode cX11_undo 23 = .ok (.iconst 0, 1) := by decide +kernel
theorem dX11_undo_24 : decode cX11_undo 24 = .ok (.ireturn, 1) := by decide +kernel
theorem dX11_undo_25 : decode cX11_undo 25 = .ok (.aload_n 0, 1) := by decide +kernel
theorem dX11_undo_26 : decode cX11_undo 26 = .ok (.dup, 1) := by decide +kernel
theorem dX11_undo_27 : decode cX11_undo 27 = .ok (.getfield 149, 3) := by decide +kernel
theorem dX11_undo_30 : decode cX11_undo 30 = .ok (.iconst 1, 1) := by decide +kernel
theorem dX11_undo_31 : decode cX11_undo 31 = .ok (.isub, 1) := by decide +kernel
theorem dX11_undo_32 : decode cX11_undo 32 = .ok (.putfield 149, 3) := by decide +kernel
theorem dX11_undo_35 : decode cX11_undo 35 = .ok (.iconst 0, 1) := by decide +kernel
theorem dX11_undo_36 : decode cX11_undo 36 = .ok (.istore_n 1, 1) := by decide +kernel
theorem dX11_undo_37 : decode cX11_undo 37 = .ok (.iload_n 1, 1) := by decide +kernel
theorem dX11_undo_38 : decode cX11_undo 38 = .ok (.sipush 5497, 3) := by decide +kernel
theorem dX11_undo_41 : decode cX11_undo 41 = .ok (.if_icmp .ge 30, 3) := by decide +kernel
theorem dX11_undo_44 : decode cX11_undo 44 = .ok (.aload_n 0, 1) := by decide +kernel
theorem dX11_undo_45 : decode cX11_undo 45 = .ok (.getfield 7, 3) := by decide +kernel
theorem dX11_undo_48 : decode cX11_undo 48 = .ok (.iload_n 1, 1) := by decide +kernel
theorem dX11_undo_49 : decode cX11_undo 49 = .ok (.aload_n 0, 1) := by decide +kernel
theorem dX11_undo_50 : decode cX11_undo 50 = .ok (.getfield 23, 3) := by decide +kernel
theorem dX11_undo_53 : decode cX11_undo 53 = .ok (.sipush 5497, 3) := by decide +kernel
theorem dX11_undo_56 : decode cX11_undo 56 = .ok (.aload_n 0, 1) := by decide +kernel
theorem dX11_undo_57 : decode cX11_undo 57 = .ok (.getfield 149, 3) := by decide +kernel
theorem dX11_undo_60 : decode cX11_undo 60 = .ok (.imul, 1) := by decide +kernel
theorem dX11_undo_61 : decode cX11_undo 61 = .ok (.iload_n 1, 1) := by decide +kernel
theorem dX11_undo_62 : decode cX11_undo 62 = .ok (.iadd, 1) := by decide +kernel
theorem dX11_undo_63 : decode cX11_undo 63 = .ok (.iaload, 1) := by decide +kernel
theorem dX11_undo_64 : decode cX11_undo 64 = .ok (.iastore, 1) := by decide +kernel
theorem dX11_undo_65 : decode cX11_undo 65 = .ok (.iinc 1 1, 3) := by decide +kernel
theorem dX11_undo_68 : decode cX11_undo 68 = .ok (.goto (-31), 3) := by decide +kernel
theorem dX11_undo_71 : decode cX11_undo 71 = .ok (.aload_n 0, 1) := by decide +kernel
theorem dX11_undo_72 : decode cX11_undo 72 = .ok (.getfield 149, 3) := by decide +kernel
theorem dX11_undo_75 : decode cX11_undo 75 = .ok (.ireturn, 1) := by decide +kernel
theorem dX11_costOf_0 : decode cX11_costOf 0 = .ok (.aload_n 0, 1) := by decide +kernel
theorem dX11_costOf_1 : decode cX11_costOf 1 = .ok (.iload_n 1, 1) := by decide +kernel
theorem dX11_costOf_2 : decode cX11_costOf 2 = .ok (.invokevirtual 70, 3) := by decide +kernel
theorem dX11_costOf_5 : decode cX11_costOf 5 = .ok (.istore_n 2, 1) := by decide +kernel
theorem dX11_costOf_6 : decode cX11_costOf 6 = .ok (.iload_n 2, 1) := by decide +kernel
theorem dX11_costOf_7 : decode cX11_costOf 7 = .ok (.iconst (-1), 1) := by decide +kernel
theorem dX11_costOf_8 : decode cX11_costOf 8 = .ok (.if_icmp .ne 12, 3) := by decide +kernel
theorem dX11_costOf_11 : decode cX11_costOf 11 = .ok (.iconst 1, 1) := by decide +kernel
theorem dX11_costOf_12 : decode cX11_costOf 12 = .ok (.aload_n 0, 1) := by decide +kernel
theorem dX11_costOf_13 : decode cX11_costOf 13 = .ok (.getfield 7, 3) := by decide +kernel
theorem dX11_costOf_16 : decode cX11_costOf 16 = .ok (.iconst 4, 1) := by decide +kernel
theorem dX11_costOf_17 : decode cX11_costOf 17 = .ok (.iaload, 1) := by decide +kernel
theorem dX11_costOf_18 : decode cX11_costOf 18 = .ok (.iadd, 1) := by decide +kernel
theorem dX11_costOf_19 : decode cX11_costOf 19 = .ok (.ireturn, 1) := by decide +kernel
theorem dX11_costOf_20 : decode cX11_costOf 20 = .ok (.iconst 1, 1) := by decide +kernel
theorem dX11_costOf_21 : decode cX11_costOf 21 = .ok (.iload_n 2, 1) := by decide +kernel
theorem dX11_costOf_22 : decode cX11_costOf 22 = .ok (.iadd, 1) := by decide +kernel
theorem dX11_costOf_23 : decode cX11_costOf 23 = .ok (.aload_n 0, 1) := by decide +kernel
theorem dX11_costOf_24 : decode cX11_costOf 24 = .ok (.iload_n 1, 1) := by decide +kernel
theorem dX11_costOf_25 : decode cX11_costOf 25 = .ok (.iconst 1, 1) := by decide +kernel
theorem dX11_costOf_26 : decode cX11_costOf 26 = .ok (.invokevirtual 74, 3) := by decide +kernel
theorem dX11_costOf_29 : decode cX11_costOf 29 = .ok (.iconst 3, 1) := by decide +kernel
theorem dX11_costOf_30 : decode cX11_costOf 30 = .ok (.if_icmp .ne 7, 3) := by decide +kernel
theorem dX11_costOf_33 : decode cX11_costOf 33 = .ok (.iconst 1, 1) := by decide +kernel
theorem dX11_costOf_34 : decode cX11_costOf 34 = .ok (.goto 4, 3) := by decide +kernel
theorem dX11_costOf_37 : decode cX11_costOf 37 = .ok (.iconst 0, 1) := by decide +kernel
theorem dX11_costOf_38 : decode cX11_costOf 38 = .ok (.iadd, 1) := by decide +kernel
theorem dX11_costOf_39 : decode cX11_costOf 39 = .ok (.ireturn, 1) := by decide +kernel
theorem dX11_entriesOf_0 : decode cX11_entriesOf 0 = .ok (.iconst 0, 1) := by decide +kernel
theorem dX11_entriesOf_1 : decode cX11_entriesOf 1 = .ok (.istore_n 2, 1) := by decide +kernel
theorem dX11_entriesOf_2 : decode cX11_entriesOf 2 = .ok (.iconst 0, 1) := by decide +kernel
theorem dX11_entriesOf_3 : decode cX11_entriesOf 3 = .ok (.istore_n 3, 1) := by decide +kernel
theorem dX11_entriesOf_4 : decode cX11_entriesOf 4 = .ok (.iload_n 3, 1) := by decide +kernel
theorem dX11_entriesOf_5 : decode cX11_entriesOf 5 = .ok (.aload_n 0, 1) := by decide +kernel
theorem dX11_entriesOf_6 : decode cX11_entriesOf 6 = .ok (.getfield 7, 3) := by decide +kernel
theorem dX11_entriesOf_9 : decode cX11_entriesOf 9 = .ok (.iconst 4, 1) := by decide +kernel
theorem dX11_entriesOf_10 : decode cX11_entriesOf 10 = .ok (.iaload, 1) := by decide +kernel
theorem dX11_entriesOf_11 : decode cX11_entriesOf 11 = .ok (.if_icmp .gt 26, 3) := by decide +kernel
theorem dX11_entriesOf_14 : decode cX11_entriesOf 14 = .ok (.iload_n 2, 1) := by decide +kernel
theorem dX11_entriesOf_15 : decode cX11_entriesOf 15 = .ok (.aload_n 0, 1) := by decide +kernel
theorem dX11_entriesOf_16 : decode cX11_entriesOf 16 = .ok (.iload_n 3, 1) := by decide +kernel
theorem dX11_entriesOf_17 : decode cX11_entriesOf 17 = .ok (.iload_n 1, 1) := by decide +kernel
theorem dX11_entriesOf_18 : decode cX11_entriesOf 18 = .ok (.invokevirtual 66, 3) := by decide +kernel
theorem dX11_entriesOf_21 : decode cX11_entriesOf 21 = .ok (.ifCond .eq 7, 3) := by decide +kernel
theorem dX11_entriesOf_24 : decode cX11_entriesOf 24 = .ok (.iconst 1, 1) := by decide +kernel
theorem dX11_entriesOf_25 : decode cX11_entriesOf 25 = .ok (.goto 4, 3) := by decide +kernel
theorem dX11_entriesOf_28 : decode cX11_entriesOf 28 = .ok (.iconst 0, 1) := by decide +kernel
theorem dX11_entriesOf_29 : decode cX11_entriesOf 29 = .ok (.iadd, 1) := by decide +kernel
theorem dX11_entriesOf_30 : decode cX11_entriesOf 30 = .ok (.istore_n 2, 1) := by decide +kernel
theorem dX11_entriesOf_31 : decode cX11_entriesOf 31 = .ok (.iinc 3 1, 3) := by decide +kernel
theorem dX11_entriesOf_34 : decode cX11_entriesOf 34 = .ok (.goto (-30), 3) := by decide +kernel
theorem dX11_entriesOf_37 : decode cX11_entriesOf 37 = .ok (.iload_n 2, 1) := by decide +kernel
theorem dX11_entriesOf_38 : decode cX11_entriesOf 38 = .ok (.ireturn, 1) := by decide +kernel
theorem dX11_crashes_0 : decode cX11_crashes 0 = .ok (.iconst 0, 1) := by decide +kernel
theorem dX11_crashes_1 : decode cX11_crashes 1 = .ok (.istore_n 1, 1) := by decide +kernel
theorem dX11_crashes_2 : decode cX11_crashes 2 = .ok (.iload_n 1, 1) := by decide +kernel
theorem dX11_crashes_3 : decode cX11_crashes 3 = .ok (.sipush 5497, 3) := by decide +kernel
theorem dX11_crashes_6 : decode cX11_crashes 6 = .ok (.if_icmp .ge 21, 3) := by decide +kernel
theorem dX11_crashes_9 : decode cX11_crashes 9 = .ok (.aload_n 0, 1) := by decide +kernel
theorem dX11_crashes_10 : decode cX11_crashes 10 = .ok (.getfield 16, 3) := by decide +kernel
theorem dX11_crashes_13 : decode cX11_crashes 13 = .ok (.iload_n 1, 1) := by decide +kernel
theorem dX11_crashes_14 : decode cX11_crashes 14 = .ok (.aload_n 0, 1) := by decide +kernel
theorem dX11_crashes_15 : decode cX11_crashes 15 = .ok (.getfield 7, 3) := by decide +kernel
theorem dX11_crashes_18 : decode cX11_crashes 18 = .ok (.iload_n 1, 1) := by decide +kernel
theorem dX11_crashes_19 : decode cX11_crashes 19 = .ok (.iaload, 1) := by decide +kernel
theorem dX11_crashes_20 : decode cX11_crashes 20 = .ok (.iastore, 1) := by decide +kernel
theorem dX11_crashes_21 : decode cX11_crashes 21 = .ok (.iinc 1 1, 3) := by decide +kernel
theorem dX11_crashes_24 : decode cX11_crashes 24 = .ok (.goto (-22), 3) := by decide +kernel
theorem dX11_crashes_27 : decode cX11_crashes 27 = .ok (.aload_n 0, 1) := by decide +kernel
theorem dX11_crashes_28 : decode cX11_crashes 28 = .ok (.invokevirtual 228, 3) := by decide +kernel
theorem dX11_crashes_31 : decode cX11_crashes 31 = .ok (.istore_n 1, 1) := by decide +kernel
theorem dX11_crashes_32 : decode cX11_crashes 32 = .ok (.iconst 0, 1) := by decide +kernel
theorem dX11_crashes_33 : decode cX11_crashes 33 = .ok (.istore_n 2, 1) := by decide +kernel
theorem dX11_crashes_34 : decode cX11_crashes 34 = .ok (.iload_n 2, 1) := by decide +kernel
theorem dX11_crashes_35 : decode cX11_crashes 35 = .ok (.bipush 64, 2) := by decide +kernel
theorem dX11_crashes_37 : decode cX11_crashes 37 = .ok (.if_icmp .ge 31, 3) := by decide +kernel
theorem dX11_crashes_40 : decode cX11_crashes 40 = .ok (.aload_n 0, 1) := by decide +kernel
theorem dX11_crashes_41 : decode cX11_crashes 41 = .ok (.getfield 33, 3) := by decide +kernel
theorem dX11_crashes_44 : decode cX11_crashes 44 = .ok (.iload_n 2, 1) := by decide +kernel
theorem dX11_crashes_45 : decode cX11_crashes 45 = .ok (.aload_n 0, 1) := by decide +kernel
theorem dX11_crashes_46 : decode cX11_crashes 46 = .ok (.iload_n 2, 1) := by decide +kernel
theorem dX11_crashes_47 : decode cX11_crashes 47 = .ok (.invokevirtual 266, 3) := by decide +kernel
theorem dX11_crashes_50 : decode cX11_crashes 50 = .ok (.iastore, 1) := by decide +kernel
theorem dX11_crashes_51 : decode cX11_crashes 51 = .ok (.aload_n 0, 1) := by decide +kernel
theorem dX11_crashes_52 : decode cX11_crashes 52 = .ok (.getfield 36, 3) := by decide +kernel
theorem dX11_crashes_55 : decode cX11_crashes 55 = .ok (.iload_n 2, 1) := by decide +kernel
theorem dX11_crashes_56 : decode cX11_crashes 56 = .ok (.aload_n 0, 1) := by decide +kernel
theorem dX11_crashes_57 : decode cX11_crashes 57 = .ok (.iload_n 2, 1) := by decide +kernel
theorem dX11_crashes_58 : decode cX11_crashes 58 = .ok (.invokevirtual 269, 3) := by decide +kernel
theorem dX11_crashes_61 : decode cX11_crashes 61 = .ok (.iastore, 1) := by decide +kernel
theorem dX11_crashes_62 : decode cX11_crashes 62 = .ok (.iinc 2 1, 3) := by decide +kernel
theorem dX11_crashes_65 : decode cX11_crashes 65 = .ok (.goto (-31), 3) := by decide +kernel
theorem dX11_crashes_68 : decode cX11_crashes 68 = .ok (.iconst 0, 1) := by decide +kernel
theorem dX11_crashes_69 : decode cX11_crashes 69 = .ok (.istore_n 2, 1) := by decide +kernel
theorem dX11_crashes_70 : decode cX11_crashes 70 = .ok (.iload_n 2, 1) := by decide +kernel
theorem dX11_crashes_71 : decode cX11_crashes 71 = .ok (.sipush 5497, 3) := by decide +kernel
theorem dX11_crashes_74 : decode cX11_crashes 74 = .ok (.if_icmp .ge 21, 3) := by decide +kernel
theorem dX11_crashes_77 : decode cX11_crashes 77 = .ok (.aload_n 0, 1) := by decide +kernel
theorem dX11_crashes_78 : decode cX11_crashes 78 = .ok (.getfield 7, 3) := by decide +kernel
theorem dX11_crashes_81 : decode cX11_crashes 81 = .ok (.iload_n 2, 1) := by decide +kernel
theorem dX11_crashes_82 : decode cX11_crashes 82 = .ok (.aload_n 0, 1) := by decide +kernel
theorem dX11_crashes_83 : decode cX11_crashes 83 = .ok (.getfield 16, 3) := by decide +kernel
theorem dX11_crashes_86 : decode cX11_crashes 86 = .ok (.iload_n 2, 1) := by decide +kernel
theorem dX11_crashes_87 : decode cX11_crashes 87 = .ok (.iaload, 1) := by decide +kernel
theorem dX11_crashes_88 : decode cX11_crashes 88 = .ok (.iastore, 1) := by decide +kernel
theorem dX11_crashes_89 : decode cX11_crashes 89 = .ok (.iinc 2 1, 3) := by decide +kernel
theorem dX11_crashes_92 : decode cX11_crashes 92 = .ok (.goto (-22), 3) := by decide +kernel
theorem dX11_crashes_95 : decode cX11_crashes 95 = .ok (.return_, 1) := by decide +kernel
theorem dX11_asideOnly_0 : decode cX11_asideOnly 0 = .ok (.aload_n 0, 1) := by decide +kernel
theorem dX11_asideOnly_1 : decode cX11_asideOnly 1 = .ok (.iload_n 1, 1) := by decide +kernel
theorem dX11_asideOnly_2 : decode cX11_asideOnly 2 = .ok (.iconst 1, 1) := by decide +kernel
theorem dX11_asideOnly_3 : decode cX11_asideOnly 3 = .ok (.invokevirtual 74, 3) := by decide +kernel
theorem dX11_asideOnly_6 : decode cX11_asideOnly 6 = .ok (.iconst 3, 1) := by decide +kernel
theorem dX11_asideOnly_7 : decode cX11_asideOnly 7 = .ok (.if_icmp .ne 12, 3) := by decide +kernel
theorem dX11_asideOnly_10 : decode cX11_asideOnly 10 = .ok (.aload_n 0, 1) := by decide +kernel
theorem dX11_asideOnly_11 : decode cX11_asideOnly 11 = .ok (.iload_n 1, 1) := by decide +kernel
theorem dX11_asideOnly_12 : decode cX11_asideOnly 12 = .ok (.iload_n 2, 1) := by decide +kernel
theorem dX11_asideOnly_13 : decode cX11_asideOnly 13 = .ok (.invokevirtual 74, 3) := by decide +kernel
theorem dX11_asideOnly_16 : decode cX11_asideOnly 16 = .ok (.goto 4, 3) := by decide +kernel
theorem dX11_asideOnly_19 : decode cX11_asideOnly 19 = .ok (.iconst (-1), 1) := by decide +kernel
theorem dX11_asideOnly_20 : decode cX11_asideOnly 20 = .ok (.ireturn, 1) := by decide +kernel
theorem dX11_key_0 : decode cX11_key 0 = .ok (.aload_n 0, 1) := by decide +kernel
theorem dX11_key_1 : decode cX11_key 1 = .ok (.iload_n 1, 1) := by decide +kernel
theorem dX11_key_2 : decode cX11_key 2 = .ok (.invokestatic 254, 3) := by decide +kernel
theorem dX11_key_5 : decode cX11_key 5 = .ok (.ifCond .ne 7, 3) := by decide +kernel
theorem dX11_key_8 : decode cX11_key 8 = .ok (.iconst 1, 1) := by decide +kernel
theorem dX11_key_9 : decode cX11_key 9 = .ok (.goto 18, 3) := by decide +kernel
theorem dX11_key_12 : decode cX11_key 12 = .ok (.iload_n 2, 1) := by decide +kernel
theorem dX11_key_13 : decode cX11_key 13 = .ok (.iconst 0, 1) := by decide +kernel
theorem dX11_key_14 : decode cX11_key 14 = .ok (.bipush 9, 2) := by decide +kernel
theorem dX11_key_16 : decode cX11_key 16 = .ok (.invokestatic 165, 3) := by decide +kernel
theorem dX11_key_19 : decode cX11_key 19 = .ok (.ifCond .ne 7, 3) := by decide +kernel
theorem dX11_key_22 : decode cX11_key 22 = .ok (.iconst 2, 1) := by decide +kernel
theorem dX11_key_23 : decode cX11_key 23 = .ok (.goto 4, 3) := by decide +kernel
theorem dX11_key_26 : decode cX11_key 26 = .ok (.iconst 0, 1) := by decide +kernel
theorem dX11_key_27 : decode cX11_key 27 = .ok (.putfield 43, 3) := by decide +kernel
theorem dX11_key_30 : decode cX11_key 30 = .ok (.aload_n 0, 1) := by decide +kernel
theorem dX11_key_31 : decode cX11_key 31 = .ok (.getfield 43, 3) := by decide +kernel
theorem dX11_key_34 : decode cX11_key 34 = .ok (.ifCond .le 5, 3) := by decide +kernel
theorem dX11_key_37 : decode cX11_key 37 = .ok (.iconst 0, 1) := by decide +kernel
theorem dX11_key_38 : decode cX11_key 38 = .ok (.ireturn, 1) := by decide +kernel
theorem dX11_key_39 : decode cX11_key 39 = .ok (.iload_n 2, 1) := by decide +kernel
theorem dX11_key_40 : decode cX11_key 40 = .ok (.tableswitch 123 0 8 #[52, 58, 64, 71, 91, 98, 105, 111, 117], 52) := by decide +kernel
theorem dX11_key_92 : decode cX11_key 92 = .ok (.aload_n 0, 1) := by decide +kernel
theorem dX11_key_93 : decode cX11_key 93 = .ok (.iload_n 1, 1) := by decide +kernel
theorem dX11_key_94 : decode cX11_key 94 = .ok (.invokevirtual 266, 3) := by decide +kernel
theorem dX11_key_97 : decode cX11_key 97 = .ok (.ireturn, 1) := by decide +kernel
theorem dX11_key_98 : decode cX11_key 98 = .ok (.aload_n 0, 1) := by decide +kernel
theorem dX11_key_99 : decode cX11_key 99 = .ok (.iload_n 1, 1) := by decide +kernel
theorem dX11_key_100 : decode cX11_key 100 = .ok (.invokevirtual 269, 3) := by decide +kernel
theorem dX11_key_103 : decode cX11_key 103 = .ok (.ireturn, 1) := by decide +kernel
theorem dX11_key_104 : decode cX11_key 104 = .ok (.aload_n 0, 1) := by decide +kernel
theorem dX11_key_105 : decode cX11_key 105 = .ok (.iload_n 1, 1) := by decide +kernel
theorem dX11_key_106 : decode cX11_key 106 = .ok (.iconst 1, 1) := by decide +kernel
theorem dX11_key_107 : decode cX11_key 107 = .ok (.invokevirtual 74, 3) := by decide +kernel
theorem dX11_key_110 : decode cX11_key 110 = .ok (.ireturn, 1) := by decide +kernel
theorem dX11_key_111 : decode cX11_key 111 = .ok (.aload_n 0, 1) := by decide +kernel
theorem dX11_key_112 : decode cX11_key 112 = .ok (.iload_n 1, 1) := by decide +kernel
theorem dX11_key_113 : decode cX11_key 113 = .ok (.invokevirtual 70, 3) := by decide +kernel
theorem dX11_key_116 : decode cX11_key 116 = .ok (.iconst (-1), 1) := by decide +kernel
theorem dX11_key_117 : decode cX11_key 117 = .ok (.if_icmp .ne 7, 3) := by decide +kernel
theorem dX11_key_120 : decode cX11_key 120 = .ok (.iconst (-1), 1) := by decide +kernel
theorem dX11_key_121 : decode cX11_key 121 = .ok (.goto 9, 3) := by decide +kernel
theorem dX11_key_124 : decode cX11_key 124 = .ok (.aload_n 0, 1) := by decide +kernel
theorem dX11_key_125 : decode cX11_key 125 = .ok (.iload_n 1, 1) := by decide +kernel
theorem dX11_key_126 : decode cX11_key 126 = .ok (.iconst 0, 1) := by decide +kernel
theorem dX11_key_127 : decode cX11_key 127 = .ok (.invokevirtual 74, 3) := by decide +kernel
theorem dX11_key_130 : decode cX11_key 130 = .ok (.ireturn, 1) := by decide +kernel
theorem dX11_key_131 : decode cX11_key 131 = .ok (.aload_n 0, 1) := by decide +kernel
theorem dX11_key_132 : decode cX11_key 132 = .ok (.iload_n 1, 1) := by decide +kernel
theorem dX11_key_133 : decode cX11_key 133 = .ok (.iconst 4, 1) := by decide +kernel
theorem dX11_key_134 : decode cX11_key 134 = .ok (.invokevirtual 272, 3) := by decide +kernel
theorem dX11_key_137 : decode cX11_key 137 = .ok (.ireturn, 1) := by decide +kernel
theorem dX11_key_138 : decode cX11_key 138 = .ok (.aload_n 0, 1) := by decide +kernel
theorem dX11_key_139 : decode cX11_key 139 = .ok (.iload_n 1, 1) := by decide +kernel
theorem dX11_key_140 : decode cX11_key 140 = .ok (.iconst 5, 1) := by decide +kernel
theorem dX11_key_141 : decode cX11_key 141 = .ok (.invokevirtual 272, 3) := by decide +kernel
theorem dX11_key_144 : decode cX11_key 144 = .ok (.ireturn, 1) := by decide +kernel
theorem dX11_key_145 : decode cX11_key 145 = .ok (.aload_n 0, 1) := by decide +kernel
theorem dX11_key_146 : decode cX11_key 146 = .ok (.iload_n 1, 1) := by decide +kernel
theorem dX11_key_147 : decode cX11_key 147 = .ok (.invokevirtual 275, 3) := by decide +kernel
theorem dX11_key_150 : decode cX11_key 150 = .ok (.ireturn, 1) := by decide +kernel
theorem dX11_key_151 : decode cX11_key 151 = .ok (.aload_n 0, 1) := by decide +kernel
theorem dX11_key_152 : decode cX11_key 152 = .ok (.iload_n 1, 1) := by decide +kernel
theorem dX11_key_153 : decode cX11_key 153 = .ok (.invokevirtual 70, 3) := by decide +kernel
theorem dX11_key_156 : decode cX11_key 156 = .ok (.ireturn, 1) := by decide +kernel
theorem dX11_key_157 : decode cX11_key 157 = .ok (.aload_n 0, 1) := by decide +kernel
theorem dX11_key_158 : decode cX11_key 158 = .ok (.iload_n 1, 1) := by decide +kernel
theorem dX11_key_159 : decode cX11_key 159 = .ok (.invokevirtual 278, 3) := by decide +kernel
theorem dX11_key_162 : decode cX11_key 162 = .ok (.ireturn, 1) := by decide +kernel
theorem dX11_key_163 : decode cX11_key 163 = .ok (.aload_n 0, 1) := by decide +kernel
theorem dX11_key_164 : decode cX11_key 164 = .ok (.invokevirtual 281, 3) := by decide +kernel
theorem dX11_key_167 : decode cX11_key 167 = .ok (.aload_n 0, 1) := by decide +kernel
theorem dX11_key_168 : decode cX11_key 168 = .ok (.getfield 33, 3) := by decide +kernel
theorem dX11_key_171 : decode cX11_key 171 = .ok (.iload_n 1, 1) := by decide +kernel
theorem dX11_key_172 : decode cX11_key 172 = .ok (.iaload, 1) := by decide +kernel
theorem dX11_key_173 : decode cX11_key 173 = .ok (.ireturn, 1) := by decide +kernel
theorem dX11_octet_0 : decode cX11_octet 0 = .ok (.aload_n 0, 1) := by decide +kernel
theorem dX11_octet_1 : decode cX11_octet 1 = .ok (.iload_n 1, 1) := by decide +kernel
theorem dX11_octet_2 : decode cX11_octet 2 = .ok (.invokestatic 254, 3) := by decide +kernel
theorem dX11_octet_5 : decode cX11_octet 5 = .ok (.ifCond .eq 7, 3) := by decide +kernel
theorem dX11_octet_8 : decode cX11_octet 8 = .ok (.iconst 0, 1) := by decide +kernel
theorem dX11_octet_9 : decode cX11_octet 9 = .ok (.goto 4, 3) := by decide +kernel
theorem dX11_octet_12 : decode cX11_octet 12 = .ok (.iconst 1, 1) := by decide +kernel
theorem dX11_octet_13 : decode cX11_octet 13 = .ok (.putfield 43, 3) := by decide +kernel
theorem dX11_octet_16 : decode cX11_octet 16 = .ok (.aload_n 0, 1) := by decide +kernel
theorem dX11_octet_17 : decode cX11_octet 17 = .ok (.getfield 43, 3) := by decide +kernel
theorem dX11_octet_20 : decode cX11_octet 20 = .ok (.ifCond .le 5, 3) := by decide +kernel
theorem dX11_octet_23 : decode cX11_octet 23 = .ok (.iconst 0, 1) := by decide +kernel
theorem dX11_octet_24 : decode cX11_octet 24 = .ok (.ireturn, 1) := by decide +kernel
theorem dX11_octet_25 : decode cX11_octet 25 = .ok (.iload_n 2, 1) := by decide +kernel
theorem dX11_octet_26 : decode cX11_octet 26 = .ok (.iconst 0, 1) := by decide +kernel
theorem dX11_octet_27 : decode cX11_octet 27 = .ok (.aload_n 0, 1) := by decide +kernel
theorem dX11_octet_28 : decode cX11_octet 28 = .ok (.iload_n 1, 1) := by decide +kernel
theorem dX11_octet_29 : decode cX11_octet 29 = .ok (.invokevirtual 266, 3) := by decide +kernel
theorem dX11_octet_32 : decode cX11_octet 32 = .ok (.iconst 1, 1) := by decide +kernel
theorem dX11_octet_33 : decode cX11_octet 33 = .ok (.isub, 1) := by decide +kernel
theorem dX11_octet_34 : decode cX11_octet 34 = .ok (.invokestatic 165, 3) := by decide +kernel
theorem dX11_octet_37 : decode cX11_octet 37 = .ok (.ifCond .eq 15, 3) := by decide +kernel
theorem dX11_octet_40 : decode cX11_octet 40 = .ok (.aload_n 0, 1) := by decide +kernel
theorem dX11_octet_41 : decode cX11_octet 41 = .ok (.iload_n 1, 1) := by decide +kernel
theorem dX11_octet_42 : decode cX11_octet 42 = .ok (.invokevirtual 269, 3) := by decide +kernel
theorem dX11_octet_45 : decode cX11_octet 45 = .ok (.iload_n 2, 1) := by decide +kernel
theorem dX11_octet_46 : decode cX11_octet 46 = .ok (.invokestatic 284, 3) := by decide +kernel
theorem dX11_octet_49 : decode cX11_octet 49 = .ok (.goto 4, 3) := by decide +kernel
theorem dX11_octet_52 : decode cX11_octet 52 = .ok (.iconst (-1), 1) := by decide +kernel
theorem dX11_octet_53 : decode cX11_octet 53 = .ok (.ireturn, 1) := by decide +kernel
theorem dX11_from_0 : decode cX11_from 0 = .ok (.aload_n 0, 1) := by decide +kernel
theorem dX11_from_1 : decode cX11_from 1 = .ok (.iload_n 1, 1) := by decide +kernel
theorem dX11_from_2 : decode cX11_from 2 = .ok (.invokestatic 254, 3) := by decide +kernel
theorem dX11_from_5 : decode cX11_from 5 = .ok (.ifCond .eq 7, 3) := by decide +kernel
theorem dX11_from_8 : decode cX11_from 8 = .ok (.iconst 0, 1) := by decide +kernel
theorem dX11_from_9 : decode cX11_from 9 = .ok (.goto 4, 3) := by decide +kernel
theorem dX11_from_12 : decode cX11_from 12 = .ok (.iconst 1, 1) := by decide +kernel
theorem dX11_from_13 : decode cX11_from 13 = .ok (.putfield 43, 3) := by decide +kernel
theorem dX11_from_16 : decode cX11_from 16 = .ok (.aload_n 0, 1) := by decide +kernel
theorem dX11_from_17 : decode cX11_from 17 = .ok (.getfield 43, 3) := by decide +kernel
theorem dX11_from_20 : decode cX11_from 20 = .ok (.ifCond .le 5, 3) := by decide +kernel
theorem dX11_from_23 : decode cX11_from 23 = .ok (.iconst 0, 1) := by decide +kernel
theorem dX11_from_24 : decode cX11_from 24 = .ok (.ireturn, 1) := by decide +kernel
theorem dX11_from_25 : decode cX11_from 25 = .ok (.iconst 0, 1) := by decide +kernel
theorem dX11_from_26 : decode cX11_from 26 = .ok (.istore_n 3, 1) := by decide +kernel
theorem dX11_from_27 : decode cX11_from 27 = .ok (.iload_n 1, 1) := by decide +kernel
theorem dX11_from_28 : decode cX11_from 28 = .ok (.istore 4, 2) := by decide +kernel
theorem dX11_from_30 : decode cX11_from 30 = .ok (.iload 4, 2) := by decide +kernel
theorem dX11_from_32 : decode cX11_from 32 = .ok (.bipush 64, 2) := by decide +kernel
theorem dX11_from_34 : decode cX11_from 34 = .ok (.if_icmp .ge 32, 3) := by decide +kernel
theorem dX11_from_37 : decode cX11_from 37 = .ok (.aload_n 0, 1) := by decide +kernel
theorem dX11_from_38 : decode cX11_from 38 = .ok (.iload 4, 2) := by decide +kernel
theorem dX11_from_40 : decode cX11_from 40 = .ok (.invokevirtual 81, 3) := by decide +kernel
theorem dX11_from_43 : decode cX11_from 43 = .ok (.ifCond .ne 6, 3) := by decide +kernel
theorem dX11_from_46 : decode cX11_from 46 = .ok (.goto 14, 3) := by decide +kernel
theorem dX11_from_49 : decode cX11_from 49 = .ok (.iload_n 3, 1) := by decide +kernel
theorem dX11_from_50 : decode cX11_from 50 = .ok (.iload_n 2, 1) := by decide +kernel
theorem dX11_from_51 : decode cX11_from 51 = .ok (.if_icmp .ne 6, 3) := by decide +kernel
theorem dX11_from_54 : decode cX11_from 54 = .ok (.iload 4, 2) := by decide +kernel
theorem dX11_from_56 : decode cX11_from 56 = .ok (.ireturn, 1) := by decide +kernel
theorem dX11_from_57 : decode cX11_from 57 = .ok (.iinc 3 1, 3) := by decide +kernel
theorem dX11_from_60 : decode cX11_from 60 = .ok (.iinc 4 1, 3) := by decide +kernel
theorem dX11_from_63 : decode cX11_from 63 = .ok (.goto (-33), 3) := by decide +kernel
theorem dX11_from_66 : decode cX11_from 66 = .ok (.iconst (-1), 1) := by decide +kernel
theorem dX11_from_67 : decode cX11_from 67 = .ok (.ireturn, 1) := by decide +kernel
theorem dX11_valuesBelow_0 : decode cX11_valuesBelow 0 = .ok (.iconst 0, 1) := by decide +kernel
theorem dX11_valuesBelow_1 : decode cX11_valuesBelow 1 = .ok (.istore_n 2, 1) := by decide +kernel
theorem dX11_valuesBelow_2 : decode cX11_valuesBelow 2 = .ok (.iconst 0, 1) := by decide +kernel
theorem dX11_valuesBelow_3 : decode cX11_valuesBelow 3 = .ok (.istore_n 3, 1) := by decide +kernel
theorem dX11_valuesBelow_4 : decode cX11_valuesBelow 4 = .ok (.iload_n 3, 1) := by decide +kernel
theorem dX11_valuesBelow_5 : decode cX11_valuesBelow 5 = .ok (.iload_n 1, 1) := by decide +kernel
theorem dX11_valuesBelow_6 : decode cX11_valuesBelow 6 = .ok (.if_icmp .ge 25, 3) := by decide +kernel
theorem dX11_valuesBelow_9 : decode cX11_valuesBelow 9 = .ok (.iload_n 2, 1) := by decide +kernel
theorem dX11_valuesBelow_10 : decode cX11_valuesBelow 10 = .ok (.aload_n 0, 1) := by decide +kernel
theorem dX11_valuesBelow_11 : decode cX11_valuesBelow 11 = .ok (.iload_n 3, 1) := by decide +kernel
theorem dX11_valuesBelow_12 : decode cX11_valuesBelow 12 = .ok (.invokevirtual 81, 3) := by decide +kernel
theorem dX11_valuesBelow_15 : decode cX11_valuesBelow 15 = .ok (.ifCond .eq 7, 3) := by decide +kernel
theorem dX11_valuesBelow_18 : decode cX11_valuesBelow 18 = .ok (.iconst 1, 1) := by decide +kernel
theorem dX11_valuesBelow_19 : decode cX11_valuesBelow 19 = .ok (.goto 4, 3) := by decide +kernel
theorem dX11_valuesBelow_22 : decode cX11_valuesBelow 22 = .ok (.iconst 0, 1) := by decide +kernel
theorem dX11_valuesBelow_23 : decode cX11_valuesBelow 23 = .ok (.iadd, 1) := by decide +kernel
theorem dX11_valuesBelow_24 : decode cX11_valuesBelow 24 = .ok (.istore_n 2, 1) := by decide +kernel
theorem dX11_valuesBelow_25 : decode cX11_valuesBelow 25 = .ok (.iinc 3 1, 3) := by decide +kernel
theorem dX11_valuesBelow_28 : decode cX11_valuesBelow 28 = .ok (.goto (-24), 3) := by decide +kernel
theorem dX11_valuesBelow_31 : decode cX11_valuesBelow 31 = .ok (.iload_n 2, 1) := by decide +kernel
theorem dX11_valuesBelow_32 : decode cX11_valuesBelow 32 = .ok (.ireturn, 1) := by decide +kernel
theorem dX11_below_0 : decode cX11_below 0 = .ok (.aload_n 0, 1) := by decide +kernel
theorem dX11_below_1 : decode cX11_below 1 = .ok (.iload_n 1, 1) := by decide +kernel
theorem dX11_below_2 : decode cX11_below 2 = .ok (.invokestatic 254, 3) := by decide +kernel
theorem dX11_below_5 : decode cX11_below 5 = .ok (.ifCond .eq 7, 3) := by decide +kernel
theorem dX11_below_8 : decode cX11_below 8 = .ok (.iconst 0, 1) := by decide +kernel
theorem dX11_below_9 : decode cX11_below 9 = .ok (.goto 4, 3) := by decide +kernel
theorem dX11_below_12 : decode cX11_below 12 = .ok (.iconst 1, 1) := by decide +kernel
theorem dX11_below_13 : decode cX11_below 13 = .ok (.putfield 43, 3) := by decide +kernel
theorem dX11_below_16 : decode cX11_below 16 = .ok (.aload_n 0, 1) := by decide +kernel
theorem dX11_below_17 : decode cX11_below 17 = .ok (.getfield 43, 3) := by decide +kernel
theorem dX11_below_20 : decode cX11_below 20 = .ok (.ifCond .le 7, 3) := by decide +kernel
theorem dX11_below_23 : decode cX11_below 23 = .ok (.iconst 0, 1) := by decide +kernel
theorem dX11_below_24 : decode cX11_below 24 = .ok (.goto 8, 3) := by decide +kernel
theorem dX11_below_27 : decode cX11_below 27 = .ok (.aload_n 0, 1) := by decide +kernel
theorem dX11_below_28 : decode cX11_below 28 = .ok (.iload_n 1, 1) := by decide +kernel
theorem dX11_below_29 : decode cX11_below 29 = .ok (.invokevirtual 287, 3) := by decide +kernel
theorem dX11_below_32 : decode cX11_below 32 = .ok (.ireturn, 1) := by decide +kernel
theorem dX11_lastIn_0 : decode cX11_lastIn 0 = .ok (.aload_n 0, 1) := by decide +kernel
theorem dX11_lastIn_1 : decode cX11_lastIn 1 = .ok (.iload_n 1, 1) := by decide +kernel
theorem dX11_lastIn_2 : decode cX11_lastIn 2 = .ok (.iconst 1, 1) := by decide +kernel
theorem dX11_lastIn_3 : decode cX11_lastIn 3 = .ok (.invokevirtual 53, 3) := by decide +kernel
theorem dX11_lastIn_6 : decode cX11_lastIn 6 = .ok (.ifCond .ne 7, 3) := by decide +kernel
theorem dX11_lastIn_9 : decode cX11_lastIn 9 = .ok (.iconst (-1), 1) := by decide +kernel
theorem dX11_lastIn_10 : decode cX11_lastIn 10 = .ok (.goto 17, 3) := by decide +kernel
theorem dX11_lastIn_13 : decode cX11_lastIn 13 = .ok (.aload_n 0, 1) := by decide +kernel
theorem dX11_lastIn_14 : decode cX11_lastIn 14 = .ok (.iload_n 1, 1) := by decide +kernel
theorem dX11_lastIn_15 : decode cX11_lastIn 15 = .ok (.aload_n 0, 1) := by decide +kernel
theorem dX11_lastIn_16 : decode cX11_lastIn 16 = .ok (.iload_n 1, 1) := by decide +kernel
theorem dX11_lastIn_17 : decode cX11_lastIn 17 = .ok (.iconst 1, 1) := by decide +kernel
theorem dX11_lastIn_18 : decode cX11_lastIn 18 = .ok (.invokevirtual 53, 3) := by decide +kernel
theorem dX11_lastIn_21 : decode cX11_lastIn 21 = .ok (.iconst 1, 1) := by decide +kernel
theorem dX11_lastIn_22 : decode cX11_lastIn 22 = .ok (.isub, 1) := by decide +kernel
theorem dX11_lastIn_23 : decode cX11_lastIn 23 = .ok (.iconst 3, 1) := by decide +kernel
theorem dX11_lastIn_24 : decode cX11_lastIn 24 = .ok (.invokevirtual 77, 3) := by decide +kernel
theorem dX11_lastIn_27 : decode cX11_lastIn 27 = .ok (.ireturn, 1) := by decide +kernel
theorem dX11_segment_0 : decode cX11_segment 0 = .ok (.aload_n 0, 1) := by decide +kernel
theorem dX11_segment_1 : decode cX11_segment 1 = .ok (.iload_n 1, 1) := by decide +kernel
theorem dX11_segment_2 : decode cX11_segment 2 = .ok (.invokestatic 263, 3) := by decide +kernel
theorem dX11_segment_5 : decode cX11_segment 5 = .ok (.ifCond .ne 7, 3) := by decide +kernel
theorem dX11_segment_8 : decode cX11_segment 8 = .ok (.iconst 1, 1) := by decide +kernel
theorem dX11_segment_9 : decode cX11_segment 9 = .ok (.goto 18, 3) := by decide +kernel
theorem dX11_segment_12 : decode cX11_segment 12 = .ok (.iload_n 2, 1) := by decide +kernel
theorem dX11_segment_13 : decode cX11_segment 13 = .ok (.iconst 0, 1) := by decide +kernel
theorem dX11_segment_14 : decode cX11_segment 14 = .ok (.bipush 6, 2) := by decide +kernel
theorem dX11_segment_16 : decode cX11_segment 16 = .ok (.invokestatic 165, 3) := by decide +kernel
theorem dX11_segment_19 : decode cX11_segment 19 = .ok (.ifCond .ne 7, 3) := by decide +kernel
theorem dX11_segment_22 : decode cX11_segment 22 = .ok (.iconst 2, 1) := by decide +kernel
theorem dX11_segment_23 : decode cX11_segment 23 = .ok (.goto 4, 3) := by decide +kernel
theorem dX11_segment_26 : decode cX11_segment 26 = .ok (.iconst 0, 1) := by decide +kernel
theorem dX11_segment_27 : decode cX11_segment 27 = .ok (.putfield 43, 3) := by decide +kernel
theorem dX11_segment_30 : decode cX11_segment 30 = .ok (.aload_n 0, 1) := by decide +kernel
theorem dX11_segment_31 : decode cX11_segment 31 = .ok (.getfield 43, 3) := by decide +kernel
theorem dX11_segment_34 : decode cX11_segment 34 = .ok (.ifCond .le 5, 3) := by decide +kernel
theorem dX11_segment_37 : decode cX11_segment 37 = .ok (.iconst 0, 1) := by decide +kernel
theorem dX11_segment_38 : decode cX11_segment 38 = .ok (.ireturn, 1) := by decide +kernel
theorem dX11_segment_39 : decode cX11_segment 39 = .ok (.iload_n 2, 1) := by decide +kernel
theorem dX11_segment_40 : decode cX11_segment 40 = .ok (.tableswitch 81 0 5 #[40, 47, 54, 61, 68, 75], 40) := by decide +kernel
theorem dX11_segment_80 : decode cX11_segment 80 = .ok (.aload_n 0, 1) := by decide +kernel
theorem dX11_segment_81 : decode cX11_segment 81 = .ok (.iload_n 1, 1) := by decide +kernel
theorem dX11_segment_82 : decode cX11_segment 82 = .ok (.iconst 0, 1) := by decide +kernel
theorem dX11_segment_83 : decode cX11_segment 83 = .ok (.invokevirtual 53, 3) := by decide +kernel
theorem dX11_segment_86 : decode cX11_segment 86 = .ok (.ireturn, 1) := by decide +kernel
theorem dX11_segment_87 : decode cX11_segment 87 = .ok (.aload_n 0, 1) := by decide +kernel
theorem dX11_segment_88 : decode cX11_segment 88 = .ok (.iload_n 1, 1) := by decide +kernel
theorem dX11_segment_89 : decode cX11_segment 89 = .ok (.iconst 1, 1) := by decide +kernel
theorem dX11_segment_90 : decode cX11_segment 90 = .ok (.invokevirtual 53, 3) := by decide +kernel
theorem dX11_segment_93 : decode cX11_segment 93 = .ok (.ireturn, 1) := by decide +kernel
theorem dX11_segment_94 : decode cX11_segment 94 = .ok (.aload_n 0, 1) := by decide +kernel
theorem dX11_segment_95 : decode cX11_segment 95 = .ok (.iload_n 1, 1) := by decide +kernel
theorem dX11_segment_96 : decode cX11_segment 96 = .ok (.iconst 2, 1) := by decide +kernel
theorem dX11_segment_97 : decode cX11_segment 97 = .ok (.invokevirtual 53, 3) := by decide +kernel
theorem dX11_segment_100 : decode cX11_segment 100 = .ok (.ireturn, 1) := by decide +kernel
theorem dX11_segment_101 : decode cX11_segment 101 = .ok (.aload_n 0, 1) := by decide +kernel
theorem dX11_segment_102 : decode cX11_segment 102 = .ok (.iload_n 1, 1) := by decide +kernel
theorem dX11_segment_103 : decode cX11_segment 103 = .ok (.iconst 1, 1) := by decide +kernel
theorem dX11_segment_104 : decode cX11_segment 104 = .ok (.invokevirtual 130, 3) := by decide +kernel
theorem dX11_segment_107 : decode cX11_segment 107 = .ok (.ireturn, 1) := by decide +kernel
theorem dX11_segment_108 : decode cX11_segment 108 = .ok (.aload_n 0, 1) := by decide +kernel
theorem dX11_segment_109 : decode cX11_segment 109 = .ok (.iload_n 1, 1) := by decide +kernel
theorem dX11_segment_110 : decode cX11_segment 110 = .ok (.iconst 0, 1) := by decide +kernel
theorem dX11_segment_111 : decode cX11_segment 111 = .ok (.invokevirtual 130, 3) := by decide +kernel
theorem dX11_segment_114 : decode cX11_segment 114 = .ok (.ireturn, 1) := by decide +kernel
theorem dX11_segment_115 : decode cX11_segment 115 = .ok (.aload_n 0, 1) := by decide +kernel
theorem dX11_segment_116 : decode cX11_segment 116 = .ok (.iload_n 1, 1) := by decide +kernel
theorem dX11_segment_117 : decode cX11_segment 117 = .ok (.invokevirtual 290, 3) := by decide +kernel
theorem dX11_segment_120 : decode cX11_segment 120 = .ok (.ireturn, 1) := by decide +kernel
theorem dX11_segment_121 : decode cX11_segment 121 = .ok (.aload_n 0, 1) := by decide +kernel
theorem dX11_segment_122 : decode cX11_segment 122 = .ok (.iload_n 1, 1) := by decide +kernel
theorem dX11_segment_123 : decode cX11_segment 123 = .ok (.iconst 0, 1) := by decide +kernel
theorem dX11_segment_124 : decode cX11_segment 124 = .ok (.invokevirtual 53, 3) := by decide +kernel
theorem dX11_segment_127 : decode cX11_segment 127 = .ok (.iconst 2, 1) := by decide +kernel
theorem dX11_segment_128 : decode cX11_segment 128 = .ok (.if_icmp .ne 19, 3) := by decide +kernel
theorem dX11_segment_131 : decode cX11_segment 131 = .ok (.aload_n 0, 1) := by decide +kernel
theorem dX11_segment_132 : decode cX11_segment 132 = .ok (.iload_n 1, 1) := by decide +kernel
theorem dX11_segment_133 : decode cX11_segment 133 = .ok (.iconst 0, 1) := by decide +kernel
theorem dX11_segment_134 : decode cX11_segment 134 = .ok (.invokevirtual 130, 3) := by decide +kernel
theorem dX11_segment_137 : decode cX11_segment 137 = .ok (.aload_n 0, 1) := by decide +kernel
theorem dX11_segment_138 : decode cX11_segment 138 = .ok (.iload_n 1, 1) := by decide +kernel
theorem dX11_segment_139 : decode cX11_segment 139 = .ok (.iconst 1, 1) := by decide +kernel
theorem dX11_segment_140 : decode cX11_segment 140 = .ok (.invokevirtual 130, 3) := by decide +kernel
theorem dX11_segment_143 : decode cX11_segment 143 = .ok (.isub, 1) := by decide +kernel
theorem dX11_segment_144 : decode cX11_segment 144 = .ok (.goto 4, 3) := by decide +kernel
theorem dX11_segment_147 : decode cX11_segment 147 = .ok (.iconst 0, 1) := by decide +kernel
theorem dX11_segment_148 : decode cX11_segment 148 = .ok (.ireturn, 1) := by decide +kernel
theorem dX11_record_0 : decode cX11_record 0 = .ok (.aload_n 0, 1) := by decide +kernel
theorem dX11_record_1 : decode cX11_record 1 = .ok (.iload_n 1, 1) := by decide +kernel
theorem dX11_record_2 : decode cX11_record 2 = .ok (.invokestatic 263, 3) := by decide +kernel
theorem dX11_record_5 : decode cX11_record 5 = .ok (.ifCond .ne 7, 3) := by decide +kernel
theorem dX11_record_8 : decode cX11_record 8 = .ok (.iconst 1, 1) := by decide +kernel
theorem dX11_record_9 : decode cX11_record 9 = .ok (.goto 17, 3) := by decide +kernel
theorem dX11_record_12 : decode cX11_record 12 = .ok (.iload_n 3, 1) := by decide +kernel
theorem dX11_record_13 : decode cX11_record 13 = .ok (.iconst 0, 1) := by decide +kernel
theorem dX11_record_14 : decode cX11_record 14 = .ok (.iconst 4, 1) := by decide +kernel
theorem dX11_record_15 : decode cX11_record 15 = .ok (.invokestatic 165, 3) := by decide +kernel
theorem dX11_record_18 : decode cX11_record 18 = .ok (.ifCond .ne 7, 3) := by decide +kernel
theorem dX11_record_21 : decode cX11_record 21 = .ok (.iconst 2, 1) := by decide +kernel
theorem dX11_record_22 : decode cX11_record 22 = .ok (.goto 4, 3) := by decide +kernel
theorem dX11_record_25 : decode cX11_record 25 = .ok (.iconst 0, 1) := by decide +kernel
theorem dX11_record_26 : decode cX11_record 26 = .ok (.putfield 43, 3) := by decide +kernel
theorem dX11_record_29 : decode cX11_record 29 = .ok (.aload_n 0, 1) := by decide +kernel
theorem dX11_record_30 : decode cX11_record 30 = .ok (.getfield 43, 3) := by decide +kernel
theorem dX11_record_33 : decode cX11_record 33 = .ok (.ifCond .le 5, 3) := by decide +kernel
theorem dX11_record_36 : decode cX11_record 36 = .ok (.iconst 0, 1) := by decide +kernel
theorem dX11_record_37 : decode cX11_record 37 = .ok (.ireturn, 1) := by decide +kernel
theorem dX11_record_38 : decode cX11_record 38 = .ok (.iload_n 2, 1) := by decide +kernel
theorem dX11_record_39 : decode cX11_record 39 = .ok (.iconst 0, 1) := by decide +kernel
theorem dX11_record_40 : decode cX11_record 40 = .ok (.aload_n 0, 1) := by decide +kernel
theorem dX11_record_41 : decode cX11_record 41 = .ok (.iload_n 1, 1) := by decide +kernel
theorem dX11_record_42 : decode cX11_record 42 = .ok (.iconst 1, 1) := by decide +kernel
theorem dX11_record_43 : decode cX11_record 43 = .ok (.invokevirtual 53, 3) := by decide +kernel
theorem dX11_record_46 : decode cX11_record 46 = .ok (.iconst 1, 1) := by decide +kernel
theorem dX11_record_47 : decode cX11_record 47 = .ok (.isub, 1) := by decide +kernel
theorem dX11_record_48 : decode cX11_record 48 = .ok (.invokestatic 165, 3) := by decide +kernel
theorem dX11_record_51 : decode cX11_record 51 = .ok (.ifCond .ne 5, 3) := by decide +kernel
theorem dX11_record_54 : decode cX11_record 54 = .ok (.iconst (-1), 1) := by decide +kernel
theorem dX11_record_55 : decode cX11_record 55 = .ok (.ireturn, 1) := by decide +kernel
theorem dX11_record_56 : decode cX11_record 56 = .ok (.iload_n 3, 1) := by decide +kernel
theorem dX11_record_57 : decode cX11_record 57 = .ok (.tableswitch 63 0 3 #[31, 39, 47, 55], 31) := by decide +kernel
theorem dX11_record_88 : decode cX11_record 88 = .ok (.aload_n 0, 1) := by decide +kernel
theorem dX11_record_89 : decode cX11_record 89 = .ok (.iload_n 1, 1) := by decide +kernel
theorem dX11_record_90 : decode cX11_record 90 = .ok (.iload_n 2, 1) := by decide +kernel
theorem dX11_record_91 : decode cX11_record 91 = .ok (.iconst 0, 1) := by decide +kernel
theorem dX11_record_92 : decode cX11_record 92 = .ok (.invokevirtual 77, 3) := by decide +kernel
theorem dX11_record_95 : decode cX11_record 95 = .ok (.ireturn, 1) := by decide +kernel
theorem dX11_record_96 : decode cX11_record 96 = .ok (.aload_n 0, 1) := by decide +kernel
theorem dX11_record_97 : decode cX11_record 97 = .ok (.iload_n 1, 1) := by decide +kernel
theorem dX11_record_98 : decode cX11_record 98 = .ok (.iload_n 2, 1) := by decide +kernel
theorem dX11_record_99 : decode cX11_record 99 = .ok (.iconst 1, 1) := by decide +kernel
theorem dX11_record_100 : decode cX11_record 100 = .ok (.invokevirtual 77, 3) := by decide +kernel
theorem dX11_record_103 : decode cX11_record 103 = .ok (.ireturn, 1) := by decide +kernel
theorem dX11_record_104 : decode cX11_record 104 = .ok (.aload_n 0, 1) := by decide +kernel
theorem dX11_record_105 : decode cX11_record 105 = .ok (.iload_n 1, 1) := by decide +kernel
theorem dX11_record_106 : decode cX11_record 106 = .ok (.iload_n 2, 1) := by decide +kernel
theorem dX11_record_107 : decode cX11_record 107 = .ok (.iconst 3, 1) := by decide +kernel
theorem dX11_record_108 : decode cX11_record 108 = .ok (.invokevirtual 77, 3) := by decide +kernel
theorem dX11_record_111 : decode cX11_record 111 = .ok (.ireturn, 1) := by decide +kernel
theorem dX11_record_112 : decode cX11_record 112 = .ok (.aload_n 0, 1) := by decide +kernel
theorem dX11_record_113 : decode cX11_record 113 = .ok (.iload_n 1, 1) := by decide +kernel
theorem dX11_record_114 : decode cX11_record 114 = .ok (.iload_n 2, 1) := by decide +kernel
theorem dX11_record_115 : decode cX11_record 115 = .ok (.iconst 4, 1) := by decide +kernel
theorem dX11_record_116 : decode cX11_record 116 = .ok (.invokevirtual 77, 3) := by decide +kernel
theorem dX11_record_119 : decode cX11_record 119 = .ok (.ireturn, 1) := by decide +kernel
theorem dX11_record_120 : decode cX11_record 120 = .ok (.aload_n 0, 1) := by decide +kernel
theorem dX11_record_121 : decode cX11_record 121 = .ok (.iload_n 1, 1) := by decide +kernel
theorem dX11_record_122 : decode cX11_record 122 = .ok (.iload_n 2, 1) := by decide +kernel
theorem dX11_record_123 : decode cX11_record 123 = .ok (.invokevirtual 88, 3) := by decide +kernel
theorem dX11_record_126 : decode cX11_record 126 = .ok (.ifCond .eq 7, 3) := by decide +kernel
theorem dX11_record_129 : decode cX11_record 129 = .ok (.iconst 1, 1) := by decide +kernel
theorem dX11_record_130 : decode cX11_record 130 = .ok (.goto 4, 3) := by decide +kernel
theorem dX11_record_133 : decode cX11_record 133 = .ok (.iconst 0, 1) := by decide +kernel
theorem dX11_record_134 : decode cX11_record 134 = .ok (.ireturn, 1) := by decide +kernel
theorem dX11_isRun_0 : decode cX11_isRun 0 = .ok (.iload_n 1, 1) := by decide +kernel
theorem dX11_isRun_1 : decode cX11_isRun 1 = .ok (.iconst 0, 1) := by decide +kernel
theorem dX11_isRun_2 : decode cX11_isRun 2 = .ok (.aload_n 0, 1) := by decide +kernel
theorem dX11_isRun_3 : decode cX11_isRun 3 = .ok (.getfield 7, 3) := by decide +kernel
theorem dX11_isRun_6 : decode cX11_isRun 6 = .ok (.iconst 4, 1) := by decide +kernel
theorem dX11_isRun_7 : decode cX11_isRun 7 = .ok (.iaload, 1) := by decide +kernel
theorem dX11_isRun_8 : decode cX11_isRun 8 = .ok (.iconst 1, 1) := by decide +kernel
theorem dX11_isRun_9 : decode cX11_isRun 9 = .ok (.isub, 1) := by decide +kernel
theorem dX11_isRun_10 : decode cX11_isRun 10 = .ok (.invokestatic 165, 3) := by decide +kernel
theorem dX11_isRun_13 : decode cX11_isRun 13 = .ok (.ireturn, 1) := by decide +kernel
theorem dX11_endOf_0 : decode cX11_endOf 0 = .ok (.iconst (-1), 1) := by decide +kernel
theorem dX11_endOf_1 : decode cX11_endOf 1 = .ok (.istore_n 3, 1) := by decide +kernel
theorem dX11_endOf_2 : decode cX11_endOf 2 = .ok (.iconst 0, 1) := by decide +kernel
theorem dX11_endOf_3 : decode cX11_endOf 3 = .ok (.istore 4, 2) := by decide +kernel
theorem dX11_endOf_5 : decode cX11_endOf 5 = .ok (.iload 4, 2) := by decide +kernel
theorem dX11_endOf_7 : decode cX11_endOf 7 = .ok (.bipush 64, 2) := by decide +kernel
theorem dX11_endOf_9 : decode cX11_endOf 9 = .ok (.if_icmp .ge 31, 3) := by decide +kernel
theorem dX11_endOf_12 : decode cX11_endOf 12 = .ok (.aload_n 0, 1) := by decide +kernel
theorem dX11_endOf_13 : decode cX11_endOf 13 = .ok (.iload_n 1, 1) := by decide +kernel
theorem dX11_endOf_14 : decode cX11_endOf 14 = .ok (.iload 4, 2) := by decide +kernel
theorem dX11_endOf_16 : decode cX11_endOf 16 = .ok (.invokevirtual 66, 3) := by decide +kernel
theorem dX11_endOf_19 : decode cX11_endOf 19 = .ok (.ifCond .eq 15, 3) := by decide +kernel
theorem dX11_endOf_22 : decode cX11_endOf 22 = .ok (.iload_n 2, 1) := by decide +kernel
theorem dX11_endOf_23 : decode cX11_endOf 23 = .ok (.ifCond .ne 8, 3) := by decide +kernel
theorem dX11_endOf_26 : decode cX11_endOf 26 = .ok (.iload_n 3, 1) := by decide +kernel
theorem dX11_endOf_27 : decode cX11_endOf 27 = .ok (.iconst (-1), 1) := by decide +kernel
theorem dX11_endOf_28 : decode cX11_endOf 28 = .ok (.if_icmp .ne 6, 3) := by decide +kernel
theorem dX11_endOf_31 : decode cX11_endOf 31 = .ok (.iload 4, 2) := by decide +kernel
theorem dX11_endOf_33 : decode cX11_endOf 33 = .ok (.istore_n 3, 1) := by decide +kernel
theorem dX11_endOf_34 : decode cX11_endOf 34 = .ok (.iinc 4 1, 3) := by decide +kernel
theorem dX11_endOf_37 : decode cX11_endOf 37 = .ok (.goto (-32), 3) := by decide +kernel
theorem dX11_endOf_40 : decode cX11_endOf 40 = .ok (.iload_n 3, 1) := by decide +kernel
theorem dX11_endOf_41 : decode cX11_endOf 41 = .ok (.ireturn, 1) := by decide +kernel
theorem dX11_droppedIn_0 : decode cX11_droppedIn 0 = .ok (.iconst 0, 1) := by decide +kernel
theorem dX11_droppedIn_1 : decode cX11_droppedIn 1 = .ok (.istore_n 2, 1) := by decide +kernel
theorem dX11_droppedIn_2 : decode cX11_droppedIn 2 = .ok (.iconst 0, 1) := by decide +kernel
theorem dX11_droppedIn_3 : decode cX11_droppedIn 3 = .ok (.istore_n 3, 1) := by decide +kernel
theorem dX11_droppedIn_4 : decode cX11_droppedIn 4 = .ok (.iload_n 3, 1) := by decide +kernel
theorem dX11_droppedIn_5 : decode cX11_droppedIn 5 = .ok (.bipush 64, 2) := by decide +kernel
theorem dX11_droppedIn_7 : decode cX11_droppedIn 7 = .ok (.if_icmp .ge 33, 3) := by decide +kernel
theorem dX11_droppedIn_10 : decode cX11_droppedIn 10 = .ok (.iload_n 2, 1) := by decide +kernel
theorem dX11_droppedIn_11 : decode cX11_droppedIn 11 = .ok (.aload_n 0, 1) := by decide +kernel
theorem dX11_droppedIn_12 : decode cX11_droppedIn 12 = .ok (.getfield 7, 3) := by decide +kernel
theorem dX11_droppedIn_15 : decode cX11_droppedIn 15 = .ok (.iload_n 1, 1) := by decide +kernel
theorem dX11_droppedIn_16 : decode cX11_droppedIn 16 = .ok (.iload_n 3, 1) := by decide +kernel
theorem dX11_droppedIn_17 : decode cX11_droppedIn 17 = .ok (.invokestatic 63, 3) := by decide +kernel
theorem dX11_droppedIn_20 : decode cX11_droppedIn 20 = .ok (.iconst 1, 1) := by decide +kernel
theorem dX11_droppedIn_21 : decode cX11_droppedIn 21 = .ok (.iadd, 1) := by decide +kernel
theorem dX11_droppedIn_22 : decode cX11_droppedIn 22 = .ok (.iaload, 1) := by decide +kernel
theorem dX11_droppedIn_23 : decode cX11_droppedIn 23 = .ok (.iconst 1, 1) := by decide +kernel
theorem dX11_droppedIn_24 : decode cX11_droppedIn 24 = .ok (.if_icmp .ne 7, 3) := by decide +kernel
theorem dX11_droppedIn_27 : decode cX11_droppedIn 27 = .ok (.iconst 1, 1) := by decide +kernel
theorem dX11_droppedIn_28 : decode cX11_droppedIn 28 = .ok (.goto 4, 3) := by decide +kernel
theorem dX11_droppedIn_31 : decode cX11_droppedIn 31 = .ok (.iconst 0, 1) := by decide +kernel
theorem dX11_droppedIn_32 : decode cX11_droppedIn 32 = .ok (.iadd, 1) := by decide +kernel
theorem dX11_droppedIn_33 : decode cX11_droppedIn 33 = .ok (.istore_n 2, 1) := by decide +kernel
theorem dX11_droppedIn_34 : decode cX11_droppedIn 34 = .ok (.iinc 3 1, 3) := by decide +kernel
theorem dX11_droppedIn_37 : decode cX11_droppedIn 37 = .ok (.goto (-33), 3) := by decide +kernel
theorem dX11_droppedIn_40 : decode cX11_droppedIn 40 = .ok (.iload_n 2, 1) := by decide +kernel
theorem dX11_droppedIn_41 : decode cX11_droppedIn 41 = .ok (.ireturn, 1) := by decide +kernel
theorem dX11_currentIn_0 : decode cX11_currentIn 0 = .ok (.iconst 0, 1) := by decide +kernel
theorem dX11_currentIn_1 : decode cX11_currentIn 1 = .ok (.istore_n 2, 1) := by decide +kernel
theorem dX11_currentIn_2 : decode cX11_currentIn 2 = .ok (.iconst 0, 1) := by decide +kernel
theorem dX11_currentIn_3 : decode cX11_currentIn 3 = .ok (.istore_n 3, 1) := by decide +kernel
theorem dX11_currentIn_4 : decode cX11_currentIn 4 = .ok (.iload_n 3, 1) := by decide +kernel
theorem dX11_currentIn_5 : decode cX11_currentIn 5 = .ok (.bipush 64, 2) := by decide +kernel
theorem dX11_currentIn_7 : decode cX11_currentIn 7 = .ok (.if_icmp .ge 26, 3) := by decide +kernel
theorem dX11_currentIn_10 : decode cX11_currentIn 10 = .ok (.iload_n 2, 1) := by decide +kernel
theorem dX11_currentIn_11 : decode cX11_currentIn 11 = .ok (.aload_n 0, 1) := by decide +kernel
theorem dX11_currentIn_12 : decode cX11_currentIn 12 = .ok (.iload_n 3, 1) := by decide +kernel
theorem dX11_currentIn_13 : decode cX11_currentIn 13 = .ok (.invokevirtual 70, 3) := by decide +kernel
theorem dX11_currentIn_16 : decode cX11_currentIn 16 = .ok (.iload_n 1, 1) := by decide +kernel
theorem dX11_currentIn_17 : decode cX11_currentIn 17 = .ok (.if_icmp .ne 7, 3) := by decide +kernel
theorem dX11_currentIn_20 : decode cX11_currentIn 20 = .ok (.iconst 1, 1) := by decide +kernel
theorem dX11_currentIn_21 : decode cX11_currentIn 21 = .ok (.goto 4, 3) := by decide +kernel
theorem dX11_currentIn_24 : decode cX11_currentIn 24 = .ok (.iconst 0, 1) := by decide +kernel
theorem dX11_currentIn_25 : decode cX11_currentIn 25 = .ok (.iadd, 1) := by decide +kernel
theorem dX11_currentIn_26 : decode cX11_currentIn 26 = .ok (.istore_n 2, 1) := by decide +kernel
theorem dX11_currentIn_27 : decode cX11_currentIn 27 = .ok (.iinc 3 1, 3) := by decide +kernel
theorem dX11_currentIn_30 : decode cX11_currentIn 30 = .ok (.goto (-26), 3) := by decide +kernel
theorem dX11_currentIn_33 : decode cX11_currentIn 33 = .ok (.iload_n 2, 1) := by decide +kernel
theorem dX11_currentIn_34 : decode cX11_currentIn 34 = .ok (.ireturn, 1) := by decide +kernel
theorem dX11_run_0 : decode cX11_run 0 = .ok (.aload_n 0, 1) := by decide +kernel
theorem dX11_run_1 : decode cX11_run 1 = .ok (.aload_n 0, 1) := by decide +kernel
theorem dX11_run_2 : decode cX11_run 2 = .ok (.iload_n 1, 1) := by decide +kernel
theorem dX11_run_3 : decode cX11_run 3 = .ok (.invokevirtual 293, 3) := by decide +kernel
theorem dX11_run_6 : decode cX11_run 6 = .ok (.ifCond .ne 7, 3) := by decide +kernel
theorem dX11_run_9 : decode cX11_run 9 = .ok (.iconst 1, 1) := by decide +kernel
theorem dX11_run_10 : decode cX11_run 10 = .ok (.goto 17, 3) := by decide +kernel
theorem dX11_run_13 : decode cX11_run 13 = .ok (.iload_n 2, 1) := by decide +kernel
theorem dX11_run_14 : decode cX11_run 14 = .ok (.iconst 0, 1) := by decide +kernel
theorem dX11_run_15 : decode cX11_run 15 = .ok (.iconst 4, 1) := by decide +kernel
theorem dX11_run_16 : decode cX11_run 16 = .ok (.invokestatic 165, 3) := by decide +kernel
theorem dX11_run_19 : decode cX11_run 19 = .ok (.ifCond .ne 7, 3) := by decide +kernel
theorem dX11_run_22 : decode cX11_run 22 = .ok (.iconst 2, 1) := by decide +kernel
theorem dX11_run_23 : decode cX11_run 23 = .ok (.goto 4, 3) := by decide +kernel
theorem dX11_run_26 : decode cX11_run 26 = .ok (.iconst 0, 1) := by decide +kernel
theorem dX11_run_27 : decode cX11_run 27 = .ok (.putfield 43, 3) := by decide +kernel
theorem dX11_run_30 : decode cX11_run 30 = .ok (.aload_n 0, 1) := by decide +kernel
theorem dX11_run_31 : decode cX11_run 31 = .ok (.getfield 43, 3) := by decide +kernel
theorem dX11_run_34 : decode cX11_run 34 = .ok (.ifCond .le 5, 3) := by decide +kernel
theorem dX11_run_37 : decode cX11_run 37 = .ok (.iconst 0, 1) := by decide +kernel
theorem dX11_run_38 : decode cX11_run 38 = .ok (.ireturn, 1) := by decide +kernel
theorem dX11_run_39 : decode cX11_run 39 = .ok (.iload_n 2, 1) := by decide +kernel
theorem dX11_run_40 : decode cX11_run 40 = .ok (.tableswitch 66 0 3 #[32, 40, 49, 58], 32) := by decide +kernel
theorem dX11_run_72 : decode cX11_run 72 = .ok (.aload_n 0, 1) := by decide +kernel
theorem dX11_run_73 : decode cX11_run 73 = .ok (.iload_n 1, 1) := by decide +kernel
theorem dX11_run_74 : decode cX11_run 74 = .ok (.iconst 1, 1) := by decide +kernel
theorem dX11_run_75 : decode cX11_run 75 = .ok (.iadd, 1) := by decide +kernel
theorem dX11_run_76 : decode cX11_run 76 = .ok (.invokevirtual 108, 3) := by decide +kernel
theorem dX11_run_79 : decode cX11_run 79 = .ok (.ireturn, 1) := by decide +kernel
theorem dX11_run_80 : decode cX11_run 80 = .ok (.aload_n 0, 1) := by decide +kernel
theorem dX11_run_81 : decode cX11_run 81 = .ok (.iload_n 1, 1) := by decide +kernel
theorem dX11_run_82 : decode cX11_run 82 = .ok (.iconst 1, 1) := by decide +kernel
theorem dX11_run_83 : decode cX11_run 83 = .ok (.iadd, 1) := by decide +kernel
theorem dX11_run_84 : decode cX11_run 84 = .ok (.iconst 0, 1) := by decide +kernel
theorem dX11_run_85 : decode cX11_run 85 = .ok (.invokevirtual 296, 3) := by decide +kernel
theorem dX11_run_88 : decode cX11_run 88 = .ok (.ireturn, 1) := by decide +kernel
theorem dX11_run_89 : decode cX11_run 89 = .ok (.aload_n 0, 1) := by decide +kernel
theorem dX11_run_90 : decode cX11_run 90 = .ok (.iload_n 1, 1) := by decide +kernel
theorem dX11_run_91 : decode cX11_run 91 = .ok (.iconst 1, 1) := by decide +kernel
theorem dX11_run_92 : decode cX11_run 92 = .ok (.iadd, 1) := by decide +kernel
theorem dX11_run_93 : decode cX11_run 93 = .ok (.iconst 1, 1) := by decide +kernel
theorem dX11_run_94 : decode cX11_run 94 = .ok (.invokevirtual 296, 3) := by decide +kernel
theorem dX11_run_97 : decode cX11_run 97 = .ok (.ireturn, 1) := by decide +kernel
theorem dX11_run_98 : decode cX11_run 98 = .ok (.aload_n 0, 1) := by decide +kernel
theorem dX11_run_99 : decode cX11_run 99 = .ok (.iload_n 1, 1) := by decide +kernel
theorem dX11_run_100 : decode cX11_run 100 = .ok (.iconst 1, 1) := by decide +kernel
theorem dX11_run_101 : decode cX11_run 101 = .ok (.iadd, 1) := by decide +kernel
theorem dX11_run_102 : decode cX11_run 102 = .ok (.invokevirtual 299, 3) := by decide +kernel
theorem dX11_run_105 : decode cX11_run 105 = .ok (.ireturn, 1) := by decide +kernel
theorem dX11_run_106 : decode cX11_run 106 = .ok (.aload_n 0, 1) := by decide +kernel
theorem dX11_run_107 : decode cX11_run 107 = .ok (.iload_n 1, 1) := by decide +kernel
theorem dX11_run_108 : decode cX11_run 108 = .ok (.iconst 1, 1) := by decide +kernel
theorem dX11_run_109 : decode cX11_run 109 = .ok (.iadd, 1) := by decide +kernel
theorem dX11_run_110 : decode cX11_run 110 = .ok (.invokevirtual 302, 3) := by decide +kernel
theorem dX11_run_113 : decode cX11_run 113 = .ok (.ireturn, 1) := by decide +kernel
theorem dX11_entry_0 : decode cX11_entry 0 = .ok (.aload_n 0, 1) := by decide +kernel
theorem dX11_entry_1 : decode cX11_entry 1 = .ok (.iload_n 1, 1) := by decide +kernel
theorem dX11_entry_2 : decode cX11_entry 2 = .ok (.iconst (-1), 1) := by decide +kernel
theorem dX11_entry_3 : decode cX11_entry 3 = .ok (.if_icmp .eq 11, 3) := by decide +kernel
theorem dX11_entry_6 : decode cX11_entry 6 = .ok (.aload_n 0, 1) := by decide +kernel
theorem dX11_entry_7 : decode cX11_entry 7 = .ok (.iload_n 1, 1) := by decide +kernel
theorem dX11_entry_8 : decode cX11_entry 8 = .ok (.invokevirtual 293, 3) := by decide +kernel
theorem dX11_entry_11 : decode cX11_entry 11 = .ok (.ifCond .eq 7, 3) := by decide +kernel
theorem dX11_entry_14 : decode cX11_entry 14 = .ok (.iconst 0, 1) := by decide +kernel
theorem dX11_entry_15 : decode cX11_entry 15 = .ok (.goto 4, 3) := by decide +kernel
theorem dX11_entry_18 : decode cX11_entry 18 = .ok (.iconst 1, 1) := by decide +kernel
theorem dX11_entry_19 : decode cX11_entry 19 = .ok (.putfield 43, 3) := by decide +kernel
theorem dX11_entry_22 : decode cX11_entry 22 = .ok (.aload_n 0, 1) := by decide +kernel
theorem dX11_entry_23 : decode cX11_entry 23 = .ok (.getfield 43, 3) := by decide +kernel
theorem dX11_entry_26 : decode cX11_entry 26 = .ok (.ifCond .le 5, 3) := by decide +kernel
theorem dX11_entry_29 : decode cX11_entry 29 = .ok (.iconst 0, 1) := by decide +kernel
theorem dX11_entry_30 : decode cX11_entry 30 = .ok (.ireturn, 1) := by decide +kernel
theorem dX11_entry_31 : decode cX11_entry 31 = .ok (.iconst 0, 1) := by decide +kernel
theorem dX11_entry_32 : decode cX11_entry 32 = .ok (.istore_n 3, 1) := by decide +kernel
theorem dX11_entry_33 : decode cX11_entry 33 = .ok (.iconst 0, 1) := by decide +kernel
theorem dX11_entry_34 : decode cX11_entry 34 = .ok (.istore 4, 2) := by decide +kernel
theorem dX11_entry_36 : decode cX11_entry 36 = .ok (.iload 4, 2) := by decide +kernel
theorem dX11_entry_38 : decode cX11_entry 38 = .ok (.bipush 64, 2) := by decide +kernel
theorem dX11_entry_40 : decode cX11_entry 40 = .ok (.if_icmp .ge 35, 3) := by decide +kernel
theorem dX11_entry_43 : decode cX11_entry 43 = .ok (.aload_n 0, 1) := by decide +kernel
theorem dX11_entry_44 : decode cX11_entry 44 = .ok (.iload_n 1, 1) := by decide +kernel
theorem dX11_entry_45 : decode cX11_entry 45 = .ok (.iconst 1, 1) := by decide +kernel
theorem dX11_entry_46 : decode cX11_entry 46 = .ok (.iadd, 1) := by decide +kernel
theorem dX11_entry_47 : decode cX11_entry 47 = .ok (.iload 4, 2) := by decide +kernel
theorem dX11_entry_49 : decode cX11_entry 49 = .ok (.invokevirtual 66, 3) := by decide +kernel
theorem dX11_entry_52 : decode cX11_entry 52 = .ok (.ifCond .ne 6, 3) := by decide +kernel
theorem dX11_entry_55 : decode cX11_entry 55 = .ok (.goto 14, 3) := by decide +kernel
theorem dX11_entry_58 : decode cX11_entry 58 = .ok (.iload_n 3, 1) := by decide +kernel
theorem dX11_entry_59 : decode cX11_entry 59 = .ok (.iload_n 2, 1) := by decide +kernel
theorem dX11_entry_60 : decode cX11_entry 60 = .ok (.if_icmp .ne 6, 3) := by decide +kernel
theorem dX11_entry_63 : decode cX11_entry 63 = .ok (.iload 4, 2) := by decide +kernel
theorem dX11_entry_65 : decode cX11_entry 65 = .ok (.ireturn, 1) := by decide +kernel
theorem dX11_entry_66 : decode cX11_entry 66 = .ok (.iinc 3 1, 3) := by decide +kernel
theorem dX11_entry_69 : decode cX11_entry 69 = .ok (.iinc 4 1, 3) := by decide +kernel
theorem dX11_entry_72 : decode cX11_entry 72 = .ok (.goto (-36), 3) := by decide +kernel
theorem dX11_entry_75 : decode cX11_entry 75 = .ok (.iconst (-1), 1) := by decide +kernel
theorem dX11_entry_76 : decode cX11_entry 76 = .ok (.ireturn, 1) := by decide +kernel
theorem dX11_overlap_0 : decode cX11_overlap 0 = .ok (.aload_n 0, 1) := by decide +kernel
theorem dX11_overlap_1 : decode cX11_overlap 1 = .ok (.aload_n 0, 1) := by decide +kernel
theorem dX11_overlap_2 : decode cX11_overlap 2 = .ok (.iload_n 1, 1) := by decide +kernel
theorem dX11_overlap_3 : decode cX11_overlap 3 = .ok (.invokevirtual 293, 3) := by decide +kernel
theorem dX11_overlap_6 : decode cX11_overlap 6 = .ok (.ifCond .eq 11, 3) := by decide +kernel
theorem dX11_overlap_9 : decode cX11_overlap 9 = .ok (.aload_n 0, 1) := by decide +kernel
theorem dX11_overlap_10 : decode cX11_overlap 10 = .ok (.iload_n 2, 1) := by decide +kernel
theorem dX11_overlap_11 : decode cX11_overlap 11 = .ok (.invokevirtual 293, 3) := by decide +kernel
theorem dX11_overlap_14 : decode cX11_overlap 14 = .ok (.ifCond .ne 7, 3) := by decide +kernel
theorem dX11_overlap_17 : decode cX11_overlap 17 = .ok (.iconst 1, 1) := by decide +kernel
theorem dX11_overlap_18 : decode cX11_overlap 18 = .ok (.goto 13, 3) := by decide +kernel
theorem dX11_overlap_21 : decode cX11_overlap 21 = .ok (.iload_n 1, 1) := by decide +kernel
theorem dX11_overlap_22 : decode cX11_overlap 22 = .ok (.iload_n 2, 1) := by decide +kernel
theorem dX11_overlap_23 : decode cX11_overlap 23 = .ok (.if_icmp .ne 7, 3) := by decide +kernel
theorem dX11_overlap_26 : decode cX11_overlap 26 = .ok (.iconst 2, 1) := by decide +kernel
theorem dX11_overlap_27 : decode cX11_overlap 27 = .ok (.goto 4, 3) := by decide +kernel
theorem dX11_overlap_30 : decode cX11_overlap 30 = .ok (.iconst 0, 1) := by decide +kernel
theorem dX11_overlap_31 : decode cX11_overlap 31 = .ok (.putfield 43, 3) := by decide +kernel
theorem dX11_overlap_34 : decode cX11_overlap 34 = .ok (.aload_n 0, 1) := by decide +kernel
theorem dX11_overlap_35 : decode cX11_overlap 35 = .ok (.getfield 43, 3) := by decide +kernel
theorem dX11_overlap_38 : decode cX11_overlap 38 = .ok (.ifCond .le 5, 3) := by decide +kernel
theorem dX11_overlap_41 : decode cX11_overlap 41 = .ok (.iconst 0, 1) := by decide +kernel
theorem dX11_overlap_42 : decode cX11_overlap 42 = .ok (.ireturn, 1) := by decide +kernel
theorem dX11_overlap_43 : decode cX11_overlap 43 = .ok (.iconst 0, 1) := by decide +kernel
theorem dX11_overlap_44 : decode cX11_overlap 44 = .ok (.istore_n 3, 1) := by decide +kernel
theorem dX11_overlap_45 : decode cX11_overlap 45 = .ok (.iconst 0, 1) := by decide +kernel
theorem dX11_overlap_46 : decode cX11_overlap 46 = .ok (.istore 4, 2) := by decide +kernel
theorem dX11_overlap_48 : decode cX11_overlap 48 = .ok (.iload 4, 2) := by decide +kernel
theorem dX11_overlap_50 : decode cX11_overlap 50 = .ok (.bipush 64, 2) := by decide +kernel
theorem dX11_overlap_52 : decode cX11_overlap 52 = .ok (.if_icmp .ge 41, 3) := by decide +kernel
theorem dX11_overlap_55 : decode cX11_overlap 55 = .ok (.iload_n 3, 1) := by decide +kernel
theorem dX11_overlap_56 : decode cX11_overlap 56 = .ok (.aload_n 0, 1) := by decide +kernel
theorem dX11_overlap_57 : decode cX11_overlap 57 = .ok (.iload_n 1, 1) := by decide +kernel
theorem dX11_overlap_58 : decode cX11_overlap 58 = .ok (.iconst 1, 1) := by decide +kernel
theorem dX11_overlap_59 : decode cX11_overlap 59 = .ok (.iadd, 1) := by decide +kernel
theorem dX11_overlap_60 : decode cX11_overlap 60 = .ok (.iload 4, 2) := by decide +kernel
theorem dX11_overlap_62 : decode cX11_overlap 62 = .ok (.invokevirtual 66, 3) := by decide +kernel
theorem dX11_overlap_65 : decode cX11_overlap 65 = .ok (.ifCond .eq 19, 3) := by decide +kernel
theorem dX11_overlap_68 : decode cX11_overlap 68 = .ok (.aload_n 0, 1) := by decide +kernel
theorem dX11_overlap_69 : decode cX11_overlap 69 = .ok (.iload_n 2, 1) := by decide +kernel
theorem dX11_overlap_70 : decode cX11_overlap 70 = .ok (.iconst 1, 1) := by decide +kernel
theorem dX11_overlap_71 : decode cX11_overlap 71 = .ok (.iadd, 1) := by decide +kernel
theorem dX11_overlap_72 : decode cX11_overlap 72 = .ok (.iload 4, 2) := by decide +kernel
theorem dX11_overlap_74 : decode cX11_overlap 74 = .ok (.invokevirtual 66, 3) := by decide +kernel
theorem dX11_overlap_77 : decode cX11_overlap 77 = .ok (.ifCond .eq 7, 3) := by decide +kernel
theorem dX11_overlap_80 : decode cX11_overlap 80 = .ok (.iconst 1, 1) := by decide +kernel
theorem dX11_overlap_81 : decode cX11_overlap 81 = .ok (.goto 4, 3) := by decide +kernel
theorem dX11_overlap_84 : decode cX11_overlap 84 = .ok (.iconst 0, 1) := by decide +kernel
theorem dX11_overlap_85 : decode cX11_overlap 85 = .ok (.iadd, 1) := by decide +kernel
theorem dX11_overlap_86 : decode cX11_overlap 86 = .ok (.istore_n 3, 1) := by decide +kernel
theorem dX11_overlap_87 : decode cX11_overlap 87 = .ok (.iinc 4 1, 3) := by decide +kernel
theorem dX11_overlap_90 : decode cX11_overlap 90 = .ok (.goto (-42), 3) := by decide +kernel
theorem dX11_overlap_93 : decode cX11_overlap 93 = .ok (.iload_n 3, 1) := by decide +kernel
theorem dX11_overlap_94 : decode cX11_overlap 94 = .ok (.ireturn, 1) := by decide +kernel
theorem dX11_byteOf_0 : decode cX11_byteOf 0 = .ok (.iload_n 0, 1) := by decide +kernel
theorem dX11_byteOf_1 : decode cX11_byteOf 1 = .ok (.bipush 7, 2) := by decide +kernel
theorem dX11_byteOf_3 : decode cX11_byteOf 3 = .ok (.iload_n 1, 1) := by decide +kernel
theorem dX11_byteOf_4 : decode cX11_byteOf 4 = .ok (.imul, 1) := by decide +kernel
theorem dX11_byteOf_5 : decode cX11_byteOf 5 = .ok (.iadd, 1) := by decide +kernel
theorem dX11_byteOf_6 : decode cX11_byteOf 6 = .ok (.sipush 256, 3) := by decide +kernel
theorem dX11_byteOf_9 : decode cX11_byteOf 9 = .ok (.irem, 1) := by decide +kernel
theorem dX11_byteOf_10 : decode cX11_byteOf 10 = .ok (.ireturn, 1) := by decide +kernel
theorem dX11_isLess_0 : decode cX11_isLess 0 = .ok (.aload_n 0, 1) := by decide +kernel
theorem dX11_isLess_1 : decode cX11_isLess 1 = .ok (.iload_n 1, 1) := by decide +kernel
theorem dX11_isLess_2 : decode cX11_isLess 2 = .ok (.invokevirtual 266, 3) := by decide +kernel
theorem dX11_isLess_5 : decode cX11_isLess 5 = .ok (.istore_n 3, 1) := by decide +kernel
theorem dX11_isLess_6 : decode cX11_isLess 6 = .ok (.aload_n 0, 1) := by decide +kernel
theorem dX11_isLess_7 : decode cX11_isLess 7 = .ok (.iload_n 2, 1) := by decide +kernel
theorem dX11_isLess_8 : decode cX11_isLess 8 = .ok (.invokevirtual 266, 3) := by decide +kernel
theorem dX11_isLess_11 : decode cX11_isLess 11 = .ok (.istore 4, 2) := by decide +kernel
theorem dX11_isLess_13 : decode cX11_isLess 13 = .ok (.aload_n 0, 1) := by decide +kernel
theorem dX11_isLess_14 : decode cX11_isLess 14 = .ok (.iload_n 1, 1) := by decide +kernel
theorem dX11_isLess_15 : decode cX11_isLess 15 = .ok (.invokevirtual 269, 3) := by decide +kernel
theorem dX11_isLess_18 : decode cX11_isLess 18 = .ok (.istore 5, 2) := by decide +kernel
theorem dX11_isLess_20 : decode cX11_isLess 20 = .ok (.aload_n 0, 1) := by decide +kernel
theorem dX11_isLess_21 : decode cX11_isLess 21 = .ok (.iload_n 2, 1) := by decide +kernel
theorem dX11_isLess_22 : decode cX11_isLess 22 = .ok (.invokevirtual 269, 3) := by decide +kernel
theorem dX11_isLess_25 : decode cX11_isLess 25 = .ok (.istore 6, 2) := by decide +kernel
theorem dX11_isLess_27 : decode cX11_isLess 27 = .ok (.iconst 0, 1) := by decide +kernel
theorem dX11_isLess_28 : decode cX11_isLess 28 = .ok (.istore 7, 2) := by decide +kernel
theorem dX11_isLess_30 : decode cX11_isLess 30 = .ok (.iload 7, 2) := by decide +kernel
theorem dX11_isLess_32 : decode cX11_isLess 32 = .ok (.iload_n 3, 1) := by decide +kernel
theorem dX11_isLess_33 : decode cX11_isLess 33 = .ok (.if_icmp .ge 56, 3) := by decide +kernel
theorem dX11_isLess_36 : decode cX11_isLess 36 = .ok (.iload 7, 2) := by decide +kernel
theorem dX11_isLess_38 : decode cX11_isLess 38 = .ok (.iload 4, 2) := by decide +kernel
theorem dX11_isLess_40 : decode cX11_isLess 40 = .ok (.if_icmp .ge 49, 3) := by decide +kernel
theorem dX11_isLess_43 : decode cX11_isLess 43 = .ok (.iload 5, 2) := by decide +kernel
theorem dX11_isLess_45 : decode cX11_isLess 45 = .ok (.iload 7, 2) := by decide +kernel
theorem dX11_isLess_47 : decode cX11_isLess 47 = .ok (.invokestatic 284, 3) := by decide +kernel
theorem dX11_isLess_50 : decode cX11_isLess 50 = .ok (.iload 6, 2) := by decide +kernel
theorem dX11_isLess_52 : decode cX11_isLess 52 = .ok (.iload 7, 2) := by decide +kernel
theorem dX11_isLess_54 : decode cX11_isLess 54 = .ok (.invokestatic 284, 3) := by decide +kernel
theorem dX11_isLess_57 : decode cX11_isLess 57 = .ok (.if_icmp .eq 26, 3) := by decide +kernel
theorem dX11_isLess_60 : decode cX11_isLess 60 = .ok (.iload 5, 2) := by decide +kernel
theorem dX11_isLess_62 : decode cX11_isLess 62 = .ok (.iload 7, 2) := by decide +kernel
theorem dX11_isLess_64 : decode cX11_isLess 64 = .ok (.invokestatic 284, 3) := by decide +kernel
theorem dX11_isLess_67 : decode cX11_isLess 67 = .ok (.iload 6, 2) := by decide +kernel
theorem dX11_isLess_69 : decode cX11_isLess 69 = .ok (.iload 7, 2) := by decide +kernel
theorem dX11_isLess_71 : decode cX11_isLess 71 = .ok (.invokestatic 284, 3) := by decide +kernel
theorem dX11_isLess_74 : decode cX11_isLess 74 = .ok (.if_icmp .ge 7, 3) := by decide +kernel
theorem dX11_isLess_77 : decode cX11_isLess 77 = .ok (.iconst 1, 1) := by decide +kernel
theorem dX11_isLess_78 : decode cX11_isLess 78 = .ok (.goto 4, 3) := by decide +kernel
theorem dX11_isLess_81 : decode cX11_isLess 81 = .ok (.iconst 0, 1) := by decide +kernel
theorem dX11_isLess_82 : decode cX11_isLess 82 = .ok (.ireturn, 1) := by decide +kernel
theorem dX11_isLess_83 : decode cX11_isLess 83 = .ok (.iinc 7 1, 3) := by decide +kernel
theorem dX11_isLess_86 : decode cX11_isLess 86 = .ok (.goto (-56), 3) := by decide +kernel
theorem dX11_isLess_89 : decode cX11_isLess 89 = .ok (.iload_n 3, 1) := by decide +kernel
theorem dX11_isLess_90 : decode cX11_isLess 90 = .ok (.iload 4, 2) := by decide +kernel
theorem dX11_isLess_92 : decode cX11_isLess 92 = .ok (.if_icmp .ge 7, 3) := by decide +kernel
theorem dX11_isLess_95 : decode cX11_isLess 95 = .ok (.iconst 1, 1) := by decide +kernel
theorem dX11_isLess_96 : decode cX11_isLess 96 = .ok (.goto 4, 3) := by decide +kernel
theorem dX11_isLess_99 : decode cX11_isLess 99 = .ok (.iconst 0, 1) := by decide +kernel
theorem dX11_isLess_100 : decode cX11_isLess 100 = .ok (.ireturn, 1) := by decide +kernel
theorem dX11_twinOf_0 : decode cX11_twinOf 0 = .ok (.iconst 0, 1) := by decide +kernel
theorem dX11_twinOf_1 : decode cX11_twinOf 1 = .ok (.istore_n 2, 1) := by decide +kernel
theorem dX11_twinOf_2 : decode cX11_twinOf 2 = .ok (.iload_n 2, 1) := by decide +kernel
theorem dX11_twinOf_3 : decode cX11_twinOf 3 = .ok (.bipush 64, 2) := by decide +kernel
theorem dX11_twinOf_5 : decode cX11_twinOf 5 = .ok (.if_icmp .ge 50, 3) := by decide +kernel
theorem dX11_twinOf_8 : decode cX11_twinOf 8 = .ok (.iload_n 2, 1) := by decide +kernel
theorem dX11_twinOf_9 : decode cX11_twinOf 9 = .ok (.iload_n 1, 1) := by decide +kernel
theorem dX11_twinOf_10 : decode cX11_twinOf 10 = .ok (.if_icmp .eq 39, 3) := by decide +kernel
theorem dX11_twinOf_13 : decode cX11_twinOf 13 = .ok (.aload_n 0, 1) := by decide +kernel
theorem dX11_twinOf_14 : decode cX11_twinOf 14 = .ok (.iload_n 2, 1) := by decide +kernel
theorem dX11_twinOf_15 : decode cX11_twinOf 15 = .ok (.invokevirtual 81, 3) := by decide +kernel
theorem dX11_twinOf_18 : decode cX11_twinOf 18 = .ok (.ifCond .eq 31, 3) := by decide +kernel
theorem dX11_twinOf_21 : decode cX11_twinOf 21 = .ok (.aload_n 0, 1) := by decide +kernel
theorem dX11_twinOf_22 : decode cX11_twinOf 22 = .ok (.iload_n 2, 1) := by decide +kernel
theorem dX11_twinOf_23 : decode cX11_twinOf 23 = .ok (.invokevirtual 266, 3) := by decide +kernel
theorem dX11_twinOf_26 : decode cX11_twinOf 26 = .ok (.aload_n 0, 1) := by decide +kernel
theorem dX11_twinOf_27 : decode cX11_twinOf 27 = .ok (.iload_n 1, 1) := by decide +kernel
theorem dX11_twinOf_28 : decode cX11_twinOf 28 = .ok (.invokevirtual 266, 3) := by decide +kernel
theorem dX11_twinOf_31 : decode cX11_twinOf 31 = .ok (.if_icmp .ne 18, 3) := by decide +kernel
theorem dX11_twinOf_34 : decode cX11_twinOf 34 = .ok (.aload_n 0, 1) := by decide +kernel
theorem dX11_twinOf_35 : decode cX11_twinOf 35 = .ok (.iload_n 2, 1) := by decide +kernel
theorem dX11_twinOf_36 : decode cX11_twinOf 36 = .ok (.invokevirtual 269, 3) := by decide +kernel
theorem dX11_twinOf_39 : decode cX11_twinOf 39 = .ok (.aload_n 0, 1) := by decide +kernel
theorem dX11_twinOf_40 : decode cX11_twinOf 40 = .ok (.iload_n 1, 1) := by decide +kernel
theorem dX11_twinOf_41 : decode cX11_twinOf 41 = .ok (.invokevirtual 269, 3) := by decide +kernel
theorem dX11_twinOf_44 : decode cX11_twinOf 44 = .ok (.if_icmp .ne 5, 3) := by decide +kernel
theorem dX11_twinOf_47 : decode cX11_twinOf 47 = .ok (.iload_n 2, 1) := by decide +kernel
theorem dX11_twinOf_48 : decode cX11_twinOf 48 = .ok (.ireturn, 1) := by decide +kernel
theorem dX11_twinOf_49 : decode cX11_twinOf 49 = .ok (.iinc 2 1, 3) := by decide +kernel
theorem dX11_twinOf_52 : decode cX11_twinOf 52 = .ok (.goto (-50), 3) := by decide +kernel
theorem dX11_twinOf_55 : decode cX11_twinOf 55 = .ok (.iconst (-1), 1) := by decide +kernel
theorem dX11_twinOf_56 : decode cX11_twinOf 56 = .ok (.ireturn, 1) := by decide +kernel
theorem dX11_rank_0 : decode cX11_rank 0 = .ok (.aload_n 0, 1) := by decide +kernel
theorem dX11_rank_1 : decode cX11_rank 1 = .ok (.iload_n 1, 1) := by decide +kernel
theorem dX11_rank_2 : decode cX11_rank 2 = .ok (.invokestatic 254, 3) := by decide +kernel
theorem dX11_rank_5 : decode cX11_rank 5 = .ok (.ifCond .eq 7, 3) := by decide +kernel
theorem dX11_rank_8 : decode cX11_rank 8 = .ok (.iconst 0, 1) := by decide +kernel
theorem dX11_rank_9 : decode cX11_rank 9 = .ok (.goto 4, 3) := by decide +kernel
theorem dX11_rank_12 : decode cX11_rank 12 = .ok (.iconst 1, 1) := by decide +kernel
theorem dX11_rank_13 : decode cX11_rank 13 = .ok (.putfield 43, 3) := by decide +kernel
theorem dX11_rank_16 : decode cX11_rank 16 = .ok (.aload_n 0, 1) := by decide +kernel
theorem dX11_rank_17 : decode cX11_rank 17 = .ok (.getfield 43, 3) := by decide +kernel
theorem dX11_rank_20 : decode cX11_rank 20 = .ok (.ifCond .le 5, 3) := by decide +kernel
theorem dX11_rank_23 : decode cX11_rank 23 = .ok (.iconst 0, 1) := by decide +kernel
theorem dX11_rank_24 : decode cX11_rank 24 = .ok (.ireturn, 1) := by decide +kernel
theorem dX11_rank_25 : decode cX11_rank 25 = .ok (.aload_n 0, 1) := by decide +kernel
theorem dX11_rank_26 : decode cX11_rank 26 = .ok (.iload_n 1, 1) := by decide +kernel
theorem dX11_rank_27 : decode cX11_rank 27 = .ok (.invokevirtual 81, 3) := by decide +kernel
theorem dX11_rank_30 : decode cX11_rank 30 = .ok (.ifCond .ne 5, 3) := by decide +kernel
theorem dX11_rank_33 : decode cX11_rank 33 = .ok (.iconst (-1), 1) := by decide +kernel
theorem dX11_rank_34 : decode cX11_rank 34 = .ok (.ireturn, 1) := by decide +kernel
theorem dX11_rank_35 : decode cX11_rank 35 = .ok (.iload_n 2, 1) := by decide +kernel
theorem dX11_rank_36 : decode cX11_rank 36 = .ok (.ifCond .eq 9, 3) := by decide +kernel
theorem dX11_rank_39 : decode cX11_rank 39 = .ok (.aload_n 0, 1) := by decide +kernel
theorem dX11_rank_40 : decode cX11_rank 40 = .ok (.iload_n 1, 1) := by decide +kernel
theorem dX11_rank_41 : decode cX11_rank 41 = .ok (.invokevirtual 305, 3) := by decide +kernel
theorem dX11_rank_44 : decode cX11_rank 44 = .ok (.ireturn, 1) := by decide +kernel
theorem dX11_rank_45 : decode cX11_rank 45 = .ok (.iconst 0, 1) := by decide +kernel
theorem dX11_rank_46 : decode cX11_rank 46 = .ok (.istore_n 3, 1) := by decide +kernel
theorem dX11_rank_47 : decode cX11_rank 47 = .ok (.iconst 0, 1) := by decide +kernel
theorem dX11_rank_48 : decode cX11_rank 48 = .ok (.istore 4, 2) := by decide +kernel
theorem dX11_rank_50 : decode cX11_rank 50 = .ok (.iload 4, 2) := by decide +kernel
theorem dX11_rank_52 : decode cX11_rank 52 = .ok (.bipush 64, 2) := by decide +kernel
theorem dX11_rank_54 : decode cX11_rank 54 = .ok (.if_icmp .ge 36, 3) := by decide +kernel
theorem dX11_rank_57 : decode cX11_rank 57 = .ok (.iload_n 3, 1) := by decide +kernel
theorem dX11_rank_58 : decode cX11_rank 58 = .ok (.aload_n 0, 1) := by decide +kernel
theorem dX11_rank_59 : decode cX11_rank 59 = .ok (.iload 4, 2) := by decide +kernel
theorem dX11_rank_61 : decode cX11_rank 61 = .ok (.invokevirtual 81, 3) := by decide +kernel
theorem dX11_rank_64 : decode cX11_rank 64 = .ok (.ifCond .eq 17, 3) := by decide +kernel
theorem dX11_rank_67 : decode cX11_rank 67 = .ok (.aload_n 0, 1) := by decide +kernel
theorem dX11_rank_68 : decode cX11_rank 68 = .ok (.iload 4, 2) := by decide +kernel
theorem dX11_rank_70 : decode cX11_rank 70 = .ok (.iload_n 1, 1) := by decide +kernel
theorem dX11_rank_71 : decode cX11_rank 71 = .ok (.invokevirtual 308, 3) := by decide +kernel
theorem dX11_rank_74 : decode cX11_rank 74 = .ok (.ifCond .eq 7, 3) := by decide +kernel
theorem dX11_rank_77 : decode cX11_rank 77 = .ok (.iconst 1, 1) := by decide +kernel
theorem dX11_rank_78 : decode cX11_rank 78 = .ok (.goto 4, 3) := by decide +kernel
theorem dX11_rank_81 : decode cX11_rank 81 = .ok (.iconst 0, 1) := by decide +kernel
theorem dX11_rank_82 : decode cX11_rank 82 = .ok (.iadd, 1) := by decide +kernel
theorem dX11_rank_83 : decode cX11_rank 83 = .ok (.istore_n 3, 1) := by decide +kernel
theorem dX11_rank_84 : decode cX11_rank 84 = .ok (.iinc 4 1, 3) := by decide +kernel
theorem dX11_rank_87 : decode cX11_rank 87 = .ok (.goto (-37), 3) := by decide +kernel
theorem dX11_rank_90 : decode cX11_rank 90 = .ok (.iload_n 3, 1) := by decide +kernel
theorem dX11_rank_91 : decode cX11_rank 91 = .ok (.ireturn, 1) := by decide +kernel
theorem dX11_old_0 : decode cX11_old 0 = .ok (.aload_n 0, 1) := by decide +kernel
theorem dX11_old_1 : decode cX11_old 1 = .ok (.iconst 0, 1) := by decide +kernel
theorem dX11_old_2 : decode cX11_old 2 = .ok (.putfield 43, 3) := by decide +kernel
theorem dX11_old_5 : decode cX11_old 5 = .ok (.iconst 0, 1) := by decide +kernel
theorem dX11_old_6 : decode cX11_old 6 = .ok (.istore_n 2, 1) := by decide +kernel
theorem dX11_old_7 : decode cX11_old 7 = .ok (.iload_n 2, 1) := by decide +kernel
theorem dX11_old_8 : decode cX11_old 8 = .ok (.bipush 64, 2) := by decide +kernel
theorem dX11_old_10 : decode cX11_old 10 = .ok (.if_icmp .ge 78, 3) := by decide +kernel
theorem dX11_old_13 : decode cX11_old 13 = .ok (.aload_n 0, 1) := by decide +kernel
theorem dX11_old_14 : decode cX11_old 14 = .ok (.iload_n 2, 1) := by decide +kernel
theorem dX11_old_15 : decode cX11_old 15 = .ok (.invokevirtual 81, 3) := by decide +kernel
theorem dX11_old_18 : decode cX11_old 18 = .ok (.ifCond .ne 6, 3) := by decide +kernel
theorem dX11_old_21 : decode cX11_old 21 = .ok (.goto 61, 3) := by decide +kernel
theorem dX11_old_24 : decode cX11_old 24 = .ok (.iconst 0, 1) := by decide +kernel
theorem dX11_old_25 : decode cX11_old 25 = .ok (.istore_n 3, 1) := by decide +kernel
theorem dX11_old_26 : decode cX11_old 26 = .ok (.iconst 0, 1) := by decide +kernel
theorem dX11_old_27 : decode cX11_old 27 = .ok (.istore 4, 2) := by decide +kernel
theorem dX11_old_29 : decode cX11_old 29 = .ok (.iload 4, 2) := by decide +kernel
theorem dX11_old_31 : decode cX11_old 31 = .ok (.bipush 64, 2) := by decide +kernel
theorem dX11_old_33 : decode cX11_old 33 = .ok (.if_icmp .ge 42, 3) := by decide +kernel
theorem dX11_old_36 : decode cX11_old 36 = .ok (.iload_n 3, 1) := by decide +kernel
theorem dX11_old_37 : decode cX11_old 37 = .ok (.aload_n 0, 1) := by decide +kernel
theorem dX11_old_38 : decode cX11_old 38 = .ok (.iload 4, 2) := by decide +kernel
theorem dX11_old_40 : decode cX11_old 40 = .ok (.invokevirtual 81, 3) := by decide +kernel
theorem dX11_old_43 : decode cX11_old 43 = .ok (.ifCond .eq 23, 3) := by decide +kernel
theorem dX11_old_46 : decode cX11_old 46 = .ok (.aload_n 0, 1) := by decide +kernel
theorem dX11_old_47 : decode cX11_old 47 = .ok (.iload 4, 2) := by decide +kernel
theorem dX11_old_49 : decode cX11_old 49 = .ok (.iconst 0, 1) := by decide +kernel
theorem dX11_old_50 : decode cX11_old 50 = .ok (.invokevirtual 74, 3) := by decide +kernel
theorem dX11_old_53 : decode cX11_old 53 = .ok (.aload_n 0, 1) := by decide +kernel
theorem dX11_old_54 : decode cX11_old 54 = .ok (.iload_n 2, 1) := by decide +kernel
theorem dX11_old_55 : decode cX11_old 55 = .ok (.iconst 0, 1) := by decide +kernel
theorem dX11_old_56 : decode cX11_old 56 = .ok (.invokevirtual 74, 3) := by decide +kernel
theorem dX11_old_59 : decode cX11_old 59 = .ok (.if_icmp .ge 7, 3) := by decide +kernel
theorem dX11_old_62 : decode cX11_old 62 = .ok (.iconst 1, 1) := by decide +kernel
theorem dX11_old_63 : decode cX11_old 63 = .ok (.goto 4, 3) := by decide +kernel
theorem dX11_old_66 : decode cX11_old 66 = .ok (.iconst 0, 1) := by decide +kernel
theorem dX11_old_67 : decode cX11_old 67 = .ok (.iadd, 1) := by decide +kernel
theorem dX11_old_68 : decode cX11_old 68 = .ok (.istore_n 3, 1) := by decide +kernel
theorem dX11_old_69 : decode cX11_old 69 = .ok (.iinc 4 1, 3) := by decide +kernel
theorem dX11_old_72 : decode cX11_old 72 = .ok (.goto (-43), 3) := by decide +kernel
theorem dX11_old_75 : decode cX11_old 75 = .ok (.iload_n 3, 1) := by decide +kernel
theorem dX11_old_76 : decode cX11_old 76 = .ok (.iload_n 1, 1) := by decide +kernel
theorem dX11_old_77 : decode cX11_old 77 = .ok (.if_icmp .ne 5, 3) := by decide +kernel
theorem dX11_old_80 : decode cX11_old 80 = .ok (.iload_n 2, 1) := by decide +kernel
theorem dX11_old_81 : decode cX11_old 81 = .ok (.ireturn, 1) := by decide +kernel
theorem dX11_old_82 : decode cX11_old 82 = .ok (.iinc 2 1, 3) := by decide +kernel
theorem dX11_old_85 : decode cX11_old 85 = .ok (.goto (-78), 3) := by decide +kernel
theorem dX11_old_88 : decode cX11_old 88 = .ok (.iconst (-1), 1) := by decide +kernel
theorem dX11_old_89 : decode cX11_old 89 = .ok (.ireturn, 1) := by decide +kernel
theorem dX11_keepsTrial_0 : decode cX11_keepsTrial 0 = .ok (.iconst 0, 1) := by decide +kernel
theorem dX11_keepsTrial_1 : decode cX11_keepsTrial 1 = .ok (.istore_n 1, 1) := by decide +kernel
theorem dX11_keepsTrial_2 : decode cX11_keepsTrial 2 = .ok (.iload_n 1, 1) := by decide +kernel
theorem dX11_keepsTrial_3 : decode cX11_keepsTrial 3 = .ok (.sipush 5497, 3) := by decide +kernel
theorem dX11_keepsTrial_6 : decode cX11_keepsTrial 6 = .ok (.if_icmp .ge 21, 3) := by decide +kernel
theorem dX11_keepsTrial_9 : decode cX11_keepsTrial 9 = .ok (.aload_n 0, 1) := by decide +kernel
theorem dX11_keepsTrial_10 : decode cX11_keepsTrial 10 = .ok (.getfield 16, 3) := by decide +kernel
theorem dX11_keepsTrial_13 : decode cX11_keepsTrial 13 = .ok (.iload_n 1, 1) := by decide +kernel
theorem dX11_keepsTrial_14 : decode cX11_keepsTrial 14 = .ok (.aload_n 0, 1) := by decide +kernel
theorem dX11_keepsTrial_15 : decode cX11_keepsTrial 15 = .ok (.getfield 7, 3) := by decide +kernel
theorem dX11_keepsTrial_18 : decode cX11_keepsTrial 18 = .ok (.iload_n 1, 1) := by decide +kernel
theorem dX11_keepsTrial_19 : decode cX11_keepsTrial 19 = .ok (.iaload, 1) := by decide +kernel
theorem dX11_keepsTrial_20 : decode cX11_keepsTrial 20 = .ok (.iastore, 1) := by decide +kernel
theorem dX11_keepsTrial_21 : decode cX11_keepsTrial 21 = .ok (.iinc 1 1, 3) := by decide +kernel
theorem dX11_keepsTrial_24 : decode cX11_keepsTrial 24 = .ok (.goto (-22), 3) := by decide +kernel
theorem dX11_keepsTrial_27 : decode cX11_keepsTrial 27 = .ok (.return_, 1) := by decide +kernel
theorem dX11_trialBack_0 : decode cX11_trialBack 0 = .ok (.iconst 0, 1) := by decide +kernel
theorem dX11_trialBack_1 : decode cX11_trialBack 1 = .ok (.istore_n 1, 1) := by decide +kernel
theorem dX11_trialBack_2 : decode cX11_trialBack 2 = .ok (.iload_n 1, 1) := by decide +kernel
theorem dX11_trialBack_3 : decode cX11_trialBack 3 = .ok (.sipush 5497, 3) := by decide +kernel
theorem dX11_trialBack_6 : decode cX11_trialBack 6 = .ok (.if_icmp .ge 21, 3) := by decide +kernel
theorem dX11_trialBack_9 : decode cX11_trialBack 9 = .ok (.aload_n 0, 1) := by decide +kernel
theorem dX11_trialBack_10 : decode cX11_trialBack 10 = .ok (.getfield 7, 3) := by decide +kernel
theorem dX11_trialBack_13 : decode cX11_trialBack 13 = .ok (.iload_n 1, 1) := by decide +kernel
theorem dX11_trialBack_14 : decode cX11_trialBack 14 = .ok (.aload_n 0, 1) := by decide +kernel
theorem dX11_trialBack_15 : decode cX11_trialBack 15 = .ok (.getfield 16, 3) := by decide +kernel
theorem dX11_trialBack_18 : decode cX11_trialBack 18 = .ok (.iload_n 1, 1) := by decide +kernel
theorem dX11_trialBack_19 : decode cX11_trialBack 19 = .ok (.iaload, 1) := by decide +kernel
theorem dX11_trialBack_20 : decode cX11_trialBack 20 = .ok (.iastore, 1) := by decide +kernel
theorem dX11_trialBack_21 : decode cX11_trialBack 21 = .ok (.iinc 1 1, 3) := by decide +kernel
theorem dX11_trialBack_24 : decode cX11_trialBack 24 = .ok (.goto (-22), 3) := by decide +kernel
theorem dX11_trialBack_27 : decode cX11_trialBack 27 = .ok (.return_, 1) := by decide +kernel
theorem dX11_holds_0 : decode cX11_holds 0 = .ok (.aload_n 0, 1) := by decide +kernel
theorem dX11_holds_1 : decode cX11_holds 1 = .ok (.iload_n 1, 1) := by decide +kernel
theorem dX11_holds_2 : decode cX11_holds 2 = .ok (.iconst 1, 1) := by decide +kernel
theorem dX11_holds_3 : decode cX11_holds 3 = .ok (.bipush 40, 2) := by decide +kernel
theorem dX11_holds_5 : decode cX11_holds 5 = .ok (.invokestatic 165, 3) := by decide +kernel
theorem dX11_holds_8 : decode cX11_holds 8 = .ok (.ifCond .eq 7, 3) := by decide +kernel
theorem dX11_holds_11 : decode cX11_holds 11 = .ok (.iconst 0, 1) := by decide +kernel
theorem dX11_holds_12 : decode cX11_holds 12 = .ok (.goto 4, 3) := by decide +kernel
theorem dX11_holds_15 : decode cX11_holds 15 = .ok (.iconst 1, 1) := by decide +kernel
theorem dX11_holds_16 : decode cX11_holds 16 = .ok (.putfield 43, 3) := by decide +kernel
theorem dX11_holds_19 : decode cX11_holds 19 = .ok (.aload_n 0, 1) := by decide +kernel
theorem dX11_holds_20 : decode cX11_holds 20 = .ok (.getfield 43, 3) := by decide +kernel
theorem dX11_holds_23 : decode cX11_holds 23 = .ok (.ifCond .le 5, 3) := by decide +kernel
theorem dX11_holds_26 : decode cX11_holds 26 = .ok (.iconst 0, 1) := by decide +kernel
theorem dX11_holds_27 : decode cX11_holds 27 = .ok (.ireturn, 1) := by decide +kernel
theorem dX11_holds_28 : decode cX11_holds 28 = .ok (.aload_n 0, 1) := by decide +kernel
theorem dX11_holds_29 : decode cX11_holds 29 = .ok (.invokevirtual 311, 3) := by decide +kernel
theorem dX11_holds_32 : decode cX11_holds 32 = .ok (.iconst 0, 1) := by decide +kernel
theorem dX11_holds_33 : decode cX11_holds 33 = .ok (.istore_n 2, 1) := by decide +kernel
theorem dX11_holds_34 : decode cX11_holds 34 = .ok (.iload_n 2, 1) := by decide +kernel
theorem dX11_holds_35 : decode cX11_holds 35 = .ok (.bipush 99, 2) := by decide +kernel
theorem dX11_holds_37 : decode cX11_holds 37 = .ok (.if_icmp .ge 22, 3) := by decide +kernel
theorem dX11_holds_40 : decode cX11_holds 40 = .ok (.aload_n 0, 1) := by decide +kernel
theorem dX11_holds_41 : decode cX11_holds 41 = .ok (.iload_n 2, 1) := by decide +kernel
theorem dX11_holds_42 : decode cX11_holds 42 = .ok (.bipush 64, 2) := by decide +kernel
theorem dX11_holds_44 : decode cX11_holds 44 = .ok (.irem, 1) := by decide +kernel
theorem dX11_holds_45 : decode cX11_holds 45 = .ok (.iload_n 1, 1) := by decide +kernel
theorem dX11_holds_46 : decode cX11_holds 46 = .ok (.iconst 0, 1) := by decide +kernel
theorem dX11_holds_47 : decode cX11_holds 47 = .ok (.invokevirtual 193, 3) := by decide +kernel
theorem dX11_holds_50 : decode cX11_holds 50 = .ok (.ifCond .ne 9, 3) := by decide +kernel
theorem dX11_holds_53 : decode cX11_holds 53 = .ok (.iinc 2 1, 3) := by decide +kernel
theorem dX11_holds_56 : decode cX11_holds 56 = .ok (.goto (-22), 3) := by decide +kernel
theorem dX11_holds_59 : decode cX11_holds 59 = .ok (.aload_n 0, 1) := by decide +kernel
theorem dX11_holds_60 : decode cX11_holds 60 = .ok (.invokevirtual 314, 3) := by decide +kernel
theorem dX11_holds_63 : decode cX11_holds 63 = .ok (.iload_n 2, 1) := by decide +kernel
theorem dX11_holds_64 : decode cX11_holds 64 = .ok (.ireturn, 1) := by decide +kernel
theorem dX11_spare_0 : decode cX11_spare 0 = .ok (.aload_n 0, 1) := by decide +kernel
theorem dX11_spare_1 : decode cX11_spare 1 = .ok (.getfield 7, 3) := by decide +kernel
theorem dX11_spare_4 : decode cX11_spare 4 = .ok (.iconst 0, 1) := by decide +kernel
theorem dX11_spare_5 : decode cX11_spare 5 = .ok (.iaload, 1) := by decide +kernel
theorem dX11_spare_6 : decode cX11_spare 6 = .ok (.aload_n 0, 1) := by decide +kernel
theorem dX11_spare_7 : decode cX11_spare 7 = .ok (.aload_n 0, 1) := by decide +kernel
theorem dX11_spare_8 : decode cX11_spare 8 = .ok (.invokevirtual 56, 3) := by decide +kernel
theorem dX11_spare_11 : decode cX11_spare 11 = .ok (.iconst 2, 1) := by decide +kernel
theorem dX11_spare_12 : decode cX11_spare 12 = .ok (.invokevirtual 53, 3) := by decide +kernel
theorem dX11_spare_15 : decode cX11_spare 15 = .ok (.isub, 1) := by decide +kernel
theorem dX11_spare_16 : decode cX11_spare 16 = .ok (.aload_n 0, 1) := by decide +kernel
theorem dX11_spare_17 : decode cX11_spare 17 = .ok (.getfield 7, 3) := by decide +kernel
theorem dX11_spare_20 : decode cX11_spare 20 = .ok (.iconst 0, 1) := by decide +kernel
theorem dX11_spare_21 : decode cX11_spare 21 = .ok (.iaload, 1) := by decide +kernel
theorem dX11_spare_22 : decode cX11_spare 22 = .ok (.aload_n 0, 1) := by decide +kernel
theorem dX11_spare_23 : decode cX11_spare 23 = .ok (.invokevirtual 60, 3) := by decide +kernel
theorem dX11_spare_26 : decode cX11_spare 26 = .ok (.imul, 1) := by decide +kernel
theorem dX11_spare_27 : decode cX11_spare 27 = .ok (.iadd, 1) := by decide +kernel
theorem dX11_spare_28 : decode cX11_spare 28 = .ok (.ireturn, 1) := by decide +kernel
theorem dX11_goesThrough_0 : decode cX11_goesThrough 0 = .ok (.aload_n 0, 1) := by decide +kernel
theorem dX11_goesThrough_1 : decode cX11_goesThrough 1 = .ok (.iload_n 1, 1) := by decide +kernel
theorem dX11_goesThrough_2 : decode cX11_goesThrough 2 = .ok (.invokevirtual 200, 3) := by decide +kernel
theorem dX11_goesThrough_5 : decode cX11_goesThrough 5 = .ok (.ifCond .le 5, 3) := by decide +kernel
theorem dX11_goesThrough_8 : decode cX11_goesThrough 8 = .ok (.iconst 0, 1) := by decide +kernel
theorem dX11_goesThrough_9 : decode cX11_goesThrough 9 = .ok (.ireturn, 1) := by decide +kernel
theorem dX11_goesThrough_10 : decode cX11_goesThrough 10 = .ok (.aload_n 0, 1) := by decide +kernel
theorem dX11_goesThrough_11 : decode cX11_goesThrough 11 = .ok (.getfield 7, 3) := by decide +kernel
theorem dX11_goesThrough_14 : decode cX11_goesThrough 14 = .ok (.bipush 8, 2) := by decide +kernel
theorem dX11_goesThrough_16 : decode cX11_goesThrough 16 = .ok (.iaload, 1) := by decide +kernel
theorem dX11_goesThrough_17 : decode cX11_goesThrough 17 = .ok (.iconst (-1), 1) := by decide +kernel
theorem dX11_goesThrough_18 : decode cX11_goesThrough 18 = .ok (.if_icmp .eq 34, 3) := by decide +kernel
theorem dX11_goesThrough_21 : decode cX11_goesThrough 21 = .ok (.aload_n 0, 1) := by decide +kernel
theorem dX11_goesThrough_22 : decode cX11_goesThrough 22 = .ok (.invokevirtual 140, 3) := by decide +kernel
theorem dX11_goesThrough_25 : decode cX11_goesThrough 25 = .ok (.ifCond .le 13, 3) := by decide +kernel
theorem dX11_goesThrough_28 : decode cX11_goesThrough 28 = .ok (.aload_n 0, 1) := by decide +kernel
theorem dX11_goesThrough_29 : decode cX11_goesThrough 29 = .ok (.invokevirtual 143, 3) := by decide +kernel
theorem dX11_goesThrough_32 : decode cX11_goesThrough 32 = .ok (.iconst (-1), 1) := by decide +kernel
theorem dX11_goesThrough_33 : decode cX11_goesThrough 33 = .ok (.if_icmp .ne 5, 3) := by decide +kernel
theorem dX11_goesThrough_36 : decode cX11_goesThrough 36 = .ok (.iconst 0, 1) := by decide +kernel
theorem dX11_goesThrough_37 : decode cX11_goesThrough 37 = .ok (.ireturn, 1) := by decide +kernel
theorem dX11_goesThrough_38 : decode cX11_goesThrough 38 = .ok (.aload_n 0, 1) := by decide +kernel
theorem dX11_goesThrough_39 : decode cX11_goesThrough 39 = .ok (.invokevirtual 140, 3) := by decide +kernel
theorem dX11_goesThrough_42 : decode cX11_goesThrough 42 = .ok (.ifCond .ne (-32), 3) := by decide +kernel
theorem dX11_goesThrough_45 : decode cX11_goesThrough 45 = .ok (.aload_n 0, 1) := by decide +kernel
theorem dX11_goesThrough_46 : decode cX11_goesThrough 46 = .ok (.invokevirtual 146, 3) := by decide +kernel
theorem dX11_goesThrough_49 : decode cX11_goesThrough 49 = .ok (.goto (-39), 3) := by decide +kernel
theorem dX11_goesThrough_52 : decode cX11_goesThrough 52 = .ok (.iconst 1, 1) := by decide +kernel
theorem dX11_goesThrough_53 : decode cX11_goesThrough 53 = .ok (.ireturn, 1) := by decide +kernel
theorem dX11_would_0 : decode cX11_would 0 = .ok (.aload_n 0, 1) := by decide +kernel
theorem dX11_would_1 : decode cX11_would 1 = .ok (.iload_n 1, 1) := by decide +kernel
theorem dX11_would_2 : decode cX11_would 2 = .ok (.invokestatic 263, 3) := by decide +kernel
theorem dX11_would_5 : decode cX11_would 5 = .ok (.ifCond .ne 7, 3) := by decide +kernel
theorem dX11_would_8 : decode cX11_would 8 = .ok (.iconst 1, 1) := by decide +kernel
theorem dX11_would_9 : decode cX11_would 9 = .ok (.goto 17, 3) := by decide +kernel
theorem dX11_would_12 : decode cX11_would 12 = .ok (.iload_n 2, 1) := by decide +kernel
theorem dX11_would_13 : decode cX11_would 13 = .ok (.iconst 0, 1) := by decide +kernel
theorem dX11_would_14 : decode cX11_would 14 = .ok (.iconst 2, 1) := by decide +kernel
theorem dX11_would_15 : decode cX11_would 15 = .ok (.invokestatic 165, 3) := by decide +kernel
theorem dX11_would_18 : decode cX11_would 18 = .ok (.ifCond .ne 7, 3) := by decide +kernel
theorem dX11_would_21 : decode cX11_would 21 = .ok (.iconst 2, 1) := by decide +kernel
theorem dX11_would_22 : decode cX11_would 22 = .ok (.goto 4, 3) := by decide +kernel
theorem dX11_would_25 : decode cX11_would 25 = .ok (.iconst 0, 1) := by decide +kernel
theorem dX11_would_26 : decode cX11_would 26 = .ok (.putfield 43, 3) := by decide +kernel
theorem dX11_would_29 : decode cX11_would 29 = .ok (.aload_n 0, 1) := by decide +kernel
theorem dX11_would_30 : decode cX11_would 30 = .ok (.getfield 43, 3) := by decide +kernel
theorem dX11_would_33 : decode cX11_would 33 = .ok (.ifCond .le 5, 3) := by decide +kernel
theorem dX11_would_36 : decode cX11_would 36 = .ok (.iconst 0, 1) := by decide +kernel
theorem dX11_would_37 : decode cX11_would 37 = .ok (.ireturn, 1) := by decide +kernel
theorem dX11_would_38 : decode cX11_would 38 = .ok (.aload_n 0, 1) := by decide +kernel
theorem dX11_would_39 : decode cX11_would 39 = .ok (.invokevirtual 311, 3) := by decide +kernel
theorem dX11_would_42 : decode cX11_would 42 = .ok (.aload_n 0, 1) := by decide +kernel
theorem dX11_would_43 : decode cX11_would 43 = .ok (.invokevirtual 317, 3) := by decide +kernel
theorem dX11_would_46 : decode cX11_would 46 = .ok (.istore_n 3, 1) := by decide +kernel
theorem dX11_would_47 : decode cX11_would 47 = .ok (.aload_n 0, 1) := by decide +kernel
theorem dX11_would_48 : decode cX11_would 48 = .ok (.iload_n 1, 1) := by decide +kernel
theorem dX11_would_49 : decode cX11_would 49 = .ok (.invokevirtual 320, 3) := by decide +kernel
theorem dX11_would_52 : decode cX11_would 52 = .ok (.istore 4, 2) := by decide +kernel
theorem dX11_would_54 : decode cX11_would 54 = .ok (.iload_n 2, 1) := by decide +kernel
theorem dX11_would_55 : decode cX11_would 55 = .ok (.ifCond .ne 21, 3) := by decide +kernel
theorem dX11_would_58 : decode cX11_would 58 = .ok (.aload_n 0, 1) := by decide +kernel
theorem dX11_would_59 : decode cX11_would 59 = .ok (.getfield 7, 3) := by decide +kernel
theorem dX11_would_62 : decode cX11_would 62 = .ok (.bipush 11, 2) := by decide +kernel
theorem dX11_would_64 : decode cX11_would 64 = .ok (.iaload, 1) := by decide +kernel
theorem dX11_would_65 : decode cX11_would 65 = .ok (.aload_n 0, 1) := by decide +kernel
theorem dX11_would_66 : decode cX11_would 66 = .ok (.getfield 16, 3) := by decide +kernel
theorem dX11_would_69 : decode cX11_would 69 = .ok (.bipush 11, 2) := by decide +kernel
theorem dX11_would_71 : decode cX11_would 71 = .ok (.iaload, 1) := by decide +kernel
theorem dX11_would_72 : decode cX11_would 72 = .ok (.isub, 1) := by decide +kernel
theorem dX11_would_73 : decode cX11_would 73 = .ok (.goto 32, 3) := by decide +kernel
theorem dX11_would_76 : decode cX11_would 76 = .ok (.iload_n 2, 1) := by decide +kernel
theorem dX11_would_77 : decode cX11_would 77 = .ok (.iconst 1, 1) := by decide +kernel
theorem dX11_would_78 : decode cX11_would 78 = .ok (.if_icmp .ne 12, 3) := by decide +kernel
theorem dX11_would_81 : decode cX11_would 81 = .ok (.aload_n 0, 1) := by decide +kernel
theorem dX11_would_82 : decode cX11_would 82 = .ok (.invokevirtual 317, 3) := by decide +kernel
theorem dX11_would_85 : decode cX11_would 85 = .ok (.iload_n 3, 1) := by decide +kernel
theorem dX11_would_86 : decode cX11_would 86 = .ok (.isub, 1) := by decide +kernel
theorem dX11_would_87 : decode cX11_would 87 = .ok (.goto 18, 3) := by decide +kernel
theorem dX11_would_90 : decode cX11_would 90 = .ok (.aload_n 0, 1) := by decide +kernel
theorem dX11_would_91 : decode cX11_would 91 = .ok (.getfield 7, 3) := by decide +kernel
theorem dX11_would_94 : decode cX11_would 94 = .ok (.bipush 14, 2) := by decide +kernel
theorem dX11_would_96 : decode cX11_would 96 = .ok (.iaload, 1) := by decide +kernel
theorem dX11_would_97 : decode cX11_would 97 = .ok (.aload_n 0, 1) := by decide +kernel
theorem dX11_would_98 : decode cX11_would 98 = .ok (.getfield 16, 3) := by decide +kernel
theorem dX11_would_101 : decode cX11_would 101 = .ok (.bipush 14, 2) := by decide +kernel
theorem dX11_would_103 : decode cX11_would 103 = .ok (.iaload, 1) := by decide +kernel
theorem dX11_would_104 : decode cX11_would 104 = .ok (.isub, 1) := by decide +kernel
theorem dX11_would_105 : decode cX11_would 105 = .ok (.istore 5, 2) := by decide +kernel
theorem dX11_would_107 : decode cX11_would 107 = .ok (.aload_n 0, 1) := by decide +kernel
theorem dX11_would_108 : decode cX11_would 108 = .ok (.invokevirtual 314, 3) := by decide +kernel
theorem dX11_would_111 : decode cX11_would 111 = .ok (.iload 4, 2) := by decide +kernel
theorem dX11_would_113 : decode cX11_would 113 = .ok (.ifCond .eq 8, 3) := by decide +kernel
theorem dX11_would_116 : decode cX11_would 116 = .ok (.iload 5, 2) := by decide +kernel
theorem dX11_would_118 : decode cX11_would 118 = .ok (.goto 6, 3) := by decide +kernel
theorem dX11_would_121 : decode cX11_would 121 = .ok (.sipush (-1000), 3) := by decide +kernel
theorem dX11_would_124 : decode cX11_would 124 = .ok (.ireturn, 1) := by decide +kernel
theorem dX11_sweep_0 : decode cX11_sweep 0 = .ok (.aload_n 0, 1) := by decide +kernel
theorem dX11_sweep_1 : decode cX11_sweep 1 = .ok (.iload_n 1, 1) := by decide +kernel
theorem dX11_sweep_2 : decode cX11_sweep 2 = .ok (.iconst 1, 1) := by decide +kernel
theorem dX11_sweep_3 : decode cX11_sweep 3 = .ok (.bipush 6, 2) := by decide +kernel
theorem dX11_sweep_5 : decode cX11_sweep 5 = .ok (.invokestatic 165, 3) := by decide +kernel
theorem dX11_sweep_8 : decode cX11_sweep 8 = .ok (.ifCond .ne 7, 3) := by decide +kernel
theorem dX11_sweep_11 : decode cX11_sweep 11 = .ok (.iconst 1, 1) := by decide +kernel
theorem dX11_sweep_12 : decode cX11_sweep 12 = .ok (.goto 17, 3) := by decide +kernel
theorem dX11_sweep_15 : decode cX11_sweep 15 = .ok (.iload_n 2, 1) := by decide +kernel
theorem dX11_sweep_16 : decode cX11_sweep 16 = .ok (.iconst 0, 1) := by decide +kernel
theorem dX11_sweep_17 : decode cX11_sweep 17 = .ok (.iconst 2, 1) := by decide +kernel
theorem dX11_sweep_18 : decode cX11_sweep 18 = .ok (.invokestatic 165, 3) := by decide +kernel
theorem dX11_sweep_21 : decode cX11_sweep 21 = .ok (.ifCond .ne 7, 3) := by decide +kernel
theorem dX11_sweep_24 : decode cX11_sweep 24 = .ok (.iconst 2, 1) := by decide +kernel
theorem dX11_sweep_25 : decode cX11_sweep 25 = .ok (.goto 4, 3) := by decide +kernel
theorem dX11_sweep_28 : decode cX11_sweep 28 = .ok (.iconst 0, 1) := by decide +kernel
theorem dX11_sweep_29 : decode cX11_sweep 29 = .ok (.putfield 43, 3) := by decide +kernel
theorem dX11_sweep_32 : decode cX11_sweep 32 = .ok (.aload_n 0, 1) := by decide +kernel
theorem dX11_sweep_33 : decode cX11_sweep 33 = .ok (.getfield 43, 3) := by decide +kernel
theorem dX11_sweep_36 : decode cX11_sweep 36 = .ok (.ifCond .le 5, 3) := by decide +kernel
theorem dX11_sweep_39 : decode cX11_sweep 39 = .ok (.iconst 0, 1) := by decide +kernel
theorem dX11_sweep_40 : decode cX11_sweep 40 = .ok (.ireturn, 1) := by decide +kernel
theorem dX11_sweep_41 : decode cX11_sweep 41 = .ok (.aload_n 0, 1) := by decide +kernel
theorem dX11_sweep_42 : decode cX11_sweep 42 = .ok (.invokevirtual 311, 3) := by decide +kernel
theorem dX11_sweep_45 : decode cX11_sweep 45 = .ok (.iconst 0, 1) := by decide +kernel
theorem dX11_sweep_46 : decode cX11_sweep 46 = .ok (.istore_n 3, 1) := by decide +kernel
theorem dX11_sweep_47 : decode cX11_sweep 47 = .ok (.iconst 1, 1) := by decide +kernel
theorem dX11_sweep_48 : decode cX11_sweep 48 = .ok (.istore 4, 2) := by decide +kernel
theorem dX11_sweep_50 : decode cX11_sweep 50 = .ok (.iconst 0, 1) := by decide +kernel
theorem dX11_sweep_51 : decode cX11_sweep 51 = .ok (.istore 5, 2) := by decide +kernel
theorem dX11_sweep_53 : decode cX11_sweep 53 = .ok (.iload 5, 2) := by decide +kernel
theorem dX11_sweep_55 : decode cX11_sweep 55 = .ok (.iload_n 1, 1) := by decide +kernel
theorem dX11_sweep_56 : decode cX11_sweep 56 = .ok (.if_icmp .ge 61, 3) := by decide +kernel
theorem dX11_sweep_59 : decode cX11_sweep 59 = .ok (.iload 4, 2) := by decide +kernel
theorem dX11_sweep_61 : decode cX11_sweep 61 = .ok (.ifCond .eq 56, 3) := by decide +kernel
theorem dX11_sweep_64 : decode cX11_sweep 64 = .ok (.aload_n 0, 1) := by decide +kernel
theorem dX11_sweep_65 : decode cX11_sweep 65 = .ok (.invokevirtual 243, 3) := by decide +kernel
theorem dX11_sweep_68 : decode cX11_sweep 68 = .ok (.istore 6, 2) := by decide +kernel
theorem dX11_sweep_70 : decode cX11_sweep 70 = .ok (.aload_n 0, 1) := by decide +kernel
theorem dX11_sweep_71 : decode cX11_sweep 71 = .ok (.invokevirtual 134, 3) := by decide +kernel
theorem dX11_sweep_74 : decode cX11_sweep 74 = .ok (.istore 7, 2) := by decide +kernel
theorem dX11_sweep_76 : decode cX11_sweep 76 = .ok (.iload 7, 2) := by decide +kernel
theorem dX11_sweep_78 : decode cX11_sweep 78 = .ok (.iconst (-1), 1) := by decide +kernel
theorem dX11_sweep_79 : decode cX11_sweep 79 = .ok (.if_icmp .eq 16, 3) := by decide +kernel
theorem dX11_sweep_82 : decode cX11_sweep 82 = .ok (.aload_n 0, 1) := by decide +kernel
theorem dX11_sweep_83 : decode cX11_sweep 83 = .ok (.iload 7, 2) := by decide +kernel
theorem dX11_sweep_85 : decode cX11_sweep 85 = .ok (.invokevirtual 320, 3) := by decide +kernel
theorem dX11_sweep_88 : decode cX11_sweep 88 = .ok (.ifCond .eq 7, 3) := by decide +kernel
theorem dX11_sweep_91 : decode cX11_sweep 91 = .ok (.iconst 1, 1) := by decide +kernel
theorem dX11_sweep_92 : decode cX11_sweep 92 = .ok (.goto 4, 3) := by decide +kernel
theorem dX11_sweep_95 : decode cX11_sweep 95 = .ok (.iconst 0, 1) := by decide +kernel
theorem dX11_sweep_96 : decode cX11_sweep 96 = .ok (.istore 4, 2) := by decide +kernel
theorem dX11_sweep_98 : decode cX11_sweep 98 = .ok (.iload_n 3, 1) := by decide +kernel
theorem dX11_sweep_99 : decode cX11_sweep 99 = .ok (.iload 4, 2) := by decide +kernel
theorem dX11_sweep_101 : decode cX11_sweep 101 = .ok (.ifCond .eq 7, 3) := by decide +kernel
theorem dX11_sweep_104 : decode cX11_sweep 104 = .ok (.iconst 1, 1) := by decide +kernel
theorem dX11_sweep_105 : decode cX11_sweep 105 = .ok (.goto 4, 3) := by decide +kernel
theorem dX11_sweep_108 : decode cX11_sweep 108 = .ok (.iconst 0, 1) := by decide +kernel
theorem dX11_sweep_109 : decode cX11_sweep 109 = .ok (.iadd, 1) := by decide +kernel
theorem dX11_sweep_110 : decode cX11_sweep 110 = .ok (.istore_n 3, 1) := by decide +kernel
theorem dX11_sweep_111 : decode cX11_sweep 111 = .ok (.iinc 5 1, 3) := by decide +kernel
theorem dX11_sweep_114 : decode cX11_sweep 114 = .ok (.goto (-61), 3) := by decide +kernel
theorem dX11_sweep_117 : decode cX11_sweep 117 = .ok (.aload_n 0, 1) := by decide +kernel
theorem dX11_sweep_118 : decode cX11_sweep 118 = .ok (.invokevirtual 317, 3) := by decide +kernel
theorem dX11_sweep_121 : decode cX11_sweep 121 = .ok (.istore 5, 2) := by decide +kernel
theorem dX11_sweep_123 : decode cX11_sweep 123 = .ok (.aload_n 0, 1) := by decide +kernel
theorem dX11_sweep_124 : decode cX11_sweep 124 = .ok (.iconst 1, 1) := by decide +kernel
theorem dX11_sweep_125 : decode cX11_sweep 125 = .ok (.invokevirtual 323, 3) := by decide +kernel
theorem dX11_sweep_128 : decode cX11_sweep 128 = .ok (.istore 6, 2) := by decide +kernel
theorem dX11_sweep_130 : decode cX11_sweep 130 = .ok (.iload 5, 2) := by decide +kernel
theorem dX11_sweep_132 : decode cX11_sweep 132 = .ok (.iload 6, 2) := by decide +kernel
theorem dX11_sweep_134 : decode cX11_sweep 134 = .ok (.iadd, 1) := by decide +kernel
theorem dX11_sweep_135 : decode cX11_sweep 135 = .ok (.aload_n 0, 1) := by decide +kernel
theorem dX11_sweep_136 : decode cX11_sweep 136 = .ok (.iconst 0, 1) := by decide +kernel
theorem dX11_sweep_137 : decode cX11_sweep 137 = .ok (.invokevirtual 323, 3) := by decide +kernel
theorem dX11_sweep_140 : decode cX11_sweep 140 = .ok (.iadd, 1) := by decide +kernel
theorem dX11_sweep_141 : decode cX11_sweep 141 = .ok (.istore 7, 2) := by decide +kernel
theorem dX11_sweep_143 : decode cX11_sweep 143 = .ok (.aload_n 0, 1) := by decide +kernel
theorem dX11_sweep_144 : decode cX11_sweep 144 = .ok (.invokevirtual 314, 3) := by decide +kernel
theorem dX11_sweep_147 : decode cX11_sweep 147 = .ok (.iload_n 2, 1) := by decide +kernel
theorem dX11_sweep_148 : decode cX11_sweep 148 = .ok (.ifCond .ne 7, 3) := by decide +kernel
theorem dX11_sweep_151 : decode cX11_sweep 151 = .ok (.iload_n 3, 1) := by decide +kernel
theorem dX11_sweep_152 : decode cX11_sweep 152 = .ok (.goto 21, 3) := by decide +kernel
theorem dX11_sweep_155 : decode cX11_sweep 155 = .ok (.iload_n 2, 1) := by decide +kernel
theorem dX11_sweep_156 : decode cX11_sweep 156 = .ok (.iconst 1, 1) := by decide +kernel
theorem dX11_sweep_157 : decode cX11_sweep 157 = .ok (.if_icmp .ne 8, 3) := by decide +kernel
theorem dX11_sweep_160 : decode cX11_sweep 160 = .ok (.iload 5, 2) := by decide +kernel
theorem dX11_sweep_162 : decode cX11_sweep 162 = .ok (.goto 11, 3) := by decide +kernel
theorem dX11_sweep_165 : decode cX11_sweep 165 = .ok (.bipush 100, 2) := by decide +kernel
theorem dX11_sweep_167 : decode cX11_sweep 167 = .ok (.iload 6, 2) := by decide +kernel
theorem dX11_sweep_169 : decode cX11_sweep 169 = .ok (.imul, 1) := by decide +kernel
theorem dX11_sweep_170 : decode cX11_sweep 170 = .ok (.iload 7, 2) := by decide +kernel
theorem dX11_sweep_172 : decode cX11_sweep 172 = .ok (.idiv, 1) := by decide +kernel
theorem dX11_sweep_173 : decode cX11_sweep 173 = .ok (.ireturn, 1) := by decide +kernel
theorem dX11_traces_0 : decode cX11_traces 0 = .ok (.aload_n 0, 1) := by decide +kernel
theorem dX11_traces_1 : decode cX11_traces 1 = .ok (.iload_n 1, 1) := by decide +kernel
theorem dX11_traces_2 : decode cX11_traces 2 = .ok (.invokestatic 254, 3) := by decide +kernel
theorem dX11_traces_5 : decode cX11_traces 5 = .ok (.ifCond .ne 7, 3) := by decide +kernel
theorem dX11_traces_8 : decode cX11_traces 8 = .ok (.iconst 1, 1) := by decide +kernel
theorem dX11_traces_9 : decode cX11_traces 9 = .ok (.goto 17, 3) := by decide +kernel
theorem dX11_traces_12 : decode cX11_traces 12 = .ok (.iload_n 2, 1) := by decide +kernel
theorem dX11_traces_13 : decode cX11_traces 13 = .ok (.iconst 0, 1) := by decide +kernel
theorem dX11_traces_14 : decode cX11_traces 14 = .ok (.iconst 2, 1) := by decide +kernel
theorem dX11_traces_15 : decode cX11_traces 15 = .ok (.invokestatic 165, 3) := by decide +kernel
theorem dX11_traces_18 : decode cX11_traces 18 = .ok (.ifCond .ne 7, 3) := by decide +kernel
theorem dX11_traces_21 : decode cX11_traces 21 = .ok (.iconst 2, 1) := by decide +kernel
theorem dX11_traces_22 : decode cX11_traces 22 = .ok (.goto 4, 3) := by decide +kernel
theorem dX11_traces_25 : decode cX11_traces 25 = .ok (.iconst 0, 1) := by decide +kernel
theorem dX11_traces_26 : decode cX11_traces 26 = .ok (.putfield 43, 3) := by decide +kernel
theorem dX11_traces_29 : decode cX11_traces 29 = .ok (.aload_n 0, 1) := by decide +kernel
theorem dX11_traces_30 : decode cX11_traces 30 = .ok (.getfield 43, 3) := by decide +kernel
theorem dX11_traces_33 : decode cX11_traces 33 = .ok (.ifCond .le 5, 3) := by decide +kernel
theorem dX11_traces_36 : decode cX11_traces 36 = .ok (.iconst 0, 1) := by decide +kernel
theorem dX11_traces_37 : decode cX11_traces 37 = .ok (.ireturn, 1) := by decide +kernel
theorem dX11_traces_38 : decode cX11_traces 38 = .ok (.iconst 0, 1) := by decide +kernel
theorem dX11_traces_39 : decode cX11_traces 39 = .ok (.istore_n 3, 1) := by decide +kernel
theorem dX11_traces_40 : decode cX11_traces 40 = .ok (.iconst 0, 1) := by decide +kernel
theorem dX11_traces_41 : decode cX11_traces 41 = .ok (.istore 4, 2) := by decide +kernel
theorem dX11_traces_43 : decode cX11_traces 43 = .ok (.iconst 0, 1) := by decide +kernel
theorem dX11_traces_44 : decode cX11_traces 44 = .ok (.istore 5, 2) := by decide +kernel
theorem dX11_traces_46 : decode cX11_traces 46 = .ok (.iconst 0, 1) := by decide +kernel
theorem dX11_traces_47 : decode cX11_traces 47 = .ok (.istore 6, 2) := by decide +kernel
theorem dX11_traces_49 : decode cX11_traces 49 = .ok (.iload 6, 2) := by decide +kernel
theorem dX11_traces_51 : decode cX11_traces 51 = .ok (.bipush 12, 2) := by decide +kernel
theorem dX11_traces_53 : decode cX11_traces 53 = .ok (.if_icmp .ge 75, 3) := by decide +kernel
theorem dX11_traces_56 : decode cX11_traces 56 = .ok (.iconst 0, 1) := by decide +kernel
theorem dX11_traces_57 : decode cX11_traces 57 = .ok (.istore 7, 2) := by decide +kernel
theorem dX11_traces_59 : decode cX11_traces 59 = .ok (.iload 7, 2) := by decide +kernel
theorem dX11_traces_61 : decode cX11_traces 61 = .ok (.aload_n 0, 1) := by decide +kernel
theorem dX11_traces_62 : decode cX11_traces 62 = .ok (.iload 6, 2) := by decide +kernel
theorem dX11_traces_64 : decode cX11_traces 64 = .ok (.iconst 1, 1) := by decide +kernel
theorem dX11_traces_65 : decode cX11_traces 65 = .ok (.invokevirtual 53, 3) := by decide +kernel
theorem dX11_traces_68 : decode cX11_traces 68 = .ok (.if_icmp .ge 54, 3) := by decide +kernel
theorem dX11_traces_71 : decode cX11_traces 71 = .ok (.aload_n 0, 1) := by decide +kernel
theorem dX11_traces_72 : decode cX11_traces 72 = .ok (.iload 6, 2) := by decide +kernel
theorem dX11_traces_74 : decode cX11_traces 74 = .ok (.iload 7, 2) := by decide +kernel
theorem dX11_traces_76 : decode cX11_traces 76 = .ok (.iconst 0, 1) := by decide +kernel
theorem dX11_traces_77 : decode cX11_traces 77 = .ok (.invokevirtual 77, 3) := by decide +kernel
theorem dX11_traces_80 : decode cX11_traces 80 = .ok (.iload_n 1, 1) := by decide +kernel
theorem dX11_traces_81 : decode cX11_traces 81 = .ok (.if_icmp .eq 6, 3) := by decide +kernel
theorem dX11_traces_84 : decode cX11_traces 84 = .ok (.goto 32, 3) := by decide +kernel
theorem dX11_traces_87 : decode cX11_traces 87 = .ok (.iinc 3 1, 3) := by decide +kernel
theorem dX11_traces_90 : decode cX11_traces 90 = .ok (.iload 4, 2) := by decide +kernel
theorem dX11_traces_92 : decode cX11_traces 92 = .ok (.aload_n 0, 1) := by decide +kernel
theorem dX11_traces_93 : decode cX11_traces 93 = .ok (.iload 6, 2) := by decide +kernel
theorem dX11_traces_95 : decode cX11_traces 95 = .ok (.iload 7, 2) := by decide +kernel
theorem dX11_traces_97 : decode cX11_traces 97 = .ok (.iconst 1, 1) := by decide +kernel
theorem dX11_traces_98 : decode cX11_traces 98 = .ok (.invokevirtual 77, 3) := by decide +kernel
theorem dX11_traces_101 : decode cX11_traces 101 = .ok (.invokestatic 91, 3) := by decide +kernel
theorem dX11_traces_104 : decode cX11_traces 104 = .ok (.iadd, 1) := by decide +kernel
theorem dX11_traces_105 : decode cX11_traces 105 = .ok (.istore 4, 2) := by decide +kernel
theorem dX11_traces_107 : decode cX11_traces 107 = .ok (.iload 5, 2) := by decide +kernel
theorem dX11_traces_109 : decode cX11_traces 109 = .ok (.iconst 1, 1) := by decide +kernel
theorem dX11_traces_110 : decode cX11_traces 110 = .ok (.iload 6, 2) := by decide +kernel
theorem dX11_traces_112 : decode cX11_traces 112 = .ok (.ishl, 1) := by decide +kernel
theorem dX11_traces_113 : decode cX11_traces 113 = .ok (.ior, 1) := by decide +kernel
theorem dX11_traces_114 : decode cX11_traces 114 = .ok (.istore 5, 2) := by decide +kernel
theorem dX11_traces_116 : decode cX11_traces 116 = .ok (.iinc 7 1, 3) := by decide +kernel
theorem dX11_traces_119 : decode cX11_traces 119 = .ok (.goto (-60), 3) := by decide +kernel
theorem dX11_traces_122 : decode cX11_traces 122 = .ok (.iinc 6 1, 3) := by decide +kernel
theorem dX11_traces_125 : decode cX11_traces 125 = .ok (.goto (-76), 3) := by decide +kernel
theorem dX11_traces_128 : decode cX11_traces 128 = .ok (.iload_n 2, 1) := by decide +kernel
theorem dX11_traces_129 : decode cX11_traces 129 = .ok (.ifCond .ne 7, 3) := by decide +kernel
theorem dX11_traces_132 : decode cX11_traces 132 = .ok (.iload_n 3, 1) := by decide +kernel
theorem dX11_traces_133 : decode cX11_traces 133 = .ok (.goto 15, 3) := by decide +kernel
theorem dX11_traces_136 : decode cX11_traces 136 = .ok (.iload_n 2, 1) := by decide +kernel
theorem dX11_traces_137 : decode cX11_traces 137 = .ok (.iconst 1, 1) := by decide +kernel
theorem dX11_traces_138 : decode cX11_traces 138 = .ok (.if_icmp .ne 8, 3) := by decide +kernel
theorem dX11_traces_141 : decode cX11_traces 141 = .ok (.iload 4, 2) := by decide +kernel
theorem dX11_traces_143 : decode cX11_traces 143 = .ok (.goto 5, 3) := by decide +kernel
theorem dX11_traces_146 : decode cX11_traces 146 = .ok (.iload 5, 2) := by decide +kernel
theorem dX11_traces_148 : decode cX11_traces 148 = .ok (.ireturn, 1) := by decide +kernel
theorem dX11_replay_0 : decode cX11_replay 0 = .ok (.iconst 0, 1) := by decide +kernel
theorem dX11_replay_1 : decode cX11_replay 1 = .ok (.istore_n 1, 1) := by decide +kernel
theorem dX11_replay_2 : decode cX11_replay 2 = .ok (.iconst 0, 1) := by decide +kernel
theorem dX11_replay_3 : decode cX11_replay 3 = .ok (.istore_n 2, 1) := by decide +kernel
theorem dX11_replay_4 : decode cX11_replay 4 = .ok (.iload_n 2, 1) := by decide +kernel
theorem dX11_replay_5 : decode cX11_replay 5 = .ok (.bipush 12, 2) := by decide +kernel
theorem dX11_replay_7 : decode cX11_replay 7 = .ok (.if_icmp .ge 69, 3) := by decide +kernel
theorem dX11_replay_10 : decode cX11_replay 10 = .ok (.iconst 0, 1) := by decide +kernel
theorem dX11_replay_11 : decode cX11_replay 11 = .ok (.istore_n 3, 1) := by decide +kernel
theorem dX11_replay_12 : decode cX11_replay 12 = .ok (.iload_n 3, 1) := by decide +kernel
theorem dX11_replay_13 : decode cX11_replay 13 = .ok (.aload_n 0, 1) := by decide +kernel
theorem dX11_replay_14 : decode cX11_replay 14 = .ok (.iload_n 2, 1) := by decide +kernel
theorem dX11_replay_15 : decode cX11_replay 15 = .ok (.iconst 1, 1) := by decide +kernel
theorem dX11_replay_16 : decode cX11_replay 16 = .ok (.invokevirtual 53, 3) := by decide +kernel
theorem dX11_replay_19 : decode cX11_replay 19 = .ok (.if_icmp .ge 51, 3) := by decide +kernel
theorem dX11_replay_22 : decode cX11_replay 22 = .ok (.iload_n 1, 1) := by decide +kernel
theorem dX11_replay_23 : decode cX11_replay 23 = .ok (.aload_n 0, 1) := by decide +kernel
theorem dX11_replay_24 : decode cX11_replay 24 = .ok (.iload_n 2, 1) := by decide +kernel
theorem dX11_replay_25 : decode cX11_replay 25 = .ok (.iload_n 3, 1) := by decide +kernel
theorem dX11_replay_26 : decode cX11_replay 26 = .ok (.iconst 3, 1) := by decide +kernel
theorem dX11_replay_27 : decode cX11_replay 27 = .ok (.invokevirtual 77, 3) := by decide +kernel
theorem dX11_replay_30 : decode cX11_replay 30 = .ok (.aload_n 0, 1) := by decide +kernel
theorem dX11_replay_31 : decode cX11_replay 31 = .ok (.getfield 7, 3) := by decide +kernel
theorem dX11_replay_34 : decode cX11_replay 34 = .ok (.bipush 7, 2) := by decide +kernel
theorem dX11_replay_36 : decode cX11_replay 36 = .ok (.iaload, 1) := by decide +kernel
theorem dX11_replay_37 : decode cX11_replay 37 = .ok (.if_icmp .le 24, 3) := by decide +kernel
theorem dX11_replay_40 : decode cX11_replay 40 = .ok (.aload_n 0, 1) := by decide +kernel
theorem dX11_replay_41 : decode cX11_replay 41 = .ok (.iload_n 2, 1) := by decide +kernel
theorem dX11_replay_42 : decode cX11_replay 42 = .ok (.iload_n 3, 1) := by decide +kernel
theorem dX11_replay_43 : decode cX11_replay 43 = .ok (.iconst 3, 1) := by decide +kernel
theorem dX11_replay_44 : decode cX11_replay 44 = .ok (.invokevirtual 77, 3) := by decide +kernel
theorem dX11_replay_47 : decode cX11_replay 47 = .ok (.aload_n 0, 1) := by decide +kernel
theorem dX11_replay_48 : decode cX11_replay 48 = .ok (.getfield 7, 3) := by decide +kernel
theorem dX11_replay_51 : decode cX11_replay 51 = .ok (.bipush 6, 2) := by decide +kernel
theorem dX11_replay_53 : decode cX11_replay 53 = .ok (.iaload, 1) := by decide +kernel
theorem dX11_replay_54 : decode cX11_replay 54 = .ok (.if_icmp .gt 7, 3) := by decide +kernel
theorem dX11_replay_57 : decode cX11_replay 57 = .ok (.iconst 1, 1) := by decide +kernel
theorem dX11_replay_58 : decode cX11_replay 58 = .ok (.goto 4, 3) := by decide +kernel
theorem dX11_replay_61 : decode cX11_replay 61 = .ok (.iconst 0, 1) := by decide +kernel
theorem dX11_replay_62 : decode cX11_replay 62 = .ok (.iadd, 1) := by decide +kernel
theorem dX11_replay_63 : decode cX11_replay 63 = .ok (.istore_n 1, 1) := by decide +kernel
theorem dX11_replay_64 : decode cX11_replay 64 = .ok (.iinc 3 1, 3) := by decide +kernel
theorem dX11_replay_67 : decode cX11_replay 67 = .ok (.goto (-55), 3) := by decide +kernel
theorem dX11_replay_70 : decode cX11_replay 70 = .ok (.iinc 2 1, 3) := by decide +kernel
theorem dX11_replay_73 : decode cX11_replay 73 = .ok (.goto (-69), 3) := by decide +kernel
theorem dX11_replay_76 : decode cX11_replay 76 = .ok (.iload_n 1, 1) := by decide +kernel
theorem dX11_replay_77 : decode cX11_replay 77 = .ok (.ireturn, 1) := by decide +kernel
theorem dX11_log_0 : decode cX11_log 0 = .ok (.aload_n 0, 1) := by decide +kernel
theorem dX11_log_1 : decode cX11_log 1 = .ok (.iload_n 2, 1) := by decide +kernel
theorem dX11_log_2 : decode cX11_log 2 = .ok (.iconst 0, 1) := by decide +kernel
theorem dX11_log_3 : decode cX11_log 3 = .ok (.iconst 2, 1) := by decide +kernel
theorem dX11_log_4 : decode cX11_log 4 = .ok (.invokestatic 165, 3) := by decide +kernel
theorem dX11_log_7 : decode cX11_log 7 = .ok (.ifCond .eq 7, 3) := by decide +kernel
theorem dX11_log_10 : decode cX11_log 10 = .ok (.iconst 0, 1) := by decide +kernel
theorem dX11_log_11 : decode cX11_log 11 = .ok (.goto 4, 3) := by decide +kernel
theorem dX11_log_14 : decode cX11_log 14 = .ok (.iconst 1, 1) := by decide +kernel
theorem dX11_log_15 : decode cX11_log 15 = .ok (.putfield 43, 3) := by decide +kernel
theorem dX11_log_18 : decode cX11_log 18 = .ok (.aload_n 0, 1) := by decide +kernel
theorem dX11_log_19 : decode cX11_log 19 = .ok (.getfield 43, 3) := by decide +kernel
theorem dX11_log_22 : decode cX11_log 22 = .ok (.ifCond .le 5, 3) := by decide +kernel
theorem dX11_log_25 : decode cX11_log 25 = .ok (.iconst 0, 1) := by decide +kernel
theorem dX11_log_26 : decode cX11_log 26 = .ok (.ireturn, 1) := by decide +kernel
theorem dX11_log_27 : decode cX11_log 27 = .ok (.iload_n 1, 1) := by decide +kernel
theorem dX11_log_28 : decode cX11_log 28 = .ok (.iconst 0, 1) := by decide +kernel
theorem dX11_log_29 : decode cX11_log 29 = .ok (.aload_n 0, 1) := by decide +kernel
theorem dX11_log_30 : decode cX11_log 30 = .ok (.getfield 7, 3) := by decide +kernel
theorem dX11_log_33 : decode cX11_log 33 = .ok (.sipush 5406, 3) := by decide +kernel
theorem dX11_log_36 : decode cX11_log 36 = .ok (.iaload, 1) := by decide +kernel
theorem dX11_log_37 : decode cX11_log 37 = .ok (.iconst 1, 1) := by decide +kernel
theorem dX11_log_38 : decode cX11_log 38 = .ok (.isub, 1) := by decide +kernel
theorem dX11_log_39 : decode cX11_log 39 = .ok (.invokestatic 165, 3) := by decide +kernel
theorem dX11_log_42 : decode cX11_log 42 = .ok (.ifCond .eq 20, 3) := by decide +kernel
theorem dX11_log_45 : decode cX11_log 45 = .ok (.aload_n 0, 1) := by decide +kernel
theorem dX11_log_46 : decode cX11_log 46 = .ok (.getfield 7, 3) := by decide +kernel
theorem dX11_log_49 : decode cX11_log 49 = .ok (.sipush 5407, 3) := by decide +kernel
theorem dX11_log_52 : decode cX11_log 52 = .ok (.iconst 3, 1) := by decide +kernel
theorem dX11_log_53 : decode cX11_log 53 = .ok (.iload_n 1, 1) := by decide +kernel
theorem dX11_log_54 : decode cX11_log 54 = .ok (.imul, 1) := by decide +kernel
theorem dX11_log_55 : decode cX11_log 55 = .ok (.iadd, 1) := by decide +kernel
theorem dX11_log_56 : decode cX11_log 56 = .ok (.iload_n 2, 1) := by decide +kernel
theorem dX11_log_57 : decode cX11_log 57 = .ok (.iadd, 1) := by decide +kernel
theorem dX11_log_58 : decode cX11_log 58 = .ok (.iaload, 1) := by decide +kernel
theorem dX11_log_59 : decode cX11_log 59 = .ok (.goto 4, 3) := by decide +kernel
theorem dX11_log_62 : decode cX11_log 62 = .ok (.iconst (-1), 1) := by decide +kernel
theorem dX11_log_63 : decode cX11_log 63 = .ok (.ireturn, 1) := by decide +kernel
theorem dX11_image_0 : decode cX11_image 0 = .ok (.aload_n 0, 1) := by decide +kernel
theorem dX11_image_1 : decode cX11_image 1 = .ok (.iconst 0, 1) := by decide +kernel
theorem dX11_image_2 : decode cX11_image 2 = .ok (.putfield 43, 3) := by decide +kernel
theorem dX11_image_5 : decode cX11_image 5 = .ok (.iconst 0, 1) := by decide +kernel
theorem dX11_image_6 : decode cX11_image 6 = .ok (.istore_n 1, 1) := by decide +kernel
theorem dX11_image_7 : decode cX11_image 7 = .ok (.iload_n 1, 1) := by decide +kernel
theorem dX11_image_8 : decode cX11_image 8 = .ok (.sipush 5497, 3) := by decide +kernel
theorem dX11_image_11 : decode cX11_image 11 = .ok (.if_icmp .ge 21, 3) := by decide +kernel
theorem dX11_image_14 : decode cX11_image 14 = .ok (.aload_n 0, 1) := by decide +kernel
theorem dX11_image_15 : decode cX11_image 15 = .ok (.getfield 19, 3) := by decide +kernel
theorem dX11_image_18 : decode cX11_image 18 = .ok (.iload_n 1, 1) := by decide +kernel
theorem dX11_image_19 : decode cX11_image 19 = .ok (.aload_n 0, 1) := by decide +kernel
theorem dX11_image_20 : decode cX11_image 20 = .ok (.getfield 7, 3) := by decide +kernel
theorem dX11_image_23 : decode cX11_image 23 = .ok (.iload_n 1, 1) := by decide +kernel
theorem dX11_image_24 : decode cX11_image 24 = .ok (.iaload, 1) := by decide +kernel
theorem dX11_image_25 : decode cX11_image 25 = .ok (.iastore, 1) := by decide +kernel
theorem dX11_image_26 : decode cX11_image 26 = .ok (.iinc 1 1, 3) := by decide +kernel
theorem dX11_image_29 : decode cX11_image 29 = .ok (.goto (-22), 3) := by decide +kernel
theorem dX11_image_32 : decode cX11_image 32 = .ok (.aload_n 0, 1) := by decide +kernel
theorem dX11_image_33 : decode cX11_image 33 = .ok (.iconst 1, 1) := by decide +kernel
theorem dX11_image_34 : decode cX11_image 34 = .ok (.putfield 327, 3) := by decide +kernel
theorem dX11_image_37 : decode cX11_image 37 = .ok (.return_, 1) := by decide +kernel
theorem dX11_back_0 : decode cX11_back 0 = .ok (.aload_n 0, 1) := by decide +kernel
theorem dX11_back_1 : decode cX11_back 1 = .ok (.iconst 0, 1) := by decide +kernel
theorem dX11_back_2 : decode cX11_back 2 = .ok (.putfield 43, 3) := by decide +kernel
theorem dX11_back_5 : decode cX11_back 5 = .ok (.aload_n 0, 1) := by decide +kernel
theorem dX11_back_6 : decode cX11_back 6 = .ok (.getfield 327, 3) := by decide +kernel
theorem dX11_back_9 : decode cX11_back 9 = .ok (.ifCond .ne 5, 3) := by decide +kernel
theorem dX11_back_12 : decode cX11_back 12 = .ok (.iconst 0, 1) := by decide +kernel
theorem dX11_back_13 : decode cX11_back 13 = .ok (.ireturn, 1) := by decide +kernel
theorem dX11_back_14 : decode cX11_back 14 = .ok (.iconst 0, 1) := by decide +kernel
theorem dX11_back_15 : decode cX11_back 15 = .ok (.istore_n 1, 1) := by decide +kernel
theorem dX11_back_16 : decode cX11_back 16 = .ok (.iload_n 1, 1) := by decide +kernel
theorem dX11_back_17 : decode cX11_back 17 = .ok (.sipush 5497, 3) := by decide +kernel
theorem dX11_back_20 : decode cX11_back 20 = .ok (.if_icmp .ge 21, 3) := by decide +kernel
theorem dX11_back_23 : decode cX11_back 23 = .ok (.aload_n 0, 1) := by decide +kernel
theorem dX11_back_24 : decode cX11_back 24 = .ok (.getfield 7, 3) := by decide +kernel
theorem dX11_back_27 : decode cX11_back 27 = .ok (.iload_n 1, 1) := by decide +kernel
theorem dX11_back_28 : decode cX11_back 28 = .ok (.aload_n 0, 1) := by decide +kernel
theorem dX11_back_29 : decode cX11_back 29 = .ok (.getfield 19, 3) := by decide +kernel
theorem dX11_back_32 : decode cX11_back 32 = .ok (.iload_n 1, 1) := by decide +kernel
theorem dX11_back_33 : decode cX11_back 33 = .ok (.iaload, 1) := by decide +kernel
theorem dX11_back_34 : decode cX11_back 34 = .ok (.iastore, 1) := by decide +kernel
theorem dX11_back_35 : decode cX11_back 35 = .ok (.iinc 1 1, 3) := by decide +kernel
theorem dX11_back_38 : decode cX11_back 38 = .ok (.goto (-22), 3) := by decide +kernel
theorem dX11_back_41 : decode cX11_back 41 = .ok (.aload_n 0, 1) := by decide +kernel
theorem dX11_back_42 : decode cX11_back 42 = .ok (.iconst 0, 1) := by decide +kernel
theorem dX11_back_43 : decode cX11_back 43 = .ok (.putfield 149, 3) := by decide +kernel
theorem dX11_back_46 : decode cX11_back 46 = .ok (.iconst 1, 1) := by decide +kernel
theorem dX11_back_47 : decode cX11_back 47 = .ok (.ireturn, 1) := by decide +kernel
theorem dX11_liveInAll_0 : decode cX11_liveInAll 0 = .ok (.iconst 0, 1) := by decide +kernel
theorem dX11_liveInAll_1 : decode cX11_liveInAll 1 = .ok (.istore_n 2, 1) := by decide +kernel
theorem dX11_liveInAll_2 : decode cX11_liveInAll 2 = .ok (.iconst 0, 1) := by decide +kernel
theorem dX11_liveInAll_3 : decode cX11_liveInAll 3 = .ok (.istore_n 3, 1) := by decide +kernel
theorem dX11_liveInAll_4 : decode cX11_liveInAll 4 = .ok (.iload_n 3, 1) := by decide +kernel
theorem dX11_liveInAll_5 : decode cX11_liveInAll 5 = .ok (.bipush 12, 2) := by decide +kernel
theorem dX11_liveInAll_7 : decode cX11_liveInAll 7 = .ok (.if_icmp .ge 18, 3) := by decide +kernel
theorem dX11_liveInAll_10 : decode cX11_liveInAll 10 = .ok (.iload_n 2, 1) := by decide +kernel
theorem dX11_liveInAll_11 : decode cX11_liveInAll 11 = .ok (.aload_n 0, 1) := by decide +kernel
theorem dX11_liveInAll_12 : decode cX11_liveInAll 12 = .ok (.iload_n 3, 1) := by decide +kernel
theorem dX11_liveInAll_13 : decode cX11_liveInAll 13 = .ok (.iload_n 1, 1) := by decide +kernel
theorem dX11_liveInAll_14 : decode cX11_liveInAll 14 = .ok (.invokevirtual 130, 3) := by decide +kernel
theorem dX11_liveInAll_17 : decode cX11_liveInAll 17 = .ok (.iadd, 1) := by decide +kernel
theorem dX11_liveInAll_18 : decode cX11_liveInAll 18 = .ok (.istore_n 2, 1) := by decide +kernel
theorem dX11_liveInAll_19 : decode cX11_liveInAll 19 = .ok (.iinc 3 1, 3) := by decide +kernel
theorem dX11_liveInAll_22 : decode cX11_liveInAll 22 = .ok (.goto (-18), 3) := by decide +kernel
theorem dX11_liveInAll_25 : decode cX11_liveInAll 25 = .ok (.iload_n 2, 1) := by decide +kernel
theorem dX11_liveInAll_26 : decode cX11_liveInAll 26 = .ok (.ireturn, 1) := by decide +kernel
theorem dX11_doomed_0 : decode cX11_doomed 0 = .ok (.aload_n 0, 1) := by decide +kernel
theorem dX11_doomed_1 : decode cX11_doomed 1 = .ok (.invokevirtual 281, 3) := by decide +kernel
theorem dX11_doomed_4 : decode cX11_doomed 4 = .ok (.iconst 0, 1) := by decide +kernel
theorem dX11_doomed_5 : decode cX11_doomed 5 = .ok (.istore_n 1, 1) := by decide +kernel
theorem dX11_doomed_6 : decode cX11_doomed 6 = .ok (.iconst 0, 1) := by decide +kernel
theorem dX11_doomed_7 : decode cX11_doomed 7 = .ok (.istore_n 2, 1) := by decide +kernel
theorem dX11_doomed_8 : decode cX11_doomed 8 = .ok (.iload_n 2, 1) := by decide +kernel
theorem dX11_doomed_9 : decode cX11_doomed 9 = .ok (.bipush 64, 2) := by decide +kernel
theorem dX11_doomed_11 : decode cX11_doomed 11 = .ok (.if_icmp .ge 45, 3) := by decide +kernel
theorem dX11_doomed_14 : decode cX11_doomed 14 = .ok (.iload_n 1, 1) := by decide +kernel
theorem dX11_doomed_15 : decode cX11_doomed 15 = .ok (.aload_n 0, 1) := by decide +kernel
theorem dX11_doomed_16 : decode cX11_doomed 16 = .ok (.getfield 33, 3) := by decide +kernel
theorem dX11_doomed_19 : decode cX11_doomed 19 = .ok (.iload_n 2, 1) := by decide +kernel
theorem dX11_doomed_20 : decode cX11_doomed 20 = .ok (.iaload, 1) := by decide +kernel
theorem dX11_doomed_21 : decode cX11_doomed 21 = .ok (.aload_n 0, 1) := by decide +kernel
theorem dX11_doomed_22 : decode cX11_doomed 22 = .ok (.iload_n 2, 1) := by decide +kernel
theorem dX11_doomed_23 : decode cX11_doomed 23 = .ok (.invokevirtual 266, 3) := by decide +kernel
theorem dX11_doomed_26 : decode cX11_doomed 26 = .ok (.if_icmp .ne 17, 3) := by decide +kernel
theorem dX11_doomed_29 : decode cX11_doomed 29 = .ok (.aload_n 0, 1) := by decide +kernel
theorem dX11_doomed_30 : decode cX11_doomed 30 = .ok (.getfield 36, 3) := by decide +kernel
theorem dX11_doomed_33 : decode cX11_doomed 33 = .ok (.iload_n 2, 1) := by decide +kernel
theorem dX11_doomed_34 : decode cX11_doomed 34 = .ok (.iaload, 1) := by decide +kernel
theorem dX11_doomed_35 : decode cX11_doomed 35 = .ok (.aload_n 0, 1) := by decide +kernel
theorem dX11_doomed_36 : decode cX11_doomed 36 = .ok (.iload_n 2, 1) := by decide +kernel
theorem dX11_doomed_37 : decode cX11_doomed 37 = .ok (.invokevirtual 269, 3) := by decide +kernel
theorem dX11_doomed_40 : decode cX11_doomed 40 = .ok (.if_icmp .eq 7, 3) := by decide +kernel
theorem dX11_doomed_43 : decode cX11_doomed 43 = .ok (.iconst 1, 1) := by decide +kernel
theorem dX11_doomed_44 : decode cX11_doomed 44 = .ok (.goto 4, 3) := by decide +kernel
theorem dX11_doomed_47 : decode cX11_doomed 47 = .ok (.iconst 0, 1) := by decide +kernel
theorem dX11_doomed_48 : decode cX11_doomed 48 = .ok (.iadd, 1) := by decide +kernel
theorem dX11_doomed_49 : decode cX11_doomed 49 = .ok (.istore_n 1, 1) := by decide +kernel
theorem dX11_doomed_50 : decode cX11_doomed 50 = .ok (.iinc 2 1, 3) := by decide +kernel
theorem dX11_doomed_53 : decode cX11_doomed 53 = .ok (.goto (-45), 3) := by decide +kernel
theorem dX11_doomed_56 : decode cX11_doomed 56 = .ok (.iload_n 1, 1) := by decide +kernel
theorem dX11_doomed_57 : decode cX11_doomed 57 = .ok (.ireturn, 1) := by decide +kernel
theorem dX11_heaviest_0 : decode cX11_heaviest 0 = .ok (.iconst (-1), 1) := by decide +kernel
theorem dX11_heaviest_1 : decode cX11_heaviest 1 = .ok (.istore_n 1, 1) := by decide +kernel
theorem dX11_heaviest_2 : decode cX11_heaviest 2 = .ok (.iconst 0, 1) := by decide +kernel
theorem dX11_heaviest_3 : decode cX11_heaviest 3 = .ok (.istore_n 2, 1) := by decide +kernel
theorem dX11_heaviest_4 : decode cX11_heaviest 4 = .ok (.iload_n 2, 1) := by decide +kernel
theorem dX11_heaviest_5 : decode cX11_heaviest 5 = .ok (.bipush 64, 2) := by decide +kernel
theorem dX11_heaviest_7 : decode cX11_heaviest 7 = .ok (.if_icmp .ge 37, 3) := by decide +kernel
theorem dX11_heaviest_10 : decode cX11_heaviest 10 = .ok (.aload_n 0, 1) := by decide +kernel
theorem dX11_heaviest_11 : decode cX11_heaviest 11 = .ok (.iload_n 2, 1) := by decide +kernel
theorem dX11_heaviest_12 : decode cX11_heaviest 12 = .ok (.invokevirtual 81, 3) := by decide +kernel
theorem dX11_heaviest_15 : decode cX11_heaviest 15 = .ok (.ifCond .eq 23, 3) := by decide +kernel
theorem dX11_heaviest_18 : decode cX11_heaviest 18 = .ok (.iload_n 1, 1) := by decide +kernel
theorem dX11_heaviest_19 : decode cX11_heaviest 19 = .ok (.iconst (-1), 1) := by decide +kernel
theorem dX11_heaviest_20 : decode cX11_heaviest 20 = .ok (.if_icmp .eq 16, 3) := by decide +kernel
theorem dX11_heaviest_23 : decode cX11_heaviest 23 = .ok (.aload_n 0, 1) := by decide +kernel
theorem dX11_heaviest_24 : decode cX11_heaviest 24 = .ok (.iload_n 2, 1) := by decide +kernel
theorem dX11_heaviest_25 : decode cX11_heaviest 25 = .ok (.invokevirtual 266, 3) := by decide +kernel
theorem dX11_heaviest_28 : decode cX11_heaviest 28 = .ok (.aload_n 0, 1) := by decide +kernel
theorem dX11_heaviest_29 : decode cX11_heaviest 29 = .ok (.iload_n 1, 1) := by decide +kernel
theorem dX11_heaviest_30 : decode cX11_heaviest 30 = .ok (.invokevirtual 266, 3) := by decide +kernel
theorem dX11_heaviest_33 : decode cX11_heaviest 33 = .ok (.if_icmp .le 5, 3) := by decide +kernel
theorem dX11_heaviest_36 : decode cX11_heaviest 36 = .ok (.iload_n 2, 1) := by decide +kernel
theorem dX11_heaviest_37 : decode cX11_heaviest 37 = .ok (.istore_n 1, 1) := by decide +kernel
theorem dX11_heaviest_38 : decode cX11_heaviest 38 = .ok (.iinc 2 1, 3) := by decide +kernel
theorem dX11_heaviest_41 : decode cX11_heaviest 41 = .ok (.goto (-37), 3) := by decide +kernel
theorem dX11_heaviest_44 : decode cX11_heaviest 44 = .ok (.iload_n 1, 1) := by decide +kernel
theorem dX11_heaviest_45 : decode cX11_heaviest 45 = .ok (.ireturn, 1) := by decide +kernel
theorem dX11_count_0 : decode cX11_count 0 = .ok (.aload_n 0, 1) := by decide +kernel
theorem dX11_count_1 : decode cX11_count 1 = .ok (.iconst 0, 1) := by decide +kernel
theorem dX11_count_2 : decode cX11_count 2 = .ok (.putfield 43, 3) := by decide +kernel
theorem dX11_count_5 : decode cX11_count 5 = .ok (.iload_n 1, 1) := by decide +kernel
theorem dX11_count_6 : decode cX11_count 6 = .ok (.tableswitch 337 0 27 #[126, 133, 140, 147, 154, 161, 167, 174, 181, 189, 197, 202, 207, 213, 219, 227, 232, 240, 248, 256, 264, 298, 303, 308, 313, 318, 323, 332], 126) := by decide +kernel
theorem dX11_count_132 : decode cX11_count 132 = .ok (.aload_n 0, 1) := by decide +kernel
theorem dX11_count_133 : decode cX11_count 133 = .ok (.getfield 7, 3) := by decide +kernel
theorem dX11_count_136 : decode cX11_count 136 = .ok (.iconst 0, 1) := by decide +kernel
theorem dX11_count_137 : decode cX11_count 137 = .ok (.iaload, 1) := by decide +kernel
theorem dX11_count_138 : decode cX11_count 138 = .ok (.ireturn, 1) := by decide +kernel
theorem dX11_count_139 : decode cX11_count 139 = .ok (.aload_n 0, 1) := by decide +kernel
theorem dX11_count_140 : decode cX11_count 140 = .ok (.getfield 7, 3) := by decide +kernel
theorem dX11_count_143 : decode cX11_count 143 = .ok (.iconst 1, 1) := by decide +kernel
theorem dX11_count_144 : decode cX11_count 144 = .ok (.iaload, 1) := by decide +kernel
theorem dX11_count_145 : decode cX11_count 145 = .ok (.ireturn, 1) := by decide +kernel
theorem dX11_count_146 : decode cX11_count 146 = .ok (.aload_n 0, 1) := by decide +kernel
theorem dX11_count_147 : decode cX11_count 147 = .ok (.getfield 7, 3) := by decide +kernel
theorem dX11_count_150 : decode cX11_count 150 = .ok (.iconst 2, 1) := by decide +kernel
theorem dX11_count_151 : decode cX11_count 151 = .ok (.iaload, 1) := by decide +kernel
theorem dX11_count_152 : decode cX11_count 152 = .ok (.ireturn, 1) := by decide +kernel
theorem dX11_count_153 : decode cX11_count 153 = .ok (.aload_n 0, 1) := by decide +kernel
theorem dX11_count_154 : decode cX11_count 154 = .ok (.getfield 7, 3) := by decide +kernel
theorem dX11_count_157 : decode cX11_count 157 = .ok (.iconst 3, 1) := by decide +kernel
theorem dX11_count_158 : decode cX11_count 158 = .ok (.iaload, 1) := by decide +kernel
theorem dX11_count_159 : decode cX11_count 159 = .ok (.ireturn, 1) := by decide +kernel
theorem dX11_count_160 : decode cX11_count 160 = .ok (.aload_n 0, 1) := by decide +kernel
theorem dX11_count_161 : decode cX11_count 161 = .ok (.getfield 7, 3) := by decide +kernel
theorem dX11_count_164 : decode cX11_count 164 = .ok (.iconst 4, 1) := by decide +kernel
theorem dX11_count_165 : decode cX11_count 165 = .ok (.iaload, 1) := by decide +kernel
theorem dX11_count_166 : decode cX11_count 166 = .ok (.ireturn, 1) := by decide +kernel
theorem dX11_count_167 : decode cX11_count 167 = .ok (.aload_n 0, 1) := by decide +kernel
theorem dX11_count_168 : decode cX11_count 168 = .ok (.iconst 0, 1) := by decide +kernel
theorem dX11_count_169 : decode cX11_count 169 = .ok (.invokevirtual 108, 3) := by decide +kernel
theorem dX11_count_172 : decode cX11_count 172 = .ok (.ireturn, 1) := by decide +kernel
theorem dX11_count_173 : decode cX11_count 173 = .ok (.aload_n 0, 1) := by decide +kernel
theorem dX11_count_174 : decode cX11_count 174 = .ok (.bipush 64, 2) := by decide +kernel
theorem dX11_count_176 : decode cX11_count 176 = .ok (.invokevirtual 287, 3) := by decide +kernel
