theorem d_RDR_init_33 : decode b_RDR_init 33 = .ok (.putfield 29, 3) := by decide +kernel
theorem d_RDR_init_36 : decode b_RDR_init 36 = .ok (.aload_n 0, 1) := by decide +kernel
theorem d_RDR_init_37 : decode b_RDR_init 37 = .ok (.iconst 0, 1) := by decide +kernel
theorem d_RDR_init_38 : decode b_RDR_init 38 = .ok (.putfield 32, 3) := by decide +kernel
theorem d_RDR_init_41 : decode b_RDR_init 41 = .ok (.aload_n 0, 1) := by decide +kernel
theorem d_RDR_init_42 : decode b_RDR_init 42 = .ok (.aload_n 1, 1) := by decide +kernel
theorem d_RDR_init_43 : decode b_RDR_init 43 = .ok (.putfield 36, 3) := by decide +kernel
theorem d_RDR_init_46 : decode b_RDR_init 46 = .ok (.aload_n 0, 1) := by decide +kernel
theorem d_RDR_init_47 : decode b_RDR_init 47 = .ok (.aload_n 2, 1) := by decide +kernel
theorem d_RDR_init_48 : decode b_RDR_init 48 = .ok (.putfield 40, 3) := by decide +kernel
theorem d_RDR_init_51 : decode b_RDR_init 51 = .ok (.aload_n 0, 1) := by decide +kernel
theorem d_RDR_init_52 : decode b_RDR_init 52 = .ok (.aload_n 3, 1) := by decide +kernel
theorem d_RDR_init_53 : decode b_RDR_init 53 = .ok (.putfield 44, 3) := by decide +kernel
theorem d_RDR_init_56 : decode b_RDR_init 56 = .ok (.aload_n 0, 1) := by decide +kernel
theorem d_RDR_init_57 : decode b_RDR_init 57 = .ok (.aload 4, 2) := by decide +kernel
theorem d_RDR_init_59 : decode b_RDR_init 59 = .ok (.putfield 48, 3) := by decide +kernel
theorem d_RDR_init_62 : decode b_RDR_init 62 = .ok (.aload_n 0, 1) := by decide +kernel
theorem d_RDR_init_63 : decode b_RDR_init 63 = .ok (.new 52, 3) := by decide +kernel
theorem d_RDR_init_66 : decode b_RDR_init 66 = .ok (.dup, 1) := by decide +kernel
theorem d_RDR_init_67 : decode b_RDR_init 67 = .ok (.aload_n 1, 1) := by decide +kernel
theorem d_RDR_init_68 : decode b_RDR_init 68 = .ok (.invokespecial 54, 3) := by decide +kernel
theorem d_RDR_init_71 : decode b_RDR_init 71 = .ok (.putfield 57, 3) := by decide +kernel
theorem d_RDR_init_74 : decode b_RDR_init 74 = .ok (.aload_n 0, 1) := by decide +kernel
theorem d_RDR_init_75 : decode b_RDR_init 75 = .ok (.new 61, 3) := by decide +kernel
theorem d_RDR_init_78 : decode b_RDR_init 78 = .ok (.dup, 1) := by decide +kernel
theorem d_RDR_init_79 : decode b_RDR_init 79 = .ok (.aload_n 1, 1) := by decide +kernel
theorem d_RDR_init_80 : decode b_RDR_init 80 = .ok (.aload_n 2, 1) := by decide +kernel
theorem d_RDR_init_81 : decode b_RDR_init 81 = .ok (.aload_n 0, 1) := by decide +kernel
theorem d_RDR_init_82 : decode b_RDR_init 82 = .ok (.getfield 57, 3) := by decide +kernel
theorem d_RDR_init_85 : decode b_RDR_init 85 = .ok (.aload_n 0, 1) := by decide +kernel
theorem d_RDR_init_86 : decode b_RDR_init 86 = .ok (.getfield 21, 3) := by decide +kernel
theorem d_RDR_init_89 : decode b_RDR_init 89 = .ok (.invokespecial 63, 3) := by decide +kernel
theorem d_RDR_init_92 : decode b_RDR_init 92 = .ok (.putfield 66, 3) := by decide +kernel
theorem d_RDR_init_95 : decode b_RDR_init 95 = .ok (.aload_n 0, 1) := by decide +kernel
theorem d_RDR_init_96 : decode b_RDR_init 96 = .ok (.new 70, 3) := by decide +kernel
theorem d_RDR_init_99 : decode b_RDR_init 99 = .ok (.dup, 1) := by decide +kernel
theorem d_RDR_init_100 : decode b_RDR_init 100 = .ok (.aload_n 1, 1) := by decide +kernel
theorem d_RDR_init_101 : decode b_RDR_init 101 = .ok (.invokespecial 72, 3) := by decide +kernel
theorem d_RDR_init_104 : decode b_RDR_init 104 = .ok (.putfield 73, 3) := by decide +kernel
theorem d_RDR_init_107 : decode b_RDR_init 107 = .ok (.aload_n 0, 1) := by decide +kernel
theorem d_RDR_init_108 : decode b_RDR_init 108 = .ok (.new 77, 3) := by decide +kernel
theorem d_RDR_init_111 : decode b_RDR_init 111 = .ok (.dup, 1) := by decide +kernel
theorem d_RDR_init_112 : decode b_RDR_init 112 = .ok (.aload_n 1, 1) := by decide +kernel
theorem d_RDR_init_113 : decode b_RDR_init 113 = .ok (.invokespecial 79, 3) := by decide +kernel
theorem d_RDR_init_116 : decode b_RDR_init 116 = .ok (.putfield 80, 3) := by decide +kernel
theorem d_RDR_init_119 : decode b_RDR_init 119 = .ok (.return_, 1) := by decide +kernel
theorem d_PN_init_0 : decode b_PN_init 0 = .ok (.aload_n 0, 1) := by decide +kernel
theorem d_PN_init_1 : decode b_PN_init 1 = .ok (.invokespecial 1, 3) := by decide +kernel
theorem d_PN_init_4 : decode b_PN_init 4 = .ok (.aload_n 0, 1) := by decide +kernel
theorem d_PN_init_5 : decode b_PN_init 5 = .ok (.new 7, 3) := by decide +kernel
theorem d_PN_init_8 : decode b_PN_init 8 = .ok (.dup, 1) := by decide +kernel
theorem d_PN_init_9 : decode b_PN_init 9 = .ok (.invokespecial 9, 3) := by decide +kernel
theorem d_PN_init_12 : decode b_PN_init 12 = .ok (.putfield 10, 3) := by decide +kernel
theorem d_PN_init_15 : decode b_PN_init 15 = .ok (.aload_n 0, 1) := by decide +kernel
theorem d_PN_init_16 : decode b_PN_init 16 = .ok (.new 16, 3) := by decide +kernel
theorem d_PN_init_19 : decode b_PN_init 19 = .ok (.dup, 1) := by decide +kernel
theorem d_PN_init_20 : decode b_PN_init 20 = .ok (.invokespecial 18, 3) := by decide +kernel
theorem d_PN_init_23 : decode b_PN_init 23 = .ok (.putfield 19, 3) := by decide +kernel
theorem d_PN_init_26 : decode b_PN_init 26 = .ok (.aload_n 0, 1) := by decide +kernel
theorem d_PN_init_27 : decode b_PN_init 27 = .ok (.new 23, 3) := by decide +kernel
theorem d_PN_init_30 : decode b_PN_init 30 = .ok (.dup, 1) := by decide +kernel
theorem d_PN_init_31 : decode b_PN_init 31 = .ok (.invokespecial 25, 3) := by decide +kernel
theorem d_PN_init_34 : decode b_PN_init 34 = .ok (.putfield 26, 3) := by decide +kernel
theorem d_PN_init_37 : decode b_PN_init 37 = .ok (.aload_n 0, 1) := by decide +kernel
theorem d_PN_init_38 : decode b_PN_init 38 = .ok (.new 30, 3) := by decide +kernel
theorem d_PN_init_41 : decode b_PN_init 41 = .ok (.dup, 1) := by decide +kernel
theorem d_PN_init_42 : decode b_PN_init 42 = .ok (.invokespecial 32, 3) := by decide +kernel
theorem d_PN_init_45 : decode b_PN_init 45 = .ok (.putfield 33, 3) := by decide +kernel
theorem d_PN_init_48 : decode b_PN_init 48 = .ok (.aload_n 0, 1) := by decide +kernel
theorem d_PN_init_49 : decode b_PN_init 49 = .ok (.new 37, 3) := by decide +kernel
theorem d_PN_init_52 : decode b_PN_init 52 = .ok (.dup, 1) := by decide +kernel
theorem d_PN_init_53 : decode b_PN_init 53 = .ok (.aload_n 0, 1) := by decide +kernel
theorem d_PN_init_54 : decode b_PN_init 54 = .ok (.getfield 10, 3) := by decide +kernel
theorem d_PN_init_57 : decode b_PN_init 57 = .ok (.aload_n 0, 1) := by decide +kernel
theorem d_PN_init_58 : decode b_PN_init 58 = .ok (.getfield 19, 3) := by decide +kernel
theorem d_PN_init_61 : decode b_PN_init 61 = .ok (.aload_n 0, 1) := by decide +kernel
theorem d_PN_init_62 : decode b_PN_init 62 = .ok (.getfield 26, 3) := by decide +kernel
theorem d_PN_init_65 : decode b_PN_init 65 = .ok (.aload_n 0, 1) := by decide +kernel
theorem d_PN_init_66 : decode b_PN_init 66 = .ok (.getfield 33, 3) := by decide +kernel
theorem d_PN_init_69 : decode b_PN_init 69 = .ok (.invokespecial 39, 3) := by decide +kernel
theorem d_PN_init_72 : decode b_PN_init 72 = .ok (.putfield 42, 3) := by decide +kernel
theorem d_PN_init_75 : decode b_PN_init 75 = .ok (.return_, 1) := by decide +kernel
theorem d_MOD_init_0 : decode b_MOD_init 0 = .ok (.aload_n 0, 1) := by decide +kernel
theorem d_MOD_init_1 : decode b_MOD_init 1 = .ok (.invokespecial 1, 3) := by decide +kernel
theorem d_MOD_init_4 : decode b_MOD_init 4 = .ok (.aload_n 0, 1) := by decide +kernel
theorem d_MOD_init_5 : decode b_MOD_init 5 = .ok (.sipush 400, 3) := by decide +kernel
theorem d_MOD_init_8 : decode b_MOD_init 8 = .ok (.newarray .int, 2) := by decide +kernel
theorem d_MOD_init_10 : decode b_MOD_init 10 = .ok (.putfield 7, 3) := by decide +kernel
theorem d_MOD_init_13 : decode b_MOD_init 13 = .ok (.aload_n 0, 1) := by decide +kernel
theorem d_MOD_init_14 : decode b_MOD_init 14 = .ok (.sipush 400, 3) := by decide +kernel
theorem d_MOD_init_17 : decode b_MOD_init 17 = .ok (.newarray .int, 2) := by decide +kernel
theorem d_MOD_init_19 : decode b_MOD_init 19 = .ok (.putfield 13, 3) := by decide +kernel
theorem d_MOD_init_22 : decode b_MOD_init 22 = .ok (.aload_n 0, 1) := by decide +kernel
theorem d_MOD_init_23 : decode b_MOD_init 23 = .ok (.iconst (-1), 1) := by decide +kernel
theorem d_MOD_init_24 : decode b_MOD_init 24 = .ok (.putfield 16, 3) := by decide +kernel
theorem d_MOD_init_27 : decode b_MOD_init 27 = .ok (.aload_n 0, 1) := by decide +kernel
theorem d_MOD_init_28 : decode b_MOD_init 28 = .ok (.sipush 1000, 3) := by decide +kernel
theorem d_MOD_init_31 : decode b_MOD_init 31 = .ok (.newarray .int, 2) := by decide +kernel
theorem d_MOD_init_33 : decode b_MOD_init 33 = .ok (.putfield 20, 3) := by decide +kernel
theorem d_MOD_init_36 : decode b_MOD_init 36 = .ok (.aload_n 0, 1) := by decide +kernel
theorem d_MOD_init_37 : decode b_MOD_init 37 = .ok (.sipush 1000, 3) := by decide +kernel
theorem d_MOD_init_40 : decode b_MOD_init 40 = .ok (.newarray .int, 2) := by decide +kernel
theorem d_MOD_init_42 : decode b_MOD_init 42 = .ok (.putfield 23, 3) := by decide +kernel
theorem d_MOD_init_45 : decode b_MOD_init 45 = .ok (.aload_n 0, 1) := by decide +kernel
theorem d_MOD_init_46 : decode b_MOD_init 46 = .ok (.sipush 1000, 3) := by decide +kernel
theorem d_MOD_init_49 : decode b_MOD_init 49 = .ok (.newarray .int, 2) := by decide +kernel
theorem d_MOD_init_51 : decode b_MOD_init 51 = .ok (.putfield 26, 3) := by decide +kernel
theorem d_MOD_init_54 : decode b_MOD_init 54 = .ok (.aload_n 0, 1) := by decide +kernel
theorem d_MOD_init_55 : decode b_MOD_init 55 = .ok (.sipush 1000, 3) := by decide +kernel
theorem d_MOD_init_58 : decode b_MOD_init 58 = .ok (.newarray .int, 2) := by decide +kernel
theorem d_MOD_init_60 : decode b_MOD_init 60 = .ok (.putfield 29, 3) := by decide +kernel
theorem d_MOD_init_63 : decode b_MOD_init 63 = .ok (.aload_n 0, 1) := by decide +kernel
theorem d_MOD_init_64 : decode b_MOD_init 64 = .ok (.sipush 1000, 3) := by decide +kernel
theorem d_MOD_init_67 : decode b_MOD_init 67 = .ok (.newarray .int, 2) := by decide +kernel
theorem d_MOD_init_69 : decode b_MOD_init 69 = .ok (.putfield 32, 3) := by decide +kernel
theorem d_MOD_init_72 : decode b_MOD_init 72 = .ok (.aload_n 0, 1) := by decide +kernel
theorem d_MOD_init_73 : decode b_MOD_init 73 = .ok (.sipush 1000, 3) := by decide +kernel
theorem d_MOD_init_76 : decode b_MOD_init 76 = .ok (.newarray .int, 2) := by decide +kernel
theorem d_MOD_init_78 : decode b_MOD_init 78 = .ok (.putfield 35, 3) := by decide +kernel
theorem d_MOD_init_81 : decode b_MOD_init 81 = .ok (.aload_n 0, 1) := by decide +kernel
theorem d_MOD_init_82 : decode b_MOD_init 82 = .ok (.sipush 1000, 3) := by decide +kernel
theorem d_MOD_init_85 : decode b_MOD_init 85 = .ok (.newarray .int, 2) := by decide +kernel
theorem d_MOD_init_87 : decode b_MOD_init 87 = .ok (.putfield 38, 3) := by decide +kernel
theorem d_MOD_init_90 : decode b_MOD_init 90 = .ok (.aload_n 0, 1) := by decide +kernel
theorem d_MOD_init_91 : decode b_MOD_init 91 = .ok (.sipush 1000, 3) := by decide +kernel
theorem d_MOD_init_94 : decode b_MOD_init 94 = .ok (.newarray .int, 2) := by decide +kernel
theorem d_MOD_init_96 : decode b_MOD_init 96 = .ok (.putfield 41, 3) := by decide +kernel
theorem d_MOD_init_99 : decode b_MOD_init 99 = .ok (.aload_n 0, 1) := by decide +kernel
theorem d_MOD_init_100 : decode b_MOD_init 100 = .ok (.sipush 6000, 3) := by decide +kernel
theorem d_MOD_init_103 : decode b_MOD_init 103 = .ok (.newarray .int, 2) := by decide +kernel
theorem d_MOD_init_105 : decode b_MOD_init 105 = .ok (.putfield 44, 3) := by decide +kernel
theorem d_MOD_init_108 : decode b_MOD_init 108 = .ok (.aload_n 0, 1) := by decide +kernel
theorem d_MOD_init_109 : decode b_MOD_init 109 = .ok (.sipush 6000, 3) := by decide +kernel
theorem d_MOD_init_112 : decode b_MOD_init 112 = .ok (.newarray .int, 2) := by decide +kernel
theorem d_MOD_init_114 : decode b_MOD_init 114 = .ok (.putfield 47, 3) := by decide +kernel
theorem d_MOD_init_117 : decode b_MOD_init 117 = .ok (.aload_n 0, 1) := by decide +kernel
theorem d_MOD_init_118 : decode b_MOD_init 118 = .ok (.sipush 132, 3) := by decide +kernel
theorem d_MOD_init_121 : decode b_MOD_init 121 = .ok (.newarray .int, 2) := by decide +kernel
theorem d_MOD_init_123 : decode b_MOD_init 123 = .ok (.putfield 50, 3) := by decide +kernel
theorem d_MOD_init_126 : decode b_MOD_init 126 = .ok (.aload_n 0, 1) := by decide +kernel
theorem d_MOD_init_127 : decode b_MOD_init 127 = .ok (.bipush 11, 2) := by decide +kernel
theorem d_MOD_init_129 : decode b_MOD_init 129 = .ok (.newarray .int, 2) := by decide +kernel
theorem d_MOD_init_131 : decode b_MOD_init 131 = .ok (.putfield 53, 3) := by decide +kernel
theorem d_MOD_init_134 : decode b_MOD_init 134 = .ok (.aload_n 0, 1) := by decide +kernel
theorem d_MOD_init_135 : decode b_MOD_init 135 = .ok (.bipush 32, 2) := by decide +kernel
theorem d_MOD_init_137 : decode b_MOD_init 137 = .ok (.newarray .int, 2) := by decide +kernel
theorem d_MOD_init_139 : decode b_MOD_init 139 = .ok (.putfield 56, 3) := by decide +kernel
theorem d_MOD_init_142 : decode b_MOD_init 142 = .ok (.aload_n 0, 1) := by decide +kernel
theorem d_MOD_init_143 : decode b_MOD_init 143 = .ok (.bipush 32, 2) := by decide +kernel
theorem d_MOD_init_145 : decode b_MOD_init 145 = .ok (.newarray .int, 2) := by decide +kernel
theorem d_MOD_init_147 : decode b_MOD_init 147 = .ok (.putfield 59, 3) := by decide +kernel
theorem d_MOD_init_150 : decode b_MOD_init 150 = .ok (.aload_n 0, 1) := by decide +kernel
theorem d_MOD_init_151 : decode b_MOD_init 151 = .ok (.bipush 32, 2) := by decide +kernel
theorem d_MOD_init_153 : decode b_MOD_init 153 = .ok (.newarray .int, 2) := by decide +kernel
theorem d_MOD_init_155 : decode b_MOD_init 155 = .ok (.putfield 62, 3) := by decide +kernel
theorem d_MOD_init_158 : decode b_MOD_init 158 = .ok (.aload_n 0, 1) := by decide +kernel
theorem d_MOD_init_159 : decode b_MOD_init 159 = .ok (.bipush 32, 2) := by decide +kernel
theorem d_MOD_init_161 : decode b_MOD_init 161 = .ok (.newarray .int, 2) := by decide +kernel
theorem d_MOD_init_163 : decode b_MOD_init 163 = .ok (.putfield 65, 3) := by decide +kernel
theorem d_MOD_init_166 : decode b_MOD_init 166 = .ok (.aload_n 0, 1) := by decide +kernel
theorem d_MOD_init_167 : decode b_MOD_init 167 = .ok (.bipush 32, 2) := by decide +kernel
theorem d_MOD_init_169 : decode b_MOD_init 169 = .ok (.newarray .int, 2) := by decide +kernel
theorem d_MOD_init_171 : decode b_MOD_init 171 = .ok (.putfield 68, 3) := by decide +kernel
theorem d_MOD_init_174 : decode b_MOD_init 174 = .ok (.aload_n 0, 1) := by decide +kernel
theorem d_MOD_init_175 : decode b_MOD_init 175 = .ok (.sipush 1200, 3) := by decide +kernel
theorem d_MOD_init_178 : decode b_MOD_init 178 = .ok (.newarray .int, 2) := by decide +kernel
theorem d_MOD_init_180 : decode b_MOD_init 180 = .ok (.putfield 71, 3) := by decide +kernel
theorem d_MOD_init_183 : decode b_MOD_init 183 = .ok (.aload_n 0, 1) := by decide +kernel
theorem d_MOD_init_184 : decode b_MOD_init 184 = .ok (.sipush 1200, 3) := by decide +kernel
theorem d_MOD_init_187 : decode b_MOD_init 187 = .ok (.newarray .int, 2) := by decide +kernel
theorem d_MOD_init_189 : decode b_MOD_init 189 = .ok (.putfield 74, 3) := by decide +kernel
theorem d_MOD_init_192 : decode b_MOD_init 192 = .ok (.aload_n 0, 1) := by decide +kernel
theorem d_MOD_init_193 : decode b_MOD_init 193 = .ok (.iconst 2, 1) := by decide +kernel
theorem d_MOD_init_194 : decode b_MOD_init 194 = .ok (.newarray .int, 2) := by decide +kernel
theorem d_MOD_init_196 : decode b_MOD_init 196 = .ok (.putfield 77, 3) := by decide +kernel
theorem d_MOD_init_199 : decode b_MOD_init 199 = .ok (.aload_n 0, 1) := by decide +kernel
theorem d_MOD_init_200 : decode b_MOD_init 200 = .ok (.bipush 36, 2) := by decide +kernel
theorem d_MOD_init_202 : decode b_MOD_init 202 = .ok (.newarray .int, 2) := by decide +kernel
theorem d_MOD_init_204 : decode b_MOD_init 204 = .ok (.dup, 1) := by decide +kernel
theorem d_MOD_init_205 : decode b_MOD_init 205 = .ok (.iconst 0, 1) := by decide +kernel
theorem d_MOD_init_206 : decode b_MOD_init 206 = .ok (.bipush 97, 2) := by decide +kernel
theorem d_MOD_init_208 : decode b_MOD_init 208 = .ok (.iastore, 1) := by decide +kernel
theorem d_MOD_init_209 : decode b_MOD_init 209 = .ok (.dup, 1) := by decide +kernel
theorem d_MOD_init_210 : decode b_MOD_init 210 = .ok (.iconst 1, 1) := by decide +kernel
theorem d_MOD_init_211 : decode b_MOD_init 211 = .ok (.bipush 122, 2) := by decide +kernel
theorem d_MOD_init_213 : decode b_MOD_init 213 = .ok (.iastore, 1) := by decide +kernel
theorem d_MOD_init_214 : decode b_MOD_init 214 = .ok (.dup, 1) := by decide +kernel
theorem d_MOD_init_215 : decode b_MOD_init 215 = .ok (.iconst 2, 1) := by decide +kernel
theorem d_MOD_init_216 : decode b_MOD_init 216 = .ok (.bipush 32, 2) := by decide +kernel
theorem d_MOD_init_218 : decode b_MOD_init 218 = .ok (.iastore, 1) := by decide +kernel
theorem d_MOD_init_219 : decode b_MOD_init 219 = .ok (.dup, 1) := by decide +kernel
theorem d_MOD_init_220 : decode b_MOD_init 220 = .ok (.iconst 3, 1) := by decide +kernel
theorem d_MOD_init_221 : decode b_MOD_init 221 = .ok (.sipush 224, 3) := by decide +kernel
theorem d_MOD_init_224 : decode b_MOD_init 224 = .ok (.iastore, 1) := by decide +kernel
theorem d_MOD_init_225 : decode b_MOD_init 225 = .ok (.dup, 1) := by decide +kernel
theorem d_MOD_init_226 : decode b_MOD_init 226 = .ok (.iconst 4, 1) := by decide +kernel
theorem d_MOD_init_227 : decode b_MOD_init 227 = .ok (.sipush 246, 3) := by decide +kernel
theorem d_MOD_init_230 : decode b_MOD_init 230 = .ok (.iastore, 1) := by decide +kernel
theorem d_MOD_init_231 : decode b_MOD_init 231 = .ok (.dup, 1) := by decide +kernel
theorem d_MOD_init_232 : decode b_MOD_init 232 = .ok (.iconst 5, 1) := by decide +kernel
theorem d_MOD_init_233 : decode b_MOD_init 233 = .ok (.bipush 32, 2) := by decide +kernel
theorem d_MOD_init_235 : decode b_MOD_init 235 = .ok (.iastore, 1) := by decide +kernel
theorem d_MOD_init_236 : decode b_MOD_init 236 = .ok (.dup, 1) := by decide +kernel
theorem d_MOD_init_237 : decode b_MOD_init 237 = .ok (.bipush 6, 2) := by decide +kernel
theorem d_MOD_init_239 : decode b_MOD_init 239 = .ok (.sipush 248, 3) := by decide +kernel
theorem d_MOD_init_242 : decode b_MOD_init 242 = .ok (.iastore, 1) := by decide +kernel
theorem d_MOD_init_243 : decode b_MOD_init 243 = .ok (.dup, 1) := by decide +kernel
theorem d_MOD_init_244 : decode b_MOD_init 244 = .ok (.bipush 7, 2) := by decide +kernel
theorem d_MOD_init_246 : decode b_MOD_init 246 = .ok (.sipush 254, 3) := by decide +kernel
theorem d_MOD_init_249 : decode b_MOD_init 249 = .ok (.iastore, 1) := by decide +kernel
theorem d_MOD_init_250 : decode b_MOD_init 250 = .ok (.dup, 1) := by decide +kernel
theorem d_MOD_init_251 : decode b_MOD_init 251 = .ok (.bipush 8, 2) := by decide +kernel
theorem d_MOD_init_253 : decode b_MOD_init 253 = .ok (.bipush 32, 2) := by decide +kernel
theorem d_MOD_init_255 : decode b_MOD_init 255 = .ok (.iastore, 1) := by decide +kernel
theorem d_MOD_init_256 : decode b_MOD_init 256 = .ok (.dup, 1) := by decide +kernel
theorem d_MOD_init_257 : decode b_MOD_init 257 = .ok (.bipush 9, 2) := by decide +kernel
theorem d_MOD_init_259 : decode b_MOD_init 259 = .ok (.sipush 945, 3) := by decide +kernel
theorem d_MOD_init_262 : decode b_MOD_init 262 = .ok (.iastore, 1) := by decide +kernel
theorem d_MOD_init_263 : decode b_MOD_init 263 = .ok (.dup, 1) := by decide +kernel
theorem d_MOD_init_264 : decode b_MOD_init 264 = .ok (.bipush 10, 2) := by decide +kernel
theorem d_MOD_init_266 : decode b_MOD_init 266 = .ok (.sipush 969, 3) := by decide +kernel
theorem d_MOD_init_269 : decode b_MOD_init 269 = .ok (.iastore, 1) := by decide +kernel
theorem d_MOD_init_270 : decode b_MOD_init 270 = .ok (.dup, 1) := by decide +kernel
theorem d_MOD_init_271 : decode b_MOD_init 271 = .ok (.bipush 11, 2) := by decide +kernel
theorem d_MOD_init_273 : decode b_MOD_init 273 = .ok (.bipush 32, 2) := by decide +kernel
theorem d_MOD_init_275 : decode b_MOD_init 275 = .ok (.iastore, 1) := by decide +kernel
theorem d_MOD_init_276 : decode b_MOD_init 276 = .ok (.dup, 1) := by decide +kernel
theorem d_MOD_init_277 : decode b_MOD_init 277 = .ok (.bipush 12, 2) := by decide +kernel
theorem d_MOD_init_279 : decode b_MOD_init 279 = .ok (.sipush 1072, 3) := by decide +kernel
theorem d_MOD_init_282 : decode b_MOD_init 282 = .ok (.iastore, 1) := by decide +kernel
theorem d_MOD_init_283 : decode b_MOD_init 283 = .ok (.dup, 1) := by decide +kernel
theorem d_MOD_init_284 : decode b_MOD_init 284 = .ok (.bipush 13, 2) := by decide +kernel
theorem d_MOD_init_286 : decode b_MOD_init 286 = .ok (.sipush 1103, 3) := by decide +kernel
theorem d_MOD_init_289 : decode b_MOD_init 289 = .ok (.iastore, 1) := by decide +kernel
theorem d_MOD_init_290 : decode b_MOD_init 290 = .ok (.dup, 1) := by decide +kernel
theorem d_MOD_init_291 : decode b_MOD_init 291 = .ok (.bipush 14, 2) := by decide +kernel
theorem d_MOD_init_293 : decode b_MOD_init 293 = .ok (.bipush 32, 2) := by decide +kernel
theorem d_MOD_init_295 : decode b_MOD_init 295 = .ok (.iastore, 1) := by decide +kernel
theorem d_MOD_init_296 : decode b_MOD_init 296 = .ok (.dup, 1) := by decide +kernel
theorem d_MOD_init_297 : decode b_MOD_init 297 = .ok (.bipush 15, 2) := by decide +kernel
theorem d_MOD_init_299 : decode b_MOD_init 299 = .ok (.sipush 1104, 3) := by decide +kernel
theorem d_MOD_init_302 : decode b_MOD_init 302 = .ok (.iastore, 1) := by decide +kernel
theorem d_MOD_init_303 : decode b_MOD_init 303 = .ok (.dup, 1) := by decide +kernel
theorem d_MOD_init_304 : decode b_MOD_init 304 = .ok (.bipush 16, 2) := by decide +kernel
theorem d_MOD_init_306 : decode b_MOD_init 306 = .ok (.sipush 1119, 3) := by decide +kernel
theorem d_MOD_init_309 : decode b_MOD_init 309 = .ok (.iastore, 1) := by decide +kernel
theorem d_MOD_init_310 : decode b_MOD_init 310 = .ok (.dup, 1) := by decide +kernel
theorem d_MOD_init_311 : decode b_MOD_init 311 = .ok (.bipush 17, 2) := by decide +kernel
theorem d_MOD_init_313 : decode b_MOD_init 313 = .ok (.bipush 80, 2) := by decide +kernel
theorem d_MOD_init_315 : decode b_MOD_init 315 = .ok (.iastore, 1) := by decide +kernel
theorem d_MOD_init_316 : decode b_MOD_init 316 = .ok (.dup, 1) := by decide +kernel
theorem d_MOD_init_317 : decode b_MOD_init 317 = .ok (.bipush 18, 2) := by decide +kernel
theorem d_MOD_init_319 : decode b_MOD_init 319 = .ok (.bipush 107, 2) := by decide +kernel
theorem d_MOD_init_321 : decode b_MOD_init 321 = .ok (.iastore, 1) := by decide +kernel
theorem d_MOD_init_322 : decode b_MOD_init 322 = .ok (.dup, 1) := by decide +kernel
theorem d_MOD_init_323 : decode b_MOD_init 323 = .ok (.bipush 19, 2) := by decide +kernel
theorem d_MOD_init_325 : decode b_MOD_init 325 = .ok (.bipush 107, 2) := by decide +kernel
theorem d_MOD_init_327 : decode b_MOD_init 327 = .ok (.iastore, 1) := by decide +kernel
theorem d_MOD_init_328 : decode b_MOD_init 328 = .ok (.dup, 1) := by decide +kernel
theorem d_MOD_init_329 : decode b_MOD_init 329 = .ok (.bipush 20, 2) := by decide +kernel
theorem d_MOD_init_331 : decode b_MOD_init 331 = .ok (.sipush (-8383), 3) := by decide +kernel
theorem d_MOD_init_334 : decode b_MOD_init 334 = .ok (.iastore, 1) := by decide +kernel
theorem d_MOD_init_335 : decode b_MOD_init 335 = .ok (.dup, 1) := by decide +kernel
theorem d_MOD_init_336 : decode b_MOD_init 336 = .ok (.bipush 21, 2) := by decide +kernel
theorem d_MOD_init_338 : decode b_MOD_init 338 = .ok (.bipush 115, 2) := by decide +kernel
theorem d_MOD_init_340 : decode b_MOD_init 340 = .ok (.iastore, 1) := by decide +kernel
theorem d_MOD_init_341 : decode b_MOD_init 341 = .ok (.dup, 1) := by decide +kernel
theorem d_MOD_init_342 : decode b_MOD_init 342 = .ok (.bipush 22, 2) := by decide +kernel
theorem d_MOD_init_344 : decode b_MOD_init 344 = .ok (.bipush 115, 2) := by decide +kernel
theorem d_MOD_init_346 : decode b_MOD_init 346 = .ok (.iastore, 1) := by decide +kernel
theorem d_MOD_init_347 : decode b_MOD_init 347 = .ok (.dup, 1) := by decide +kernel
theorem d_MOD_init_348 : decode b_MOD_init 348 = .ok (.bipush 23, 2) := by decide +kernel
theorem d_MOD_init_350 : decode b_MOD_init 350 = .ok (.sipush (-268), 3) := by decide +kernel
theorem d_MOD_init_353 : decode b_MOD_init 353 = .ok (.iastore, 1) := by decide +kernel
theorem d_MOD_init_354 : decode b_MOD_init 354 = .ok (.dup, 1) := by decide +kernel
theorem d_MOD_init_355 : decode b_MOD_init 355 = .ok (.bipush 24, 2) := by decide +kernel
theorem d_MOD_init_357 : decode b_MOD_init 357 = .ok (.sipush 229, 3) := by decide +kernel
theorem d_MOD_init_360 : decode b_MOD_init 360 = .ok (.iastore, 1) := by decide +kernel
theorem d_MOD_init_361 : decode b_MOD_init 361 = .ok (.dup, 1) := by decide +kernel
theorem d_MOD_init_362 : decode b_MOD_init 362 = .ok (.bipush 25, 2) := by decide +kernel
theorem d_MOD_init_364 : decode b_MOD_init 364 = .ok (.sipush 229, 3) := by decide +kernel
theorem d_MOD_init_367 : decode b_MOD_init 367 = .ok (.iastore, 1) := by decide +kernel
theorem d_MOD_init_368 : decode b_MOD_init 368 = .ok (.dup, 1) := by decide +kernel
theorem d_MOD_init_369 : decode b_MOD_init 369 = .ok (.bipush 26, 2) := by decide +kernel
theorem d_MOD_init_371 : decode b_MOD_init 371 = .ok (.sipush (-8262), 3) := by decide +kernel
theorem d_MOD_init_374 : decode b_MOD_init 374 = .ok (.iastore, 1) := by decide +kernel
theorem d_MOD_init_375 : decode b_MOD_init 375 = .ok (.dup, 1) := by decide +kernel
theorem d_MOD_init_376 : decode b_MOD_init 376 = .ok (.bipush 27, 2) := by decide +kernel
theorem d_MOD_init_378 : decode b_MOD_init 378 = .ok (.sipush 181, 3) := by decide +kernel
theorem d_MOD_init_381 : decode b_MOD_init 381 = .ok (.iastore, 1) := by decide +kernel
theorem d_MOD_init_382 : decode b_MOD_init 382 = .ok (.dup, 1) := by decide +kernel
theorem d_MOD_init_383 : decode b_MOD_init 383 = .ok (.bipush 28, 2) := by decide +kernel
theorem d_MOD_init_385 : decode b_MOD_init 385 = .ok (.sipush 181, 3) := by decide +kernel
theorem d_MOD_init_388 : decode b_MOD_init 388 = .ok (.iastore, 1) := by decide +kernel
theorem d_MOD_init_389 : decode b_MOD_init 389 = .ok (.dup, 1) := by decide +kernel
theorem d_MOD_init_390 : decode b_MOD_init 390 = .ok (.bipush 29, 2) := by decide +kernel
theorem d_MOD_init_392 : decode b_MOD_init 392 = .ok (.sipush (-775), 3) := by decide +kernel
theorem d_MOD_init_395 : decode b_MOD_init 395 = .ok (.iastore, 1) := by decide +kernel
theorem d_MOD_init_396 : decode b_MOD_init 396 = .ok (.dup, 1) := by decide +kernel
theorem d_MOD_init_397 : decode b_MOD_init 397 = .ok (.bipush 30, 2) := by decide +kernel
theorem d_MOD_init_399 : decode b_MOD_init 399 = .ok (.sipush 962, 3) := by decide +kernel
theorem d_MOD_init_402 : decode b_MOD_init 402 = .ok (.iastore, 1) := by decide +kernel
theorem d_MOD_init_403 : decode b_MOD_init 403 = .ok (.dup, 1) := by decide +kernel
theorem d_MOD_init_404 : decode b_MOD_init 404 = .ok (.bipush 31, 2) := by decide +kernel
theorem d_MOD_init_406 : decode b_MOD_init 406 = .ok (.sipush 962, 3) := by decide +kernel
theorem d_MOD_init_409 : decode b_MOD_init 409 = .ok (.iastore, 1) := by decide +kernel
theorem d_MOD_init_410 : decode b_MOD_init 410 = .ok (.dup, 1) := by decide +kernel
theorem d_MOD_init_411 : decode b_MOD_init 411 = .ok (.bipush 32, 2) := by decide +kernel
theorem d_MOD_init_413 : decode b_MOD_init 413 = .ok (.iconst (-1), 1) := by decide +kernel
theorem d_MOD_init_414 : decode b_MOD_init 414 = .ok (.iastore, 1) := by decide +kernel
theorem d_MOD_init_415 : decode b_MOD_init 415 = .ok (.dup, 1) := by decide +kernel
theorem d_MOD_init_416 : decode b_MOD_init 416 = .ok (.bipush 33, 2) := by decide +kernel
theorem d_MOD_init_418 : decode b_MOD_init 418 = .ok (.sipush 962, 3) := by decide +kernel
theorem d_MOD_init_421 : decode b_MOD_init 421 = .ok (.iastore, 1) := by decide +kernel
theorem d_MOD_init_422 : decode b_MOD_init 422 = .ok (.dup, 1) := by decide +kernel
theorem d_MOD_init_423 : decode b_MOD_init 423 = .ok (.bipush 34, 2) := by decide +kernel
theorem d_MOD_init_425 : decode b_MOD_init 425 = .ok (.sipush 962, 3) := by decide +kernel
theorem d_MOD_init_428 : decode b_MOD_init 428 = .ok (.iastore, 1) := by decide +kernel
theorem d_MOD_init_429 : decode b_MOD_init 429 = .ok (.dup, 1) := by decide +kernel
theorem d_MOD_init_430 : decode b_MOD_init 430 = .ok (.bipush 35, 2) := by decide +kernel
theorem d_MOD_init_432 : decode b_MOD_init 432 = .ok (.bipush 31, 2) := by decide +kernel
theorem d_MOD_init_434 : decode b_MOD_init 434 = .ok (.iastore, 1) := by decide +kernel
theorem d_MOD_init_435 : decode b_MOD_init 435 = .ok (.putfield 80, 3) := by decide +kernel
theorem d_MOD_init_438 : decode b_MOD_init 438 = .ok (.aload_n 0, 1) := by decide +kernel
theorem d_MOD_init_439 : decode b_MOD_init 439 = .ok (.bipush 16, 2) := by decide +kernel
theorem d_MOD_init_441 : decode b_MOD_init 441 = .ok (.newarray .int, 2) := by decide +kernel
theorem d_MOD_init_443 : decode b_MOD_init 443 = .ok (.dup, 1) := by decide +kernel
theorem d_MOD_init_444 : decode b_MOD_init 444 = .ok (.iconst 0, 1) := by decide +kernel
theorem d_MOD_init_445 : decode b_MOD_init 445 = .ok (.bipush 48, 2) := by decide +kernel
theorem d_MOD_init_447 : decode b_MOD_init 447 = .ok (.iastore, 1) := by decide +kernel
theorem d_MOD_init_448 : decode b_MOD_init 448 = .ok (.dup, 1) := by decide +kernel
theorem d_MOD_init_449 : decode b_MOD_init 449 = .ok (.iconst 1, 1) := by decide +kernel
theorem d_MOD_init_450 : decode b_MOD_init 450 = .ok (.bipush 57, 2) := by decide +kernel
theorem d_MOD_init_452 : decode b_MOD_init 452 = .ok (.iastore, 1) := by decide +kernel
theorem d_MOD_init_453 : decode b_MOD_init 453 = .ok (.dup, 1) := by decide +kernel
theorem d_MOD_init_454 : decode b_MOD_init 454 = .ok (.iconst 2, 1) := by decide +kernel
theorem d_MOD_init_455 : decode b_MOD_init 455 = .ok (.bipush 9, 2) := by decide +kernel
theorem d_MOD_init_457 : decode b_MOD_init 457 = .ok (.iastore, 1) := by decide +kernel
theorem d_MOD_init_458 : decode b_MOD_init 458 = .ok (.dup, 1) := by decide +kernel
theorem d_MOD_init_459 : decode b_MOD_init 459 = .ok (.iconst 3, 1) := by decide +kernel
theorem d_MOD_init_460 : decode b_MOD_init 460 = .ok (.bipush 10, 2) := by decide +kernel
theorem d_MOD_init_462 : decode b_MOD_init 462 = .ok (.iastore, 1) := by decide +kernel
theorem d_MOD_init_463 : decode b_MOD_init 463 = .ok (.dup, 1) := by decide +kernel
theorem d_MOD_init_464 : decode b_MOD_init 464 = .ok (.iconst 4, 1) := by decide +kernel
theorem d_MOD_init_465 : decode b_MOD_init 465 = .ok (.bipush 12, 2) := by decide +kernel
theorem d_MOD_init_467 : decode b_MOD_init 467 = .ok (.iastore, 1) := by decide +kernel
theorem d_MOD_init_468 : decode b_MOD_init 468 = .ok (.dup, 1) := by decide +kernel
theorem d_MOD_init_469 : decode b_MOD_init 469 = .ok (.iconst 5, 1) := by decide +kernel
theorem d_MOD_init_470 : decode b_MOD_init 470 = .ok (.bipush 13, 2) := by decide +kernel
theorem d_MOD_init_472 : decode b_MOD_init 472 = .ok (.iastore, 1) := by decide +kernel
theorem d_MOD_init_473 : decode b_MOD_init 473 = .ok (.dup, 1) := by decide +kernel
theorem d_MOD_init_474 : decode b_MOD_init 474 = .ok (.bipush 6, 2) := by decide +kernel
theorem d_MOD_init_476 : decode b_MOD_init 476 = .ok (.bipush 32, 2) := by decide +kernel
theorem d_MOD_init_478 : decode b_MOD_init 478 = .ok (.iastore, 1) := by decide +kernel
theorem d_MOD_init_479 : decode b_MOD_init 479 = .ok (.dup, 1) := by decide +kernel
theorem d_MOD_init_480 : decode b_MOD_init 480 = .ok (.bipush 7, 2) := by decide +kernel
theorem d_MOD_init_482 : decode b_MOD_init 482 = .ok (.bipush 32, 2) := by decide +kernel
theorem d_MOD_init_484 : decode b_MOD_init 484 = .ok (.iastore, 1) := by decide +kernel
theorem d_MOD_init_485 : decode b_MOD_init 485 = .ok (.dup, 1) := by decide +kernel
theorem d_MOD_init_486 : decode b_MOD_init 486 = .ok (.bipush 8, 2) := by decide +kernel
theorem d_MOD_init_488 : decode b_MOD_init 488 = .ok (.bipush 48, 2) := by decide +kernel
theorem d_MOD_init_490 : decode b_MOD_init 490 = .ok (.iastore, 1) := by decide +kernel
theorem d_MOD_init_491 : decode b_MOD_init 491 = .ok (.dup, 1) := by decide +kernel
theorem d_MOD_init_492 : decode b_MOD_init 492 = .ok (.bipush 9, 2) := by decide +kernel
theorem d_MOD_init_494 : decode b_MOD_init 494 = .ok (.bipush 57, 2) := by decide +kernel
theorem d_MOD_init_496 : decode b_MOD_init 496 = .ok (.iastore, 1) := by decide +kernel
theorem d_MOD_init_497 : decode b_MOD_init 497 = .ok (.dup, 1) := by decide +kernel
theorem d_MOD_init_498 : decode b_MOD_init 498 = .ok (.bipush 10, 2) := by decide +kernel
theorem d_MOD_init_500 : decode b_MOD_init 500 = .ok (.bipush 65, 2) := by decide +kernel
theorem d_MOD_init_502 : decode b_MOD_init 502 = .ok (.iastore, 1) := by decide +kernel
theorem d_MOD_init_503 : decode b_MOD_init 503 = .ok (.dup, 1) := by decide +kernel
theorem d_MOD_init_504 : decode b_MOD_init 504 = .ok (.bipush 11, 2) := by decide +kernel
theorem d_MOD_init_506 : decode b_MOD_init 506 = .ok (.bipush 90, 2) := by decide +kernel
theorem d_MOD_init_508 : decode b_MOD_init 508 = .ok (.iastore, 1) := by decide +kernel
theorem d_MOD_init_509 : decode b_MOD_init 509 = .ok (.dup, 1) := by decide +kernel
theorem d_MOD_init_510 : decode b_MOD_init 510 = .ok (.bipush 12, 2) := by decide +kernel
theorem d_MOD_init_512 : decode b_MOD_init 512 = .ok (.bipush 95, 2) := by decide +kernel
theorem d_MOD_init_514 : decode b_MOD_init 514 = .ok (.iastore, 1) := by decide +kernel
theorem d_MOD_init_515 : decode b_MOD_init 515 = .ok (.dup, 1) := by decide +kernel
theorem d_MOD_init_516 : decode b_MOD_init 516 = .ok (.bipush 13, 2) := by decide +kernel
theorem d_MOD_init_518 : decode b_MOD_init 518 = .ok (.bipush 95, 2) := by decide +kernel
theorem d_MOD_init_520 : decode b_MOD_init 520 = .ok (.iastore, 1) := by decide +kernel
theorem d_MOD_init_521 : decode b_MOD_init 521 = .ok (.dup, 1) := by decide +kernel
theorem d_MOD_init_522 : decode b_MOD_init 522 = .ok (.bipush 14, 2) := by decide +kernel
theorem d_MOD_init_524 : decode b_MOD_init 524 = .ok (.bipush 97, 2) := by decide +kernel
theorem d_MOD_init_526 : decode b_MOD_init 526 = .ok (.iastore, 1) := by decide +kernel
theorem d_MOD_init_527 : decode b_MOD_init 527 = .ok (.dup, 1) := by decide +kernel
theorem d_MOD_init_528 : decode b_MOD_init 528 = .ok (.bipush 15, 2) := by decide +kernel
theorem d_MOD_init_530 : decode b_MOD_init 530 = .ok (.bipush 122, 2) := by decide +kernel
theorem d_MOD_init_532 : decode b_MOD_init 532 = .ok (.iastore, 1) := by decide +kernel
theorem d_MOD_init_533 : decode b_MOD_init 533 = .ok (.putfield 83, 3) := by decide +kernel
theorem d_MOD_init_536 : decode b_MOD_init 536 = .ok (.aload_n 0, 1) := by decide +kernel
theorem d_MOD_init_537 : decode b_MOD_init 537 = .ok (.bipush 28, 2) := by decide +kernel
theorem d_MOD_init_539 : decode b_MOD_init 539 = .ok (.newarray .int, 2) := by decide +kernel
theorem d_MOD_init_541 : decode b_MOD_init 541 = .ok (.dup, 1) := by decide +kernel
theorem d_MOD_init_542 : decode b_MOD_init 542 = .ok (.iconst 0, 1) := by decide +kernel
theorem d_MOD_init_543 : decode b_MOD_init 543 = .ok (.bipush 65, 2) := by decide +kernel
theorem d_MOD_init_545 : decode b_MOD_init 545 = .ok (.iastore, 1) := by decide +kernel
theorem d_MOD_init_546 : decode b_MOD_init 546 = .ok (.dup, 1) := by decide +kernel
theorem d_MOD_init_547 : decode b_MOD_init 547 = .ok (.iconst 1, 1) := by decide +kernel
theorem d_MOD_init_548 : decode b_MOD_init 548 = .ok (.bipush 90, 2) := by decide +kernel
theorem d_MOD_init_550 : decode b_MOD_init 550 = .ok (.iastore, 1) := by decide +kernel
theorem d_MOD_init_551 : decode b_MOD_init 551 = .ok (.dup, 1) := by decide +kernel
theorem d_MOD_init_552 : decode b_MOD_init 552 = .ok (.iconst 2, 1) := by decide +kernel
theorem d_MOD_init_553 : decode b_MOD_init 553 = .ok (.bipush 97, 2) := by decide +kernel
theorem d_MOD_init_555 : decode b_MOD_init 555 = .ok (.iastore, 1) := by decide +kernel
theorem d_MOD_init_556 : decode b_MOD_init 556 = .ok (.dup, 1) := by decide +kernel
theorem d_MOD_init_557 : decode b_MOD_init 557 = .ok (.iconst 3, 1) := by decide +kernel
theorem d_MOD_init_558 : decode b_MOD_init 558 = .ok (.bipush 122, 2) := by decide +kernel
theorem d_MOD_init_560 : decode b_MOD_init 560 = .ok (.iastore, 1) := by decide +kernel
theorem d_MOD_init_561 : decode b_MOD_init 561 = .ok (.dup, 1) := by decide +kernel
theorem d_MOD_init_562 : decode b_MOD_init 562 = .ok (.iconst 4, 1) := by decide +kernel
theorem d_MOD_init_563 : decode b_MOD_init 563 = .ok (.sipush 170, 3) := by decide +kernel
theorem d_MOD_init_566 : decode b_MOD_init 566 = .ok (.iastore, 1) := by decide +kernel
theorem d_MOD_init_567 : decode b_MOD_init 567 = .ok (.dup, 1) := by decide +kernel
theorem d_MOD_init_568 : decode b_MOD_init 568 = .ok (.iconst 5, 1) := by decide +kernel
theorem d_MOD_init_569 : decode b_MOD_init 569 = .ok (.sipush 170, 3) := by decide +kernel
theorem d_MOD_init_572 : decode b_MOD_init 572 = .ok (.iastore, 1) := by decide +kernel
theorem d_MOD_init_573 : decode b_MOD_init 573 = .ok (.dup, 1) := by decide +kernel
theorem d_MOD_init_574 : decode b_MOD_init 574 = .ok (.bipush 6, 2) := by decide +kernel
theorem d_MOD_init_576 : decode b_MOD_init 576 = .ok (.sipush 181, 3) := by decide +kernel
theorem d_MOD_init_579 : decode b_MOD_init 579 = .ok (.iastore, 1) := by decide +kernel
theorem d_MOD_init_580 : decode b_MOD_init 580 = .ok (.dup, 1) := by decide +kernel
theorem d_MOD_init_581 : decode b_MOD_init 581 = .ok (.bipush 7, 2) := by decide +kernel
theorem d_MOD_init_583 : decode b_MOD_init 583 = .ok (.sipush 181, 3) := by decide +kernel
theorem d_MOD_init_586 : decode b_MOD_init 586 = .ok (.iastore, 1) := by decide +kernel
theorem d_MOD_init_587 : decode b_MOD_init 587 = .ok (.dup, 1) := by decide +kernel
theorem d_MOD_init_588 : decode b_MOD_init 588 = .ok (.bipush 8, 2) := by decide +kernel
theorem d_MOD_init_590 : decode b_MOD_init 590 = .ok (.sipush 186, 3) := by decide +kernel
theorem d_MOD_init_593 : decode b_MOD_init 593 = .ok (.iastore, 1) := by decide +kernel
theorem d_MOD_init_594 : decode b_MOD_init 594 = .ok (.dup, 1) := by decide +kernel
theorem d_MOD_init_595 : decode b_MOD_init 595 = .ok (.bipush 9, 2) := by decide +kernel
theorem d_MOD_init_597 : decode b_MOD_init 597 = .ok (.sipush 186, 3) := by decide +kernel
theorem d_MOD_init_600 : decode b_MOD_init 600 = .ok (.iastore, 1) := by decide +kernel
theorem d_MOD_init_601 : decode b_MOD_init 601 = .ok (.dup, 1) := by decide +kernel
theorem d_MOD_init_602 : decode b_MOD_init 602 = .ok (.bipush 10, 2) := by decide +kernel
theorem d_MOD_init_604 : decode b_MOD_init 604 = .ok (.sipush 192, 3) := by decide +kernel
theorem d_MOD_init_607 : decode b_MOD_init 607 = .ok (.iastore, 1) := by decide +kernel
theorem d_MOD_init_608 : decode b_MOD_init 608 = .ok (.dup, 1) := by decide +kernel
theorem d_MOD_init_609 : decode b_MOD_init 609 = .ok (.bipush 11, 2) := by decide +kernel
theorem d_MOD_init_611 : decode b_MOD_init 611 = .ok (.sipush 214, 3) := by decide +kernel
theorem d_MOD_init_614 : decode b_MOD_init 614 = .ok (.iastore, 1) := by decide +kernel
theorem d_MOD_init_615 : decode b_MOD_init 615 = .ok (.dup, 1) := by decide +kernel
theorem d_MOD_init_616 : decode b_MOD_init 616 = .ok (.bipush 12, 2) := by decide +kernel
theorem d_MOD_init_618 : decode b_MOD_init 618 = .ok (.sipush 216, 3) := by decide +kernel
theorem d_MOD_init_621 : decode b_MOD_init 621 = .ok (.iastore, 1) := by decide +kernel
theorem d_MOD_init_622 : decode b_MOD_init 622 = .ok (.dup, 1) := by decide +kernel
theorem d_MOD_init_623 : decode b_MOD_init 623 = .ok (.bipush 13, 2) := by decide +kernel
theorem d_MOD_init_625 : decode b_MOD_init 625 = .ok (.sipush 246, 3) := by decide +kernel
theorem d_MOD_init_628 : decode b_MOD_init 628 = .ok (.iastore, 1) := by decide +kernel
theorem d_MOD_init_629 : decode b_MOD_init 629 = .ok (.dup, 1) := by decide +kernel
theorem d_MOD_init_630 : decode b_MOD_init 630 = .ok (.bipush 14, 2) := by decide +kernel
theorem d_MOD_init_632 : decode b_MOD_init 632 = .ok (.sipush 248, 3) := by decide +kernel
theorem d_MOD_init_635 : decode b_MOD_init 635 = .ok (.iastore, 1) := by decide +kernel
theorem d_MOD_init_636 : decode b_MOD_init 636 = .ok (.dup, 1) := by decide +kernel
theorem d_MOD_init_637 : decode b_MOD_init 637 = .ok (.bipush 15, 2) := by decide +kernel
theorem d_MOD_init_639 : decode b_MOD_init 639 = .ok (.sipush 687, 3) := by decide +kernel
theorem d_MOD_init_642 : decode b_MOD_init 642 = .ok (.iastore, 1) := by decide +kernel
theorem d_MOD_init_643 : decode b_MOD_init 643 = .ok (.dup, 1) := by decide +kernel
theorem d_MOD_init_644 : decode b_MOD_init 644 = .ok (.bipush 16, 2) := by decide +kernel
theorem d_MOD_init_646 : decode b_MOD_init 646 = .ok (.sipush 880, 3) := by decide +kernel
theorem d_MOD_init_649 : decode b_MOD_init 649 = .ok (.iastore, 1) := by decide +kernel
theorem d_MOD_init_650 : decode b_MOD_init 650 = .ok (.dup, 1) := by decide +kernel
theorem d_MOD_init_651 : decode b_MOD_init 651 = .ok (.bipush 17, 2) := by decide +kernel
theorem d_MOD_init_653 : decode b_MOD_init 653 = .ok (.sipush 1023, 3) := by decide +kernel
theorem d_MOD_init_656 : decode b_MOD_init 656 = .ok (.iastore, 1) := by decide +kernel
theorem d_MOD_init_657 : decode b_MOD_init 657 = .ok (.dup, 1) := by decide +kernel
theorem d_MOD_init_658 : decode b_MOD_init 658 = .ok (.bipush 18, 2) := by decide +kernel
theorem d_MOD_init_660 : decode b_MOD_init 660 = .ok (.sipush 1024, 3) := by decide +kernel
theorem d_MOD_init_663 : decode b_MOD_init 663 = .ok (.iastore, 1) := by decide +kernel
theorem d_MOD_init_664 : decode b_MOD_init 664 = .ok (.dup, 1) := by decide +kernel
theorem d_MOD_init_665 : decode b_MOD_init 665 = .ok (.bipush 19, 2) := by decide +kernel
theorem d_MOD_init_667 : decode b_MOD_init 667 = .ok (.sipush 1279, 3) := by decide +kernel
theorem d_MOD_init_670 : decode b_MOD_init 670 = .ok (.iastore, 1) := by decide +kernel
theorem d_MOD_init_671 : decode b_MOD_init 671 = .ok (.dup, 1) := by decide +kernel
theorem d_MOD_init_672 : decode b_MOD_init 672 = .ok (.bipush 20, 2) := by decide +kernel
theorem d_MOD_init_674 : decode b_MOD_init 674 = .ok (.bipush 48, 2) := by decide +kernel
theorem d_MOD_init_676 : decode b_MOD_init 676 = .ok (.iastore, 1) := by decide +kernel
theorem d_MOD_init_677 : decode b_MOD_init 677 = .ok (.dup, 1) := by decide +kernel
theorem d_MOD_init_678 : decode b_MOD_init 678 = .ok (.bipush 21, 2) := by decide +kernel
theorem d_MOD_init_680 : decode b_MOD_init 680 = .ok (.bipush 57, 2) := by decide +kernel
theorem d_MOD_init_682 : decode b_MOD_init 682 = .ok (.iastore, 1) := by decide +kernel
theorem d_MOD_init_683 : decode b_MOD_init 683 = .ok (.dup, 1) := by decide +kernel
theorem d_MOD_init_684 : decode b_MOD_init 684 = .ok (.bipush 22, 2) := by decide +kernel
theorem d_MOD_init_686 : decode b_MOD_init 686 = .ok (.sipush 178, 3) := by decide +kernel
theorem d_MOD_init_689 : decode b_MOD_init 689 = .ok (.iastore, 1) := by decide +kernel
theorem d_MOD_init_690 : decode b_MOD_init 690 = .ok (.dup, 1) := by decide +kernel
theorem d_MOD_init_691 : decode b_MOD_init 691 = .ok (.bipush 23, 2) := by decide +kernel
theorem d_MOD_init_693 : decode b_MOD_init 693 = .ok (.sipush 179, 3) := by decide +kernel
theorem d_MOD_init_696 : decode b_MOD_init 696 = .ok (.iastore, 1) := by decide +kernel
theorem d_MOD_init_697 : decode b_MOD_init 697 = .ok (.dup, 1) := by decide +kernel
theorem d_MOD_init_698 : decode b_MOD_init 698 = .ok (.bipush 24, 2) := by decide +kernel
theorem d_MOD_init_700 : decode b_MOD_init 700 = .ok (.sipush 185, 3) := by decide +kernel
theorem d_MOD_init_703 : decode b_MOD_init 703 = .ok (.iastore, 1) := by decide +kernel
theorem d_MOD_init_704 : decode b_MOD_init 704 = .ok (.dup, 1) := by decide +kernel
theorem d_MOD_init_705 : decode b_MOD_init 705 = .ok (.bipush 25, 2) := by decide +kernel
theorem d_MOD_init_707 : decode b_MOD_init 707 = .ok (.sipush 185, 3) := by decide +kernel
theorem d_MOD_init_710 : decode b_MOD_init 710 = .ok (.iastore, 1) := by decide +kernel
theorem d_MOD_init_711 : decode b_MOD_init 711 = .ok (.dup, 1) := by decide +kernel
theorem d_MOD_init_712 : decode b_MOD_init 712 = .ok (.bipush 26, 2) := by decide +kernel
theorem d_MOD_init_714 : decode b_MOD_init 714 = .ok (.sipush 188, 3) := by decide +kernel
theorem d_MOD_init_717 : decode b_MOD_init 717 = .ok (.iastore, 1) := by decide +kernel
theorem d_MOD_init_718 : decode b_MOD_init 718 = .ok (.dup, 1) := by decide +kernel
theorem d_MOD_init_719 : decode b_MOD_init 719 = .ok (.bipush 27, 2) := by decide +kernel
theorem d_MOD_init_721 : decode b_MOD_init 721 = .ok (.sipush 190, 3) := by decide +kernel
theorem d_MOD_init_724 : decode b_MOD_init 724 = .ok (.iastore, 1) := by decide +kernel
theorem d_MOD_init_725 : decode b_MOD_init 725 = .ok (.putfield 86, 3) := by decide +kernel
theorem d_MOD_init_728 : decode b_MOD_init 728 = .ok (.aload_n 0, 1) := by decide +kernel
theorem d_MOD_init_729 : decode b_MOD_init 729 = .ok (.bipush 22, 2) := by decide +kernel
theorem d_MOD_init_731 : decode b_MOD_init 731 = .ok (.newarray .int, 2) := by decide +kernel
theorem d_MOD_init_733 : decode b_MOD_init 733 = .ok (.dup, 1) := by decide +kernel
theorem d_MOD_init_734 : decode b_MOD_init 734 = .ok (.iconst 0, 1) := by decide +kernel
theorem d_MOD_init_735 : decode b_MOD_init 735 = .ok (.bipush 48, 2) := by decide +kernel
theorem d_MOD_init_737 : decode b_MOD_init 737 = .ok (.iastore, 1) := by decide +kernel
theorem d_MOD_init_738 : decode b_MOD_init 738 = .ok (.dup, 1) := by decide +kernel
theorem d_MOD_init_739 : decode b_MOD_init 739 = .ok (.iconst 1, 1) := by decide +kernel
theorem d_MOD_init_740 : decode b_MOD_init 740 = .ok (.bipush 57, 2) := by decide +kernel
theorem d_MOD_init_742 : decode b_MOD_init 742 = .ok (.iastore, 1) := by decide +kernel
theorem d_MOD_init_743 : decode b_MOD_init 743 = .ok (.dup, 1) := by decide +kernel
theorem d_MOD_init_744 : decode b_MOD_init 744 = .ok (.iconst 2, 1) := by decide +kernel
theorem d_MOD_init_745 : decode b_MOD_init 745 = .ok (.bipush 65, 2) := by decide +kernel
theorem d_MOD_init_747 : decode b_MOD_init 747 = .ok (.iastore, 1) := by decide +kernel
theorem d_MOD_init_748 : decode b_MOD_init 748 = .ok (.dup, 1) := by decide +kernel
theorem d_MOD_init_749 : decode b_MOD_init 749 = .ok (.iconst 3, 1) := by decide +kernel
theorem d_MOD_init_750 : decode b_MOD_init 750 = .ok (.bipush 90, 2) := by decide +kernel
theorem d_MOD_init_752 : decode b_MOD_init 752 = .ok (.iastore, 1) := by decide +kernel
theorem d_MOD_init_753 : decode b_MOD_init 753 = .ok (.dup, 1) := by decide +kernel
theorem d_MOD_init_754 : decode b_MOD_init 754 = .ok (.iconst 4, 1) := by decide +kernel
theorem d_MOD_init_755 : decode b_MOD_init 755 = .ok (.bipush 97, 2) := by decide +kernel
theorem d_MOD_init_757 : decode b_MOD_init 757 = .ok (.iastore, 1) := by decide +kernel
theorem d_MOD_init_758 : decode b_MOD_init 758 = .ok (.dup, 1) := by decide +kernel
theorem d_MOD_init_759 : decode b_MOD_init 759 = .ok (.iconst 5, 1) := by decide +kernel
theorem d_MOD_init_760 : decode b_MOD_init 760 = .ok (.bipush 122, 2) := by decide +kernel
theorem d_MOD_init_762 : decode b_MOD_init 762 = .ok (.iastore, 1) := by decide +kernel
theorem d_MOD_init_763 : decode b_MOD_init 763 = .ok (.dup, 1) := by decide +kernel
theorem d_MOD_init_764 : decode b_MOD_init 764 = .ok (.bipush 6, 2) := by decide +kernel
theorem d_MOD_init_766 : decode b_MOD_init 766 = .ok (.bipush 65, 2) := by decide +kernel
theorem d_MOD_init_768 : decode b_MOD_init 768 = .ok (.iastore, 1) := by decide +kernel
theorem d_MOD_init_769 : decode b_MOD_init 769 = .ok (.dup, 1) := by decide +kernel
theorem d_MOD_init_770 : decode b_MOD_init 770 = .ok (.bipush 7, 2) := by decide +kernel
theorem d_MOD_init_772 : decode b_MOD_init 772 = .ok (.bipush 90, 2) := by decide +kernel
theorem d_MOD_init_774 : decode b_MOD_init 774 = .ok (.iastore, 1) := by decide +kernel
theorem d_MOD_init_775 : decode b_MOD_init 775 = .ok (.dup, 1) := by decide +kernel
theorem d_MOD_init_776 : decode b_MOD_init 776 = .ok (.bipush 8, 2) := by decide +kernel
theorem d_MOD_init_778 : decode b_MOD_init 778 = .ok (.bipush 97, 2) := by decide +kernel
theorem d_MOD_init_780 : decode b_MOD_init 780 = .ok (.iastore, 1) := by decide +kernel
theorem d_MOD_init_781 : decode b_MOD_init 781 = .ok (.dup, 1) := by decide +kernel
theorem d_MOD_init_782 : decode b_MOD_init 782 = .ok (.bipush 9, 2) := by decide +kernel
theorem d_MOD_init_784 : decode b_MOD_init 784 = .ok (.bipush 122, 2) := by decide +kernel
theorem d_MOD_init_786 : decode b_MOD_init 786 = .ok (.iastore, 1) := by decide +kernel
theorem d_MOD_init_787 : decode b_MOD_init 787 = .ok (.dup, 1) := by decide +kernel
theorem d_MOD_init_788 : decode b_MOD_init 788 = .ok (.bipush 10, 2) := by decide +kernel
theorem d_MOD_init_790 : decode b_MOD_init 790 = .ok (.bipush 33, 2) := by decide +kernel
theorem d_MOD_init_792 : decode b_MOD_init 792 = .ok (.iastore, 1) := by decide +kernel
theorem d_MOD_init_793 : decode b_MOD_init 793 = .ok (.dup, 1) := by decide +kernel
theorem d_MOD_init_794 : decode b_MOD_init 794 = .ok (.bipush 11, 2) := by decide +kernel
theorem d_MOD_init_796 : decode b_MOD_init 796 = .ok (.bipush 47, 2) := by decide +kernel
theorem d_MOD_init_798 : decode b_MOD_init 798 = .ok (.iastore, 1) := by decide +kernel
theorem d_MOD_init_799 : decode b_MOD_init 799 = .ok (.dup, 1) := by decide +kernel
theorem d_MOD_init_800 : decode b_MOD_init 800 = .ok (.bipush 12, 2) := by decide +kernel
theorem d_MOD_init_802 : decode b_MOD_init 802 = .ok (.bipush 58, 2) := by decide +kernel
theorem d_MOD_init_804 : decode b_MOD_init 804 = .ok (.iastore, 1) := by decide +kernel
theorem d_MOD_init_805 : decode b_MOD_init 805 = .ok (.dup, 1) := by decide +kernel
theorem d_MOD_init_806 : decode b_MOD_init 806 = .ok (.bipush 13, 2) := by decide +kernel
theorem d_MOD_init_808 : decode b_MOD_init 808 = .ok (.bipush 64, 2) := by decide +kernel
theorem d_MOD_init_810 : decode b_MOD_init 810 = .ok (.iastore, 1) := by decide +kernel
theorem d_MOD_init_811 : decode b_MOD_init 811 = .ok (.dup, 1) := by decide +kernel
theorem d_MOD_init_812 : decode b_MOD_init 812 = .ok (.bipush 14, 2) := by decide +kernel
theorem d_MOD_init_814 : decode b_MOD_init 814 = .ok (.bipush 91, 2) := by decide +kernel
theorem d_MOD_init_816 : decode b_MOD_init 816 = .ok (.iastore, 1) := by decide +kernel
theorem d_MOD_init_817 : decode b_MOD_init 817 = .ok (.dup, 1) := by decide +kernel
theorem d_MOD_init_818 : decode b_MOD_init 818 = .ok (.bipush 15, 2) := by decide +kernel
theorem d_MOD_init_820 : decode b_MOD_init 820 = .ok (.bipush 96, 2) := by decide +kernel
theorem d_MOD_init_822 : decode b_MOD_init 822 = .ok (.iastore, 1) := by decide +kernel
theorem d_MOD_init_823 : decode b_MOD_init 823 = .ok (.dup, 1) := by decide +kernel
theorem d_MOD_init_824 : decode b_MOD_init 824 = .ok (.bipush 16, 2) := by decide +kernel
theorem d_MOD_init_826 : decode b_MOD_init 826 = .ok (.bipush 123, 2) := by decide +kernel
theorem d_MOD_init_828 : decode b_MOD_init 828 = .ok (.iastore, 1) := by decide +kernel
theorem d_MOD_init_829 : decode b_MOD_init 829 = .ok (.dup, 1) := by decide +kernel
theorem d_MOD_init_830 : decode b_MOD_init 830 = .ok (.bipush 17, 2) := by decide +kernel
theorem d_MOD_init_832 : decode b_MOD_init 832 = .ok (.bipush 126, 2) := by decide +kernel
theorem d_MOD_init_834 : decode b_MOD_init 834 = .ok (.iastore, 1) := by decide +kernel
theorem d_MOD_init_835 : decode b_MOD_init 835 = .ok (.dup, 1) := by decide +kernel
theorem d_MOD_init_836 : decode b_MOD_init 836 = .ok (.bipush 18, 2) := by decide +kernel
theorem d_MOD_init_838 : decode b_MOD_init 838 = .ok (.bipush 9, 2) := by decide +kernel
theorem d_MOD_init_840 : decode b_MOD_init 840 = .ok (.iastore, 1) := by decide +kernel
theorem d_MOD_init_841 : decode b_MOD_init 841 = .ok (.dup, 1) := by decide +kernel
theorem d_MOD_init_842 : decode b_MOD_init 842 = .ok (.bipush 19, 2) := by decide +kernel
theorem d_MOD_init_844 : decode b_MOD_init 844 = .ok (.bipush 13, 2) := by decide +kernel
theorem d_MOD_init_846 : decode b_MOD_init 846 = .ok (.iastore, 1) := by decide +kernel
theorem d_MOD_init_847 : decode b_MOD_init 847 = .ok (.dup, 1) := by decide +kernel
theorem d_MOD_init_848 : decode b_MOD_init 848 = .ok (.bipush 20, 2) := by decide +kernel
theorem d_MOD_init_850 : decode b_MOD_init 850 = .ok (.bipush 32, 2) := by decide +kernel
theorem d_MOD_init_852 : decode b_MOD_init 852 = .ok (.iastore, 1) := by decide +kernel
theorem d_MOD_init_853 : decode b_MOD_init 853 = .ok (.dup, 1) := by decide +kernel
theorem d_MOD_init_854 : decode b_MOD_init 854 = .ok (.bipush 21, 2) := by decide +kernel
theorem d_MOD_init_856 : decode b_MOD_init 856 = .ok (.bipush 32, 2) := by decide +kernel
theorem d_MOD_init_858 : decode b_MOD_init 858 = .ok (.iastore, 1) := by decide +kernel
theorem d_MOD_init_859 : decode b_MOD_init 859 = .ok (.putfield 89, 3) := by decide +kernel
theorem d_MOD_init_862 : decode b_MOD_init 862 = .ok (.return_, 1) := by decide +kernel
