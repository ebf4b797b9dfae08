theorem dX11_init_0 : decode cX11_init 0 = .ok (.aload_n 0, 1) := by decide +kernel
theorem dX11_init_1 : decode cX11_init 1 = .ok (.invokespecial 1, 3) := by decide +kernel
theorem dX11_init_4 : decode cX11_init 4 = .ok (.aload_n 0, 1) := by decide +kernel
theorem dX11_init_5 : decode cX11_init 5 = .ok (.new 7, 3) := by decide +kernel
theorem dX11_init_8 : decode cX11_init 8 = .ok (.dup, 1) := by decide +kernel
theorem dX11_init_9 : decode cX11_init 9 = .ok (.invokespecial 9, 3) := by decide +kernel
theorem dX11_init_12 : decode cX11_init 12 = .ok (.putfield 10, 3) := by decide +kernel
theorem dX11_init_15 : decode cX11_init 15 = .ok (.aload_n 0, 1) := by decide +kernel
theorem dX11_init_16 : decode cX11_init 16 = .ok (.new 16, 3) := by decide +kernel
theorem dX11_init_19 : decode cX11_init 19 = .ok (.dup, 1) := by decide +kernel
theorem dX11_init_20 : decode cX11_init 20 = .ok (.invokespecial 18, 3) := by decide +kernel
theorem dX11_init_23 : decode cX11_init 23 = .ok (.putfield 19, 3) := by decide +kernel
theorem dX11_init_26 : decode cX11_init 26 = .ok (.aload_n 0, 1) := by decide +kernel
theorem dX11_init_27 : decode cX11_init 27 = .ok (.new 23, 3) := by decide +kernel
theorem dX11_init_30 : decode cX11_init 30 = .ok (.dup, 1) := by decide +kernel
theorem dX11_init_31 : decode cX11_init 31 = .ok (.invokespecial 25, 3) := by decide +kernel
theorem dX11_init_34 : decode cX11_init 34 = .ok (.putfield 26, 3) := by decide +kernel
theorem dX11_init_37 : decode cX11_init 37 = .ok (.aload_n 0, 1) := by decide +kernel
theorem dX11_init_38 : decode cX11_init 38 = .ok (.iconst 4, 1) := by decide +kernel
theorem dX11_init_39 : decode cX11_init 39 = .ok (.anewarray 30, 3) := by decide +kernel
theorem dX11_init_42 : decode cX11_init 42 = .ok (.putfield 32, 3) := by decide +kernel
theorem dX11_init_45 : decode cX11_init 45 = .ok (.aload_n 0, 1) := by decide +kernel
theorem dX11_init_46 : decode cX11_init 46 = .ok (.invokestatic 36, 3) := by decide +kernel
theorem dX11_init_49 : decode cX11_init 49 = .ok (.putfield 40, 3) := by decide +kernel
theorem dX11_init_52 : decode cX11_init 52 = .ok (.aload_n 0, 1) := by decide +kernel
theorem dX11_init_53 : decode cX11_init 53 = .ok (.new 44, 3) := by decide +kernel
theorem dX11_init_56 : decode cX11_init 56 = .ok (.dup, 1) := by decide +kernel
theorem dX11_init_57 : decode cX11_init 57 = .ok (.invokespecial 46, 3) := by decide +kernel
theorem dX11_init_60 : decode cX11_init 60 = .ok (.putfield 47, 3) := by decide +kernel
theorem dX11_init_63 : decode cX11_init 63 = .ok (.aload_n 0, 1) := by decide +kernel
theorem dX11_init_64 : decode cX11_init 64 = .ok (.new 44, 3) := by decide +kernel
theorem dX11_init_67 : decode cX11_init 67 = .ok (.dup, 1) := by decide +kernel
theorem dX11_init_68 : decode cX11_init 68 = .ok (.invokespecial 46, 3) := by decide +kernel
theorem dX11_init_71 : decode cX11_init 71 = .ok (.putfield 51, 3) := by decide +kernel
theorem dX11_init_74 : decode cX11_init 74 = .ok (.aload_n 0, 1) := by decide +kernel
theorem dX11_init_75 : decode cX11_init 75 = .ok (.new 44, 3) := by decide +kernel
theorem dX11_init_78 : decode cX11_init 78 = .ok (.dup, 1) := by decide +kernel
theorem dX11_init_79 : decode cX11_init 79 = .ok (.invokespecial 46, 3) := by decide +kernel
theorem dX11_init_82 : decode cX11_init 82 = .ok (.putfield 54, 3) := by decide +kernel
theorem dX11_init_85 : decode cX11_init 85 = .ok (.aload_n 0, 1) := by decide +kernel
theorem dX11_init_86 : decode cX11_init 86 = .ok (.new 57, 3) := by decide +kernel
theorem dX11_init_89 : decode cX11_init 89 = .ok (.dup, 1) := by decide +kernel
theorem dX11_init_90 : decode cX11_init 90 = .ok (.invokespecial 59, 3) := by decide +kernel
theorem dX11_init_93 : decode cX11_init 93 = .ok (.putfield 60, 3) := by decide +kernel
theorem dX11_init_96 : decode cX11_init 96 = .ok (.aload_n 0, 1) := by decide +kernel
theorem dX11_init_97 : decode cX11_init 97 = .ok (.new 64, 3) := by decide +kernel
theorem dX11_init_100 : decode cX11_init 100 = .ok (.dup, 1) := by decide +kernel
theorem dX11_init_101 : decode cX11_init 101 = .ok (.invokespecial 66, 3) := by decide +kernel
theorem dX11_init_104 : decode cX11_init 104 = .ok (.putfield 67, 3) := by decide +kernel
theorem dX11_init_107 : decode cX11_init 107 = .ok (.aload_n 0, 1) := by decide +kernel
theorem dX11_init_108 : decode cX11_init 108 = .ok (.new 71, 3) := by decide +kernel
theorem dX11_init_111 : decode cX11_init 111 = .ok (.dup, 1) := by decide +kernel
theorem dX11_init_112 : decode cX11_init 112 = .ok (.invokespecial 73, 3) := by decide +kernel
theorem dX11_init_115 : decode cX11_init 115 = .ok (.putfield 74, 3) := by decide +kernel
theorem dX11_init_118 : decode cX11_init 118 = .ok (.aload_n 0, 1) := by decide +kernel
theorem dX11_init_119 : decode cX11_init 119 = .ok (.new 78, 3) := by decide +kernel
theorem dX11_init_122 : decode cX11_init 122 = .ok (.dup, 1) := by decide +kernel
theorem dX11_init_123 : decode cX11_init 123 = .ok (.invokespecial 80, 3) := by decide +kernel
theorem dX11_init_126 : decode cX11_init 126 = .ok (.putfield 81, 3) := by decide +kernel
theorem dX11_init_129 : decode cX11_init 129 = .ok (.aload_n 0, 1) := by decide +kernel
theorem dX11_init_130 : decode cX11_init 130 = .ok (.new 85, 3) := by decide +kernel
theorem dX11_init_133 : decode cX11_init 133 = .ok (.dup, 1) := by decide +kernel
theorem dX11_init_134 : decode cX11_init 134 = .ok (.aload_n 0, 1) := by decide +kernel
theorem dX11_init_135 : decode cX11_init 135 = .ok (.getfield 47, 3) := by decide +kernel
theorem dX11_init_138 : decode cX11_init 138 = .ok (.aload_n 0, 1) := by decide +kernel
theorem dX11_init_139 : decode cX11_init 139 = .ok (.getfield 40, 3) := by decide +kernel
theorem dX11_init_142 : decode cX11_init 142 = .ok (.invokespecial 87, 3) := by decide +kernel
theorem dX11_init_145 : decode cX11_init 145 = .ok (.putfield 90, 3) := by decide +kernel
theorem dX11_init_148 : decode cX11_init 148 = .ok (.aload_n 0, 1) := by decide +kernel
theorem dX11_init_149 : decode cX11_init 149 = .ok (.iconst 0, 1) := by decide +kernel
theorem dX11_init_150 : decode cX11_init 150 = .ok (.putfield 94, 3) := by decide +kernel
theorem dX11_init_153 : decode cX11_init 153 = .ok (.aload_n 0, 1) := by decide +kernel
theorem dX11_init_154 : decode cX11_init 154 = .ok (.iconst (-1), 1) := by decide +kernel
theorem dX11_init_155 : decode cX11_init 155 = .ok (.putfield 98, 3) := by decide +kernel
theorem dX11_init_158 : decode cX11_init 158 = .ok (.aload_n 0, 1) := by decide +kernel
theorem dX11_init_159 : decode cX11_init 159 = .ok (.iconst 0, 1) := by decide +kernel
theorem dX11_init_160 : decode cX11_init 160 = .ok (.putfield 101, 3) := by decide +kernel
theorem dX11_init_163 : decode cX11_init 163 = .ok (.return_, 1) := by decide +kernel
theorem dX12_init_0 : decode cX12_init 0 = .ok (.aload_n 0, 1) := by decide +kernel
theorem dX12_init_1 : decode cX12_init 1 = .ok (.invokespecial 3, 3) := by decide +kernel
theorem dX12_init_4 : decode cX12_init 4 = .ok (.aload_n 0, 1) := by decide +kernel
theorem dX12_init_5 : decode cX12_init 5 = .ok (.sipush 160, 3) := by decide +kernel
theorem dX12_init_8 : decode cX12_init 8 = .ok (.newarray .int, 2) := by decide +kernel
theorem dX12_init_10 : decode cX12_init 10 = .ok (.putfield 9, 3) := by decide +kernel
theorem dX12_init_13 : decode cX12_init 13 = .ok (.aload_n 0, 1) := by decide +kernel
theorem dX12_init_14 : decode cX12_init 14 = .ok (.sipush 1700, 3) := by decide +kernel
theorem dX12_init_17 : decode cX12_init 17 = .ok (.newarray .int, 2) := by decide +kernel
theorem dX12_init_19 : decode cX12_init 19 = .ok (.putfield 13, 3) := by decide +kernel
theorem dX12_init_22 : decode cX12_init 22 = .ok (.aload_n 0, 1) := by decide +kernel
theorem dX12_init_23 : decode cX12_init 23 = .ok (.sipush 1700, 3) := by decide +kernel
theorem dX12_init_26 : decode cX12_init 26 = .ok (.newarray .int, 2) := by decide +kernel
theorem dX12_init_28 : decode cX12_init 28 = .ok (.putfield 16, 3) := by decide +kernel
theorem dX12_init_31 : decode cX12_init 31 = .ok (.aload_n 0, 1) := by decide +kernel
theorem dX12_init_32 : decode cX12_init 32 = .ok (.iconst 5, 1) := by decide +kernel
theorem dX12_init_33 : decode cX12_init 33 = .ok (.newarray .int, 2) := by decide +kernel
theorem dX12_init_35 : decode cX12_init 35 = .ok (.putfield 19, 3) := by decide +kernel
theorem dX12_init_38 : decode cX12_init 38 = .ok (.aload_n 0, 1) := by decide +kernel
theorem dX12_init_39 : decode cX12_init 39 = .ok (.iconst 5, 1) := by decide +kernel
theorem dX12_init_40 : decode cX12_init 40 = .ok (.newarray .int, 2) := by decide +kernel
theorem dX12_init_42 : decode cX12_init 42 = .ok (.putfield 22, 3) := by decide +kernel
theorem dX12_init_45 : decode cX12_init 45 = .ok (.aload_n 0, 1) := by decide +kernel
theorem dX12_init_46 : decode cX12_init 46 = .ok (.sipush 450, 3) := by decide +kernel
theorem dX12_init_49 : decode cX12_init 49 = .ok (.newarray .int, 2) := by decide +kernel
theorem dX12_init_51 : decode cX12_init 51 = .ok (.putfield 25, 3) := by decide +kernel
theorem dX12_init_54 : decode cX12_init 54 = .ok (.aload_n 0, 1) := by decide +kernel
theorem dX12_init_55 : decode cX12_init 55 = .ok (.sipush 450, 3) := by decide +kernel
theorem dX12_init_58 : decode cX12_init 58 = .ok (.newarray .int, 2) := by decide +kernel
theorem dX12_init_60 : decode cX12_init 60 = .ok (.putfield 28, 3) := by decide +kernel
theorem dX12_init_63 : decode cX12_init 63 = .ok (.aload_n 0, 1) := by decide +kernel
theorem dX12_init_64 : decode cX12_init 64 = .ok (.sipush 450, 3) := by decide +kernel
theorem dX12_init_67 : decode cX12_init 67 = .ok (.newarray .int, 2) := by decide +kernel
theorem dX12_init_69 : decode cX12_init 69 = .ok (.putfield 31, 3) := by decide +kernel
theorem dX12_init_72 : decode cX12_init 72 = .ok (.aload_n 0, 1) := by decide +kernel
theorem dX12_init_73 : decode cX12_init 73 = .ok (.bipush 6, 2) := by decide +kernel
theorem dX12_init_75 : decode cX12_init 75 = .ok (.newarray .int, 2) := by decide +kernel
theorem dX12_init_77 : decode cX12_init 77 = .ok (.putfield 34, 3) := by decide +kernel
theorem dX12_init_80 : decode cX12_init 80 = .ok (.aload_n 0, 1) := by decide +kernel
theorem dX12_init_81 : decode cX12_init 81 = .ok (.bipush 80, 2) := by decide +kernel
theorem dX12_init_83 : decode cX12_init 83 = .ok (.newarray .int, 2) := by decide +kernel
theorem dX12_init_85 : decode cX12_init 85 = .ok (.putfield 37, 3) := by decide +kernel
theorem dX12_init_88 : decode cX12_init 88 = .ok (.aload_n 0, 1) := by decide +kernel
theorem dX12_init_89 : decode cX12_init 89 = .ok (.bipush 32, 2) := by decide +kernel
theorem dX12_init_91 : decode cX12_init 91 = .ok (.newarray .int, 2) := by decide +kernel
theorem dX12_init_93 : decode cX12_init 93 = .ok (.putfield 40, 3) := by decide +kernel
theorem dX12_init_96 : decode cX12_init 96 = .ok (.aload_n 0, 1) := by decide +kernel
theorem dX12_init_97 : decode cX12_init 97 = .ok (.bipush 40, 2) := by decide +kernel
theorem dX12_init_99 : decode cX12_init 99 = .ok (.newarray .int, 2) := by decide +kernel
theorem dX12_init_101 : decode cX12_init 101 = .ok (.putfield 43, 3) := by decide +kernel
theorem dX12_init_104 : decode cX12_init 104 = .ok (.aload_n 0, 1) := by decide +kernel
theorem dX12_init_105 : decode cX12_init 105 = .ok (.bipush 32, 2) := by decide +kernel
theorem dX12_init_107 : decode cX12_init 107 = .ok (.newarray .int, 2) := by decide +kernel
theorem dX12_init_109 : decode cX12_init 109 = .ok (.putfield 46, 3) := by decide +kernel
theorem dX12_init_112 : decode cX12_init 112 = .ok (.aload_n 0, 1) := by decide +kernel
theorem dX12_init_113 : decode cX12_init 113 = .ok (.bipush 10, 2) := by decide +kernel
theorem dX12_init_115 : decode cX12_init 115 = .ok (.newarray .int, 2) := by decide +kernel
theorem dX12_init_117 : decode cX12_init 117 = .ok (.putfield 49, 3) := by decide +kernel
theorem dX12_init_120 : decode cX12_init 120 = .ok (.aload_n 0, 1) := by decide +kernel
theorem dX12_init_121 : decode cX12_init 121 = .ok (.bipush 10, 2) := by decide +kernel
theorem dX12_init_123 : decode cX12_init 123 = .ok (.newarray .int, 2) := by decide +kernel
theorem dX12_init_125 : decode cX12_init 125 = .ok (.putfield 52, 3) := by decide +kernel
theorem dX12_init_128 : decode cX12_init 128 = .ok (.aload_n 0, 1) := by decide +kernel
theorem dX12_init_129 : decode cX12_init 129 = .ok (.bipush 90, 2) := by decide +kernel
theorem dX12_init_131 : decode cX12_init 131 = .ok (.newarray .int, 2) := by decide +kernel
theorem dX12_init_133 : decode cX12_init 133 = .ok (.putfield 55, 3) := by decide +kernel
theorem dX12_init_136 : decode cX12_init 136 = .ok (.aload_n 0, 1) := by decide +kernel
theorem dX12_init_137 : decode cX12_init 137 = .ok (.bipush 90, 2) := by decide +kernel
theorem dX12_init_139 : decode cX12_init 139 = .ok (.newarray .int, 2) := by decide +kernel
theorem dX12_init_141 : decode cX12_init 141 = .ok (.putfield 58, 3) := by decide +kernel
theorem dX12_init_144 : decode cX12_init 144 = .ok (.aload_n 0, 1) := by decide +kernel
theorem dX12_init_145 : decode cX12_init 145 = .ok (.bipush 90, 2) := by decide +kernel
theorem dX12_init_147 : decode cX12_init 147 = .ok (.newarray .int, 2) := by decide +kernel
theorem dX12_init_149 : decode cX12_init 149 = .ok (.putfield 61, 3) := by decide +kernel
theorem dX12_init_152 : decode cX12_init 152 = .ok (.aload_n 0, 1) := by decide +kernel
theorem dX12_init_153 : decode cX12_init 153 = .ok (.iconst (-1), 1) := by decide +kernel
theorem dX12_init_154 : decode cX12_init 154 = .ok (.putfield 64, 3) := by decide +kernel
theorem dX12_init_157 : decode cX12_init 157 = .ok (.aload_n 0, 1) := by decide +kernel
theorem dX12_init_158 : decode cX12_init 158 = .ok (.bipush 50, 2) := by decide +kernel
theorem dX12_init_160 : decode cX12_init 160 = .ok (.putfield 68, 3) := by decide +kernel
theorem dX12_init_163 : decode cX12_init 163 = .ok (.aload_n 0, 1) := by decide +kernel
theorem dX12_init_164 : decode cX12_init 164 = .ok (.bipush 10, 2) := by decide +kernel
theorem dX12_init_166 : decode cX12_init 166 = .ok (.putfield 71, 3) := by decide +kernel
theorem dX12_init_169 : decode cX12_init 169 = .ok (.aload_n 0, 1) := by decide +kernel
theorem dX12_init_170 : decode cX12_init 170 = .ok (.bipush 8, 2) := by decide +kernel
theorem dX12_init_172 : decode cX12_init 172 = .ok (.newarray .int, 2) := by decide +kernel
theorem dX12_init_174 : decode cX12_init 174 = .ok (.putfield 74, 3) := by decide +kernel
theorem dX12_init_177 : decode cX12_init 177 = .ok (.aload_n 0, 1) := by decide +kernel
theorem dX12_init_178 : decode cX12_init 178 = .ok (.bipush 10, 2) := by decide +kernel
theorem dX12_init_180 : decode cX12_init 180 = .ok (.newarray .int, 2) := by decide +kernel
theorem dX12_init_182 : decode cX12_init 182 = .ok (.putfield 77, 3) := by decide +kernel
theorem dX12_init_185 : decode cX12_init 185 = .ok (.aload_n 0, 1) := by decide +kernel
theorem dX12_init_186 : decode cX12_init 186 = .ok (.bipush 10, 2) := by decide +kernel
theorem dX12_init_188 : decode cX12_init 188 = .ok (.newarray .int, 2) := by decide +kernel
theorem dX12_init_190 : decode cX12_init 190 = .ok (.putfield 80, 3) := by decide +kernel
theorem dX12_init_193 : decode cX12_init 193 = .ok (.aload_n 0, 1) := by decide +kernel
theorem dX12_init_194 : decode cX12_init 194 = .ok (.sipush 600, 3) := by decide +kernel
theorem dX12_init_197 : decode cX12_init 197 = .ok (.newarray .int, 2) := by decide +kernel
theorem dX12_init_199 : decode cX12_init 199 = .ok (.putfield 83, 3) := by decide +kernel
theorem dX12_init_202 : decode cX12_init 202 = .ok (.aload_n 0, 1) := by decide +kernel
theorem dX12_init_203 : decode cX12_init 203 = .ok (.sipush 600, 3) := by decide +kernel
theorem dX12_init_206 : decode cX12_init 206 = .ok (.newarray .int, 2) := by decide +kernel
theorem dX12_init_208 : decode cX12_init 208 = .ok (.putfield 86, 3) := by decide +kernel
theorem dX12_init_211 : decode cX12_init 211 = .ok (.aload_n 0, 1) := by decide +kernel
theorem dX12_init_212 : decode cX12_init 212 = .ok (.bipush 40, 2) := by decide +kernel
theorem dX12_init_214 : decode cX12_init 214 = .ok (.newarray .int, 2) := by decide +kernel
theorem dX12_init_216 : decode cX12_init 216 = .ok (.putfield 89, 3) := by decide +kernel
theorem dX12_init_219 : decode cX12_init 219 = .ok (.aload_n 0, 1) := by decide +kernel
theorem dX12_init_220 : decode cX12_init 220 = .ok (.bipush 40, 2) := by decide +kernel
theorem dX12_init_222 : decode cX12_init 222 = .ok (.newarray .int, 2) := by decide +kernel
theorem dX12_init_224 : decode cX12_init 224 = .ok (.putfield 92, 3) := by decide +kernel
theorem dX12_init_227 : decode cX12_init 227 = .ok (.aload_n 0, 1) := by decide +kernel
theorem dX12_init_228 : decode cX12_init 228 = .ok (.bipush 40, 2) := by decide +kernel
theorem dX12_init_230 : decode cX12_init 230 = .ok (.newarray .int, 2) := by decide +kernel
theorem dX12_init_232 : decode cX12_init 232 = .ok (.putfield 95, 3) := by decide +kernel
theorem dX12_init_235 : decode cX12_init 235 = .ok (.aload_n 0, 1) := by decide +kernel
theorem dX12_init_236 : decode cX12_init 236 = .ok (.bipush 8, 2) := by decide +kernel
theorem dX12_init_238 : decode cX12_init 238 = .ok (.newarray .int, 2) := by decide +kernel
theorem dX12_init_240 : decode cX12_init 240 = .ok (.putfield 98, 3) := by decide +kernel
theorem dX12_init_243 : decode cX12_init 243 = .ok (.aload_n 0, 1) := by decide +kernel
theorem dX12_init_244 : decode cX12_init 244 = .ok (.sipush 168, 3) := by decide +kernel
theorem dX12_init_247 : decode cX12_init 247 = .ok (.newarray .long, 2) := by decide +kernel
theorem dX12_init_249 : decode cX12_init 249 = .ok (.putfield 101, 3) := by decide +kernel
theorem dX12_init_252 : decode cX12_init 252 = .ok (.aload_n 0, 1) := by decide +kernel
theorem dX12_init_253 : decode cX12_init 253 = .ok (.sipush 168, 3) := by decide +kernel
theorem dX12_init_256 : decode cX12_init 256 = .ok (.newarray .long, 2) := by decide +kernel
theorem dX12_init_258 : decode cX12_init 258 = .ok (.putfield 105, 3) := by decide +kernel
theorem dX12_init_261 : decode cX12_init 261 = .ok (.aload_n 0, 1) := by decide +kernel
theorem dX12_init_262 : decode cX12_init 262 = .ok (.bipush 22, 2) := by decide +kernel
theorem dX12_init_264 : decode cX12_init 264 = .ok (.newarray .long, 2) := by decide +kernel
theorem dX12_init_266 : decode cX12_init 266 = .ok (.putfield 108, 3) := by decide +kernel
theorem dX12_init_269 : decode cX12_init 269 = .ok (.aload_n 0, 1) := by decide +kernel
theorem dX12_init_270 : decode cX12_init 270 = .ok (.sipush 600, 3) := by decide +kernel
theorem dX12_init_273 : decode cX12_init 273 = .ok (.newarray .int, 2) := by decide +kernel
theorem dX12_init_275 : decode cX12_init 275 = .ok (.putfield 111, 3) := by decide +kernel
theorem dX12_init_278 : decode cX12_init 278 = .ok (.aload_n 0, 1) := by decide +kernel
theorem dX12_init_279 : decode cX12_init 279 = .ok (.sipush 600, 3) := by decide +kernel
theorem dX12_init_282 : decode cX12_init 282 = .ok (.newarray .int, 2) := by decide +kernel
theorem dX12_init_284 : decode cX12_init 284 = .ok (.putfield 114, 3) := by decide +kernel
theorem dX12_init_287 : decode cX12_init 287 = .ok (.return_, 1) := by decide +kernel
def w_X11_init : List Cond := .code yX11_init cX11_init 1 none :: ([Cond.methodLink RX11 1 objectInit, Cond.instanceMethod objectInit, Cond.code objectInit ⟨#[0xb1]⟩ 1 none, Cond.classLink RX11 7 RX8, Cond.instantiable RX8 4, Cond.initialized RX8, Cond.instanceMethod yX8_init, Cond.fieldLink RX11 10 "HeadYear" "tape" "LHeadYear$Tape;", Cond.classLink RX11 16 RX10, Cond.instantiable RX10 2, Cond.initialized RX10, Cond.instanceMethod yX10_init, Cond.fieldLink RX11 19 "HeadYear" "valleyReader" "LHeadYear$ValleyReader;", Cond.classLink RX11 23 RX4, Cond.instantiable RX4 1, Cond.initialized RX4, Cond.instanceMethod yX4_init, Cond.fieldLink RX11 26 "HeadYear" "lawReader" "LHeadYear$LawReader;", Cond.classLink RX11 30 RX3, Cond.fieldLink RX11 32 "HeadYear" "laws" "[LHeadYear$Law;", Cond.methodLink RX11 36 yX3_bornLessDead, Cond.static yX3_bornLessDead, Cond.initialized RX3, Cond.fieldLink RX11 40 "HeadYear" "noLaw" "LHeadYear$Law;", Cond.classLink RX11 44 RX2, Cond.instantiable RX2 12, Cond.initialized RX2, Cond.instanceMethod yX2_init, Cond.fieldLink RX11 47 "HeadYear" "folk" "LHeadYear$Folk;", Cond.fieldLink RX11 51 "HeadYear" "trial" "LHeadYear$Folk;", Cond.fieldLink RX11 54 "HeadYear" "imageFolk" "LHeadYear$Folk;", Cond.classLink RX11 57 RX1, Cond.instantiable RX1 3, Cond.initialized RX1, Cond.instanceMethod yX1_init, Cond.fieldLink RX11 60 "HeadYear" "diary" "LHeadYear$Diary;", Cond.classLink RX11 64 RX0, Cond.instantiable RX0 5, Cond.initialized RX0, Cond.instanceMethod yX0_init, Cond.fieldLink RX11 67 "HeadYear" "buyings" "LHeadYear$Buyings;", Cond.classLink RX11 71 RX7, Cond.instantiable RX7 5, Cond.initialized RX7, Cond.instanceMethod yX7_init, Cond.fieldLink RX11 74 "HeadYear" "seasons" "LHeadYear$Seasons;", Cond.classLink RX11 78 RX5, Cond.instantiable RX5 1, Cond.initialized RX5, Cond.instanceMethod yX5_init, Cond.fieldLink RX11 81 "HeadYear" "moves" "LHeadYear$Moves;", Cond.classLink RX11 85 RX6, Cond.instantiable RX6 7, Cond.initialized RX6, Cond.methodLink RX11 87 yX6_init, Cond.instanceMethod yX6_init, Cond.fieldLink RX11 90 "HeadYear" "chances" "LHeadYear$Odds;", Cond.fieldLink RX11 94 "HeadYear" "lawCount" "I", Cond.fieldLink RX11 98 "HeadYear" "heldLaw" "I", Cond.fieldLink RX11 101 "HeadYear" "imaged" "Z"] ++ (u_ws RX8 TX8 4 ++ (u_ws RX11 TX11 16 ++ (u_ws RX10 TX10 2 ++ (u_ws RX4 TX4 1 ++ (u_ws RX2 TX2 12 ++ (u_ws RX1 TX1 3 ++ (u_ws RX0 TX0 5 ++ (u_ws RX7 TX7 5 ++ (u_ws RX5 TX5 1 ++ (u_ws RX6 TX6 7 ++ (w_X8_init ++ (w_X10_init ++ (w_X4_init ++ (w_X3_bornLessDead ++ (w_X2_init ++ (w_X1_init ++ (w_X0_init ++ (w_X7_init ++ (w_X5_init ++ (w_X6_init ++ ([]))))))))))))))))))))))
theorem in_X11_init_X8 : ∀ w ∈ u_ws RX8 TX8 4, w ∈ w_X11_init := fun _ h => List.mem_cons_of_mem _ (List.mem_append_right _ (List.mem_append_left _ h))
theorem in_X11_init_X11 : ∀ w ∈ u_ws RX11 TX11 16, w ∈ w_X11_init := fun _ h => List.mem_cons_of_mem _ (List.mem_append_right _ (List.mem_append_right _ (List.mem_append_left _ h)))
theorem in_X11_init_X10 : ∀ w ∈ u_ws RX10 TX10 2, w ∈ w_X11_init := fun _ h => List.mem_cons_of_mem _ (List.mem_append_right _ (List.mem_append_right _ (List.mem_append_right _ (List.mem_append_left _ h))))
theorem in_X11_init_X4 : ∀ w ∈ u_ws RX4 TX4 1, w ∈ w_X11_init := fun _ h => List.mem_cons_of_mem _ (List.mem_append_right _ (List.mem_append_right _ (List.mem_append_right _ (List.mem_append_right _ (List.mem_append_left _ h)))))
theorem in_X11_init_X2 : ∀ w ∈ u_ws RX2 TX2 12, w ∈ w_X11_init := fun _ h => List.mem_cons_of_mem _ (List.mem_append_right _ (List.mem_append_right _ (List.mem_append_right _ (List.mem_append_right _ (List.mem_append_right _ (List.mem_append_left _ h))))))
theorem in_X11_init_X1 : ∀ w ∈ u_ws RX1 TX1 3, w ∈ w_X11_init := fun _ h => List.mem_cons_of_mem _ (List.mem_append_right _ (List.mem_append_right _ (List.mem_append_right _ (List.mem_append_right _ (List.mem_append_right _ (List.mem_append_right _ (List.mem_append_left _ h)))))))
theorem in_X11_init_X0 : ∀ w ∈ u_ws RX0 TX0 5, w ∈ w_X11_init := fun _ h => List.mem_cons_of_mem _ (List.mem_append_right _ (List.mem_append_right _ (List.mem_append_right _ (List.mem_append_right _ (List.mem_append_right _ (List.mem_append_right _ (List.mem_append_right _ (List.mem_append_left _ h))))))))
theorem in_X11_init_X7 : ∀ w ∈ u_ws RX7 TX7 5, w ∈ w_X11_init := fun _ h => List.mem_cons_of_mem _ (List.mem_append_right _ (List.mem_append_right _ (List.mem_append_right _ (List.mem_append_right _ (List.mem_append_right _ (List.mem_append_right _ (List.mem_append_right _ (List.mem_append_right _ (List.mem_append_left _ h)))))))))
theorem in_X11_init_X5 : ∀ w ∈ u_ws RX5 TX5 1, w ∈ w_X11_init := fun _ h => List.mem_cons_of_mem _ (List.mem_append_right _ (List.mem_append_right _ (List.mem_append_right _ (List.mem_append_right _ (List.mem_append_right _ (List.mem_append_right _ (List.mem_append_right _ (List.mem_append_right _ (List.mem_append_right _ (List.mem_append_left _ h))))))))))
theorem in_X11_init_X6 : ∀ w ∈ u_ws RX6 TX6 7, w ∈ w_X11_init := fun _ h => List.mem_cons_of_mem _ (List.mem_append_right _ (List.mem_append_right _ (List.mem_append_right _ (List.mem_append_right _ (List.mem_append_right _ (List.mem_append_right _ (List.mem_append_right _ (List.mem_append_right _ (List.mem_append_right _ (List.mem_append_right _ (List.mem_append_left _ h)))))))))))
theorem gg_X11_init_X8_init : GoodIn w_X11_init w_X8_init := goodIn_sub (fun _ h => List.mem_cons_of_mem _ (List.mem_append_right _ (List.mem_append_right _ (List.mem_append_right _ (List.mem_append_right _ (List.mem_append_right _ (List.mem_append_right _ (List.mem_append_right _ (List.mem_append_right _ (List.mem_append_right _ (List.mem_append_right _ (List.mem_append_right _ (List.mem_append_left _ h))))))))))))) (by decide +kernel)
theorem gg_X11_init_X10_init : GoodIn w_X11_init w_X10_init := goodIn_sub (fun _ h => List.mem_cons_of_mem _ (List.mem_append_right _ (List.mem_append_right _ (List.mem_append_right _ (List.mem_append_right _ (List.mem_append_right _ (List.mem_append_right _ (List.mem_append_right _ (List.mem_append_right _ (List.mem_append_right _ (List.mem_append_right _ (List.mem_append_right _ (List.mem_append_right _ (List.mem_append_left _ h)))))))))))))) (by decide +kernel)
theorem gg_X11_init_X4_init : GoodIn w_X11_init w_X4_init := goodIn_sub (fun _ h => List.mem_cons_of_mem _ (List.mem_append_right _ (List.mem_append_right _ (List.mem_append_right _ (List.mem_append_right _ (List.mem_append_right _ (List.mem_append_right _ (List.mem_append_right _ (List.mem_append_right _ (List.mem_append_right _ (List.mem_append_right _ (List.mem_append_right _ (List.mem_append_right _ (List.mem_append_right _ (List.mem_append_left _ h))))))))))))))) (by decide +kernel)
theorem gg_X11_init_X3_bornLessDead : GoodIn w_X11_init w_X3_bornLessDead := goodIn_sub (fun _ h => List.mem_cons_of_mem _ (List.mem_append_right _ (List.mem_append_right _ (List.mem_append_right _ (List.mem_append_right _ (List.mem_append_right _ (List.mem_append_right _ (List.mem_append_right _ (List.mem_append_right _ (List.mem_append_right _ (List.mem_append_right _ (List.mem_append_right _ (List.mem_append_right _ (List.mem_append_right _ (List.mem_append_right _ (List.mem_append_left _ h)))))))))))))))) (by decide +kernel)
theorem gg_X11_init_X2_init : GoodIn w_X11_init w_X2_init := goodIn_sub (fun _ h => List.mem_cons_of_mem _ (List.mem_append_right _ (List.mem_append_right _ (List.mem_append_right _ (List.mem_append_right _ (List.mem_append_right _ (List.mem_append_right _ (List.mem_append_right _ (List.mem_append_right _ (List.mem_append_right _ (List.mem_append_right _ (List.mem_append_right _ (List.mem_append_right _ (List.mem_append_right _ (List.mem_append_right _ (List.mem_append_right _ (List.mem_append_left _ h))))))))))))))))) (by decide +kernel)
theorem gg_X11_init_X1_init : GoodIn w_X11_init w_X1_init := goodIn_sub (fun _ h => List.mem_cons_of_mem _ (List.mem_append_right _ (List.mem_append_right _ (List.mem_append_right _ (List.mem_append_right _ (List.mem_append_right _ (List.mem_append_right _ (List.mem_append_right _ (List.mem_append_right _ (List.mem_append_right _ (List.mem_append_right _ (List.mem_append_right _ (List.mem_append_right _ (List.mem_append_right _ (List.mem_append_right _ (List.mem_append_right _ (List.mem_append_right _ (List.mem_append_left _ h)))))))))))))))))) (by decide +kernel)
theorem gg_X11_init_X0_init : GoodIn w_X11_init w_X0_init := goodIn_sub (fun _ h => List.mem_cons_of_mem _ (List.mem_append_right _ (List.mem_append_right _ (List.mem_append_right _ (List.mem_append_right _ (List.mem_append_right _ (List.mem_append_right _ (List.mem_append_right _ (List.mem_append_right _ (List.mem_append_right _ (List.mem_append_right _ (List.mem_append_right _ (List.mem_append_right _ (List.mem_append_right _ (List.mem_append_right _ (List.mem_append_right _ (List.mem_append_right _ (List.mem_append_right _ (List.mem_append_left _ h))))))))))))))))))) (by decide +kernel)
theorem gg_X11_init_X7_init : GoodIn w_X11_init w_X7_init := goodIn_sub (fun _ h => List.mem_cons_of_mem _ (List.mem_append_right _ (List.mem_append_right _ (List.mem_append_right _ (List.mem_append_right _ (List.mem_append_right _ (List.mem_append_right _ (List.mem_append_right _ (List.mem_append_right _ (List.mem_append_right _ (List.mem_append_right _ (List.mem_append_right _ (List.mem_append_right _ (List.mem_append_right _ (List.mem_append_right _ (List.mem_append_right _ (List.mem_append_right _ (List.mem_append_right _ (List.mem_append_right _ (List.mem_append_left _ h)))))))))))))))))))) (by decide +kernel)
theorem gg_X11_init_X5_init : GoodIn w_X11_init w_X5_init := goodIn_sub (fun _ h => List.mem_cons_of_mem _ (List.mem_append_right _ (List.mem_append_right _ (List.mem_append_right _ (List.mem_append_right _ (List.mem_append_right _ (List.mem_append_right _ (List.mem_append_right _ (List.mem_append_right _ (List.mem_append_right _ (List.mem_append_right _ (List.mem_append_right _ (List.mem_append_right _ (List.mem_append_right _ (List.mem_append_right _ (List.mem_append_right _ (List.mem_append_right _ (List.mem_append_right _ (List.mem_append_right _ (List.mem_append_right _ (List.mem_append_left _ h))))))))))))))))))))) (by decide +kernel)
theorem gg_X11_init_X6_init : GoodIn w_X11_init w_X6_init := goodIn_sub (fun _ h => List.mem_cons_of_mem _ (List.mem_append_right _ (List.mem_append_right _ (List.mem_append_right _ (List.mem_append_right _ (List.mem_append_right _ (List.mem_append_right _ (List.mem_append_right _ (List.mem_append_right _ (List.mem_append_right _ (List.mem_append_right _ (List.mem_append_right _ (List.mem_append_right _ (List.mem_append_right _ (List.mem_append_right _ (List.mem_append_right _ (List.mem_append_right _ (List.mem_append_right _ (List.mem_append_right _ (List.mem_append_right _ (List.mem_append_right _ (List.mem_append_left _ h)))))))))))))))))))))) (by decide +kernel)
theorem g_X11_init_X0_init_66 : GoodIn w_X11_init w_X0_init := gg_X11_init_X0_init
theorem g_X11_init_X10_init_18 : GoodIn w_X11_init w_X10_init := gg_X11_init_X10_init
theorem g_X11_init_X1_init_59 : GoodIn w_X11_init w_X1_init := gg_X11_init_X1_init
theorem g_X11_init_X2_init_46 : GoodIn w_X11_init w_X2_init := gg_X11_init_X2_init
theorem g_X11_init_X3_bornLessDead_36 : GoodIn w_X11_init (va_wsS RX11 36 yX3_bornLessDead w_X3_bornLessDead) := goodIn_app (goodIn_of _ (by decide +kernel)) gg_X11_init_X3_bornLessDead
theorem g_X11_init_X4_init_25 : GoodIn w_X11_init w_X4_init := gg_X11_init_X4_init
theorem g_X11_init_X5_init_80 : GoodIn w_X11_init w_X5_init := gg_X11_init_X5_init
theorem g_X11_init_X6_init_87 : GoodIn w_X11_init w_X6_init := gg_X11_init_X6_init
theorem g_X11_init_X7_init_73 : GoodIn w_X11_init w_X7_init := gg_X11_init_X7_init
theorem g_X11_init_X8_init_9 : GoodIn w_X11_init w_X8_init := gg_X11_init_X8_init
set_option maxHeartbeats 4000000 in
set_option maxRecDepth 100000 in
theorem c_X11_init (l : Launch) (E : py_E) (L : List Nat) (f : py_F) (sz : Nat) (h : Nat) (hh : py_at L f h (.inr (11, [.null, .null, .null, .null, .null, .null, .null, .null, .null, .null, .null, .null, .null, .int 0, .int 0, .int 0]))) : Met l yX11_init w_X11_init ({ frames := 3, cells := 96, slots := 2936, locals := 52 }) (py_Pc E [.ref h] L f sz) (py_Qv E L f sz (fun L1 f1 => fr_H E L1 f1 h ∧ py_ext L f L1 f1 h)) 96 2936 (va_A (va_pl L f) sz) := by
  refine Met.ofW (cc := cX11_init) (maxL := 1) (ret := none) (by decide) rfl ?_
  intro p e s m args below meth c s₁ B hml hv
  obtain ⟨rfl, rfl, hw⟩ := py_start hv
  have G : CallFix p m c cX11_init 1 s _ w_X11_init RX11 := ⟨B.exec, B.bytes, hml, findClass_of_methodNamed B.named, atoms_spec (ws := w_X11_init) B.pre⟩
  have hr := B.returns
  have hlk := B.notSynchronized
  have hin : meth.name = "<init>" := (name_of_methodNamed B.named B.method).1
  have hl := lv_entry ([.ref h]) (n := 1) (Nat.le_of_ble_eq_true rfl)
  rw [lg_entry_eq]
  generalize (lg_sl ([.ref h]) ++ List.replicate (1 - (lg_sl ([.ref h])).length) Slot.unset).toArray = ls at hl ⊢
  have hl : lv_has ls 1 [(0, .ref h)] := hl
  refine lv_aload_n G.1 G.2.1 dX11_init_0 rfl (lv_at hl 0 rfl) ?_
  refine py_objInit G hl.1 (by decide +kernel) (by decide +kernel) (by decide +kernel) dX11_init_1 (Nat.le_of_ble_eq_true rfl) (Nat.le_of_ble_eq_true rfl) ?_
  refine lv_aload_n G.1 G.2.1 dX11_init_4 rfl (lv_at hl 0 rfl) ?_
  refine py_new (C := RX8) (T := TX8) (N := 4) (ci := 8) (fs := [.null, .int 0, .int 0, .int 0]) (ty0 := tyX8) G hw tyX8_ok in_X11_init_X8 rfl (by decide +kernel) (by decide +kernel) (by decide +kernel) (fun j hj => match j, hj with | 0, _ => rfl | 1, _ => rfl | 2, _ => rfl | 3, _ => rfl | n + 4, h => absurd h (by omega)) (Nat.le_of_ble_eq_true rfl) (Nat.le_of_ble_eq_true rfl) dX11_init_5 (fun q_1 L_2 f_3 H_4 hq_5 h_6 x_7 hw => ?_)
  have ne_8 : h ≠ q_1 := py_ne_new hh hq_5
  have hh := hh.all x_7
  refine lv_dup G.1 G.2.1 dX11_init_8 rfl ?_
  refine py_callv hw (va_runIN (As := []) (rest := [.ref q_1, .ref h]) G (c_X8_init l E L_2 f_3 H_4.size q_1 h_6) ⟨va_cnB 0 G.2.2.2.2 g_X11_init_X8_init_9 rfl rfl rfl (hw.1.2.2 (RX11, 9, yX8_init) (List.mem_of_getElem? (i := 0) rfl)) (G.2.2.2.2 (Cond.initialized RX8) (by decide +kernel)) (by decide +kernel) ⟨(Nat.le_of_ble_eq_true rfl), (Nat.le_of_ble_eq_true rfl)⟩, rfl, G.2.2.2.2 (Cond.instanceMethod yX8_init) (by decide +kernel)⟩ (py_preS hw) rfl rfl hl.1 rfl (lv_room (Nat.le_of_ble_eq_true rfl)) dX11_init_9 ⟨(Nat.le_of_ble_eq_true rfl), (Nat.le_of_ble_eq_true rfl)⟩) (fun L_9 f_10 H_11 locs hp_12 hw => ?_)
  obtain ⟨byt_15, h_16, h_17, x_14⟩ := hp_12
  have hh := hh.ext x_14 ne_8
  refine py_putF (C := RX11) (T := TX11) (N := 16) (k := 0) (v := .ref q_1) (fs' := [.ref q_1, .null, .null, .null, .null, .null, .null, .null, .null, .null, .null, .null, .null, .int 0, .int 0, .int 0]) (ty0 := tyX11) G hin hw tyX11_ok nmX11 in_X11_init_X11 rfl hh (by decide) (by decide +kernel) rfl rfl rfl rfl rfl (Nat.le_of_ble_eq_true rfl) rfl dX11_init_12 (fun f_18 H_19 locs h_20 x_21 hw => ?_)
  have h_16 := h_16.ext x_21 (Ne.symm ne_8)
  have h_17 := h_17.ext x_21 (Ne.symm (py_ne_arr hh h_17))
  refine lv_aload_n G.1 G.2.1 dX11_init_15 rfl (lv_at hl 0 rfl) ?_
  refine py_new (C := RX10) (T := TX10) (N := 2) (ci := 10) (fs := [.null, .null]) (ty0 := tyX10) G hw tyX10_ok in_X11_init_X10 rfl (by decide +kernel) (by decide +kernel) (by decide +kernel) (fun j hj => match j, hj with | 0, _ => rfl | 1, _ => rfl | n + 2, h => absurd h (by omega)) (Nat.le_of_ble_eq_true rfl) (Nat.le_of_ble_eq_true rfl) dX11_init_16 (fun q_22 L_23 f_24 H_25 hq_26 h_27 x_28 hw => ?_)
  have ne_29 : h ≠ q_22 := py_ne_new h_20 hq_26
  have h_20 := h_20.all x_28
  have ne_30 : q_1 ≠ q_22 := py_ne_new h_16 hq_26
  have h_16 := h_16.all x_28
  have ne_31 : byt_15 ≠ q_22 := py_ne_new h_17 hq_26
  have h_17 := h_17.all x_28
  refine lv_dup G.1 G.2.1 dX11_init_19 rfl ?_
  refine py_callv hw (va_runIN (As := []) (rest := [.ref q_22, .ref h]) G (c_X10_init l E L_23 f_24 H_25.size q_22 h_27) ⟨va_cnB 0 G.2.2.2.2 g_X11_init_X10_init_18 rfl rfl rfl (hw.1.2.2 (RX11, 18, yX10_init) (List.mem_of_getElem? (i := 1) rfl)) (G.2.2.2.2 (Cond.initialized RX10) (by decide +kernel)) (by decide +kernel) ⟨(Nat.le_of_ble_eq_true rfl), (Nat.le_of_ble_eq_true rfl)⟩, rfl, G.2.2.2.2 (Cond.instanceMethod yX10_init) (by decide +kernel)⟩ (py_preS hw) rfl rfl hl.1 rfl (lv_room (Nat.le_of_ble_eq_true rfl)) dX11_init_20 ⟨(Nat.le_of_ble_eq_true rfl), (Nat.le_of_ble_eq_true rfl)⟩) (fun L_32 f_33 H_34 locs hp_35 hw => ?_)
  obtain ⟨itm_38, dr_39, xd_40, h_41, h_42, hl_43, x_37⟩ := hp_35
  have h_20 := h_20.ext x_37 ne_29
  have h_16 := h_16.ext x_37 ne_30
  have h_17 := h_17.ext x_37 ne_31
  refine py_putF (C := RX11) (T := TX11) (N := 16) (k := 1) (v := .ref q_22) (fs' := [.ref q_1, .ref q_22, .null, .null, .null, .null, .null, .null, .null, .null, .null, .null, .null, .int 0, .int 0, .int 0]) (ty0 := tyX11) G hin hw tyX11_ok nmX11 in_X11_init_X11 rfl h_20 (by decide) (by decide +kernel) rfl rfl rfl rfl rfl (Nat.le_of_ble_eq_true rfl) rfl dX11_init_23 (fun f_44 H_45 locs h_46 x_47 hw => ?_)
  have h_16 := h_16.ext x_47 (Ne.symm ne_8)
  have h_17 := h_17.ext x_47 (Ne.symm (py_ne_arr h_20 h_17))
  have h_41 := h_41.ext x_47 (Ne.symm ne_29)
  have h_42 := h_42.ext x_47 (py_ne_kind h_42 h_20 (by decide))
  refine lv_aload_n G.1 G.2.1 dX11_init_26 rfl (lv_at hl 0 rfl) ?_
  refine py_new (C := RX4) (T := TX4) (N := 1) (ci := 4) (fs := [.null]) (ty0 := tyX4) G hw tyX4_ok in_X11_init_X4 rfl (by decide +kernel) (by decide +kernel) (by decide +kernel) (fun j hj => match j, hj with | 0, _ => rfl | n + 1, h => absurd h (by omega)) (Nat.le_of_ble_eq_true rfl) (Nat.le_of_ble_eq_true rfl) dX11_init_27 (fun q_48 L_49 f_50 H_51 hq_52 h_53 x_54 hw => ?_)
  have ne_55 : h ≠ q_48 := py_ne_new h_46 hq_52
  have h_46 := h_46.all x_54
  have ne_56 : q_1 ≠ q_48 := py_ne_new h_16 hq_52
  have h_16 := h_16.all x_54
  have ne_57 : byt_15 ≠ q_48 := py_ne_new h_17 hq_52
  have h_17 := h_17.all x_54
  have ne_58 : q_22 ≠ q_48 := py_ne_new h_41 hq_52
  have h_41 := h_41.all x_54
  have ne_59 : dr_39 ≠ q_48 := py_ne_new h_42 hq_52
  have h_42 := h_42.all x_54
  refine lv_dup G.1 G.2.1 dX11_init_30 rfl ?_
  refine py_callv hw (va_runIN (As := []) (rest := [.ref q_48, .ref h]) G (c_X4_init l E L_49 f_50 H_51.size q_48 h_53) ⟨va_cnB 0 G.2.2.2.2 g_X11_init_X4_init_25 rfl rfl rfl (hw.1.2.2 (RX11, 25, yX4_init) (List.mem_of_getElem? (i := 3) rfl)) (G.2.2.2.2 (Cond.initialized RX4) (by decide +kernel)) (by decide +kernel) ⟨(Nat.le_of_ble_eq_true rfl), (Nat.le_of_ble_eq_true rfl)⟩, rfl, G.2.2.2.2 (Cond.instanceMethod yX4_init) (by decide +kernel)⟩ (py_preS hw) rfl rfl hl.1 rfl (lv_room (Nat.le_of_ble_eq_true rfl)) dX11_init_31 ⟨(Nat.le_of_ble_eq_true rfl), (Nat.le_of_ble_eq_true rfl)⟩) (fun L_60 f_61 H_62 locs hp_63 hw => ?_)
  obtain ⟨dl_66, xl_67, h_68, h_69, hl_70, x_65⟩ := hp_63
  have h_46 := h_46.ext x_65 ne_55
  have h_16 := h_16.ext x_65 ne_56
  have h_17 := h_17.ext x_65 ne_57
  have h_41 := h_41.ext x_65 ne_58
  have h_42 := h_42.ext x_65 ne_59
  refine py_putF (C := RX11) (T := TX11) (N := 16) (k := 2) (v := .ref q_48) (fs' := [.ref q_1, .ref q_22, .ref q_48, .null, .null, .null, .null, .null, .null, .null, .null, .null, .null, .int 0, .int 0, .int 0]) (ty0 := tyX11) G hin hw tyX11_ok nmX11 in_X11_init_X11 rfl h_46 (by decide) (by decide +kernel) rfl rfl rfl rfl rfl (Nat.le_of_ble_eq_true rfl) rfl dX11_init_34 (fun f_71 H_72 locs h_73 x_74 hw => ?_)
  have h_16 := h_16.ext x_74 (Ne.symm ne_8)
  have h_17 := h_17.ext x_74 (Ne.symm (py_ne_arr h_46 h_17))
  have h_41 := h_41.ext x_74 (Ne.symm ne_29)
  have h_42 := h_42.ext x_74 (py_ne_kind h_42 h_46 (by decide))
  have h_68 := h_68.ext x_74 (Ne.symm ne_55)
  have h_69 := h_69.ext x_74 (py_ne_kind h_69 h_46 (by decide))
  refine lv_aload_n G.1 G.2.1 dX11_init_37 rfl (lv_at hl 0 rfl) ?_
  refine lv_iconst (v := 4) G.1 G.2.1 dX11_init_38 (by decide) ?_
  refine py_newR (N := 4) G hw (by decide +kernel) (by decide) (by decide) (Nat.le_of_ble_eq_true rfl) (Nat.le_of_ble_eq_true rfl) (Nat.le_of_ble_eq_true rfl) dX11_init_39 (fun q_75 L_76 f_77 H_78 hq_79 h_80 x_81 hw => ?_)
  have ne_82 : h ≠ q_75 := py_ne_new h_73 hq_79
  have h_73 := h_73.all x_81
  have ne_83 : q_1 ≠ q_75 := py_ne_new h_16 hq_79
  have h_16 := h_16.all x_81
  have ne_84 : byt_15 ≠ q_75 := py_ne_new h_17 hq_79
  have h_17 := h_17.all x_81
  have ne_85 : q_22 ≠ q_75 := py_ne_new h_41 hq_79
  have h_41 := h_41.all x_81
  have ne_86 : dr_39 ≠ q_75 := py_ne_new h_42 hq_79
  have h_42 := h_42.all x_81
  have ne_87 : q_48 ≠ q_75 := py_ne_new h_68 hq_79
  have h_68 := h_68.all x_81
  have ne_88 : dl_66 ≠ q_75 := py_ne_new h_69 hq_79
  have h_69 := h_69.all x_81
  refine py_putF (C := RX11) (T := TX11) (N := 16) (k := 3) (v := .ref q_75) (fs' := [.ref q_1, .ref q_22, .ref q_48, .ref q_75, .null, .null, .null, .null, .null, .null, .null, .null, .null, .int 0, .int 0, .int 0]) (ty0 := tyX11) G hin hw tyX11_ok nmX11 in_X11_init_X11 rfl h_73 (by decide) (by decide +kernel) rfl rfl rfl rfl rfl (Nat.le_of_ble_eq_true rfl) rfl dX11_init_42 (fun f_89 H_90 locs h_91 x_92 hw => ?_)
  have h_16 := h_16.ext x_92 (Ne.symm ne_8)
  have h_17 := h_17.ext x_92 (Ne.symm (py_ne_arr h_73 h_17))
  have h_41 := h_41.ext x_92 (Ne.symm ne_29)
  have h_42 := h_42.ext x_92 (py_ne_kind h_42 h_73 (by decide))
  have h_68 := h_68.ext x_92 (Ne.symm ne_55)
  have h_69 := h_69.ext x_92 (py_ne_kind h_69 h_73 (by decide))
  refine lv_aload_n G.1 G.2.1 dX11_init_45 rfl (lv_at hl 0 rfl) ?_
  refine py_callr hw (va_runS (As := []) (rest := [.ref h]) G (c_X3_bornLessDead l E L_76 f_89 H_90.size ) (va_cwS 0 G.2.2.2.2 g_X11_init_X3_bornLessDead_36 rfl rfl rfl (by decide +kernel) ⟨(Nat.le_of_ble_eq_true rfl), (Nat.le_of_ble_eq_true rfl)⟩) (py_preS hw) rfl rfl hl.1 rfl (lv_room (Nat.le_of_ble_eq_true rfl)) dX11_init_46 ⟨(Nat.le_of_ble_eq_true rfl), (Nat.le_of_ble_eq_true rfl)⟩) (fun r_97 L_93 f_94 H_95 locs hp_96 hw => ?_)
  have h_91 := h_91.all hp_96
  have h_16 := h_16.all hp_96
  have h_17 := h_17.all hp_96
  have h_41 := h_41.all hp_96
  have h_42 := h_42.all hp_96
  have h_68 := h_68.all hp_96
  have h_69 := h_69.all hp_96
  refine py_putF (C := RX11) (T := TX11) (N := 16) (k := 4) (v := .ref r_97) (fs' := [.ref q_1, .ref q_22, .ref q_48, .ref q_75, .ref r_97, .null, .null, .null, .null, .null, .null, .null, .null, .int 0, .int 0, .int 0]) (ty0 := tyX11) G hin hw tyX11_ok nmX11 in_X11_init_X11 rfl h_91 (by decide) (by decide +kernel) rfl rfl rfl rfl rfl (Nat.le_of_ble_eq_true rfl) rfl dX11_init_49 (fun f_98 H_99 locs h_100 x_101 hw => ?_)
  have h_16 := h_16.ext x_101 (Ne.symm ne_8)
  have h_17 := h_17.ext x_101 (Ne.symm (py_ne_arr h_91 h_17))
  have h_41 := h_41.ext x_101 (Ne.symm ne_29)
  have h_42 := h_42.ext x_101 (py_ne_kind h_42 h_91 (by decide))
  have h_68 := h_68.ext x_101 (Ne.symm ne_55)
  have h_69 := h_69.ext x_101 (py_ne_kind h_69 h_91 (by decide))
  refine lv_aload_n G.1 G.2.1 dX11_init_52 rfl (lv_at hl 0 rfl) ?_
  refine py_new (C := RX2) (T := TX2) (N := 12) (ci := 2) (fs := [.null, .null, .null, .null, .null, .null, .null, .null, .null, .null, .long 0, .int 0]) (ty0 := tyX2) G hw tyX2_ok in_X11_init_X2 rfl (by decide +kernel) (by decide +kernel) (by decide +kernel) (fun j hj => match j, hj with | 0, _ => rfl | 1, _ => rfl | 2, _ => rfl | 3, _ => rfl | 4, _ => rfl | 5, _ => rfl | 6, _ => rfl | 7, _ => rfl | 8, _ => rfl | 9, _ => rfl | 10, _ => rfl | 11, _ => rfl | n + 12, h => absurd h (by omega)) (Nat.le_of_ble_eq_true rfl) (Nat.le_of_ble_eq_true rfl) dX11_init_53 (fun q_102 L_103 f_104 H_105 hq_106 h_107 x_108 hw => ?_)
  have ne_109 : h ≠ q_102 := py_ne_new h_100 hq_106
  have h_100 := h_100.all x_108
  have ne_110 : q_1 ≠ q_102 := py_ne_new h_16 hq_106
  have h_16 := h_16.all x_108
  have ne_111 : byt_15 ≠ q_102 := py_ne_new h_17 hq_106
  have h_17 := h_17.all x_108
  have ne_112 : q_22 ≠ q_102 := py_ne_new h_41 hq_106
  have h_41 := h_41.all x_108
  have ne_113 : dr_39 ≠ q_102 := py_ne_new h_42 hq_106
  have h_42 := h_42.all x_108
  have ne_114 : q_48 ≠ q_102 := py_ne_new h_68 hq_106
  have h_68 := h_68.all x_108
  have ne_115 : dl_66 ≠ q_102 := py_ne_new h_69 hq_106
  have h_69 := h_69.all x_108
  refine lv_dup G.1 G.2.1 dX11_init_56 rfl ?_
  refine py_callv hw (va_runIN (As := []) (rest := [.ref q_102, .ref h]) G (c_X2_init l E L_103 f_104 H_105.size q_102 h_107) ⟨va_cnB 0 G.2.2.2.2 g_X11_init_X2_init_46 rfl rfl rfl (hw.1.2.2 (RX11, 46, yX2_init) (List.mem_of_getElem? (i := 5) rfl)) (G.2.2.2.2 (Cond.initialized RX2) (by decide +kernel)) (by decide +kernel) ⟨(Nat.le_of_ble_eq_true rfl), (Nat.le_of_ble_eq_true rfl)⟩, rfl, G.2.2.2.2 (Cond.instanceMethod yX2_init) (by decide +kernel)⟩ (py_preS hw) rfl rfl hl.1 rfl (lv_room (Nat.le_of_ble_eq_true rfl)) dX11_init_57 ⟨(Nat.le_of_ble_eq_true rfl), (Nat.le_of_ble_eq_true rfl)⟩) (fun L_116 f_117 H_118 locs hp_119 hw => ?_)
  obtain ⟨xs_122, va_123, xv_124, h_125, hp_127, hp_128, hp_129, h_126, hp_130, hp_131, hp_132, x_121⟩ := hp_119
  have h_100 := h_100.ext x_121 ne_109
  have h_16 := h_16.ext x_121 ne_110
  have h_17 := h_17.ext x_121 ne_111
  have h_41 := h_41.ext x_121 ne_112
  have h_42 := h_42.ext x_121 ne_113
  have h_68 := h_68.ext x_121 ne_114
  have h_69 := h_69.ext x_121 ne_115
  refine py_putF (C := RX11) (T := TX11) (N := 16) (k := 5) (v := .ref q_102) (fs' := [.ref q_1, .ref q_22, .ref q_48, .ref q_75, .ref r_97, .ref q_102, .null, .null, .null, .null, .null, .null, .null, .int 0, .int 0, .int 0]) (ty0 := tyX11) G hin hw tyX11_ok nmX11 in_X11_init_X11 rfl h_100 (by decide) (by decide +kernel) rfl rfl rfl rfl rfl (Nat.le_of_ble_eq_true rfl) rfl dX11_init_60 (fun f_133 H_134 locs h_135 x_136 hw => ?_)
  have h_16 := h_16.ext x_136 (Ne.symm ne_8)
  have h_17 := h_17.ext x_136 (Ne.symm (py_ne_arr h_100 h_17))
  have h_41 := h_41.ext x_136 (Ne.symm ne_29)
  have h_42 := h_42.ext x_136 (py_ne_kind h_42 h_100 (by decide))
  have h_68 := h_68.ext x_136 (Ne.symm ne_55)
  have h_69 := h_69.ext x_136 (py_ne_kind h_69 h_100 (by decide))
  have h_125 := h_125.ext x_136 (Ne.symm ne_109)
  have h_126 := h_126.ext x_136 (py_ne_kind h_126 h_100 (by decide))
  refine lv_aload_n G.1 G.2.1 dX11_init_63 rfl (lv_at hl 0 rfl) ?_
  refine py_new (C := RX2) (T := TX2) (N := 12) (ci := 2) (fs := [.null, .null, .null, .null, .null, .null, .null, .null, .null, .null, .long 0, .int 0]) (ty0 := tyX2) G hw tyX2_ok in_X11_init_X2 rfl (by decide +kernel) (by decide +kernel) (by decide +kernel) (fun j hj => match j, hj with | 0, _ => rfl | 1, _ => rfl | 2, _ => rfl | 3, _ => rfl | 4, _ => rfl | 5, _ => rfl | 6, _ => rfl | 7, _ => rfl | 8, _ => rfl | 9, _ => rfl | 10, _ => rfl | 11, _ => rfl | n + 12, h => absurd h (by omega)) (Nat.le_of_ble_eq_true rfl) (Nat.le_of_ble_eq_true rfl) dX11_init_64 (fun q_137 L_138 f_139 H_140 hq_141 h_142 x_143 hw => ?_)
  have ne_144 : h ≠ q_137 := py_ne_new h_135 hq_141
  have h_135 := h_135.all x_143
  have ne_145 : q_1 ≠ q_137 := py_ne_new h_16 hq_141
  have h_16 := h_16.all x_143
  have ne_146 : byt_15 ≠ q_137 := py_ne_new h_17 hq_141
  have h_17 := h_17.all x_143
  have ne_147 : q_22 ≠ q_137 := py_ne_new h_41 hq_141
  have h_41 := h_41.all x_143
  have ne_148 : dr_39 ≠ q_137 := py_ne_new h_42 hq_141
  have h_42 := h_42.all x_143
  have ne_149 : q_48 ≠ q_137 := py_ne_new h_68 hq_141
  have h_68 := h_68.all x_143
  have ne_150 : dl_66 ≠ q_137 := py_ne_new h_69 hq_141
  have h_69 := h_69.all x_143
  have ne_151 : q_102 ≠ q_137 := py_ne_new h_125 hq_141
  have h_125 := h_125.all x_143
  have ne_152 : va_123 ≠ q_137 := py_ne_new h_126 hq_141
  have h_126 := h_126.all x_143
  refine lv_dup G.1 G.2.1 dX11_init_67 rfl ?_
  refine py_callv hw (va_runIN (As := []) (rest := [.ref q_137, .ref h]) G (c_X2_init l E L_138 f_139 H_140.size q_137 h_142) ⟨va_cnB 0 G.2.2.2.2 g_X11_init_X2_init_46 rfl rfl rfl (hw.1.2.2 (RX11, 46, yX2_init) (List.mem_of_getElem? (i := 5) rfl)) (G.2.2.2.2 (Cond.initialized RX2) (by decide +kernel)) (by decide +kernel) ⟨(Nat.le_of_ble_eq_true rfl), (Nat.le_of_ble_eq_true rfl)⟩, rfl, G.2.2.2.2 (Cond.instanceMethod yX2_init) (by decide +kernel)⟩ (py_preS hw) rfl rfl hl.1 rfl (lv_room (Nat.le_of_ble_eq_true rfl)) dX11_init_68 ⟨(Nat.le_of_ble_eq_true rfl), (Nat.le_of_ble_eq_true rfl)⟩) (fun L_153 f_154 H_155 locs hp_156 hw => ?_)
  obtain ⟨xs_159, va_160, xv_161, h_162, hp_164, hp_165, hp_166, h_163, hp_167, hp_168, hp_169, x_158⟩ := hp_156
  have h_135 := h_135.ext x_158 ne_144
  have h_16 := h_16.ext x_158 ne_145
  have h_17 := h_17.ext x_158 ne_146
  have h_41 := h_41.ext x_158 ne_147
  have h_42 := h_42.ext x_158 ne_148
  have h_68 := h_68.ext x_158 ne_149
  have h_69 := h_69.ext x_158 ne_150
  have h_125 := h_125.ext x_158 ne_151
  have h_126 := h_126.ext x_158 ne_152
  refine py_putF (C := RX11) (T := TX11) (N := 16) (k := 6) (v := .ref q_137) (fs' := [.ref q_1, .ref q_22, .ref q_48, .ref q_75, .ref r_97, .ref q_102, .ref q_137, .null, .null, .null, .null, .null, .null, .int 0, .int 0, .int 0]) (ty0 := tyX11) G hin hw tyX11_ok nmX11 in_X11_init_X11 rfl h_135 (by decide) (by decide +kernel) rfl rfl rfl rfl rfl (Nat.le_of_ble_eq_true rfl) rfl dX11_init_71 (fun f_170 H_171 locs h_172 x_173 hw => ?_)
  have h_16 := h_16.ext x_173 (Ne.symm ne_8)
  have h_17 := h_17.ext x_173 (Ne.symm (py_ne_arr h_135 h_17))
  have h_41 := h_41.ext x_173 (Ne.symm ne_29)
  have h_42 := h_42.ext x_173 (py_ne_kind h_42 h_135 (by decide))
  have h_68 := h_68.ext x_173 (Ne.symm ne_55)
  have h_69 := h_69.ext x_173 (py_ne_kind h_69 h_135 (by decide))
  have h_125 := h_125.ext x_173 (Ne.symm ne_109)
  have h_126 := h_126.ext x_173 (py_ne_kind h_126 h_135 (by decide))
  have h_162 := h_162.ext x_173 (Ne.symm ne_144)
  have h_163 := h_163.ext x_173 (py_ne_kind h_163 h_135 (by decide))
  refine lv_aload_n G.1 G.2.1 dX11_init_74 rfl (lv_at hl 0 rfl) ?_
  refine py_new (C := RX2) (T := TX2) (N := 12) (ci := 2) (fs := [.null, .null, .null, .null, .null, .null, .null, .null, .null, .null, .long 0, .int 0]) (ty0 := tyX2) G hw tyX2_ok in_X11_init_X2 rfl (by decide +kernel) (by decide +kernel) (by decide +kernel) (fun j hj => match j, hj with | 0, _ => rfl | 1, _ => rfl | 2, _ => rfl | 3, _ => rfl | 4, _ => rfl | 5, _ => rfl | 6, _ => rfl | 7, _ => rfl | 8, _ => rfl | 9, _ => rfl | 10, _ => rfl | 11, _ => rfl | n + 12, h => absurd h (by omega)) (Nat.le_of_ble_eq_true rfl) (Nat.le_of_ble_eq_true rfl) dX11_init_75 (fun q_174 L_175 f_176 H_177 hq_178 h_179 x_180 hw => ?_)
  have ne_181 : h ≠ q_174 := py_ne_new h_172 hq_178
  have h_172 := h_172.all x_180
  have ne_182 : q_1 ≠ q_174 := py_ne_new h_16 hq_178
  have h_16 := h_16.all x_180
  have ne_183 : byt_15 ≠ q_174 := py_ne_new h_17 hq_178
  have h_17 := h_17.all x_180
  have ne_184 : q_22 ≠ q_174 := py_ne_new h_41 hq_178
  have h_41 := h_41.all x_180
  have ne_185 : dr_39 ≠ q_174 := py_ne_new h_42 hq_178
  have h_42 := h_42.all x_180
  have ne_186 : q_48 ≠ q_174 := py_ne_new h_68 hq_178
  have h_68 := h_68.all x_180
  have ne_187 : dl_66 ≠ q_174 := py_ne_new h_69 hq_178
  have h_69 := h_69.all x_180
  have ne_188 : q_102 ≠ q_174 := py_ne_new h_125 hq_178
  have h_125 := h_125.all x_180
  have ne_189 : va_123 ≠ q_174 := py_ne_new h_126 hq_178
  have h_126 := h_126.all x_180
  have ne_190 : q_137 ≠ q_174 := py_ne_new h_162 hq_178
  have h_162 := h_162.all x_180
  have ne_191 : va_160 ≠ q_174 := py_ne_new h_163 hq_178
  have h_163 := h_163.all x_180
  refine lv_dup G.1 G.2.1 dX11_init_78 rfl ?_
  refine py_callv hw (va_runIN (As := []) (rest := [.ref q_174, .ref h]) G (c_X2_init l E L_175 f_176 H_177.size q_174 h_179) ⟨va_cnB 0 G.2.2.2.2 g_X11_init_X2_init_46 rfl rfl rfl (hw.1.2.2 (RX11, 46, yX2_init) (List.mem_of_getElem? (i := 5) rfl)) (G.2.2.2.2 (Cond.initialized RX2) (by decide +kernel)) (by decide +kernel) ⟨(Nat.le_of_ble_eq_true rfl), (Nat.le_of_ble_eq_true rfl)⟩, rfl, G.2.2.2.2 (Cond.instanceMethod yX2_init) (by decide +kernel)⟩ (py_preS hw) rfl rfl hl.1 rfl (lv_room (Nat.le_of_ble_eq_true rfl)) dX11_init_79 ⟨(Nat.le_of_ble_eq_true rfl), (Nat.le_of_ble_eq_true rfl)⟩) (fun L_192 f_193 H_194 locs hp_195 hw => ?_)
  obtain ⟨xs_198, va_199, xv_200, h_201, hp_203, hp_204, hp_205, h_202, hp_206, hp_207, hp_208, x_197⟩ := hp_195
  have h_172 := h_172.ext x_197 ne_181
  have h_16 := h_16.ext x_197 ne_182
  have h_17 := h_17.ext x_197 ne_183
  have h_41 := h_41.ext x_197 ne_184
  have h_42 := h_42.ext x_197 ne_185
  have h_68 := h_68.ext x_197 ne_186
  have h_69 := h_69.ext x_197 ne_187
  have h_125 := h_125.ext x_197 ne_188
  have h_126 := h_126.ext x_197 ne_189
  have h_162 := h_162.ext x_197 ne_190
  have h_163 := h_163.ext x_197 ne_191
  refine py_putF (C := RX11) (T := TX11) (N := 16) (k := 7) (v := .ref q_174) (fs' := [.ref q_1, .ref q_22, .ref q_48, .ref q_75, .ref r_97, .ref q_102, .ref q_137, .ref q_174, .null, .null, .null, .null, .null, .int 0, .int 0, .int 0]) (ty0 := tyX11) G hin hw tyX11_ok nmX11 in_X11_init_X11 rfl h_172 (by decide) (by decide +kernel) rfl rfl rfl rfl rfl (Nat.le_of_ble_eq_true rfl) rfl dX11_init_82 (fun f_209 H_210 locs h_211 x_212 hw => ?_)
  have h_16 := h_16.ext x_212 (Ne.symm ne_8)
  have h_17 := h_17.ext x_212 (Ne.symm (py_ne_arr h_172 h_17))
  have h_41 := h_41.ext x_212 (Ne.symm ne_29)
  have h_42 := h_42.ext x_212 (py_ne_kind h_42 h_172 (by decide))
  have h_68 := h_68.ext x_212 (Ne.symm ne_55)
  have h_69 := h_69.ext x_212 (py_ne_kind h_69 h_172 (by decide))
  have h_125 := h_125.ext x_212 (Ne.symm ne_109)
  have h_126 := h_126.ext x_212 (py_ne_kind h_126 h_172 (by decide))
  have h_162 := h_162.ext x_212 (Ne.symm ne_144)
  have h_163 := h_163.ext x_212 (py_ne_kind h_163 h_172 (by decide))
  have h_201 := h_201.ext x_212 (Ne.symm ne_181)
  have h_202 := h_202.ext x_212 (py_ne_kind h_202 h_172 (by decide))
  refine lv_aload_n G.1 G.2.1 dX11_init_85 rfl (lv_at hl 0 rfl) ?_
  refine py_new (C := RX1) (T := TX1) (N := 3) (ci := 1) (fs := [.null, .null, .int 0]) (ty0 := tyX1) G hw tyX1_ok in_X11_init_X1 rfl (by decide +kernel) (by decide +kernel) (by decide +kernel) (fun j hj => match j, hj with | 0, _ => rfl | 1, _ => rfl | 2, _ => rfl | n + 3, h => absurd h (by omega)) (Nat.le_of_ble_eq_true rfl) (Nat.le_of_ble_eq_true rfl) dX11_init_86 (fun q_213 L_214 f_215 H_216 hq_217 h_218 x_219 hw => ?_)
  have ne_220 : h ≠ q_213 := py_ne_new h_211 hq_217
  have h_211 := h_211.all x_219
  have ne_221 : q_1 ≠ q_213 := py_ne_new h_16 hq_217
  have h_16 := h_16.all x_219
  have ne_222 : byt_15 ≠ q_213 := py_ne_new h_17 hq_217
  have h_17 := h_17.all x_219
  have ne_223 : q_22 ≠ q_213 := py_ne_new h_41 hq_217
  have h_41 := h_41.all x_219
  have ne_224 : dr_39 ≠ q_213 := py_ne_new h_42 hq_217
  have h_42 := h_42.all x_219
  have ne_225 : q_48 ≠ q_213 := py_ne_new h_68 hq_217
  have h_68 := h_68.all x_219
  have ne_226 : dl_66 ≠ q_213 := py_ne_new h_69 hq_217
  have h_69 := h_69.all x_219
  have ne_227 : q_102 ≠ q_213 := py_ne_new h_125 hq_217
  have h_125 := h_125.all x_219
  have ne_228 : va_123 ≠ q_213 := py_ne_new h_126 hq_217
  have h_126 := h_126.all x_219
  have ne_229 : q_137 ≠ q_213 := py_ne_new h_162 hq_217
  have h_162 := h_162.all x_219
  have ne_230 : va_160 ≠ q_213 := py_ne_new h_163 hq_217
  have h_163 := h_163.all x_219
  have ne_231 : q_174 ≠ q_213 := py_ne_new h_201 hq_217
  have h_201 := h_201.all x_219
  have ne_232 : va_199 ≠ q_213 := py_ne_new h_202 hq_217
  have h_202 := h_202.all x_219
  refine lv_dup G.1 G.2.1 dX11_init_89 rfl ?_
  refine py_callv hw (va_runIN (As := []) (rest := [.ref q_213, .ref h]) G (c_X1_init l E L_214 f_215 H_216.size q_213 h_218) ⟨va_cnB 0 G.2.2.2.2 g_X11_init_X1_init_59 rfl rfl rfl (hw.1.2.2 (RX11, 59, yX1_init) (List.mem_of_getElem? (i := 7) rfl)) (G.2.2.2.2 (Cond.initialized RX1) (by decide +kernel)) (by decide +kernel) ⟨(Nat.le_of_ble_eq_true rfl), (Nat.le_of_ble_eq_true rfl)⟩, rfl, G.2.2.2.2 (Cond.instanceMethod yX1_init) (by decide +kernel)⟩ (py_preS hw) rfl rfl hl.1 rfl (lv_room (Nat.le_of_ble_eq_true rfl)) dX11_init_90 ⟨(Nat.le_of_ble_eq_true rfl), (Nat.le_of_ble_eq_true rfl)⟩) (fun L_233 f_234 H_235 locs hp_236 hw => ?_)
  obtain ⟨xs_239, h_240, hl_241, hp_242, x_238⟩ := hp_236
  have h_211 := h_211.ext x_238 ne_220
  have h_16 := h_16.ext x_238 ne_221
  have h_17 := h_17.ext x_238 ne_222
  have h_41 := h_41.ext x_238 ne_223
  have h_42 := h_42.ext x_238 ne_224
  have h_68 := h_68.ext x_238 ne_225
  have h_69 := h_69.ext x_238 ne_226
  have h_125 := h_125.ext x_238 ne_227
  have h_126 := h_126.ext x_238 ne_228
  have h_162 := h_162.ext x_238 ne_229
  have h_163 := h_163.ext x_238 ne_230
  have h_201 := h_201.ext x_238 ne_231
  have h_202 := h_202.ext x_238 ne_232
  refine py_putF (C := RX11) (T := TX11) (N := 16) (k := 8) (v := .ref q_213) (fs' := [.ref q_1, .ref q_22, .ref q_48, .ref q_75, .ref r_97, .ref q_102, .ref q_137, .ref q_174, .ref q_213, .null, .null, .null, .null, .int 0, .int 0, .int 0]) (ty0 := tyX11) G hin hw tyX11_ok nmX11 in_X11_init_X11 rfl h_211 (by decide) (by decide +kernel) rfl rfl rfl rfl rfl (Nat.le_of_ble_eq_true rfl) rfl dX11_init_93 (fun f_243 H_244 locs h_245 x_246 hw => ?_)
  have h_16 := h_16.ext x_246 (Ne.symm ne_8)
  have h_17 := h_17.ext x_246 (Ne.symm (py_ne_arr h_211 h_17))
  have h_41 := h_41.ext x_246 (Ne.symm ne_29)
  have h_42 := h_42.ext x_246 (py_ne_kind h_42 h_211 (by decide))
  have h_68 := h_68.ext x_246 (Ne.symm ne_55)
  have h_69 := h_69.ext x_246 (py_ne_kind h_69 h_211 (by decide))
  have h_125 := h_125.ext x_246 (Ne.symm ne_109)
  have h_126 := h_126.ext x_246 (py_ne_kind h_126 h_211 (by decide))
  have h_162 := h_162.ext x_246 (Ne.symm ne_144)
  have h_163 := h_163.ext x_246 (py_ne_kind h_163 h_211 (by decide))
  have h_201 := h_201.ext x_246 (Ne.symm ne_181)
  have h_202 := h_202.ext x_246 (py_ne_kind h_202 h_211 (by decide))
  have h_240 := h_240.ext x_246 (Ne.symm ne_220)
  refine lv_aload_n G.1 G.2.1 dX11_init_96 rfl (lv_at hl 0 rfl) ?_
  refine py_new (C := RX0) (T := TX0) (N := 5) (ci := 0) (fs := [.null, .null, .null, .int 0, .int 0]) (ty0 := tyX0) G hw tyX0_ok in_X11_init_X0 rfl (by decide +kernel) (by decide +kernel) (by decide +kernel) (fun j hj => match j, hj with | 0, _ => rfl | 1, _ => rfl | 2, _ => rfl | 3, _ => rfl | 4, _ => rfl | n + 5, h => absurd h (by omega)) (Nat.le_of_ble_eq_true rfl) (Nat.le_of_ble_eq_true rfl) dX11_init_97 (fun q_247 L_248 f_249 H_250 hq_251 h_252 x_253 hw => ?_)
  have ne_254 : h ≠ q_247 := py_ne_new h_245 hq_251
  have h_245 := h_245.all x_253
  have ne_255 : q_1 ≠ q_247 := py_ne_new h_16 hq_251
  have h_16 := h_16.all x_253
  have ne_256 : byt_15 ≠ q_247 := py_ne_new h_17 hq_251
  have h_17 := h_17.all x_253
  have ne_257 : q_22 ≠ q_247 := py_ne_new h_41 hq_251
  have h_41 := h_41.all x_253
  have ne_258 : dr_39 ≠ q_247 := py_ne_new h_42 hq_251
  have h_42 := h_42.all x_253
  have ne_259 : q_48 ≠ q_247 := py_ne_new h_68 hq_251
  have h_68 := h_68.all x_253
  have ne_260 : dl_66 ≠ q_247 := py_ne_new h_69 hq_251
  have h_69 := h_69.all x_253
  have ne_261 : q_102 ≠ q_247 := py_ne_new h_125 hq_251
  have h_125 := h_125.all x_253
  have ne_262 : va_123 ≠ q_247 := py_ne_new h_126 hq_251
  have h_126 := h_126.all x_253
  have ne_263 : q_137 ≠ q_247 := py_ne_new h_162 hq_251
  have h_162 := h_162.all x_253
  have ne_264 : va_160 ≠ q_247 := py_ne_new h_163 hq_251
  have h_163 := h_163.all x_253
  have ne_265 : q_174 ≠ q_247 := py_ne_new h_201 hq_251
  have h_201 := h_201.all x_253
  have ne_266 : va_199 ≠ q_247 := py_ne_new h_202 hq_251
  have h_202 := h_202.all x_253
  have ne_267 : q_213 ≠ q_247 := py_ne_new h_240 hq_251
  have h_240 := h_240.all x_253
  refine lv_dup G.1 G.2.1 dX11_init_100 rfl ?_
  refine py_callv hw (va_runIN (As := []) (rest := [.ref q_247, .ref h]) G (c_X0_init l E L_248 f_249 H_250.size q_247 h_252) ⟨va_cnB 0 G.2.2.2.2 g_X11_init_X0_init_66 rfl rfl rfl (hw.1.2.2 (RX11, 66, yX0_init) (List.mem_of_getElem? (i := 8) rfl)) (G.2.2.2.2 (Cond.initialized RX0) (by decide +kernel)) (by decide +kernel) ⟨(Nat.le_of_ble_eq_true rfl), (Nat.le_of_ble_eq_true rfl)⟩, rfl, G.2.2.2.2 (Cond.instanceMethod yX0_init) (by decide +kernel)⟩ (py_preS hw) rfl rfl hl.1 rfl (lv_room (Nat.le_of_ble_eq_true rfl)) dX11_init_101 ⟨(Nat.le_of_ble_eq_true rfl), (Nat.le_of_ble_eq_true rfl)⟩) (fun L_268 f_269 H_270 locs hp_271 hw => ?_)
  obtain ⟨xs_274, h_275, hl_276, hp_277, x_273⟩ := hp_271
  have h_245 := h_245.ext x_273 ne_254
  have h_16 := h_16.ext x_273 ne_255
  have h_17 := h_17.ext x_273 ne_256
  have h_41 := h_41.ext x_273 ne_257
  have h_42 := h_42.ext x_273 ne_258
  have h_68 := h_68.ext x_273 ne_259
  have h_69 := h_69.ext x_273 ne_260
  have h_125 := h_125.ext x_273 ne_261
  have h_126 := h_126.ext x_273 ne_262
  have h_162 := h_162.ext x_273 ne_263
  have h_163 := h_163.ext x_273 ne_264
  have h_201 := h_201.ext x_273 ne_265
  have h_202 := h_202.ext x_273 ne_266
  have h_240 := h_240.ext x_273 ne_267
  refine py_putF (C := RX11) (T := TX11) (N := 16) (k := 9) (v := .ref q_247) (fs' := [.ref q_1, .ref q_22, .ref q_48, .ref q_75, .ref r_97, .ref q_102, .ref q_137, .ref q_174, .ref q_213, .ref q_247, .null, .null, .null, .int 0, .int 0, .int 0]) (ty0 := tyX11) G hin hw tyX11_ok nmX11 in_X11_init_X11 rfl h_245 (by decide) (by decide +kernel) rfl rfl rfl rfl rfl (Nat.le_of_ble_eq_true rfl) rfl dX11_init_104 (fun f_278 H_279 locs h_280 x_281 hw => ?_)
  have h_16 := h_16.ext x_281 (Ne.symm ne_8)
  have h_17 := h_17.ext x_281 (Ne.symm (py_ne_arr h_245 h_17))
  have h_41 := h_41.ext x_281 (Ne.symm ne_29)
  have h_42 := h_42.ext x_281 (py_ne_kind h_42 h_245 (by decide))
  have h_68 := h_68.ext x_281 (Ne.symm ne_55)
  have h_69 := h_69.ext x_281 (py_ne_kind h_69 h_245 (by decide))
  have h_125 := h_125.ext x_281 (Ne.symm ne_109)
  have h_126 := h_126.ext x_281 (py_ne_kind h_126 h_245 (by decide))
  have h_162 := h_162.ext x_281 (Ne.symm ne_144)
  have h_163 := h_163.ext x_281 (py_ne_kind h_163 h_245 (by decide))
  have h_201 := h_201.ext x_281 (Ne.symm ne_181)
  have h_202 := h_202.ext x_281 (py_ne_kind h_202 h_245 (by decide))
  have h_240 := h_240.ext x_281 (Ne.symm ne_220)
  have h_275 := h_275.ext x_281 (Ne.symm ne_254)
  refine lv_aload_n G.1 G.2.1 dX11_init_107 rfl (lv_at hl 0 rfl) ?_
  refine py_new (C := RX7) (T := TX7) (N := 5) (ci := 7) (fs := [.null, .null, .null, .int 0, .int 0]) (ty0 := tyX7) G hw tyX7_ok in_X11_init_X7 rfl (by decide +kernel) (by decide +kernel) (by decide +kernel) (fun j hj => match j, hj with | 0, _ => rfl | 1, _ => rfl | 2, _ => rfl | 3, _ => rfl | 4, _ => rfl | n + 5, h => absurd h (by omega)) (Nat.le_of_ble_eq_true rfl) (Nat.le_of_ble_eq_true rfl) dX11_init_108 (fun q_282 L_283 f_284 H_285 hq_286 h_287 x_288 hw => ?_)
  have ne_289 : h ≠ q_282 := py_ne_new h_280 hq_286
  have h_280 := h_280.all x_288
  have ne_290 : q_1 ≠ q_282 := py_ne_new h_16 hq_286
  have h_16 := h_16.all x_288
  have ne_291 : byt_15 ≠ q_282 := py_ne_new h_17 hq_286
  have h_17 := h_17.all x_288
  have ne_292 : q_22 ≠ q_282 := py_ne_new h_41 hq_286
  have h_41 := h_41.all x_288
  have ne_293 : dr_39 ≠ q_282 := py_ne_new h_42 hq_286
  have h_42 := h_42.all x_288
  have ne_294 : q_48 ≠ q_282 := py_ne_new h_68 hq_286
  have h_68 := h_68.all x_288
  have ne_295 : dl_66 ≠ q_282 := py_ne_new h_69 hq_286
  have h_69 := h_69.all x_288
  have ne_296 : q_102 ≠ q_282 := py_ne_new h_125 hq_286
  have h_125 := h_125.all x_288
  have ne_297 : va_123 ≠ q_282 := py_ne_new h_126 hq_286
  have h_126 := h_126.all x_288
  have ne_298 : q_137 ≠ q_282 := py_ne_new h_162 hq_286
  have h_162 := h_162.all x_288
  have ne_299 : va_160 ≠ q_282 := py_ne_new h_163 hq_286
  have h_163 := h_163.all x_288
  have ne_300 : q_174 ≠ q_282 := py_ne_new h_201 hq_286
  have h_201 := h_201.all x_288
  have ne_301 : va_199 ≠ q_282 := py_ne_new h_202 hq_286
  have h_202 := h_202.all x_288
  have ne_302 : q_213 ≠ q_282 := py_ne_new h_240 hq_286
  have h_240 := h_240.all x_288
  have ne_303 : q_247 ≠ q_282 := py_ne_new h_275 hq_286
  have h_275 := h_275.all x_288
  refine lv_dup G.1 G.2.1 dX11_init_111 rfl ?_
  refine py_callv hw (va_runIN (As := []) (rest := [.ref q_282, .ref h]) G (c_X7_init l E L_283 f_284 H_285.size q_282 h_287) ⟨va_cnB 0 G.2.2.2.2 g_X11_init_X7_init_73 rfl rfl rfl (hw.1.2.2 (RX11, 73, yX7_init) (List.mem_of_getElem? (i := 9) rfl)) (G.2.2.2.2 (Cond.initialized RX7) (by decide +kernel)) (by decide +kernel) ⟨(Nat.le_of_ble_eq_true rfl), (Nat.le_of_ble_eq_true rfl)⟩, rfl, G.2.2.2.2 (Cond.instanceMethod yX7_init) (by decide +kernel)⟩ (py_preS hw) rfl rfl hl.1 rfl (lv_room (Nat.le_of_ble_eq_true rfl)) dX11_init_112 ⟨(Nat.le_of_ble_eq_true rfl), (Nat.le_of_ble_eq_true rfl)⟩) (fun L_304 f_305 H_306 locs hp_307 hw => ?_)
  obtain ⟨xs_310, h_311, hl_312, x_309⟩ := hp_307
  have h_280 := h_280.ext x_309 ne_289
  have h_16 := h_16.ext x_309 ne_290
  have h_17 := h_17.ext x_309 ne_291
  have h_41 := h_41.ext x_309 ne_292
  have h_42 := h_42.ext x_309 ne_293
  have h_68 := h_68.ext x_309 ne_294
  have h_69 := h_69.ext x_309 ne_295
  have h_125 := h_125.ext x_309 ne_296
  have h_126 := h_126.ext x_309 ne_297
  have h_162 := h_162.ext x_309 ne_298
  have h_163 := h_163.ext x_309 ne_299
  have h_201 := h_201.ext x_309 ne_300
  have h_202 := h_202.ext x_309 ne_301
  have h_240 := h_240.ext x_309 ne_302
  have h_275 := h_275.ext x_309 ne_303
  refine py_putF (C := RX11) (T := TX11) (N := 16) (k := 10) (v := .ref q_282) (fs' := [.ref q_1, .ref q_22, .ref q_48, .ref q_75, .ref r_97, .ref q_102, .ref q_137, .ref q_174, .ref q_213, .ref q_247, .ref q_282, .null, .null, .int 0, .int 0, .int 0]) (ty0 := tyX11) G hin hw tyX11_ok nmX11 in_X11_init_X11 rfl h_280 (by decide) (by decide +kernel) rfl rfl rfl rfl rfl (Nat.le_of_ble_eq_true rfl) rfl dX11_init_115 (fun f_313 H_314 locs h_315 x_316 hw => ?_)
  have h_16 := h_16.ext x_316 (Ne.symm ne_8)
  have h_17 := h_17.ext x_316 (Ne.symm (py_ne_arr h_280 h_17))
  have h_41 := h_41.ext x_316 (Ne.symm ne_29)
  have h_42 := h_42.ext x_316 (py_ne_kind h_42 h_280 (by decide))
  have h_68 := h_68.ext x_316 (Ne.symm ne_55)
  have h_69 := h_69.ext x_316 (py_ne_kind h_69 h_280 (by decide))
  have h_125 := h_125.ext x_316 (Ne.symm ne_109)
  have h_126 := h_126.ext x_316 (py_ne_kind h_126 h_280 (by decide))
  have h_162 := h_162.ext x_316 (Ne.symm ne_144)
  have h_163 := h_163.ext x_316 (py_ne_kind h_163 h_280 (by decide))
  have h_201 := h_201.ext x_316 (Ne.symm ne_181)
  have h_202 := h_202.ext x_316 (py_ne_kind h_202 h_280 (by decide))
  have h_240 := h_240.ext x_316 (Ne.symm ne_220)
  have h_275 := h_275.ext x_316 (Ne.symm ne_254)
  have h_311 := h_311.ext x_316 (Ne.symm ne_289)
  refine lv_aload_n G.1 G.2.1 dX11_init_118 rfl (lv_at hl 0 rfl) ?_
  refine py_new (C := RX5) (T := TX5) (N := 1) (ci := 5) (fs := [.null]) (ty0 := tyX5) G hw tyX5_ok in_X11_init_X5 rfl (by decide +kernel) (by decide +kernel) (by decide +kernel) (fun j hj => match j, hj with | 0, _ => rfl | n + 1, h => absurd h (by omega)) (Nat.le_of_ble_eq_true rfl) (Nat.le_of_ble_eq_true rfl) dX11_init_119 (fun q_317 L_318 f_319 H_320 hq_321 h_322 x_323 hw => ?_)
  have ne_324 : h ≠ q_317 := py_ne_new h_315 hq_321
  have h_315 := h_315.all x_323
  have ne_325 : q_1 ≠ q_317 := py_ne_new h_16 hq_321
  have h_16 := h_16.all x_323
  have ne_326 : byt_15 ≠ q_317 := py_ne_new h_17 hq_321
  have h_17 := h_17.all x_323
  have ne_327 : q_22 ≠ q_317 := py_ne_new h_41 hq_321
  have h_41 := h_41.all x_323
  have ne_328 : dr_39 ≠ q_317 := py_ne_new h_42 hq_321
  have h_42 := h_42.all x_323
  have ne_329 : q_48 ≠ q_317 := py_ne_new h_68 hq_321
  have h_68 := h_68.all x_323
  have ne_330 : dl_66 ≠ q_317 := py_ne_new h_69 hq_321
  have h_69 := h_69.all x_323
  have ne_331 : q_102 ≠ q_317 := py_ne_new h_125 hq_321
  have h_125 := h_125.all x_323
  have ne_332 : va_123 ≠ q_317 := py_ne_new h_126 hq_321
  have h_126 := h_126.all x_323
  have ne_333 : q_137 ≠ q_317 := py_ne_new h_162 hq_321
  have h_162 := h_162.all x_323
  have ne_334 : va_160 ≠ q_317 := py_ne_new h_163 hq_321
  have h_163 := h_163.all x_323
  have ne_335 : q_174 ≠ q_317 := py_ne_new h_201 hq_321
  have h_201 := h_201.all x_323
  have ne_336 : va_199 ≠ q_317 := py_ne_new h_202 hq_321
  have h_202 := h_202.all x_323
  have ne_337 : q_213 ≠ q_317 := py_ne_new h_240 hq_321
  have h_240 := h_240.all x_323
  have ne_338 : q_247 ≠ q_317 := py_ne_new h_275 hq_321
  have h_275 := h_275.all x_323
  have ne_339 : q_282 ≠ q_317 := py_ne_new h_311 hq_321
  have h_311 := h_311.all x_323
  refine lv_dup G.1 G.2.1 dX11_init_122 rfl ?_
  refine py_callv hw (va_runIN (As := []) (rest := [.ref q_317, .ref h]) G (c_X5_init l E L_318 f_319 H_320.size q_317 h_322) ⟨va_cnB 0 G.2.2.2.2 g_X11_init_X5_init_80 rfl rfl rfl (hw.1.2.2 (RX11, 80, yX5_init) (List.mem_of_getElem? (i := 10) rfl)) (G.2.2.2.2 (Cond.initialized RX5) (by decide +kernel)) (by decide +kernel) ⟨(Nat.le_of_ble_eq_true rfl), (Nat.le_of_ble_eq_true rfl)⟩, rfl, G.2.2.2.2 (Cond.instanceMethod yX5_init) (by decide +kernel)⟩ (py_preS hw) rfl rfl hl.1 rfl (lv_room (Nat.le_of_ble_eq_true rfl)) dX11_init_123 ⟨(Nat.le_of_ble_eq_true rfl), (Nat.le_of_ble_eq_true rfl)⟩) (fun L_340 f_341 H_342 locs hp_343 hw => ?_)
  have x_345 := hp_343
  have h_315 := h_315.ext x_345 ne_324
  have h_16 := h_16.ext x_345 ne_325
  have h_17 := h_17.ext x_345 ne_326
  have h_41 := h_41.ext x_345 ne_327
  have h_42 := h_42.ext x_345 ne_328
  have h_68 := h_68.ext x_345 ne_329
  have h_69 := h_69.ext x_345 ne_330
  have h_125 := h_125.ext x_345 ne_331
  have h_126 := h_126.ext x_345 ne_332
  have h_162 := h_162.ext x_345 ne_333
  have h_163 := h_163.ext x_345 ne_334
  have h_201 := h_201.ext x_345 ne_335
  have h_202 := h_202.ext x_345 ne_336
  have h_240 := h_240.ext x_345 ne_337
  have h_275 := h_275.ext x_345 ne_338
  have h_311 := h_311.ext x_345 ne_339
  refine py_putF (C := RX11) (T := TX11) (N := 16) (k := 11) (v := .ref q_317) (fs' := [.ref q_1, .ref q_22, .ref q_48, .ref q_75, .ref r_97, .ref q_102, .ref q_137, .ref q_174, .ref q_213, .ref q_247, .ref q_282, .ref q_317, .null, .int 0, .int 0, .int 0]) (ty0 := tyX11) G hin hw tyX11_ok nmX11 in_X11_init_X11 rfl h_315 (by decide) (by decide +kernel) rfl rfl rfl rfl rfl (Nat.le_of_ble_eq_true rfl) rfl dX11_init_126 (fun f_346 H_347 locs h_348 x_349 hw => ?_)
  have h_16 := h_16.ext x_349 (Ne.symm ne_8)
  have h_17 := h_17.ext x_349 (Ne.symm (py_ne_arr h_315 h_17))
  have h_41 := h_41.ext x_349 (Ne.symm ne_29)
  have h_42 := h_42.ext x_349 (py_ne_kind h_42 h_315 (by decide))
  have h_68 := h_68.ext x_349 (Ne.symm ne_55)
  have h_69 := h_69.ext x_349 (py_ne_kind h_69 h_315 (by decide))
  have h_125 := h_125.ext x_349 (Ne.symm ne_109)
  have h_126 := h_126.ext x_349 (py_ne_kind h_126 h_315 (by decide))
  have h_162 := h_162.ext x_349 (Ne.symm ne_144)
  have h_163 := h_163.ext x_349 (py_ne_kind h_163 h_315 (by decide))
  have h_201 := h_201.ext x_349 (Ne.symm ne_181)
  have h_202 := h_202.ext x_349 (py_ne_kind h_202 h_315 (by decide))
  have h_240 := h_240.ext x_349 (Ne.symm ne_220)
  have h_275 := h_275.ext x_349 (Ne.symm ne_254)
  have h_311 := h_311.ext x_349 (Ne.symm ne_289)
  refine lv_aload_n G.1 G.2.1 dX11_init_129 rfl (lv_at hl 0 rfl) ?_
  refine py_new (C := RX6) (T := TX6) (N := 7) (ci := 6) (fs := [.null, .null, .null, .null, .null, .null, .long 0]) (ty0 := tyX6) G hw tyX6_ok in_X11_init_X6 rfl (by decide +kernel) (by decide +kernel) (by decide +kernel) (fun j hj => match j, hj with | 0, _ => rfl | 1, _ => rfl | 2, _ => rfl | 3, _ => rfl | 4, _ => rfl | 5, _ => rfl | 6, _ => rfl | n + 7, h => absurd h (by omega)) (Nat.le_of_ble_eq_true rfl) (Nat.le_of_ble_eq_true rfl) dX11_init_130 (fun q_350 L_351 f_352 H_353 hq_354 h_355 x_356 hw => ?_)
  have ne_357 : h ≠ q_350 := py_ne_new h_348 hq_354
  have h_348 := h_348.all x_356
  have ne_358 : q_1 ≠ q_350 := py_ne_new h_16 hq_354
  have h_16 := h_16.all x_356
  have ne_359 : byt_15 ≠ q_350 := py_ne_new h_17 hq_354
  have h_17 := h_17.all x_356
  have ne_360 : q_22 ≠ q_350 := py_ne_new h_41 hq_354
  have h_41 := h_41.all x_356
  have ne_361 : dr_39 ≠ q_350 := py_ne_new h_42 hq_354
  have h_42 := h_42.all x_356
  have ne_362 : q_48 ≠ q_350 := py_ne_new h_68 hq_354
  have h_68 := h_68.all x_356
  have ne_363 : dl_66 ≠ q_350 := py_ne_new h_69 hq_354
  have h_69 := h_69.all x_356
  have ne_364 : q_102 ≠ q_350 := py_ne_new h_125 hq_354
  have h_125 := h_125.all x_356
  have ne_365 : va_123 ≠ q_350 := py_ne_new h_126 hq_354
  have h_126 := h_126.all x_356
  have ne_366 : q_137 ≠ q_350 := py_ne_new h_162 hq_354
  have h_162 := h_162.all x_356
  have ne_367 : va_160 ≠ q_350 := py_ne_new h_163 hq_354
  have h_163 := h_163.all x_356
  have ne_368 : q_174 ≠ q_350 := py_ne_new h_201 hq_354
  have h_201 := h_201.all x_356
  have ne_369 : va_199 ≠ q_350 := py_ne_new h_202 hq_354
  have h_202 := h_202.all x_356
  have ne_370 : q_213 ≠ q_350 := py_ne_new h_240 hq_354
  have h_240 := h_240.all x_356
  have ne_371 : q_247 ≠ q_350 := py_ne_new h_275 hq_354
  have h_275 := h_275.all x_356
  have ne_372 : q_282 ≠ q_350 := py_ne_new h_311 hq_354
  have h_311 := h_311.all x_356
  refine lv_dup G.1 G.2.1 dX11_init_133 rfl ?_
  refine lv_aload_n G.1 G.2.1 dX11_init_134 rfl (lv_at hl 0 rfl) ?_
  refine py_get (C := RX11) (T := TX11) (N := 16) (k := 5) (v := .ref q_102) G hw in_X11_init_X11 rfl h_348 (by decide) (by decide +kernel) rfl dX11_init_135 ?_
  refine lv_aload_n G.1 G.2.1 dX11_init_138 rfl (lv_at hl 0 rfl) ?_
  refine py_get (C := RX11) (T := TX11) (N := 16) (k := 4) (v := .ref r_97) G hw in_X11_init_X11 rfl h_348 (by decide) (by decide +kernel) rfl dX11_init_139 ?_
  refine py_callv hw (va_runI (As := [.ref q_102, .ref r_97]) (rest := [.ref q_350, .ref h]) G (c_X6_init l E L_351 f_352 H_353.size q_350 q_102 r_97 h_355) (cwI 2 G.2.2.2.2 g_X11_init_X6_init_87 rfl rfl rfl (G.2.2.2.2 (Cond.initialized RX6) (by decide +kernel)) (G.2.2.2.2 (Cond.methodLink RX11 87 yX6_init) (by decide +kernel)) (G.2.2.2.2 (Cond.instanceMethod yX6_init) (by decide +kernel)) rfl (by decide +kernel) ⟨(Nat.le_of_ble_eq_true rfl), (Nat.le_of_ble_eq_true rfl)⟩) (py_preS hw) rfl rfl hl.1 rfl (lv_room (Nat.le_of_ble_eq_true rfl)) dX11_init_142 ⟨(Nat.le_of_ble_eq_true rfl), (Nat.le_of_ble_eq_true rfl)⟩) (fun L_373 f_374 H_375 locs hp_376 hw => ?_)
  have x_378 := hp_376
  have h_348 := h_348.ext x_378 ne_357
  have h_16 := h_16.ext x_378 ne_358
  have h_17 := h_17.ext x_378 ne_359
  have h_41 := h_41.ext x_378 ne_360
  have h_42 := h_42.ext x_378 ne_361
  have h_68 := h_68.ext x_378 ne_362
  have h_69 := h_69.ext x_378 ne_363
  have h_125 := h_125.ext x_378 ne_364
  have h_126 := h_126.ext x_378 ne_365
  have h_162 := h_162.ext x_378 ne_366
  have h_163 := h_163.ext x_378 ne_367
  have h_201 := h_201.ext x_378 ne_368
  have h_202 := h_202.ext x_378 ne_369
  have h_240 := h_240.ext x_378 ne_370
  have h_275 := h_275.ext x_378 ne_371
  have h_311 := h_311.ext x_378 ne_372
  refine py_putF (C := RX11) (T := TX11) (N := 16) (k := 12) (v := .ref q_350) (fs' := [.ref q_1, .ref q_22, .ref q_48, .ref q_75, .ref r_97, .ref q_102, .ref q_137, .ref q_174, .ref q_213, .ref q_247, .ref q_282, .ref q_317, .ref q_350, .int 0, .int 0, .int 0]) (ty0 := tyX11) G hin hw tyX11_ok nmX11 in_X11_init_X11 rfl h_348 (by decide) (by decide +kernel) rfl rfl rfl rfl rfl (Nat.le_of_ble_eq_true rfl) rfl dX11_init_145 (fun f_379 H_380 locs h_381 x_382 hw => ?_)
  have h_16 := h_16.ext x_382 (Ne.symm ne_8)
  have h_17 := h_17.ext x_382 (Ne.symm (py_ne_arr h_348 h_17))
  have h_41 := h_41.ext x_382 (Ne.symm ne_29)
  have h_42 := h_42.ext x_382 (py_ne_kind h_42 h_348 (by decide))
  have h_68 := h_68.ext x_382 (Ne.symm ne_55)
  have h_69 := h_69.ext x_382 (py_ne_kind h_69 h_348 (by decide))
  have h_125 := h_125.ext x_382 (Ne.symm ne_109)
  have h_126 := h_126.ext x_382 (py_ne_kind h_126 h_348 (by decide))
  have h_162 := h_162.ext x_382 (Ne.symm ne_144)
  have h_163 := h_163.ext x_382 (py_ne_kind h_163 h_348 (by decide))
  have h_201 := h_201.ext x_382 (Ne.symm ne_181)
  have h_202 := h_202.ext x_382 (py_ne_kind h_202 h_348 (by decide))
  have h_240 := h_240.ext x_382 (Ne.symm ne_220)
  have h_275 := h_275.ext x_382 (Ne.symm ne_254)
  have h_311 := h_311.ext x_382 (Ne.symm ne_289)
  refine lv_aload_n G.1 G.2.1 dX11_init_148 rfl (lv_at hl 0 rfl) ?_
  refine lv_iconst (v := 0) G.1 G.2.1 dX11_init_149 (by decide) ?_
  refine py_put (C := RX11) (T := TX11) (N := 16) (k := 13) (v := .int 0) (fs' := [.ref q_1, .ref q_22, .ref q_48, .ref q_75, .ref r_97, .ref q_102, .ref q_137, .ref q_174, .ref q_213, .ref q_247, .ref q_282, .ref q_317, .ref q_350, .int 0, .int 0, .int 0]) (ty0 := tyX11) G hw tyX11_ok nmX11 in_X11_init_X11 rfl h_381 (by decide) (by decide +kernel) rfl rfl rfl rfl (Nat.le_of_ble_eq_true rfl) rfl dX11_init_150 (fun f_383 H_384 locs h_385 x_386 hw => ?_)
  have h_16 := h_16.ext x_386 (Ne.symm ne_8)
  have h_17 := h_17.ext x_386 (Ne.symm (py_ne_arr h_381 h_17))
  have h_41 := h_41.ext x_386 (Ne.symm ne_29)
  have h_42 := h_42.ext x_386 (py_ne_kind h_42 h_381 (by decide))
  have h_68 := h_68.ext x_386 (Ne.symm ne_55)
  have h_69 := h_69.ext x_386 (py_ne_kind h_69 h_381 (by decide))
  have h_125 := h_125.ext x_386 (Ne.symm ne_109)
  have h_126 := h_126.ext x_386 (py_ne_kind h_126 h_381 (by decide))
  have h_162 := h_162.ext x_386 (Ne.symm ne_144)
  have h_163 := h_163.ext x_386 (py_ne_kind h_163 h_381 (by decide))
  have h_201 := h_201.ext x_386 (Ne.symm ne_181)
  have h_202 := h_202.ext x_386 (py_ne_kind h_202 h_381 (by decide))
  have h_240 := h_240.ext x_386 (Ne.symm ne_220)
  have h_275 := h_275.ext x_386 (Ne.symm ne_254)
  have h_311 := h_311.ext x_386 (Ne.symm ne_289)
  refine lv_aload_n G.1 G.2.1 dX11_init_153 rfl (lv_at hl 0 rfl) ?_
  refine lv_iconst (v := (-1)) G.1 G.2.1 dX11_init_154 (by decide) ?_
  refine py_put (C := RX11) (T := TX11) (N := 16) (k := 14) (v := .int (-1)) (fs' := [.ref q_1, .ref q_22, .ref q_48, .ref q_75, .ref r_97, .ref q_102, .ref q_137, .ref q_174, .ref q_213, .ref q_247, .ref q_282, .ref q_317, .ref q_350, .int 0, .int (-1), .int 0]) (ty0 := tyX11) G hw tyX11_ok nmX11 in_X11_init_X11 rfl h_385 (by decide) (by decide +kernel) rfl rfl rfl rfl (Nat.le_of_ble_eq_true rfl) rfl dX11_init_155 (fun f_387 H_388 locs h_389 x_390 hw => ?_)
  have h_16 := h_16.ext x_390 (Ne.symm ne_8)
  have h_17 := h_17.ext x_390 (Ne.symm (py_ne_arr h_385 h_17))
  have h_41 := h_41.ext x_390 (Ne.symm ne_29)
  have h_42 := h_42.ext x_390 (py_ne_kind h_42 h_385 (by decide))
  have h_68 := h_68.ext x_390 (Ne.symm ne_55)
  have h_69 := h_69.ext x_390 (py_ne_kind h_69 h_385 (by decide))
  have h_125 := h_125.ext x_390 (Ne.symm ne_109)
  have h_126 := h_126.ext x_390 (py_ne_kind h_126 h_385 (by decide))
  have h_162 := h_162.ext x_390 (Ne.symm ne_144)
  have h_163 := h_163.ext x_390 (py_ne_kind h_163 h_385 (by decide))
  have h_201 := h_201.ext x_390 (Ne.symm ne_181)
  have h_202 := h_202.ext x_390 (py_ne_kind h_202 h_385 (by decide))
  have h_240 := h_240.ext x_390 (Ne.symm ne_220)
  have h_275 := h_275.ext x_390 (Ne.symm ne_254)
  have h_311 := h_311.ext x_390 (Ne.symm ne_289)
  refine lv_aload_n G.1 G.2.1 dX11_init_158 rfl (lv_at hl 0 rfl) ?_
  refine lv_iconst (v := 0) G.1 G.2.1 dX11_init_159 (by decide) ?_
  refine py_put (C := RX11) (T := TX11) (N := 16) (k := 15) (v := .int 0) (fs' := [.ref q_1, .ref q_22, .ref q_48, .ref q_75, .ref r_97, .ref q_102, .ref q_137, .ref q_174, .ref q_213, .ref q_247, .ref q_282, .ref q_317, .ref q_350, .int 0, .int (-1), .int 0]) (ty0 := tyX11) G hw tyX11_ok nmX11 in_X11_init_X11 rfl h_389 (by decide) (by decide +kernel) rfl rfl rfl rfl (Nat.le_of_ble_eq_true rfl) rfl dX11_init_160 (fun f_391 H_392 locs h_393 x_394 hw => ?_)
  have h_16 := h_16.ext x_394 (Ne.symm ne_8)
  have h_17 := h_17.ext x_394 (Ne.symm (py_ne_arr h_389 h_17))
  have h_41 := h_41.ext x_394 (Ne.symm ne_29)
  have h_42 := h_42.ext x_394 (py_ne_kind h_42 h_389 (by decide))
  have h_68 := h_68.ext x_394 (Ne.symm ne_55)
  have h_69 := h_69.ext x_394 (py_ne_kind h_69 h_389 (by decide))
  have h_125 := h_125.ext x_394 (Ne.symm ne_109)
  have h_126 := h_126.ext x_394 (py_ne_kind h_126 h_389 (by decide))
  have h_162 := h_162.ext x_394 (Ne.symm ne_144)
  have h_163 := h_163.ext x_394 (py_ne_kind h_163 h_389 (by decide))
  have h_201 := h_201.ext x_394 (Ne.symm ne_181)
  have h_202 := h_202.ext x_394 (py_ne_kind h_202 h_389 (by decide))
  have h_240 := h_240.ext x_394 (Ne.symm ne_220)
  have h_275 := h_275.ext x_394 (Ne.symm ne_254)
  have h_311 := h_311.ext x_394 (Ne.symm ne_289)
  refine W.widen (k := 96) (n := 2936) (Nat.le_of_ble_eq_true rfl) (Nat.le_of_ble_eq_true rfl) ?_
  have xt_395 : py_ext L f L_373 f_391 h := fun b hb hn => by
    have n1 : b ≠ q_1 := fun h => hq_5 (h ▸ hb)
    obtain ⟨m1, e1⟩ := x_7 b hb
    obtain ⟨m2, e2⟩ := x_14 b m1 n1
    obtain ⟨m3, e3⟩ := x_21 b m2 hn
    have n4 : b ≠ q_22 := fun h => hq_26 (h ▸ m3)
    obtain ⟨m4, e4⟩ := x_28 b m3
    obtain ⟨m5, e5⟩ := x_37 b m4 n4
    obtain ⟨m6, e6⟩ := x_47 b m5 hn
    have n7 : b ≠ q_48 := fun h => hq_52 (h ▸ m6)
    obtain ⟨m7, e7⟩ := x_54 b m6
    obtain ⟨m8, e8⟩ := x_65 b m7 n7
    obtain ⟨m9, e9⟩ := x_74 b m8 hn
    have n10 : b ≠ q_75 := fun h => hq_79 (h ▸ m9)
    obtain ⟨m10, e10⟩ := x_81 b m9
    obtain ⟨m11, e11⟩ := x_92 b m10 hn
    obtain ⟨m12, e12⟩ := hp_96 b m11
    obtain ⟨m13, e13⟩ := x_101 b m12 hn
    have n14 : b ≠ q_102 := fun h => hq_106 (h ▸ m13)
    obtain ⟨m14, e14⟩ := x_108 b m13
    obtain ⟨m15, e15⟩ := x_121 b m14 n14
    obtain ⟨m16, e16⟩ := x_136 b m15 hn
    have n17 : b ≠ q_137 := fun h => hq_141 (h ▸ m16)
    obtain ⟨m17, e17⟩ := x_143 b m16
    obtain ⟨m18, e18⟩ := x_158 b m17 n17
    obtain ⟨m19, e19⟩ := x_173 b m18 hn
    have n20 : b ≠ q_174 := fun h => hq_178 (h ▸ m19)
    obtain ⟨m20, e20⟩ := x_180 b m19
    obtain ⟨m21, e21⟩ := x_197 b m20 n20
    obtain ⟨m22, e22⟩ := x_212 b m21 hn
    have n23 : b ≠ q_213 := fun h => hq_217 (h ▸ m22)
    obtain ⟨m23, e23⟩ := x_219 b m22
    obtain ⟨m24, e24⟩ := x_238 b m23 n23
    obtain ⟨m25, e25⟩ := x_246 b m24 hn
    have n26 : b ≠ q_247 := fun h => hq_251 (h ▸ m25)
    obtain ⟨m26, e26⟩ := x_253 b m25
    obtain ⟨m27, e27⟩ := x_273 b m26 n26
    obtain ⟨m28, e28⟩ := x_281 b m27 hn
    have n29 : b ≠ q_282 := fun h => hq_286 (h ▸ m28)
    obtain ⟨m29, e29⟩ := x_288 b m28
    obtain ⟨m30, e30⟩ := x_309 b m29 n29
    obtain ⟨m31, e31⟩ := x_316 b m30 hn
    have n32 : b ≠ q_317 := fun h => hq_321 (h ▸ m31)
    obtain ⟨m32, e32⟩ := x_323 b m31
    obtain ⟨m33, e33⟩ := x_345 b m32 n32
    obtain ⟨m34, e34⟩ := x_349 b m33 hn
    have n35 : b ≠ q_350 := fun h => hq_354 (h ▸ m34)
    obtain ⟨m35, e35⟩ := x_356 b m34
    obtain ⟨m36, e36⟩ := x_378 b m35 n35
    obtain ⟨m37, e37⟩ := x_382 b m36 hn
    obtain ⟨m38, e38⟩ := x_386 b m37 hn
    obtain ⟨m39, e39⟩ := x_390 b m38 hn
    obtain ⟨m40, e40⟩ := x_394 b m39 hn
    exact ⟨m40, e40.trans (e39.trans (e38.trans (e37.trans (e36.trans (e35.trans (e34.trans (e33.trans (e32.trans (e31.trans (e30.trans (e29.trans (e28.trans (e27.trans (e26.trans (e25.trans (e24.trans (e23.trans (e22.trans (e21.trans (e20.trans (e19.trans (e18.trans (e17.trans (e16.trans (e15.trans (e14.trans (e13.trans (e12.trans (e11.trans (e10.trans (e9.trans (e8.trans (e7.trans (e6.trans (e5.trans (e4.trans (e3.trans (e2.trans (e1.trans (rfl))))))))))))))))))))))))))))))))))))))))⟩
  exact py_vret G hr hlk hw ⟨⟨q_1, byt_15, q_22, itm_38, dr_39, q_48, dl_66, q_75, r_97, q_102, va_123, q_137, q_174, q_213, q_247, q_282, q_317, q_350, _, _, _, _, _, _, _, _, h_393, h_16, h_17, h_41, h_42, hl_43, h_68, h_69, hl_70, h_125, hp_127, hp_128, hp_129, h_126, hp_130, hp_131, hp_132, h_240, hl_241, hp_242, h_275, hl_276, hp_277, h_311, hl_312⟩, xt_395⟩ dX11_init_163

def w_X12_init : List Cond := .code yX12_init cX12_init 1 none :: ([Cond.methodLink RX12 3 objectInit, Cond.instanceMethod objectInit, Cond.code objectInit ⟨#[0xb1]⟩ 1 none, Cond.arrayClass .int, Cond.fieldLink RX12 9 "HeadYearModel" "tape" "[I", Cond.fieldLink RX12 13 "HeadYearModel" "code" "[I", Cond.fieldLink RX12 16 "HeadYearModel" "value" "[I", Cond.fieldLink RX12 19 "HeadYearModel" "codes" "[I", Cond.fieldLink RX12 22 "HeadYearModel" "clauses" "[I", Cond.fieldLink RX12 25 "HeadYearModel" "testFrom" "[I", Cond.fieldLink RX12 28 "HeadYearModel" "sumFrom" "[I", Cond.fieldLink RX12 31 "HeadYearModel" "sumTo" "[I", Cond.fieldLink RX12 34 "HeadYearModel" "letters" "[I", Cond.fieldLink RX12 37 "HeadYearModel" "stack" "[I", Cond.fieldLink RX12 40 "HeadYearModel" "readLevel" "[I", Cond.fieldLink RX12 43 "HeadYearModel" "readFamily" "[I", Cond.fieldLink RX12 46 "HeadYearModel" "levelRow" "[I", Cond.fieldLink RX12 49 "HeadYearModel" "birth" "[I", Cond.fieldLink RX12 52 "HeadYearModel" "twin" "[I", Cond.fieldLink RX12 55 "HeadYearModel" "now" "[I", Cond.fieldLink RX12 58 "HeadYearModel" "aside" "[I", Cond.fieldLink RX12 61 "HeadYearModel" "image" "[I", Cond.fieldLink RX12 64 "HeadYearModel" "holding" "I", Cond.fieldLink RX12 68 "HeadYearModel" "find" "I", Cond.fieldLink RX12 71 "HeadYearModel" "price" "I", Cond.fieldLink RX12 74 "HeadYearModel" "lacks" "[I", Cond.fieldLink RX12 77 "HeadYearModel" "toLevel" "[I", Cond.fieldLink RX12 80 "HeadYearModel" "toHut" "[I", Cond.fieldLink RX12 83 "HeadYearModel" "diaryLevel" "[I", Cond.fieldLink RX12 86 "HeadYearModel" "diaryHeads" "[I", Cond.fieldLink RX12 89 "HeadYearModel" "buyer" "[I", Cond.fieldLink RX12 92 "HeadYearModel" "buyBy" "[I", Cond.fieldLink RX12 95 "HeadYearModel" "buyCost" "[I", Cond.fieldLink RX12 98 "HeadYearModel" "far" "[I", Cond.arrayClass .long, Cond.fieldLink RX12 101 "HeadYearModel" "parts" "[J", Cond.fieldLink RX12 105 "HeadYearModel" "then" "[J", Cond.fieldLink RX12 108 "HeadYearModel" "dying" "[J", Cond.fieldLink RX12 111 "HeadYearModel" "imageLevel" "[I", Cond.fieldLink RX12 114 "HeadYearModel" "imageHeads" "[I"] ++ (u_ws RX12 TX12 54 ++ ([])))
theorem in_X12_init_X12 : ∀ w ∈ u_ws RX12 TX12 54, w ∈ w_X12_init := fun _ h => List.mem_cons_of_mem _ (List.mem_append_right _ (List.mem_append_left _ h))
set_option maxHeartbeats 4000000 in
set_option maxRecDepth 100000 in
theorem c_X12_init (l : Launch) (E : py_E) (L : List Nat) (f : py_F) (sz : Nat) (h : Nat) (hh : py_at L f h (.inr (12, [.int 0, .null, .int 0, .int 0, .int 0, .int 0, .null, .null, .null, .null, .null, .null, .null, .int 0, .int 0, .null, .null, .null, .null, .int 0, .int 0, .null, .null, .null, .int 0, .int 0, .null, .null, .null, .int 0, .long 0, .int 0, .int 0, .int 0, .int 0, .null, .null, .null, .null, .null, .null, .null, .null, .int 0, .null, .null, .null, .null, .long 0, .null, .null, .int 0, .long 0, .int 0]))) : Met l yX12_init w_X12_init ({ frames := 1, cells := 32, slots := 8314, locals := 12 }) (py_Pc E [.ref h] L f sz) (py_Qv E L f sz (fun L1 f1 => fr_M E L1 f1 h ∧ py_ext L f L1 f1 h)) 32 8314 (va_A (va_pl L f) sz) := by
  refine Met.ofW (cc := cX12_init) (maxL := 1) (ret := none) (by decide) rfl ?_
  intro p e s m args below meth c s₁ B hml hv
  obtain ⟨rfl, rfl, hw⟩ := py_start hv
  have G : CallFix p m c cX12_init 1 s _ w_X12_init RX12 := ⟨B.exec, B.bytes, hml, findClass_of_methodNamed B.named, atoms_spec (ws := w_X12_init) B.pre⟩
  have hr := B.returns
  have hlk := B.notSynchronized
  have hin : meth.name = "<init>" := (name_of_methodNamed B.named B.method).1
  have hl := lv_entry ([.ref h]) (n := 1) (Nat.le_of_ble_eq_true rfl)
  rw [lg_entry_eq]
  generalize (lg_sl ([.ref h]) ++ List.replicate (1 - (lg_sl ([.ref h])).length) Slot.unset).toArray = ls at hl ⊢
  have hl : lv_has ls 1 [(0, .ref h)] := hl
  refine lv_aload_n G.1 G.2.1 dX12_init_0 rfl (lv_at hl 0 rfl) ?_
  refine py_objInit G hl.1 (by decide +kernel) (by decide +kernel) (by decide +kernel) dX12_init_1 (Nat.le_of_ble_eq_true rfl) (Nat.le_of_ble_eq_true rfl) ?_
  refine lv_aload_n G.1 G.2.1 dX12_init_4 rfl (lv_at hl 0 rfl) ?_
  refine lv_sipush (v := 160) G.1 G.2.1 dX12_init_5 (by decide) ?_
  refine py_newI (N := 160) G hw (by decide +kernel) (by decide) (by decide) (Nat.le_of_ble_eq_true rfl) (Nat.le_of_ble_eq_true rfl) (Nat.le_of_ble_eq_true rfl) dX12_init_8 (fun q_1 L_2 f_3 H_4 hq_5 h_6 x_7 hw => ?_)
  have ne_8 : h ≠ q_1 := py_ne_new hh hq_5
  have hh := hh.all x_7
  refine py_putF (C := RX12) (T := TX12) (N := 54) (k := 1) (v := .ref q_1) (fs' := [.int 0, .ref q_1, .int 0, .int 0, .int 0, .int 0, .null, .null, .null, .null, .null, .null, .null, .int 0, .int 0, .null, .null, .null, .null, .int 0, .int 0, .null, .null, .null, .int 0, .int 0, .null, .null, .null, .int 0, .long 0, .int 0, .int 0, .int 0, .int 0, .null, .null, .null, .null, .null, .null, .null, .null, .int 0, .null, .null, .null, .null, .long 0, .null, .null, .int 0, .long 0, .int 0]) (ty0 := tyX12) G hin hw tyX12_ok nmX12 in_X12_init_X12 rfl hh (by decide) (by decide +kernel) rfl rfl rfl rfl rfl (Nat.le_of_ble_eq_true rfl) rfl dX12_init_10 (fun f_9 H_10 locs h_11 x_12 hw => ?_)
  have h_6 := h_6.ext x_12 (Ne.symm ne_8)
  refine lv_aload_n G.1 G.2.1 dX12_init_13 rfl (lv_at hl 0 rfl) ?_
  refine lv_sipush (v := 1700) G.1 G.2.1 dX12_init_14 (by decide) ?_
  refine py_newI (N := 1700) G hw (by decide +kernel) (by decide) (by decide) (Nat.le_of_ble_eq_true rfl) (Nat.le_of_ble_eq_true rfl) (Nat.le_of_ble_eq_true rfl) dX12_init_17 (fun q_13 L_14 f_15 H_16 hq_17 h_18 x_19 hw => ?_)
  have ne_20 : h ≠ q_13 := py_ne_new h_11 hq_17
  have h_11 := h_11.all x_19
  have ne_21 : q_1 ≠ q_13 := py_ne_new h_6 hq_17
  have h_6 := h_6.all x_19
  refine py_putF (C := RX12) (T := TX12) (N := 54) (k := 6) (v := .ref q_13) (fs' := [.int 0, .ref q_1, .int 0, .int 0, .int 0, .int 0, .ref q_13, .null, .null, .null, .null, .null, .null, .int 0, .int 0, .null, .null, .null, .null, .int 0, .int 0, .null, .null, .null, .int 0, .int 0, .null, .null, .null, .int 0, .long 0, .int 0, .int 0, .int 0, .int 0, .null, .null, .null, .null, .null, .null, .null, .null, .int 0, .null, .null, .null, .null, .long 0, .null, .null, .int 0, .long 0, .int 0]) (ty0 := tyX12) G hin hw tyX12_ok nmX12 in_X12_init_X12 rfl h_11 (by decide) (by decide +kernel) rfl rfl rfl rfl rfl (Nat.le_of_ble_eq_true rfl) rfl dX12_init_19 (fun f_22 H_23 locs h_24 x_25 hw => ?_)
  have h_6 := h_6.ext x_25 (Ne.symm ne_8)
  refine lv_aload_n G.1 G.2.1 dX12_init_22 rfl (lv_at hl 0 rfl) ?_
  refine lv_sipush (v := 1700) G.1 G.2.1 dX12_init_23 (by decide) ?_
  refine py_newI (N := 1700) G hw (by decide +kernel) (by decide) (by decide) (Nat.le_of_ble_eq_true rfl) (Nat.le_of_ble_eq_true rfl) (Nat.le_of_ble_eq_true rfl) dX12_init_26 (fun q_26 L_27 f_28 H_29 hq_30 h_31 x_32 hw => ?_)
  have ne_33 : h ≠ q_26 := py_ne_new h_24 hq_30
  have h_24 := h_24.all x_32
  have ne_34 : q_1 ≠ q_26 := py_ne_new h_6 hq_30
  have h_6 := h_6.all x_32
  refine py_putF (C := RX12) (T := TX12) (N := 54) (k := 7) (v := .ref q_26) (fs' := [.int 0, .ref q_1, .int 0, .int 0, .int 0, .int 0, .ref q_13, .ref q_26, .null, .null, .null, .null, .null, .int 0, .int 0, .null, .null, .null, .null, .int 0, .int 0, .null, .null, .null, .int 0, .int 0, .null, .null, .null, .int 0, .long 0, .int 0, .int 0, .int 0, .int 0, .null, .null, .null, .null, .null, .null, .null, .null, .int 0, .null, .null, .null, .null, .long 0, .null, .null, .int 0, .long 0, .int 0]) (ty0 := tyX12) G hin hw tyX12_ok nmX12 in_X12_init_X12 rfl h_24 (by decide) (by decide +kernel) rfl rfl rfl rfl rfl (Nat.le_of_ble_eq_true rfl) rfl dX12_init_28 (fun f_35 H_36 locs h_37 x_38 hw => ?_)
  have h_6 := h_6.ext x_38 (Ne.symm ne_8)
  refine lv_aload_n G.1 G.2.1 dX12_init_31 rfl (lv_at hl 0 rfl) ?_
  refine lv_iconst (v := 5) G.1 G.2.1 dX12_init_32 (by decide) ?_
  refine py_newI (N := 5) G hw (by decide +kernel) (by decide) (by decide) (Nat.le_of_ble_eq_true rfl) (Nat.le_of_ble_eq_true rfl) (Nat.le_of_ble_eq_true rfl) dX12_init_33 (fun q_39 L_40 f_41 H_42 hq_43 h_44 x_45 hw => ?_)
  have ne_46 : h ≠ q_39 := py_ne_new h_37 hq_43
  have h_37 := h_37.all x_45
  have ne_47 : q_1 ≠ q_39 := py_ne_new h_6 hq_43
  have h_6 := h_6.all x_45
  refine py_putF (C := RX12) (T := TX12) (N := 54) (k := 8) (v := .ref q_39) (fs' := [.int 0, .ref q_1, .int 0, .int 0, .int 0, .int 0, .ref q_13, .ref q_26, .ref q_39, .null, .null, .null, .null, .int 0, .int 0, .null, .null, .null, .null, .int 0, .int 0, .null, .null, .null, .int 0, .int 0, .null, .null, .null, .int 0, .long 0, .int 0, .int 0, .int 0, .int 0, .null, .null, .null, .null, .null, .null, .null, .null, .int 0, .null, .null, .null, .null, .long 0, .null, .null, .int 0, .long 0, .int 0]) (ty0 := tyX12) G hin hw tyX12_ok nmX12 in_X12_init_X12 rfl h_37 (by decide) (by decide +kernel) rfl rfl rfl rfl rfl (Nat.le_of_ble_eq_true rfl) rfl dX12_init_35 (fun f_48 H_49 locs h_50 x_51 hw => ?_)
  have h_6 := h_6.ext x_51 (Ne.symm ne_8)
  have h_44 := h_44.ext x_51 (Ne.symm ne_46)
  refine lv_aload_n G.1 G.2.1 dX12_init_38 rfl (lv_at hl 0 rfl) ?_
  refine lv_iconst (v := 5) G.1 G.2.1 dX12_init_39 (by decide) ?_
  refine py_newI (N := 5) G hw (by decide +kernel) (by decide) (by decide) (Nat.le_of_ble_eq_true rfl) (Nat.le_of_ble_eq_true rfl) (Nat.le_of_ble_eq_true rfl) dX12_init_40 (fun q_52 L_53 f_54 H_55 hq_56 h_57 x_58 hw => ?_)
  have ne_59 : h ≠ q_52 := py_ne_new h_50 hq_56
  have h_50 := h_50.all x_58
  have ne_60 : q_1 ≠ q_52 := py_ne_new h_6 hq_56
  have h_6 := h_6.all x_58
  have ne_61 : q_39 ≠ q_52 := py_ne_new h_44 hq_56
  have h_44 := h_44.all x_58
  refine py_putF (C := RX12) (T := TX12) (N := 54) (k := 9) (v := .ref q_52) (fs' := [.int 0, .ref q_1, .int 0, .int 0, .int 0, .int 0, .ref q_13, .ref q_26, .ref q_39, .ref q_52, .null, .null, .null, .int 0, .int 0, .null, .null, .null, .null, .int 0, .int 0, .null, .null, .null, .int 0, .int 0, .null, .null, .null, .int 0, .long 0, .int 0, .int 0, .int 0, .int 0, .null, .null, .null, .null, .null, .null, .null, .null, .int 0, .null, .null, .null, .null, .long 0, .null, .null, .int 0, .long 0, .int 0]) (ty0 := tyX12) G hin hw tyX12_ok nmX12 in_X12_init_X12 rfl h_50 (by decide) (by decide +kernel) rfl rfl rfl rfl rfl (Nat.le_of_ble_eq_true rfl) rfl dX12_init_42 (fun f_62 H_63 locs h_64 x_65 hw => ?_)
  have h_6 := h_6.ext x_65 (Ne.symm ne_8)
  have h_44 := h_44.ext x_65 (Ne.symm ne_46)
  have h_57 := h_57.ext x_65 (Ne.symm ne_59)
  refine lv_aload_n G.1 G.2.1 dX12_init_45 rfl (lv_at hl 0 rfl) ?_
  refine lv_sipush (v := 450) G.1 G.2.1 dX12_init_46 (by decide) ?_
  refine py_newI (N := 450) G hw (by decide +kernel) (by decide) (by decide) (Nat.le_of_ble_eq_true rfl) (Nat.le_of_ble_eq_true rfl) (Nat.le_of_ble_eq_true rfl) dX12_init_49 (fun q_66 L_67 f_68 H_69 hq_70 h_71 x_72 hw => ?_)
  have ne_73 : h ≠ q_66 := py_ne_new h_64 hq_70
  have h_64 := h_64.all x_72
  have ne_74 : q_1 ≠ q_66 := py_ne_new h_6 hq_70
  have h_6 := h_6.all x_72
  have ne_75 : q_39 ≠ q_66 := py_ne_new h_44 hq_70
  have h_44 := h_44.all x_72
  have ne_76 : q_52 ≠ q_66 := py_ne_new h_57 hq_70
  have h_57 := h_57.all x_72
  refine py_putF (C := RX12) (T := TX12) (N := 54) (k := 10) (v := .ref q_66) (fs' := [.int 0, .ref q_1, .int 0, .int 0, .int 0, .int 0, .ref q_13, .ref q_26, .ref q_39, .ref q_52, .ref q_66, .null, .null, .int 0, .int 0, .null, .null, .null, .null, .int 0, .int 0, .null, .null, .null, .int 0, .int 0, .null, .null, .null, .int 0, .long 0, .int 0, .int 0, .int 0, .int 0, .null, .null, .null, .null, .null, .null, .null, .null, .int 0, .null, .null, .null, .null, .long 0, .null, .null, .int 0, .long 0, .int 0]) (ty0 := tyX12) G hin hw tyX12_ok nmX12 in_X12_init_X12 rfl h_64 (by decide) (by decide +kernel) rfl rfl rfl rfl rfl (Nat.le_of_ble_eq_true rfl) rfl dX12_init_51 (fun f_77 H_78 locs h_79 x_80 hw => ?_)
  have h_6 := h_6.ext x_80 (Ne.symm ne_8)
  have h_44 := h_44.ext x_80 (Ne.symm ne_46)
  have h_57 := h_57.ext x_80 (Ne.symm ne_59)
  refine lv_aload_n G.1 G.2.1 dX12_init_54 rfl (lv_at hl 0 rfl) ?_
  refine lv_sipush (v := 450) G.1 G.2.1 dX12_init_55 (by decide) ?_
  refine py_newI (N := 450) G hw (by decide +kernel) (by decide) (by decide) (Nat.le_of_ble_eq_true rfl) (Nat.le_of_ble_eq_true rfl) (Nat.le_of_ble_eq_true rfl) dX12_init_58 (fun q_81 L_82 f_83 H_84 hq_85 h_86 x_87 hw => ?_)
  have ne_88 : h ≠ q_81 := py_ne_new h_79 hq_85
  have h_79 := h_79.all x_87
  have ne_89 : q_1 ≠ q_81 := py_ne_new h_6 hq_85
  have h_6 := h_6.all x_87
  have ne_90 : q_39 ≠ q_81 := py_ne_new h_44 hq_85
  have h_44 := h_44.all x_87
  have ne_91 : q_52 ≠ q_81 := py_ne_new h_57 hq_85
  have h_57 := h_57.all x_87
  refine py_putF (C := RX12) (T := TX12) (N := 54) (k := 11) (v := .ref q_81) (fs' := [.int 0, .ref q_1, .int 0, .int 0, .int 0, .int 0, .ref q_13, .ref q_26, .ref q_39, .ref q_52, .ref q_66, .ref q_81, .null, .int 0, .int 0, .null, .null, .null, .null, .int 0, .int 0, .null, .null, .null, .int 0, .int 0, .null, .null, .null, .int 0, .long 0, .int 0, .int 0, .int 0, .int 0, .null, .null, .null, .null, .null, .null, .null, .null, .int 0, .null, .null, .null, .null, .long 0, .null, .null, .int 0, .long 0, .int 0]) (ty0 := tyX12) G hin hw tyX12_ok nmX12 in_X12_init_X12 rfl h_79 (by decide) (by decide +kernel) rfl rfl rfl rfl rfl (Nat.le_of_ble_eq_true rfl) rfl dX12_init_60 (fun f_92 H_93 locs h_94 x_95 hw => ?_)
  have h_6 := h_6.ext x_95 (Ne.symm ne_8)
  have h_44 := h_44.ext x_95 (Ne.symm ne_46)
  have h_57 := h_57.ext x_95 (Ne.symm ne_59)
  refine lv_aload_n G.1 G.2.1 dX12_init_63 rfl (lv_at hl 0 rfl) ?_
  refine lv_sipush (v := 450) G.1 G.2.1 dX12_init_64 (by decide) ?_
  refine py_newI (N := 450) G hw (by decide +kernel) (by decide) (by decide) (Nat.le_of_ble_eq_true rfl) (Nat.le_of_ble_eq_true rfl) (Nat.le_of_ble_eq_true rfl) dX12_init_67 (fun q_96 L_97 f_98 H_99 hq_100 h_101 x_102 hw => ?_)
  have ne_103 : h ≠ q_96 := py_ne_new h_94 hq_100
  have h_94 := h_94.all x_102
  have ne_104 : q_1 ≠ q_96 := py_ne_new h_6 hq_100
  have h_6 := h_6.all x_102
  have ne_105 : q_39 ≠ q_96 := py_ne_new h_44 hq_100
  have h_44 := h_44.all x_102
  have ne_106 : q_52 ≠ q_96 := py_ne_new h_57 hq_100
  have h_57 := h_57.all x_102
  refine py_putF (C := RX12) (T := TX12) (N := 54) (k := 12) (v := .ref q_96) (fs' := [.int 0, .ref q_1, .int 0, .int 0, .int 0, .int 0, .ref q_13, .ref q_26, .ref q_39, .ref q_52, .ref q_66, .ref q_81, .ref q_96, .int 0, .int 0, .null, .null, .null, .null, .int 0, .int 0, .null, .null, .null, .int 0, .int 0, .null, .null, .null, .int 0, .long 0, .int 0, .int 0, .int 0, .int 0, .null, .null, .null, .null, .null, .null, .null, .null, .int 0, .null, .null, .null, .null, .long 0, .null, .null, .int 0, .long 0, .int 0]) (ty0 := tyX12) G hin hw tyX12_ok nmX12 in_X12_init_X12 rfl h_94 (by decide) (by decide +kernel) rfl rfl rfl rfl rfl (Nat.le_of_ble_eq_true rfl) rfl dX12_init_69 (fun f_107 H_108 locs h_109 x_110 hw => ?_)
  have h_6 := h_6.ext x_110 (Ne.symm ne_8)
  have h_44 := h_44.ext x_110 (Ne.symm ne_46)
  have h_57 := h_57.ext x_110 (Ne.symm ne_59)
  refine lv_aload_n G.1 G.2.1 dX12_init_72 rfl (lv_at hl 0 rfl) ?_
  refine lv_bipush (v := 6) G.1 G.2.1 dX12_init_73 (by decide) ?_
  refine py_newI (N := 6) G hw (by decide +kernel) (by decide) (by decide) (Nat.le_of_ble_eq_true rfl) (Nat.le_of_ble_eq_true rfl) (Nat.le_of_ble_eq_true rfl) dX12_init_75 (fun q_111 L_112 f_113 H_114 hq_115 h_116 x_117 hw => ?_)
  have ne_118 : h ≠ q_111 := py_ne_new h_109 hq_115
  have h_109 := h_109.all x_117
  have ne_119 : q_1 ≠ q_111 := py_ne_new h_6 hq_115
  have h_6 := h_6.all x_117
  have ne_120 : q_39 ≠ q_111 := py_ne_new h_44 hq_115
  have h_44 := h_44.all x_117
  have ne_121 : q_52 ≠ q_111 := py_ne_new h_57 hq_115
  have h_57 := h_57.all x_117
  refine py_putF (C := RX12) (T := TX12) (N := 54) (k := 15) (v := .ref q_111) (fs' := [.int 0, .ref q_1, .int 0, .int 0, .int 0, .int 0, .ref q_13, .ref q_26, .ref q_39, .ref q_52, .ref q_66, .ref q_81, .ref q_96, .int 0, .int 0, .ref q_111, .null, .null, .null, .int 0, .int 0, .null, .null, .null, .int 0, .int 0, .null, .null, .null, .int 0, .long 0, .int 0, .int 0, .int 0, .int 0, .null, .null, .null, .null, .null, .null, .null, .null, .int 0, .null, .null, .null, .null, .long 0, .null, .null, .int 0, .long 0, .int 0]) (ty0 := tyX12) G hin hw tyX12_ok nmX12 in_X12_init_X12 rfl h_109 (by decide) (by decide +kernel) rfl rfl rfl rfl rfl (Nat.le_of_ble_eq_true rfl) rfl dX12_init_77 (fun f_122 H_123 locs h_124 x_125 hw => ?_)
  have h_6 := h_6.ext x_125 (Ne.symm ne_8)
  have h_44 := h_44.ext x_125 (Ne.symm ne_46)
  have h_57 := h_57.ext x_125 (Ne.symm ne_59)
  refine lv_aload_n G.1 G.2.1 dX12_init_80 rfl (lv_at hl 0 rfl) ?_
  refine lv_bipush (v := 80) G.1 G.2.1 dX12_init_81 (by decide) ?_
  refine py_newI (N := 80) G hw (by decide +kernel) (by decide) (by decide) (Nat.le_of_ble_eq_true rfl) (Nat.le_of_ble_eq_true rfl) (Nat.le_of_ble_eq_true rfl) dX12_init_83 (fun q_126 L_127 f_128 H_129 hq_130 h_131 x_132 hw => ?_)
  have ne_133 : h ≠ q_126 := py_ne_new h_124 hq_130
  have h_124 := h_124.all x_132
  have ne_134 : q_1 ≠ q_126 := py_ne_new h_6 hq_130
  have h_6 := h_6.all x_132
  have ne_135 : q_39 ≠ q_126 := py_ne_new h_44 hq_130
  have h_44 := h_44.all x_132
  have ne_136 : q_52 ≠ q_126 := py_ne_new h_57 hq_130
  have h_57 := h_57.all x_132
  refine py_putF (C := RX12) (T := TX12) (N := 54) (k := 16) (v := .ref q_126) (fs' := [.int 0, .ref q_1, .int 0, .int 0, .int 0, .int 0, .ref q_13, .ref q_26, .ref q_39, .ref q_52, .ref q_66, .ref q_81, .ref q_96, .int 0, .int 0, .ref q_111, .ref q_126, .null, .null, .int 0, .int 0, .null, .null, .null, .int 0, .int 0, .null, .null, .null, .int 0, .long 0, .int 0, .int 0, .int 0, .int 0, .null, .null, .null, .null, .null, .null, .null, .null, .int 0, .null, .null, .null, .null, .long 0, .null, .null, .int 0, .long 0, .int 0]) (ty0 := tyX12) G hin hw tyX12_ok nmX12 in_X12_init_X12 rfl h_124 (by decide) (by decide +kernel) rfl rfl rfl rfl rfl (Nat.le_of_ble_eq_true rfl) rfl dX12_init_85 (fun f_137 H_138 locs h_139 x_140 hw => ?_)
  have h_6 := h_6.ext x_140 (Ne.symm ne_8)
  have h_44 := h_44.ext x_140 (Ne.symm ne_46)
  have h_57 := h_57.ext x_140 (Ne.symm ne_59)
  refine lv_aload_n G.1 G.2.1 dX12_init_88 rfl (lv_at hl 0 rfl) ?_
  refine lv_bipush (v := 32) G.1 G.2.1 dX12_init_89 (by decide) ?_
  refine py_newI (N := 32) G hw (by decide +kernel) (by decide) (by decide) (Nat.le_of_ble_eq_true rfl) (Nat.le_of_ble_eq_true rfl) (Nat.le_of_ble_eq_true rfl) dX12_init_91 (fun q_141 L_142 f_143 H_144 hq_145 h_146 x_147 hw => ?_)
  have ne_148 : h ≠ q_141 := py_ne_new h_139 hq_145
  have h_139 := h_139.all x_147
  have ne_149 : q_1 ≠ q_141 := py_ne_new h_6 hq_145
  have h_6 := h_6.all x_147
  have ne_150 : q_39 ≠ q_141 := py_ne_new h_44 hq_145
  have h_44 := h_44.all x_147
  have ne_151 : q_52 ≠ q_141 := py_ne_new h_57 hq_145
  have h_57 := h_57.all x_147
  refine py_putF (C := RX12) (T := TX12) (N := 54) (k := 17) (v := .ref q_141) (fs' := [.int 0, .ref q_1, .int 0, .int 0, .int 0, .int 0, .ref q_13, .ref q_26, .ref q_39, .ref q_52, .ref q_66, .ref q_81, .ref q_96, .int 0, .int 0, .ref q_111, .ref q_126, .ref q_141, .null, .int 0, .int 0, .null, .null, .null, .int 0, .int 0, .null, .null, .null, .int 0, .long 0, .int 0, .int 0, .int 0, .int 0, .null, .null, .null, .null, .null, .null, .null, .null, .int 0, .null, .null, .null, .null, .long 0, .null, .null, .int 0, .long 0, .int 0]) (ty0 := tyX12) G hin hw tyX12_ok nmX12 in_X12_init_X12 rfl h_139 (by decide) (by decide +kernel) rfl rfl rfl rfl rfl (Nat.le_of_ble_eq_true rfl) rfl dX12_init_93 (fun f_152 H_153 locs h_154 x_155 hw => ?_)
  have h_6 := h_6.ext x_155 (Ne.symm ne_8)
  have h_44 := h_44.ext x_155 (Ne.symm ne_46)
  have h_57 := h_57.ext x_155 (Ne.symm ne_59)
  refine lv_aload_n G.1 G.2.1 dX12_init_96 rfl (lv_at hl 0 rfl) ?_
  refine lv_bipush (v := 40) G.1 G.2.1 dX12_init_97 (by decide) ?_
  refine py_newI (N := 40) G hw (by decide +kernel) (by decide) (by decide) (Nat.le_of_ble_eq_true rfl) (Nat.le_of_ble_eq_true rfl) (Nat.le_of_ble_eq_true rfl) dX12_init_99 (fun q_156 L_157 f_158 H_159 hq_160 h_161 x_162 hw => ?_)
  have ne_163 : h ≠ q_156 := py_ne_new h_154 hq_160
  have h_154 := h_154.all x_162
  have ne_164 : q_1 ≠ q_156 := py_ne_new h_6 hq_160
  have h_6 := h_6.all x_162
  have ne_165 : q_39 ≠ q_156 := py_ne_new h_44 hq_160
  have h_44 := h_44.all x_162
  have ne_166 : q_52 ≠ q_156 := py_ne_new h_57 hq_160
  have h_57 := h_57.all x_162
  refine py_putF (C := RX12) (T := TX12) (N := 54) (k := 18) (v := .ref q_156) (fs' := [.int 0, .ref q_1, .int 0, .int 0, .int 0, .int 0, .ref q_13, .ref q_26, .ref q_39, .ref q_52, .ref q_66, .ref q_81, .ref q_96, .int 0, .int 0, .ref q_111, .ref q_126, .ref q_141, .ref q_156, .int 0, .int 0, .null, .null, .null, .int 0, .int 0, .null, .null, .null, .int 0, .long 0, .int 0, .int 0, .int 0, .int 0, .null, .null, .null, .null, .null, .null, .null, .null, .int 0, .null, .null, .null, .null, .long 0, .null, .null, .int 0, .long 0, .int 0]) (ty0 := tyX12) G hin hw tyX12_ok nmX12 in_X12_init_X12 rfl h_154 (by decide) (by decide +kernel) rfl rfl rfl rfl rfl (Nat.le_of_ble_eq_true rfl) rfl dX12_init_101 (fun f_167 H_168 locs h_169 x_170 hw => ?_)
  have h_6 := h_6.ext x_170 (Ne.symm ne_8)
  have h_44 := h_44.ext x_170 (Ne.symm ne_46)
  have h_57 := h_57.ext x_170 (Ne.symm ne_59)
  refine lv_aload_n G.1 G.2.1 dX12_init_104 rfl (lv_at hl 0 rfl) ?_
  refine lv_bipush (v := 32) G.1 G.2.1 dX12_init_105 (by decide) ?_
  refine py_newI (N := 32) G hw (by decide +kernel) (by decide) (by decide) (Nat.le_of_ble_eq_true rfl) (Nat.le_of_ble_eq_true rfl) (Nat.le_of_ble_eq_true rfl) dX12_init_107 (fun q_171 L_172 f_173 H_174 hq_175 h_176 x_177 hw => ?_)
  have ne_178 : h ≠ q_171 := py_ne_new h_169 hq_175
  have h_169 := h_169.all x_177
  have ne_179 : q_1 ≠ q_171 := py_ne_new h_6 hq_175
  have h_6 := h_6.all x_177
  have ne_180 : q_39 ≠ q_171 := py_ne_new h_44 hq_175
  have h_44 := h_44.all x_177
  have ne_181 : q_52 ≠ q_171 := py_ne_new h_57 hq_175
  have h_57 := h_57.all x_177
  refine py_putF (C := RX12) (T := TX12) (N := 54) (k := 21) (v := .ref q_171) (fs' := [.int 0, .ref q_1, .int 0, .int 0, .int 0, .int 0, .ref q_13, .ref q_26, .ref q_39, .ref q_52, .ref q_66, .ref q_81, .ref q_96, .int 0, .int 0, .ref q_111, .ref q_126, .ref q_141, .ref q_156, .int 0, .int 0, .ref q_171, .null, .null, .int 0, .int 0, .null, .null, .null, .int 0, .long 0, .int 0, .int 0, .int 0, .int 0, .null, .null, .null, .null, .null, .null, .null, .null, .int 0, .null, .null, .null, .null, .long 0, .null, .null, .int 0, .long 0, .int 0]) (ty0 := tyX12) G hin hw tyX12_ok nmX12 in_X12_init_X12 rfl h_169 (by decide) (by decide +kernel) rfl rfl rfl rfl rfl (Nat.le_of_ble_eq_true rfl) rfl dX12_init_109 (fun f_182 H_183 locs h_184 x_185 hw => ?_)
  have h_6 := h_6.ext x_185 (Ne.symm ne_8)
  have h_44 := h_44.ext x_185 (Ne.symm ne_46)
  have h_57 := h_57.ext x_185 (Ne.symm ne_59)
  refine lv_aload_n G.1 G.2.1 dX12_init_112 rfl (lv_at hl 0 rfl) ?_
  refine lv_bipush (v := 10) G.1 G.2.1 dX12_init_113 (by decide) ?_
  refine py_newI (N := 10) G hw (by decide +kernel) (by decide) (by decide) (Nat.le_of_ble_eq_true rfl) (Nat.le_of_ble_eq_true rfl) (Nat.le_of_ble_eq_true rfl) dX12_init_115 (fun q_186 L_187 f_188 H_189 hq_190 h_191 x_192 hw => ?_)
  have ne_193 : h ≠ q_186 := py_ne_new h_184 hq_190
  have h_184 := h_184.all x_192
  have ne_194 : q_1 ≠ q_186 := py_ne_new h_6 hq_190
  have h_6 := h_6.all x_192
  have ne_195 : q_39 ≠ q_186 := py_ne_new h_44 hq_190
  have h_44 := h_44.all x_192
  have ne_196 : q_52 ≠ q_186 := py_ne_new h_57 hq_190
  have h_57 := h_57.all x_192
  refine py_putF (C := RX12) (T := TX12) (N := 54) (k := 22) (v := .ref q_186) (fs' := [.int 0, .ref q_1, .int 0, .int 0, .int 0, .int 0, .ref q_13, .ref q_26, .ref q_39, .ref q_52, .ref q_66, .ref q_81, .ref q_96, .int 0, .int 0, .ref q_111, .ref q_126, .ref q_141, .ref q_156, .int 0, .int 0, .ref q_171, .ref q_186, .null, .int 0, .int 0, .null, .null, .null, .int 0, .long 0, .int 0, .int 0, .int 0, .int 0, .null, .null, .null, .null, .null, .null, .null, .null, .int 0, .null, .null, .null, .null, .long 0, .null, .null, .int 0, .long 0, .int 0]) (ty0 := tyX12) G hin hw tyX12_ok nmX12 in_X12_init_X12 rfl h_184 (by decide) (by decide +kernel) rfl rfl rfl rfl rfl (Nat.le_of_ble_eq_true rfl) rfl dX12_init_117 (fun f_197 H_198 locs h_199 x_200 hw => ?_)
  have h_6 := h_6.ext x_200 (Ne.symm ne_8)
  have h_44 := h_44.ext x_200 (Ne.symm ne_46)
  have h_57 := h_57.ext x_200 (Ne.symm ne_59)
  refine lv_aload_n G.1 G.2.1 dX12_init_120 rfl (lv_at hl 0 rfl) ?_
  refine lv_bipush (v := 10) G.1 G.2.1 dX12_init_121 (by decide) ?_
  refine py_newI (N := 10) G hw (by decide +kernel) (by decide) (by decide) (Nat.le_of_ble_eq_true rfl) (Nat.le_of_ble_eq_true rfl) (Nat.le_of_ble_eq_true rfl) dX12_init_123 (fun q_201 L_202 f_203 H_204 hq_205 h_206 x_207 hw => ?_)
  have ne_208 : h ≠ q_201 := py_ne_new h_199 hq_205
  have h_199 := h_199.all x_207
  have ne_209 : q_1 ≠ q_201 := py_ne_new h_6 hq_205
  have h_6 := h_6.all x_207
  have ne_210 : q_39 ≠ q_201 := py_ne_new h_44 hq_205
  have h_44 := h_44.all x_207
  have ne_211 : q_52 ≠ q_201 := py_ne_new h_57 hq_205
  have h_57 := h_57.all x_207
  refine py_putF (C := RX12) (T := TX12) (N := 54) (k := 23) (v := .ref q_201) (fs' := [.int 0, .ref q_1, .int 0, .int 0, .int 0, .int 0, .ref q_13, .ref q_26, .ref q_39, .ref q_52, .ref q_66, .ref q_81, .ref q_96, .int 0, .int 0, .ref q_111, .ref q_126, .ref q_141, .ref q_156, .int 0, .int 0, .ref q_171, .ref q_186, .ref q_201, .int 0, .int 0, .null, .null, .null, .int 0, .long 0, .int 0, .int 0, .int 0, .int 0, .null, .null, .null, .null, .null, .null, .null, .null, .int 0, .null, .null, .null, .null, .long 0, .null, .null, .int 0, .long 0, .int 0]) (ty0 := tyX12) G hin hw tyX12_ok nmX12 in_X12_init_X12 rfl h_199 (by decide) (by decide +kernel) rfl rfl rfl rfl rfl (Nat.le_of_ble_eq_true rfl) rfl dX12_init_125 (fun f_212 H_213 locs h_214 x_215 hw => ?_)
  have h_6 := h_6.ext x_215 (Ne.symm ne_8)
  have h_44 := h_44.ext x_215 (Ne.symm ne_46)
  have h_57 := h_57.ext x_215 (Ne.symm ne_59)
  refine lv_aload_n G.1 G.2.1 dX12_init_128 rfl (lv_at hl 0 rfl) ?_
  refine lv_bipush (v := 90) G.1 G.2.1 dX12_init_129 (by decide) ?_
  refine py_newI (N := 90) G hw (by decide +kernel) (by decide) (by decide) (Nat.le_of_ble_eq_true rfl) (Nat.le_of_ble_eq_true rfl) (Nat.le_of_ble_eq_true rfl) dX12_init_131 (fun q_216 L_217 f_218 H_219 hq_220 h_221 x_222 hw => ?_)
  have ne_223 : h ≠ q_216 := py_ne_new h_214 hq_220
  have h_214 := h_214.all x_222
  have ne_224 : q_1 ≠ q_216 := py_ne_new h_6 hq_220
  have h_6 := h_6.all x_222
  have ne_225 : q_39 ≠ q_216 := py_ne_new h_44 hq_220
  have h_44 := h_44.all x_222
  have ne_226 : q_52 ≠ q_216 := py_ne_new h_57 hq_220
  have h_57 := h_57.all x_222
  refine py_putF (C := RX12) (T := TX12) (N := 54) (k := 26) (v := .ref q_216) (fs' := [.int 0, .ref q_1, .int 0, .int 0, .int 0, .int 0, .ref q_13, .ref q_26, .ref q_39, .ref q_52, .ref q_66, .ref q_81, .ref q_96, .int 0, .int 0, .ref q_111, .ref q_126, .ref q_141, .ref q_156, .int 0, .int 0, .ref q_171, .ref q_186, .ref q_201, .int 0, .int 0, .ref q_216, .null, .null, .int 0, .long 0, .int 0, .int 0, .int 0, .int 0, .null, .null, .null, .null, .null, .null, .null, .null, .int 0, .null, .null, .null, .null, .long 0, .null, .null, .int 0, .long 0, .int 0]) (ty0 := tyX12) G hin hw tyX12_ok nmX12 in_X12_init_X12 rfl h_214 (by decide) (by decide +kernel) rfl rfl rfl rfl rfl (Nat.le_of_ble_eq_true rfl) rfl dX12_init_133 (fun f_227 H_228 locs h_229 x_230 hw => ?_)
  have h_6 := h_6.ext x_230 (Ne.symm ne_8)
  have h_44 := h_44.ext x_230 (Ne.symm ne_46)
  have h_57 := h_57.ext x_230 (Ne.symm ne_59)
  refine lv_aload_n G.1 G.2.1 dX12_init_136 rfl (lv_at hl 0 rfl) ?_
  refine lv_bipush (v := 90) G.1 G.2.1 dX12_init_137 (by decide) ?_
  refine py_newI (N := 90) G hw (by decide +kernel) (by decide) (by decide) (Nat.le_of_ble_eq_true rfl) (Nat.le_of_ble_eq_true rfl) (Nat.le_of_ble_eq_true rfl) dX12_init_139 (fun q_231 L_232 f_233 H_234 hq_235 h_236 x_237 hw => ?_)
  have ne_238 : h ≠ q_231 := py_ne_new h_229 hq_235
  have h_229 := h_229.all x_237
  have ne_239 : q_1 ≠ q_231 := py_ne_new h_6 hq_235
  have h_6 := h_6.all x_237
  have ne_240 : q_39 ≠ q_231 := py_ne_new h_44 hq_235
  have h_44 := h_44.all x_237
  have ne_241 : q_52 ≠ q_231 := py_ne_new h_57 hq_235
  have h_57 := h_57.all x_237
  refine py_putF (C := RX12) (T := TX12) (N := 54) (k := 27) (v := .ref q_231) (fs' := [.int 0, .ref q_1, .int 0, .int 0, .int 0, .int 0, .ref q_13, .ref q_26, .ref q_39, .ref q_52, .ref q_66, .ref q_81, .ref q_96, .int 0, .int 0, .ref q_111, .ref q_126, .ref q_141, .ref q_156, .int 0, .int 0, .ref q_171, .ref q_186, .ref q_201, .int 0, .int 0, .ref q_216, .ref q_231, .null, .int 0, .long 0, .int 0, .int 0, .int 0, .int 0, .null, .null, .null, .null, .null, .null, .null, .null, .int 0, .null, .null, .null, .null, .long 0, .null, .null, .int 0, .long 0, .int 0]) (ty0 := tyX12) G hin hw tyX12_ok nmX12 in_X12_init_X12 rfl h_229 (by decide) (by decide +kernel) rfl rfl rfl rfl rfl (Nat.le_of_ble_eq_true rfl) rfl dX12_init_141 (fun f_242 H_243 locs h_244 x_245 hw => ?_)
  have h_6 := h_6.ext x_245 (Ne.symm ne_8)
  have h_44 := h_44.ext x_245 (Ne.symm ne_46)
  have h_57 := h_57.ext x_245 (Ne.symm ne_59)
  refine lv_aload_n G.1 G.2.1 dX12_init_144 rfl (lv_at hl 0 rfl) ?_
  refine lv_bipush (v := 90) G.1 G.2.1 dX12_init_145 (by decide) ?_
  refine py_newI (N := 90) G hw (by decide +kernel) (by decide) (by decide) (Nat.le_of_ble_eq_true rfl) (Nat.le_of_ble_eq_true rfl) (Nat.le_of_ble_eq_true rfl) dX12_init_147 (fun q_246 L_247 f_248 H_249 hq_250 h_251 x_252 hw => ?_)
  have ne_253 : h ≠ q_246 := py_ne_new h_244 hq_250
  have h_244 := h_244.all x_252
  have ne_254 : q_1 ≠ q_246 := py_ne_new h_6 hq_250
  have h_6 := h_6.all x_252
  have ne_255 : q_39 ≠ q_246 := py_ne_new h_44 hq_250
  have h_44 := h_44.all x_252
  have ne_256 : q_52 ≠ q_246 := py_ne_new h_57 hq_250
  have h_57 := h_57.all x_252
  refine py_putF (C := RX12) (T := TX12) (N := 54) (k := 28) (v := .ref q_246) (fs' := [.int 0, .ref q_1, .int 0, .int 0, .int 0, .int 0, .ref q_13, .ref q_26, .ref q_39, .ref q_52, .ref q_66, .ref q_81, .ref q_96, .int 0, .int 0, .ref q_111, .ref q_126, .ref q_141, .ref q_156, .int 0, .int 0, .ref q_171, .ref q_186, .ref q_201, .int 0, .int 0, .ref q_216, .ref q_231, .ref q_246, .int 0, .long 0, .int 0, .int 0, .int 0, .int 0, .null, .null, .null, .null, .null, .null, .null, .null, .int 0, .null, .null, .null, .null, .long 0, .null, .null, .int 0, .long 0, .int 0]) (ty0 := tyX12) G hin hw tyX12_ok nmX12 in_X12_init_X12 rfl h_244 (by decide) (by decide +kernel) rfl rfl rfl rfl rfl (Nat.le_of_ble_eq_true rfl) rfl dX12_init_149 (fun f_257 H_258 locs h_259 x_260 hw => ?_)
  have h_6 := h_6.ext x_260 (Ne.symm ne_8)
  have h_44 := h_44.ext x_260 (Ne.symm ne_46)
  have h_57 := h_57.ext x_260 (Ne.symm ne_59)
  refine lv_aload_n G.1 G.2.1 dX12_init_152 rfl (lv_at hl 0 rfl) ?_
  refine lv_iconst (v := (-1)) G.1 G.2.1 dX12_init_153 (by decide) ?_
  refine py_put (C := RX12) (T := TX12) (N := 54) (k := 31) (v := .int (-1)) (fs' := [.int 0, .ref q_1, .int 0, .int 0, .int 0, .int 0, .ref q_13, .ref q_26, .ref q_39, .ref q_52, .ref q_66, .ref q_81, .ref q_96, .int 0, .int 0, .ref q_111, .ref q_126, .ref q_141, .ref q_156, .int 0, .int 0, .ref q_171, .ref q_186, .ref q_201, .int 0, .int 0, .ref q_216, .ref q_231, .ref q_246, .int 0, .long 0, .int (-1), .int 0, .int 0, .int 0, .null, .null, .null, .null, .null, .null, .null, .null, .int 0, .null, .null, .null, .null, .long 0, .null, .null, .int 0, .long 0, .int 0]) (ty0 := tyX12) G hw tyX12_ok nmX12 in_X12_init_X12 rfl h_259 (by decide) (by decide +kernel) rfl rfl rfl rfl (Nat.le_of_ble_eq_true rfl) rfl dX12_init_154 (fun f_261 H_262 locs h_263 x_264 hw => ?_)
  have h_6 := h_6.ext x_264 (Ne.symm ne_8)
  have h_44 := h_44.ext x_264 (Ne.symm ne_46)
  have h_57 := h_57.ext x_264 (Ne.symm ne_59)
  refine lv_aload_n G.1 G.2.1 dX12_init_157 rfl (lv_at hl 0 rfl) ?_
  refine lv_bipush (v := 50) G.1 G.2.1 dX12_init_158 (by decide) ?_
  refine py_put (C := RX12) (T := TX12) (N := 54) (k := 32) (v := .int 50) (fs' := [.int 0, .ref q_1, .int 0, .int 0, .int 0, .int 0, .ref q_13, .ref q_26, .ref q_39, .ref q_52, .ref q_66, .ref q_81, .ref q_96, .int 0, .int 0, .ref q_111, .ref q_126, .ref q_141, .ref q_156, .int 0, .int 0, .ref q_171, .ref q_186, .ref q_201, .int 0, .int 0, .ref q_216, .ref q_231, .ref q_246, .int 0, .long 0, .int (-1), .int 50, .int 0, .int 0, .null, .null, .null, .null, .null, .null, .null, .null, .int 0, .null, .null, .null, .null, .long 0, .null, .null, .int 0, .long 0, .int 0]) (ty0 := tyX12) G hw tyX12_ok nmX12 in_X12_init_X12 rfl h_263 (by decide) (by decide +kernel) rfl rfl rfl rfl (Nat.le_of_ble_eq_true rfl) rfl dX12_init_160 (fun f_265 H_266 locs h_267 x_268 hw => ?_)
  have h_6 := h_6.ext x_268 (Ne.symm ne_8)
  have h_44 := h_44.ext x_268 (Ne.symm ne_46)
  have h_57 := h_57.ext x_268 (Ne.symm ne_59)
  refine lv_aload_n G.1 G.2.1 dX12_init_163 rfl (lv_at hl 0 rfl) ?_
  refine lv_bipush (v := 10) G.1 G.2.1 dX12_init_164 (by decide) ?_
  refine py_put (C := RX12) (T := TX12) (N := 54) (k := 34) (v := .int 10) (fs' := [.int 0, .ref q_1, .int 0, .int 0, .int 0, .int 0, .ref q_13, .ref q_26, .ref q_39, .ref q_52, .ref q_66, .ref q_81, .ref q_96, .int 0, .int 0, .ref q_111, .ref q_126, .ref q_141, .ref q_156, .int 0, .int 0, .ref q_171, .ref q_186, .ref q_201, .int 0, .int 0, .ref q_216, .ref q_231, .ref q_246, .int 0, .long 0, .int (-1), .int 50, .int 0, .int 10, .null, .null, .null, .null, .null, .null, .null, .null, .int 0, .null, .null, .null, .null, .long 0, .null, .null, .int 0, .long 0, .int 0]) (ty0 := tyX12) G hw tyX12_ok nmX12 in_X12_init_X12 rfl h_267 (by decide) (by decide +kernel) rfl rfl rfl rfl (Nat.le_of_ble_eq_true rfl) rfl dX12_init_166 (fun f_269 H_270 locs h_271 x_272 hw => ?_)
  have h_6 := h_6.ext x_272 (Ne.symm ne_8)
  have h_44 := h_44.ext x_272 (Ne.symm ne_46)
  have h_57 := h_57.ext x_272 (Ne.symm ne_59)
  refine lv_aload_n G.1 G.2.1 dX12_init_169 rfl (lv_at hl 0 rfl) ?_
  refine lv_bipush (v := 8) G.1 G.2.1 dX12_init_170 (by decide) ?_
  refine py_newI (N := 8) G hw (by decide +kernel) (by decide) (by decide) (Nat.le_of_ble_eq_true rfl) (Nat.le_of_ble_eq_true rfl) (Nat.le_of_ble_eq_true rfl) dX12_init_172 (fun q_273 L_274 f_275 H_276 hq_277 h_278 x_279 hw => ?_)
  have ne_280 : h ≠ q_273 := py_ne_new h_271 hq_277
  have h_271 := h_271.all x_279
  have ne_281 : q_1 ≠ q_273 := py_ne_new h_6 hq_277
  have h_6 := h_6.all x_279
  have ne_282 : q_39 ≠ q_273 := py_ne_new h_44 hq_277
  have h_44 := h_44.all x_279
  have ne_283 : q_52 ≠ q_273 := py_ne_new h_57 hq_277
  have h_57 := h_57.all x_279
  refine py_putF (C := RX12) (T := TX12) (N := 54) (k := 35) (v := .ref q_273) (fs' := [.int 0, .ref q_1, .int 0, .int 0, .int 0, .int 0, .ref q_13, .ref q_26, .ref q_39, .ref q_52, .ref q_66, .ref q_81, .ref q_96, .int 0, .int 0, .ref q_111, .ref q_126, .ref q_141, .ref q_156, .int 0, .int 0, .ref q_171, .ref q_186, .ref q_201, .int 0, .int 0, .ref q_216, .ref q_231, .ref q_246, .int 0, .long 0, .int (-1), .int 50, .int 0, .int 10, .ref q_273, .null, .null, .null, .null, .null, .null, .null, .int 0, .null, .null, .null, .null, .long 0, .null, .null, .int 0, .long 0, .int 0]) (ty0 := tyX12) G hin hw tyX12_ok nmX12 in_X12_init_X12 rfl h_271 (by decide) (by decide +kernel) rfl rfl rfl rfl rfl (Nat.le_of_ble_eq_true rfl) rfl dX12_init_174 (fun f_284 H_285 locs h_286 x_287 hw => ?_)
  have h_6 := h_6.ext x_287 (Ne.symm ne_8)
  have h_44 := h_44.ext x_287 (Ne.symm ne_46)
  have h_57 := h_57.ext x_287 (Ne.symm ne_59)
  refine lv_aload_n G.1 G.2.1 dX12_init_177 rfl (lv_at hl 0 rfl) ?_
  refine lv_bipush (v := 10) G.1 G.2.1 dX12_init_178 (by decide) ?_
  refine py_newI (N := 10) G hw (by decide +kernel) (by decide) (by decide) (Nat.le_of_ble_eq_true rfl) (Nat.le_of_ble_eq_true rfl) (Nat.le_of_ble_eq_true rfl) dX12_init_180 (fun q_288 L_289 f_290 H_291 hq_292 h_293 x_294 hw => ?_)
  have ne_295 : h ≠ q_288 := py_ne_new h_286 hq_292
  have h_286 := h_286.all x_294
  have ne_296 : q_1 ≠ q_288 := py_ne_new h_6 hq_292
  have h_6 := h_6.all x_294
  have ne_297 : q_39 ≠ q_288 := py_ne_new h_44 hq_292
  have h_44 := h_44.all x_294
  have ne_298 : q_52 ≠ q_288 := py_ne_new h_57 hq_292
  have h_57 := h_57.all x_294
  refine py_putF (C := RX12) (T := TX12) (N := 54) (k := 36) (v := .ref q_288) (fs' := [.int 0, .ref q_1, .int 0, .int 0, .int 0, .int 0, .ref q_13, .ref q_26, .ref q_39, .ref q_52, .ref q_66, .ref q_81, .ref q_96, .int 0, .int 0, .ref q_111, .ref q_126, .ref q_141, .ref q_156, .int 0, .int 0, .ref q_171, .ref q_186, .ref q_201, .int 0, .int 0, .ref q_216, .ref q_231, .ref q_246, .int 0, .long 0, .int (-1), .int 50, .int 0, .int 10, .ref q_273, .ref q_288, .null, .null, .null, .null, .null, .null, .int 0, .null, .null, .null, .null, .long 0, .null, .null, .int 0, .long 0, .int 0]) (ty0 := tyX12) G hin hw tyX12_ok nmX12 in_X12_init_X12 rfl h_286 (by decide) (by decide +kernel) rfl rfl rfl rfl rfl (Nat.le_of_ble_eq_true rfl) rfl dX12_init_182 (fun f_299 H_300 locs h_301 x_302 hw => ?_)
  have h_6 := h_6.ext x_302 (Ne.symm ne_8)
  have h_44 := h_44.ext x_302 (Ne.symm ne_46)
  have h_57 := h_57.ext x_302 (Ne.symm ne_59)
  refine lv_aload_n G.1 G.2.1 dX12_init_185 rfl (lv_at hl 0 rfl) ?_
  refine lv_bipush (v := 10) G.1 G.2.1 dX12_init_186 (by decide) ?_
  refine py_newI (N := 10) G hw (by decide +kernel) (by decide) (by decide) (Nat.le_of_ble_eq_true rfl) (Nat.le_of_ble_eq_true rfl) (Nat.le_of_ble_eq_true rfl) dX12_init_188 (fun q_303 L_304 f_305 H_306 hq_307 h_308 x_309 hw => ?_)
  have ne_310 : h ≠ q_303 := py_ne_new h_301 hq_307
  have h_301 := h_301.all x_309
  have ne_311 : q_1 ≠ q_303 := py_ne_new h_6 hq_307
  have h_6 := h_6.all x_309
  have ne_312 : q_39 ≠ q_303 := py_ne_new h_44 hq_307
  have h_44 := h_44.all x_309
  have ne_313 : q_52 ≠ q_303 := py_ne_new h_57 hq_307
  have h_57 := h_57.all x_309
  refine py_putF (C := RX12) (T := TX12) (N := 54) (k := 37) (v := .ref q_303) (fs' := [.int 0, .ref q_1, .int 0, .int 0, .int 0, .int 0, .ref q_13, .ref q_26, .ref q_39, .ref q_52, .ref q_66, .ref q_81, .ref q_96, .int 0, .int 0, .ref q_111, .ref q_126, .ref q_141, .ref q_156, .int 0, .int 0, .ref q_171, .ref q_186, .ref q_201, .int 0, .int 0, .ref q_216, .ref q_231, .ref q_246, .int 0, .long 0, .int (-1), .int 50, .int 0, .int 10, .ref q_273, .ref q_288, .ref q_303, .null, .null, .null, .null, .null, .int 0, .null, .null, .null, .null, .long 0, .null, .null, .int 0, .long 0, .int 0]) (ty0 := tyX12) G hin hw tyX12_ok nmX12 in_X12_init_X12 rfl h_301 (by decide) (by decide +kernel) rfl rfl rfl rfl rfl (Nat.le_of_ble_eq_true rfl) rfl dX12_init_190 (fun f_314 H_315 locs h_316 x_317 hw => ?_)
  have h_6 := h_6.ext x_317 (Ne.symm ne_8)
  have h_44 := h_44.ext x_317 (Ne.symm ne_46)
  have h_57 := h_57.ext x_317 (Ne.symm ne_59)
  refine lv_aload_n G.1 G.2.1 dX12_init_193 rfl (lv_at hl 0 rfl) ?_
  refine lv_sipush (v := 600) G.1 G.2.1 dX12_init_194 (by decide) ?_
  refine py_newI (N := 600) G hw (by decide +kernel) (by decide) (by decide) (Nat.le_of_ble_eq_true rfl) (Nat.le_of_ble_eq_true rfl) (Nat.le_of_ble_eq_true rfl) dX12_init_197 (fun q_318 L_319 f_320 H_321 hq_322 h_323 x_324 hw => ?_)
  have ne_325 : h ≠ q_318 := py_ne_new h_316 hq_322
  have h_316 := h_316.all x_324
  have ne_326 : q_1 ≠ q_318 := py_ne_new h_6 hq_322
  have h_6 := h_6.all x_324
  have ne_327 : q_39 ≠ q_318 := py_ne_new h_44 hq_322
  have h_44 := h_44.all x_324
  have ne_328 : q_52 ≠ q_318 := py_ne_new h_57 hq_322
  have h_57 := h_57.all x_324
  refine py_putF (C := RX12) (T := TX12) (N := 54) (k := 38) (v := .ref q_318) (fs' := [.int 0, .ref q_1, .int 0, .int 0, .int 0, .int 0, .ref q_13, .ref q_26, .ref q_39, .ref q_52, .ref q_66, .ref q_81, .ref q_96, .int 0, .int 0, .ref q_111, .ref q_126, .ref q_141, .ref q_156, .int 0, .int 0, .ref q_171, .ref q_186, .ref q_201, .int 0, .int 0, .ref q_216, .ref q_231, .ref q_246, .int 0, .long 0, .int (-1), .int 50, .int 0, .int 10, .ref q_273, .ref q_288, .ref q_303, .ref q_318, .null, .null, .null, .null, .int 0, .null, .null, .null, .null, .long 0, .null, .null, .int 0, .long 0, .int 0]) (ty0 := tyX12) G hin hw tyX12_ok nmX12 in_X12_init_X12 rfl h_316 (by decide) (by decide +kernel) rfl rfl rfl rfl rfl (Nat.le_of_ble_eq_true rfl) rfl dX12_init_199 (fun f_329 H_330 locs h_331 x_332 hw => ?_)
  have h_6 := h_6.ext x_332 (Ne.symm ne_8)
  have h_44 := h_44.ext x_332 (Ne.symm ne_46)
  have h_57 := h_57.ext x_332 (Ne.symm ne_59)
  refine lv_aload_n G.1 G.2.1 dX12_init_202 rfl (lv_at hl 0 rfl) ?_
  refine lv_sipush (v := 600) G.1 G.2.1 dX12_init_203 (by decide) ?_
  refine py_newI (N := 600) G hw (by decide +kernel) (by decide) (by decide) (Nat.le_of_ble_eq_true rfl) (Nat.le_of_ble_eq_true rfl) (Nat.le_of_ble_eq_true rfl) dX12_init_206 (fun q_333 L_334 f_335 H_336 hq_337 h_338 x_339 hw => ?_)
  have ne_340 : h ≠ q_333 := py_ne_new h_331 hq_337
  have h_331 := h_331.all x_339
  have ne_341 : q_1 ≠ q_333 := py_ne_new h_6 hq_337
  have h_6 := h_6.all x_339
  have ne_342 : q_39 ≠ q_333 := py_ne_new h_44 hq_337
  have h_44 := h_44.all x_339
  have ne_343 : q_52 ≠ q_333 := py_ne_new h_57 hq_337
  have h_57 := h_57.all x_339
  refine py_putF (C := RX12) (T := TX12) (N := 54) (k := 39) (v := .ref q_333) (fs' := [.int 0, .ref q_1, .int 0, .int 0, .int 0, .int 0, .ref q_13, .ref q_26, .ref q_39, .ref q_52, .ref q_66, .ref q_81, .ref q_96, .int 0, .int 0, .ref q_111, .ref q_126, .ref q_141, .ref q_156, .int 0, .int 0, .ref q_171, .ref q_186, .ref q_201, .int 0, .int 0, .ref q_216, .ref q_231, .ref q_246, .int 0, .long 0, .int (-1), .int 50, .int 0, .int 10, .ref q_273, .ref q_288, .ref q_303, .ref q_318, .ref q_333, .null, .null, .null, .int 0, .null, .null, .null, .null, .long 0, .null, .null, .int 0, .long 0, .int 0]) (ty0 := tyX12) G hin hw tyX12_ok nmX12 in_X12_init_X12 rfl h_331 (by decide) (by decide +kernel) rfl rfl rfl rfl rfl (Nat.le_of_ble_eq_true rfl) rfl dX12_init_208 (fun f_344 H_345 locs h_346 x_347 hw => ?_)
  have h_6 := h_6.ext x_347 (Ne.symm ne_8)
  have h_44 := h_44.ext x_347 (Ne.symm ne_46)
  have h_57 := h_57.ext x_347 (Ne.symm ne_59)
  refine lv_aload_n G.1 G.2.1 dX12_init_211 rfl (lv_at hl 0 rfl) ?_
  refine lv_bipush (v := 40) G.1 G.2.1 dX12_init_212 (by decide) ?_
  refine py_newI (N := 40) G hw (by decide +kernel) (by decide) (by decide) (Nat.le_of_ble_eq_true rfl) (Nat.le_of_ble_eq_true rfl) (Nat.le_of_ble_eq_true rfl) dX12_init_214 (fun q_348 L_349 f_350 H_351 hq_352 h_353 x_354 hw => ?_)
  have ne_355 : h ≠ q_348 := py_ne_new h_346 hq_352
  have h_346 := h_346.all x_354
  have ne_356 : q_1 ≠ q_348 := py_ne_new h_6 hq_352
  have h_6 := h_6.all x_354
  have ne_357 : q_39 ≠ q_348 := py_ne_new h_44 hq_352
  have h_44 := h_44.all x_354
  have ne_358 : q_52 ≠ q_348 := py_ne_new h_57 hq_352
  have h_57 := h_57.all x_354
  refine py_putF (C := RX12) (T := TX12) (N := 54) (k := 40) (v := .ref q_348) (fs' := [.int 0, .ref q_1, .int 0, .int 0, .int 0, .int 0, .ref q_13, .ref q_26, .ref q_39, .ref q_52, .ref q_66, .ref q_81, .ref q_96, .int 0, .int 0, .ref q_111, .ref q_126, .ref q_141, .ref q_156, .int 0, .int 0, .ref q_171, .ref q_186, .ref q_201, .int 0, .int 0, .ref q_216, .ref q_231, .ref q_246, .int 0, .long 0, .int (-1), .int 50, .int 0, .int 10, .ref q_273, .ref q_288, .ref q_303, .ref q_318, .ref q_333, .ref q_348, .null, .null, .int 0, .null, .null, .null, .null, .long 0, .null, .null, .int 0, .long 0, .int 0]) (ty0 := tyX12) G hin hw tyX12_ok nmX12 in_X12_init_X12 rfl h_346 (by decide) (by decide +kernel) rfl rfl rfl rfl rfl (Nat.le_of_ble_eq_true rfl) rfl dX12_init_216 (fun f_359 H_360 locs h_361 x_362 hw => ?_)
  have h_6 := h_6.ext x_362 (Ne.symm ne_8)
  have h_44 := h_44.ext x_362 (Ne.symm ne_46)
  have h_57 := h_57.ext x_362 (Ne.symm ne_59)
  refine lv_aload_n G.1 G.2.1 dX12_init_219 rfl (lv_at hl 0 rfl) ?_
  refine lv_bipush (v := 40) G.1 G.2.1 dX12_init_220 (by decide) ?_
  refine py_newI (N := 40) G hw (by decide +kernel) (by decide) (by decide) (Nat.le_of_ble_eq_true rfl) (Nat.le_of_ble_eq_true rfl) (Nat.le_of_ble_eq_true rfl) dX12_init_222 (fun q_363 L_364 f_365 H_366 hq_367 h_368 x_369 hw => ?_)
  have ne_370 : h ≠ q_363 := py_ne_new h_361 hq_367
  have h_361 := h_361.all x_369
  have ne_371 : q_1 ≠ q_363 := py_ne_new h_6 hq_367
  have h_6 := h_6.all x_369
  have ne_372 : q_39 ≠ q_363 := py_ne_new h_44 hq_367
  have h_44 := h_44.all x_369
  have ne_373 : q_52 ≠ q_363 := py_ne_new h_57 hq_367
  have h_57 := h_57.all x_369
  refine py_putF (C := RX12) (T := TX12) (N := 54) (k := 41) (v := .ref q_363) (fs' := [.int 0, .ref q_1, .int 0, .int 0, .int 0, .int 0, .ref q_13, .ref q_26, .ref q_39, .ref q_52, .ref q_66, .ref q_81, .ref q_96, .int 0, .int 0, .ref q_111, .ref q_126, .ref q_141, .ref q_156, .int 0, .int 0, .ref q_171, .ref q_186, .ref q_201, .int 0, .int 0, .ref q_216, .ref q_231, .ref q_246, .int 0, .long 0, .int (-1), .int 50, .int 0, .int 10, .ref q_273, .ref q_288, .ref q_303, .ref q_318, .ref q_333, .ref q_348, .ref q_363, .null, .int 0, .null, .null, .null, .null, .long 0, .null, .null, .int 0, .long 0, .int 0]) (ty0 := tyX12) G hin hw tyX12_ok nmX12 in_X12_init_X12 rfl h_361 (by decide) (by decide +kernel) rfl rfl rfl rfl rfl (Nat.le_of_ble_eq_true rfl) rfl dX12_init_224 (fun f_374 H_375 locs h_376 x_377 hw => ?_)
  have h_6 := h_6.ext x_377 (Ne.symm ne_8)
  have h_44 := h_44.ext x_377 (Ne.symm ne_46)
  have h_57 := h_57.ext x_377 (Ne.symm ne_59)
  refine lv_aload_n G.1 G.2.1 dX12_init_227 rfl (lv_at hl 0 rfl) ?_
  refine lv_bipush (v := 40) G.1 G.2.1 dX12_init_228 (by decide) ?_
  refine py_newI (N := 40) G hw (by decide +kernel) (by decide) (by decide) (Nat.le_of_ble_eq_true rfl) (Nat.le_of_ble_eq_true rfl) (Nat.le_of_ble_eq_true rfl) dX12_init_230 (fun q_378 L_379 f_380 H_381 hq_382 h_383 x_384 hw => ?_)
  have ne_385 : h ≠ q_378 := py_ne_new h_376 hq_382
  have h_376 := h_376.all x_384
  have ne_386 : q_1 ≠ q_378 := py_ne_new h_6 hq_382
  have h_6 := h_6.all x_384
  have ne_387 : q_39 ≠ q_378 := py_ne_new h_44 hq_382
  have h_44 := h_44.all x_384
  have ne_388 : q_52 ≠ q_378 := py_ne_new h_57 hq_382
  have h_57 := h_57.all x_384
  refine py_putF (C := RX12) (T := TX12) (N := 54) (k := 42) (v := .ref q_378) (fs' := [.int 0, .ref q_1, .int 0, .int 0, .int 0, .int 0, .ref q_13, .ref q_26, .ref q_39, .ref q_52, .ref q_66, .ref q_81, .ref q_96, .int 0, .int 0, .ref q_111, .ref q_126, .ref q_141, .ref q_156, .int 0, .int 0, .ref q_171, .ref q_186, .ref q_201, .int 0, .int 0, .ref q_216, .ref q_231, .ref q_246, .int 0, .long 0, .int (-1), .int 50, .int 0, .int 10, .ref q_273, .ref q_288, .ref q_303, .ref q_318, .ref q_333, .ref q_348, .ref q_363, .ref q_378, .int 0, .null, .null, .null, .null, .long 0, .null, .null, .int 0, .long 0, .int 0]) (ty0 := tyX12) G hin hw tyX12_ok nmX12 in_X12_init_X12 rfl h_376 (by decide) (by decide +kernel) rfl rfl rfl rfl rfl (Nat.le_of_ble_eq_true rfl) rfl dX12_init_232 (fun f_389 H_390 locs h_391 x_392 hw => ?_)
  have h_6 := h_6.ext x_392 (Ne.symm ne_8)
  have h_44 := h_44.ext x_392 (Ne.symm ne_46)
  have h_57 := h_57.ext x_392 (Ne.symm ne_59)
  refine lv_aload_n G.1 G.2.1 dX12_init_235 rfl (lv_at hl 0 rfl) ?_
  refine lv_bipush (v := 8) G.1 G.2.1 dX12_init_236 (by decide) ?_
  refine py_newI (N := 8) G hw (by decide +kernel) (by decide) (by decide) (Nat.le_of_ble_eq_true rfl) (Nat.le_of_ble_eq_true rfl) (Nat.le_of_ble_eq_true rfl) dX12_init_238 (fun q_393 L_394 f_395 H_396 hq_397 h_398 x_399 hw => ?_)
  have ne_400 : h ≠ q_393 := py_ne_new h_391 hq_397
  have h_391 := h_391.all x_399
  have ne_401 : q_1 ≠ q_393 := py_ne_new h_6 hq_397
  have h_6 := h_6.all x_399
  have ne_402 : q_39 ≠ q_393 := py_ne_new h_44 hq_397
  have h_44 := h_44.all x_399
  have ne_403 : q_52 ≠ q_393 := py_ne_new h_57 hq_397
  have h_57 := h_57.all x_399
  refine py_putF (C := RX12) (T := TX12) (N := 54) (k := 44) (v := .ref q_393) (fs' := [.int 0, .ref q_1, .int 0, .int 0, .int 0, .int 0, .ref q_13, .ref q_26, .ref q_39, .ref q_52, .ref q_66, .ref q_81, .ref q_96, .int 0, .int 0, .ref q_111, .ref q_126, .ref q_141, .ref q_156, .int 0, .int 0, .ref q_171, .ref q_186, .ref q_201, .int 0, .int 0, .ref q_216, .ref q_231, .ref q_246, .int 0, .long 0, .int (-1), .int 50, .int 0, .int 10, .ref q_273, .ref q_288, .ref q_303, .ref q_318, .ref q_333, .ref q_348, .ref q_363, .ref q_378, .int 0, .ref q_393, .null, .null, .null, .long 0, .null, .null, .int 0, .long 0, .int 0]) (ty0 := tyX12) G hin hw tyX12_ok nmX12 in_X12_init_X12 rfl h_391 (by decide) (by decide +kernel) rfl rfl rfl rfl rfl (Nat.le_of_ble_eq_true rfl) rfl dX12_init_240 (fun f_404 H_405 locs h_406 x_407 hw => ?_)
  have h_6 := h_6.ext x_407 (Ne.symm ne_8)
  have h_44 := h_44.ext x_407 (Ne.symm ne_46)
  have h_57 := h_57.ext x_407 (Ne.symm ne_59)
  refine lv_aload_n G.1 G.2.1 dX12_init_243 rfl (lv_at hl 0 rfl) ?_
  refine lv_sipush (v := 168) G.1 G.2.1 dX12_init_244 (by decide) ?_
  refine py_newJ (N := 168) G hw (by decide +kernel) (by decide) (by decide) (Nat.le_of_ble_eq_true rfl) (Nat.le_of_ble_eq_true rfl) (Nat.le_of_ble_eq_true rfl) dX12_init_247 (fun q_408 L_409 f_410 H_411 hq_412 h_413 x_414 hw => ?_)
  have ne_415 : h ≠ q_408 := py_ne_new h_406 hq_412
  have h_406 := h_406.all x_414
  have ne_416 : q_1 ≠ q_408 := py_ne_new h_6 hq_412
  have h_6 := h_6.all x_414
  have ne_417 : q_39 ≠ q_408 := py_ne_new h_44 hq_412
  have h_44 := h_44.all x_414
  have ne_418 : q_52 ≠ q_408 := py_ne_new h_57 hq_412
  have h_57 := h_57.all x_414
  refine py_putF (C := RX12) (T := TX12) (N := 54) (k := 45) (v := .ref q_408) (fs' := [.int 0, .ref q_1, .int 0, .int 0, .int 0, .int 0, .ref q_13, .ref q_26, .ref q_39, .ref q_52, .ref q_66, .ref q_81, .ref q_96, .int 0, .int 0, .ref q_111, .ref q_126, .ref q_141, .ref q_156, .int 0, .int 0, .ref q_171, .ref q_186, .ref q_201, .int 0, .int 0, .ref q_216, .ref q_231, .ref q_246, .int 0, .long 0, .int (-1), .int 50, .int 0, .int 10, .ref q_273, .ref q_288, .ref q_303, .ref q_318, .ref q_333, .ref q_348, .ref q_363, .ref q_378, .int 0, .ref q_393, .ref q_408, .null, .null, .long 0, .null, .null, .int 0, .long 0, .int 0]) (ty0 := tyX12) G hin hw tyX12_ok nmX12 in_X12_init_X12 rfl h_406 (by decide) (by decide +kernel) rfl rfl rfl rfl rfl (Nat.le_of_ble_eq_true rfl) rfl dX12_init_249 (fun f_419 H_420 locs h_421 x_422 hw => ?_)
  have h_6 := h_6.ext x_422 (Ne.symm ne_8)
  have h_44 := h_44.ext x_422 (Ne.symm ne_46)
  have h_57 := h_57.ext x_422 (Ne.symm ne_59)
  refine lv_aload_n G.1 G.2.1 dX12_init_252 rfl (lv_at hl 0 rfl) ?_
  refine lv_sipush (v := 168) G.1 G.2.1 dX12_init_253 (by decide) ?_
  refine py_newJ (N := 168) G hw (by decide +kernel) (by decide) (by decide) (Nat.le_of_ble_eq_true rfl) (Nat.le_of_ble_eq_true rfl) (Nat.le_of_ble_eq_true rfl) dX12_init_256 (fun q_423 L_424 f_425 H_426 hq_427 h_428 x_429 hw => ?_)
  have ne_430 : h ≠ q_423 := py_ne_new h_421 hq_427
  have h_421 := h_421.all x_429
  have ne_431 : q_1 ≠ q_423 := py_ne_new h_6 hq_427
  have h_6 := h_6.all x_429
  have ne_432 : q_39 ≠ q_423 := py_ne_new h_44 hq_427
  have h_44 := h_44.all x_429
  have ne_433 : q_52 ≠ q_423 := py_ne_new h_57 hq_427
  have h_57 := h_57.all x_429
  refine py_putF (C := RX12) (T := TX12) (N := 54) (k := 46) (v := .ref q_423) (fs' := [.int 0, .ref q_1, .int 0, .int 0, .int 0, .int 0, .ref q_13, .ref q_26, .ref q_39, .ref q_52, .ref q_66, .ref q_81, .ref q_96, .int 0, .int 0, .ref q_111, .ref q_126, .ref q_141, .ref q_156, .int 0, .int 0, .ref q_171, .ref q_186, .ref q_201, .int 0, .int 0, .ref q_216, .ref q_231, .ref q_246, .int 0, .long 0, .int (-1), .int 50, .int 0, .int 10, .ref q_273, .ref q_288, .ref q_303, .ref q_318, .ref q_333, .ref q_348, .ref q_363, .ref q_378, .int 0, .ref q_393, .ref q_408, .ref q_423, .null, .long 0, .null, .null, .int 0, .long 0, .int 0]) (ty0 := tyX12) G hin hw tyX12_ok nmX12 in_X12_init_X12 rfl h_421 (by decide) (by decide +kernel) rfl rfl rfl rfl rfl (Nat.le_of_ble_eq_true rfl) rfl dX12_init_258 (fun f_434 H_435 locs h_436 x_437 hw => ?_)
  have h_6 := h_6.ext x_437 (Ne.symm ne_8)
  have h_44 := h_44.ext x_437 (Ne.symm ne_46)
  have h_57 := h_57.ext x_437 (Ne.symm ne_59)
  refine lv_aload_n G.1 G.2.1 dX12_init_261 rfl (lv_at hl 0 rfl) ?_
  refine lv_bipush (v := 22) G.1 G.2.1 dX12_init_262 (by decide) ?_
  refine py_newJ (N := 22) G hw (by decide +kernel) (by decide) (by decide) (Nat.le_of_ble_eq_true rfl) (Nat.le_of_ble_eq_true rfl) (Nat.le_of_ble_eq_true rfl) dX12_init_264 (fun q_438 L_439 f_440 H_441 hq_442 h_443 x_444 hw => ?_)
  have ne_445 : h ≠ q_438 := py_ne_new h_436 hq_442
  have h_436 := h_436.all x_444
  have ne_446 : q_1 ≠ q_438 := py_ne_new h_6 hq_442
  have h_6 := h_6.all x_444
  have ne_447 : q_39 ≠ q_438 := py_ne_new h_44 hq_442
  have h_44 := h_44.all x_444
  have ne_448 : q_52 ≠ q_438 := py_ne_new h_57 hq_442
  have h_57 := h_57.all x_444
  refine py_putF (C := RX12) (T := TX12) (N := 54) (k := 47) (v := .ref q_438) (fs' := [.int 0, .ref q_1, .int 0, .int 0, .int 0, .int 0, .ref q_13, .ref q_26, .ref q_39, .ref q_52, .ref q_66, .ref q_81, .ref q_96, .int 0, .int 0, .ref q_111, .ref q_126, .ref q_141, .ref q_156, .int 0, .int 0, .ref q_171, .ref q_186, .ref q_201, .int 0, .int 0, .ref q_216, .ref q_231, .ref q_246, .int 0, .long 0, .int (-1), .int 50, .int 0, .int 10, .ref q_273, .ref q_288, .ref q_303, .ref q_318, .ref q_333, .ref q_348, .ref q_363, .ref q_378, .int 0, .ref q_393, .ref q_408, .ref q_423, .ref q_438, .long 0, .null, .null, .int 0, .long 0, .int 0]) (ty0 := tyX12) G hin hw tyX12_ok nmX12 in_X12_init_X12 rfl h_436 (by decide) (by decide +kernel) rfl rfl rfl rfl rfl (Nat.le_of_ble_eq_true rfl) rfl dX12_init_266 (fun f_449 H_450 locs h_451 x_452 hw => ?_)
  have h_6 := h_6.ext x_452 (Ne.symm ne_8)
  have h_44 := h_44.ext x_452 (Ne.symm ne_46)
  have h_57 := h_57.ext x_452 (Ne.symm ne_59)
  refine lv_aload_n G.1 G.2.1 dX12_init_269 rfl (lv_at hl 0 rfl) ?_
  refine lv_sipush (v := 600) G.1 G.2.1 dX12_init_270 (by decide) ?_
  refine py_newI (N := 600) G hw (by decide +kernel) (by decide) (by decide) (Nat.le_of_ble_eq_true rfl) (Nat.le_of_ble_eq_true rfl) (Nat.le_of_ble_eq_true rfl) dX12_init_273 (fun q_453 L_454 f_455 H_456 hq_457 h_458 x_459 hw => ?_)
  have ne_460 : h ≠ q_453 := py_ne_new h_451 hq_457
  have h_451 := h_451.all x_459
  have ne_461 : q_1 ≠ q_453 := py_ne_new h_6 hq_457
  have h_6 := h_6.all x_459
  have ne_462 : q_39 ≠ q_453 := py_ne_new h_44 hq_457
  have h_44 := h_44.all x_459
  have ne_463 : q_52 ≠ q_453 := py_ne_new h_57 hq_457
  have h_57 := h_57.all x_459
  refine py_putF (C := RX12) (T := TX12) (N := 54) (k := 49) (v := .ref q_453) (fs' := [.int 0, .ref q_1, .int 0, .int 0, .int 0, .int 0, .ref q_13, .ref q_26, .ref q_39, .ref q_52, .ref q_66, .ref q_81, .ref q_96, .int 0, .int 0, .ref q_111, .ref q_126, .ref q_141, .ref q_156, .int 0, .int 0, .ref q_171, .ref q_186, .ref q_201, .int 0, .int 0, .ref q_216, .ref q_231, .ref q_246, .int 0, .long 0, .int (-1), .int 50, .int 0, .int 10, .ref q_273, .ref q_288, .ref q_303, .ref q_318, .ref q_333, .ref q_348, .ref q_363, .ref q_378, .int 0, .ref q_393, .ref q_408, .ref q_423, .ref q_438, .long 0, .ref q_453, .null, .int 0, .long 0, .int 0]) (ty0 := tyX12) G hin hw tyX12_ok nmX12 in_X12_init_X12 rfl h_451 (by decide) (by decide +kernel) rfl rfl rfl rfl rfl (Nat.le_of_ble_eq_true rfl) rfl dX12_init_275 (fun f_464 H_465 locs h_466 x_467 hw => ?_)
  have h_6 := h_6.ext x_467 (Ne.symm ne_8)
  have h_44 := h_44.ext x_467 (Ne.symm ne_46)
  have h_57 := h_57.ext x_467 (Ne.symm ne_59)
  refine lv_aload_n G.1 G.2.1 dX12_init_278 rfl (lv_at hl 0 rfl) ?_
  refine lv_sipush (v := 600) G.1 G.2.1 dX12_init_279 (by decide) ?_
  refine py_newI (N := 600) G hw (by decide +kernel) (by decide) (by decide) (Nat.le_of_ble_eq_true rfl) (Nat.le_of_ble_eq_true rfl) (Nat.le_of_ble_eq_true rfl) dX12_init_282 (fun q_468 L_469 f_470 H_471 hq_472 h_473 x_474 hw => ?_)
  have ne_475 : h ≠ q_468 := py_ne_new h_466 hq_472
  have h_466 := h_466.all x_474
  have ne_476 : q_1 ≠ q_468 := py_ne_new h_6 hq_472
  have h_6 := h_6.all x_474
  have ne_477 : q_39 ≠ q_468 := py_ne_new h_44 hq_472
  have h_44 := h_44.all x_474
  have ne_478 : q_52 ≠ q_468 := py_ne_new h_57 hq_472
  have h_57 := h_57.all x_474
  refine py_putF (C := RX12) (T := TX12) (N := 54) (k := 50) (v := .ref q_468) (fs' := [.int 0, .ref q_1, .int 0, .int 0, .int 0, .int 0, .ref q_13, .ref q_26, .ref q_39, .ref q_52, .ref q_66, .ref q_81, .ref q_96, .int 0, .int 0, .ref q_111, .ref q_126, .ref q_141, .ref q_156, .int 0, .int 0, .ref q_171, .ref q_186, .ref q_201, .int 0, .int 0, .ref q_216, .ref q_231, .ref q_246, .int 0, .long 0, .int (-1), .int 50, .int 0, .int 10, .ref q_273, .ref q_288, .ref q_303, .ref q_318, .ref q_333, .ref q_348, .ref q_363, .ref q_378, .int 0, .ref q_393, .ref q_408, .ref q_423, .ref q_438, .long 0, .ref q_453, .ref q_468, .int 0, .long 0, .int 0]) (ty0 := tyX12) G hin hw tyX12_ok nmX12 in_X12_init_X12 rfl h_466 (by decide) (by decide +kernel) rfl rfl rfl rfl rfl (Nat.le_of_ble_eq_true rfl) rfl dX12_init_284 (fun f_479 H_480 locs h_481 x_482 hw => ?_)
  have h_6 := h_6.ext x_482 (Ne.symm ne_8)
  have h_44 := h_44.ext x_482 (Ne.symm ne_46)
  have h_57 := h_57.ext x_482 (Ne.symm ne_59)
  refine W.widen (k := 32) (n := 8314) (Nat.le_of_ble_eq_true rfl) (Nat.le_of_ble_eq_true rfl) ?_
  have xt_483 : py_ext L f L_469 f_479 h := fun b hb hn => by
    have n1 : b ≠ q_1 := fun h => hq_5 (h ▸ hb)
    obtain ⟨m1, e1⟩ := x_7 b hb
    obtain ⟨m2, e2⟩ := x_12 b m1 hn
    have n3 : b ≠ q_13 := fun h => hq_17 (h ▸ m2)
    obtain ⟨m3, e3⟩ := x_19 b m2
    obtain ⟨m4, e4⟩ := x_25 b m3 hn
    have n5 : b ≠ q_26 := fun h => hq_30 (h ▸ m4)
    obtain ⟨m5, e5⟩ := x_32 b m4
    obtain ⟨m6, e6⟩ := x_38 b m5 hn
    have n7 : b ≠ q_39 := fun h => hq_43 (h ▸ m6)
    obtain ⟨m7, e7⟩ := x_45 b m6
    obtain ⟨m8, e8⟩ := x_51 b m7 hn
    have n9 : b ≠ q_52 := fun h => hq_56 (h ▸ m8)
    obtain ⟨m9, e9⟩ := x_58 b m8
    obtain ⟨m10, e10⟩ := x_65 b m9 hn
    have n11 : b ≠ q_66 := fun h => hq_70 (h ▸ m10)
    obtain ⟨m11, e11⟩ := x_72 b m10
    obtain ⟨m12, e12⟩ := x_80 b m11 hn
    have n13 : b ≠ q_81 := fun h => hq_85 (h ▸ m12)
    obtain ⟨m13, e13⟩ := x_87 b m12
    obtain ⟨m14, e14⟩ := x_95 b m13 hn
    have n15 : b ≠ q_96 := fun h => hq_100 (h ▸ m14)
    obtain ⟨m15, e15⟩ := x_102 b m14
    obtain ⟨m16, e16⟩ := x_110 b m15 hn
    have n17 : b ≠ q_111 := fun h => hq_115 (h ▸ m16)
    obtain ⟨m17, e17⟩ := x_117 b m16
    obtain ⟨m18, e18⟩ := x_125 b m17 hn
    have n19 : b ≠ q_126 := fun h => hq_130 (h ▸ m18)
    obtain ⟨m19, e19⟩ := x_132 b m18
    obtain ⟨m20, e20⟩ := x_140 b m19 hn
    have n21 : b ≠ q_141 := fun h => hq_145 (h ▸ m20)
    obtain ⟨m21, e21⟩ := x_147 b m20
    obtain ⟨m22, e22⟩ := x_155 b m21 hn
    have n23 : b ≠ q_156 := fun h => hq_160 (h ▸ m22)
    obtain ⟨m23, e23⟩ := x_162 b m22
    obtain ⟨m24, e24⟩ := x_170 b m23 hn
    have n25 : b ≠ q_171 := fun h => hq_175 (h ▸ m24)
    obtain ⟨m25, e25⟩ := x_177 b m24
    obtain ⟨m26, e26⟩ := x_185 b m25 hn
    have n27 : b ≠ q_186 := fun h => hq_190 (h ▸ m26)
    obtain ⟨m27, e27⟩ := x_192 b m26
    obtain ⟨m28, e28⟩ := x_200 b m27 hn
    have n29 : b ≠ q_201 := fun h => hq_205 (h ▸ m28)
    obtain ⟨m29, e29⟩ := x_207 b m28
    obtain ⟨m30, e30⟩ := x_215 b m29 hn
    have n31 : b ≠ q_216 := fun h => hq_220 (h ▸ m30)
    obtain ⟨m31, e31⟩ := x_222 b m30
    obtain ⟨m32, e32⟩ := x_230 b m31 hn
    have n33 : b ≠ q_231 := fun h => hq_235 (h ▸ m32)
    obtain ⟨m33, e33⟩ := x_237 b m32
    obtain ⟨m34, e34⟩ := x_245 b m33 hn
    have n35 : b ≠ q_246 := fun h => hq_250 (h ▸ m34)
    obtain ⟨m35, e35⟩ := x_252 b m34
    obtain ⟨m36, e36⟩ := x_260 b m35 hn
    obtain ⟨m37, e37⟩ := x_264 b m36 hn
    obtain ⟨m38, e38⟩ := x_268 b m37 hn
    obtain ⟨m39, e39⟩ := x_272 b m38 hn
    have n40 : b ≠ q_273 := fun h => hq_277 (h ▸ m39)
    obtain ⟨m40, e40⟩ := x_279 b m39
    obtain ⟨m41, e41⟩ := x_287 b m40 hn
    have n42 : b ≠ q_288 := fun h => hq_292 (h ▸ m41)
    obtain ⟨m42, e42⟩ := x_294 b m41
    obtain ⟨m43, e43⟩ := x_302 b m42 hn
    have n44 : b ≠ q_303 := fun h => hq_307 (h ▸ m43)
    obtain ⟨m44, e44⟩ := x_309 b m43
    obtain ⟨m45, e45⟩ := x_317 b m44 hn
    have n46 : b ≠ q_318 := fun h => hq_322 (h ▸ m45)
    obtain ⟨m46, e46⟩ := x_324 b m45
    obtain ⟨m47, e47⟩ := x_332 b m46 hn
    have n48 : b ≠ q_333 := fun h => hq_337 (h ▸ m47)
    obtain ⟨m48, e48⟩ := x_339 b m47
    obtain ⟨m49, e49⟩ := x_347 b m48 hn
    have n50 : b ≠ q_348 := fun h => hq_352 (h ▸ m49)
    obtain ⟨m50, e50⟩ := x_354 b m49
    obtain ⟨m51, e51⟩ := x_362 b m50 hn
    have n52 : b ≠ q_363 := fun h => hq_367 (h ▸ m51)
    obtain ⟨m52, e52⟩ := x_369 b m51
    obtain ⟨m53, e53⟩ := x_377 b m52 hn
    have n54 : b ≠ q_378 := fun h => hq_382 (h ▸ m53)
    obtain ⟨m54, e54⟩ := x_384 b m53
    obtain ⟨m55, e55⟩ := x_392 b m54 hn
    have n56 : b ≠ q_393 := fun h => hq_397 (h ▸ m55)
    obtain ⟨m56, e56⟩ := x_399 b m55
    obtain ⟨m57, e57⟩ := x_407 b m56 hn
    have n58 : b ≠ q_408 := fun h => hq_412 (h ▸ m57)
    obtain ⟨m58, e58⟩ := x_414 b m57
    obtain ⟨m59, e59⟩ := x_422 b m58 hn
    have n60 : b ≠ q_423 := fun h => hq_427 (h ▸ m59)
    obtain ⟨m60, e60⟩ := x_429 b m59
    obtain ⟨m61, e61⟩ := x_437 b m60 hn
    have n62 : b ≠ q_438 := fun h => hq_442 (h ▸ m61)
    obtain ⟨m62, e62⟩ := x_444 b m61
    obtain ⟨m63, e63⟩ := x_452 b m62 hn
    have n64 : b ≠ q_453 := fun h => hq_457 (h ▸ m63)
    obtain ⟨m64, e64⟩ := x_459 b m63
    obtain ⟨m65, e65⟩ := x_467 b m64 hn
    have n66 : b ≠ q_468 := fun h => hq_472 (h ▸ m65)
    obtain ⟨m66, e66⟩ := x_474 b m65
    obtain ⟨m67, e67⟩ := x_482 b m66 hn
    exact ⟨m67, e67.trans (e66.trans (e65.trans (e64.trans (e63.trans (e62.trans (e61.trans (e60.trans (e59.trans (e58.trans (e57.trans (e56.trans (e55.trans (e54.trans (e53.trans (e52.trans (e51.trans (e50.trans (e49.trans (e48.trans (e47.trans (e46.trans (e45.trans (e44.trans (e43.trans (e42.trans (e41.trans (e40.trans (e39.trans (e38.trans (e37.trans (e36.trans (e35.trans (e34.trans (e33.trans (e32.trans (e31.trans (e30.trans (e29.trans (e28.trans (e27.trans (e26.trans (e25.trans (e24.trans (e23.trans (e22.trans (e21.trans (e20.trans (e19.trans (e18.trans (e17.trans (e16.trans (e15.trans (e14.trans (e13.trans (e12.trans (e11.trans (e10.trans (e9.trans (e8.trans (e7.trans (e6.trans (e5.trans (e4.trans (e3.trans (e2.trans (e1.trans (rfl)))))))))))))))))))))))))))))))))))))))))))))))))))))))))))))))))))⟩
  exact py_vret G hr hlk hw ⟨⟨q_1, q_39, q_52, _, _, _, _, _, _, _, h_481, rfl, rfl, rfl, rfl, rfl, rfl, rfl, rfl, rfl, rfl, rfl, rfl, ⟨rfl, rfl, rfl⟩, h_6, h_44, h_57⟩, xt_483⟩ dX12_init_287
