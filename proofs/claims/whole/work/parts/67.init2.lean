def rFl (N k : Nat) : List Value := [rv N 1 1 k, rv N 2 2 k, rv N 3 3 k, .int 0, rv N 4 4 k, rv N 5 5 k, rv N 6 6 k, .int 0, rv N 7 7 k, rv N 8 8 k, rv N 9 9 k, rv N 10 10 k, rv N 11 11 k, rv N 12 12 k, .int 0, rv N 13 13 k, .int 0, .int 0, .int 0, .int 0, rv N 14 14 k, rv N 15 15 k, rv N 16 16 k, .int 0, rv N 17 17 k, rv N 18 18 k, rv N 19 19 k, rv N 20 20 k, rv N 21 21 k, rv N 22 22 k, rv N 23 23 k, .int 0, .int 0, rv N 24 24 k, rv N 25 25 k, rv N 26 26 k, rv N 27 27 k, rv N 28 28 k, rv N 29 29 k, rv N 30 30 k, rv N 31 31 k, rv N 32 32 k, rv N 33 33 k, rv N 34 34 k, rv N 35 35 k, .int 0, rv N 36 36 k, rv N 37 37 k, rv N 38 38 k, rv N 39 39 k]
def rAll (D : xD) : List va_E := [iA D 239 (fun _ => 0), iA D 239 (fun _ => 0), iA D 239 (fun _ => 0), iA D 36 (fun _ => 0), iA D 36 (fun _ => 0), iA D 24 (cfl 24 (nI 10)), iA D 12 (fun _ => 0), iA D 12 (fun _ => 0), iA D 12 (fun _ => 0), iA D 12 (fun _ => 0), iA D 12 (fun _ => 0), iA D 6 (cfl 6 (-1)), iA D 24 (fun _ => 0), iA D 6 (fun _ => 0), iA D 6 (fun _ => 0), zA D 6 (fun _ => 0), iA D 30 (fun _ => 0), iA D 30 (fun _ => 0), iA D 30 (fun _ => 0), iA D 30 (fun _ => 0), iA D 30 (fun _ => 0), iA D 30 (cfl 30 (-1)), iA D 160 (fun _ => 0), iA D 6 (fun _ => 0), iA D 48 (fun _ => 0), iA D 48 (fun _ => 0), iA D 48 (fun _ => 0), iA D 144 (fun _ => 0), iA D 144 (fun _ => 0), iA D 144 (fun _ => 0), iA D 4 (cfl 4 (-1)), iA D 4 (fun _ => 0), iA D 160 (fun _ => 0), lA D 11 (wordsF), iA D 11 (sizesF), iA D 6 (fun _ => 0), iA D 6 (fun _ => 0), iA D 6 (fun _ => 0), iA D 4 (fun _ => 0)]
def rS (D : xD) (N k : Nat) : List va_E := .inr (12, rFl N k) :: (rAll D).take k
def rP (D : xD) (N k : Nat) (e : va_E) : List va_E := .inr (12, rFl N k) :: ((rAll D).take k ++ [e])
theorem d_Rf_init_0 : decode M_Rf_init.2.1 0 = .ok (.aload_n 0, 1) := by decide +kernel
theorem d_Rf_init_1 : decode M_Rf_init.2.1 1 = .ok (.invokespecial 1, 3) := by decide +kernel
theorem d_Rf_init_4 : decode M_Rf_init.2.1 4 = .ok (.aload_n 0, 1) := by decide +kernel
theorem d_Rf_init_5 : decode M_Rf_init.2.1 5 = .ok (.sipush 239, 3) := by decide +kernel
theorem d_Rf_init_8 : decode M_Rf_init.2.1 8 = .ok (.newarray .int, 2) := by decide +kernel
theorem d_Rf_init_10 : decode M_Rf_init.2.1 10 = .ok (.putfield 7, 3) := by decide +kernel
theorem d_Rf_init_13 : decode M_Rf_init.2.1 13 = .ok (.aload_n 0, 1) := by decide +kernel
theorem d_Rf_init_14 : decode M_Rf_init.2.1 14 = .ok (.sipush 239, 3) := by decide +kernel
theorem d_Rf_init_17 : decode M_Rf_init.2.1 17 = .ok (.newarray .int, 2) := by decide +kernel
theorem d_Rf_init_19 : decode M_Rf_init.2.1 19 = .ok (.putfield 13, 3) := by decide +kernel
theorem d_Rf_init_22 : decode M_Rf_init.2.1 22 = .ok (.aload_n 0, 1) := by decide +kernel
theorem d_Rf_init_23 : decode M_Rf_init.2.1 23 = .ok (.sipush 239, 3) := by decide +kernel
theorem d_Rf_init_26 : decode M_Rf_init.2.1 26 = .ok (.newarray .int, 2) := by decide +kernel
theorem d_Rf_init_28 : decode M_Rf_init.2.1 28 = .ok (.putfield 16, 3) := by decide +kernel
theorem d_Rf_init_31 : decode M_Rf_init.2.1 31 = .ok (.aload_n 0, 1) := by decide +kernel
theorem d_Rf_init_32 : decode M_Rf_init.2.1 32 = .ok (.bipush 36, 2) := by decide +kernel
theorem d_Rf_init_34 : decode M_Rf_init.2.1 34 = .ok (.newarray .int, 2) := by decide +kernel
theorem d_Rf_init_36 : decode M_Rf_init.2.1 36 = .ok (.putfield 19, 3) := by decide +kernel
theorem d_Rf_init_39 : decode M_Rf_init.2.1 39 = .ok (.aload_n 0, 1) := by decide +kernel
theorem d_Rf_init_40 : decode M_Rf_init.2.1 40 = .ok (.bipush 36, 2) := by decide +kernel
theorem d_Rf_init_42 : decode M_Rf_init.2.1 42 = .ok (.newarray .int, 2) := by decide +kernel
theorem d_Rf_init_44 : decode M_Rf_init.2.1 44 = .ok (.putfield 22, 3) := by decide +kernel
theorem d_Rf_init_47 : decode M_Rf_init.2.1 47 = .ok (.aload_n 0, 1) := by decide +kernel
theorem d_Rf_init_48 : decode M_Rf_init.2.1 48 = .ok (.bipush 24, 2) := by decide +kernel
theorem d_Rf_init_50 : decode M_Rf_init.2.1 50 = .ok (.newarray .int, 2) := by decide +kernel
theorem d_Rf_init_52 : decode M_Rf_init.2.1 52 = .ok (.dup, 1) := by decide +kernel
theorem d_Rf_init_53 : decode M_Rf_init.2.1 53 = .ok (.iconst 0, 1) := by decide +kernel
theorem d_Rf_init_54 : decode M_Rf_init.2.1 54 = .ok (.bipush 10, 2) := by decide +kernel
theorem d_Rf_init_56 : decode M_Rf_init.2.1 56 = .ok (.iastore, 1) := by decide +kernel
theorem d_Rf_init_57 : decode M_Rf_init.2.1 57 = .ok (.dup, 1) := by decide +kernel
theorem d_Rf_init_58 : decode M_Rf_init.2.1 58 = .ok (.iconst 1, 1) := by decide +kernel
theorem d_Rf_init_59 : decode M_Rf_init.2.1 59 = .ok (.bipush 10, 2) := by decide +kernel
theorem d_Rf_init_61 : decode M_Rf_init.2.1 61 = .ok (.iastore, 1) := by decide +kernel
theorem d_Rf_init_62 : decode M_Rf_init.2.1 62 = .ok (.dup, 1) := by decide +kernel
theorem d_Rf_init_63 : decode M_Rf_init.2.1 63 = .ok (.iconst 2, 1) := by decide +kernel
theorem d_Rf_init_64 : decode M_Rf_init.2.1 64 = .ok (.bipush 10, 2) := by decide +kernel
theorem d_Rf_init_66 : decode M_Rf_init.2.1 66 = .ok (.iastore, 1) := by decide +kernel
theorem d_Rf_init_67 : decode M_Rf_init.2.1 67 = .ok (.dup, 1) := by decide +kernel
theorem d_Rf_init_68 : decode M_Rf_init.2.1 68 = .ok (.iconst 3, 1) := by decide +kernel
theorem d_Rf_init_69 : decode M_Rf_init.2.1 69 = .ok (.bipush 10, 2) := by decide +kernel
theorem d_Rf_init_71 : decode M_Rf_init.2.1 71 = .ok (.iastore, 1) := by decide +kernel
theorem d_Rf_init_72 : decode M_Rf_init.2.1 72 = .ok (.dup, 1) := by decide +kernel
theorem d_Rf_init_73 : decode M_Rf_init.2.1 73 = .ok (.iconst 4, 1) := by decide +kernel
theorem d_Rf_init_74 : decode M_Rf_init.2.1 74 = .ok (.bipush 10, 2) := by decide +kernel
theorem d_Rf_init_76 : decode M_Rf_init.2.1 76 = .ok (.iastore, 1) := by decide +kernel
theorem d_Rf_init_77 : decode M_Rf_init.2.1 77 = .ok (.dup, 1) := by decide +kernel
theorem d_Rf_init_78 : decode M_Rf_init.2.1 78 = .ok (.iconst 5, 1) := by decide +kernel
theorem d_Rf_init_79 : decode M_Rf_init.2.1 79 = .ok (.bipush 10, 2) := by decide +kernel
theorem d_Rf_init_81 : decode M_Rf_init.2.1 81 = .ok (.iastore, 1) := by decide +kernel
theorem d_Rf_init_82 : decode M_Rf_init.2.1 82 = .ok (.dup, 1) := by decide +kernel
theorem d_Rf_init_83 : decode M_Rf_init.2.1 83 = .ok (.bipush 6, 2) := by decide +kernel
theorem d_Rf_init_85 : decode M_Rf_init.2.1 85 = .ok (.bipush 10, 2) := by decide +kernel
theorem d_Rf_init_87 : decode M_Rf_init.2.1 87 = .ok (.iastore, 1) := by decide +kernel
theorem d_Rf_init_88 : decode M_Rf_init.2.1 88 = .ok (.dup, 1) := by decide +kernel
theorem d_Rf_init_89 : decode M_Rf_init.2.1 89 = .ok (.bipush 7, 2) := by decide +kernel
theorem d_Rf_init_91 : decode M_Rf_init.2.1 91 = .ok (.bipush 10, 2) := by decide +kernel
theorem d_Rf_init_93 : decode M_Rf_init.2.1 93 = .ok (.iastore, 1) := by decide +kernel
theorem d_Rf_init_94 : decode M_Rf_init.2.1 94 = .ok (.dup, 1) := by decide +kernel
theorem d_Rf_init_95 : decode M_Rf_init.2.1 95 = .ok (.bipush 8, 2) := by decide +kernel
theorem d_Rf_init_97 : decode M_Rf_init.2.1 97 = .ok (.bipush 10, 2) := by decide +kernel
theorem d_Rf_init_99 : decode M_Rf_init.2.1 99 = .ok (.iastore, 1) := by decide +kernel
theorem d_Rf_init_100 : decode M_Rf_init.2.1 100 = .ok (.dup, 1) := by decide +kernel
theorem d_Rf_init_101 : decode M_Rf_init.2.1 101 = .ok (.bipush 9, 2) := by decide +kernel
theorem d_Rf_init_103 : decode M_Rf_init.2.1 103 = .ok (.bipush 10, 2) := by decide +kernel
theorem d_Rf_init_105 : decode M_Rf_init.2.1 105 = .ok (.iastore, 1) := by decide +kernel
theorem d_Rf_init_106 : decode M_Rf_init.2.1 106 = .ok (.dup, 1) := by decide +kernel
theorem d_Rf_init_107 : decode M_Rf_init.2.1 107 = .ok (.bipush 10, 2) := by decide +kernel
theorem d_Rf_init_109 : decode M_Rf_init.2.1 109 = .ok (.bipush 10, 2) := by decide +kernel
theorem d_Rf_init_111 : decode M_Rf_init.2.1 111 = .ok (.iastore, 1) := by decide +kernel
theorem d_Rf_init_112 : decode M_Rf_init.2.1 112 = .ok (.dup, 1) := by decide +kernel
theorem d_Rf_init_113 : decode M_Rf_init.2.1 113 = .ok (.bipush 11, 2) := by decide +kernel
theorem d_Rf_init_115 : decode M_Rf_init.2.1 115 = .ok (.bipush 10, 2) := by decide +kernel
theorem d_Rf_init_117 : decode M_Rf_init.2.1 117 = .ok (.iastore, 1) := by decide +kernel
theorem d_Rf_init_118 : decode M_Rf_init.2.1 118 = .ok (.dup, 1) := by decide +kernel
theorem d_Rf_init_119 : decode M_Rf_init.2.1 119 = .ok (.bipush 12, 2) := by decide +kernel
theorem d_Rf_init_121 : decode M_Rf_init.2.1 121 = .ok (.bipush 10, 2) := by decide +kernel
theorem d_Rf_init_123 : decode M_Rf_init.2.1 123 = .ok (.iastore, 1) := by decide +kernel
theorem d_Rf_init_124 : decode M_Rf_init.2.1 124 = .ok (.dup, 1) := by decide +kernel
theorem d_Rf_init_125 : decode M_Rf_init.2.1 125 = .ok (.bipush 13, 2) := by decide +kernel
theorem d_Rf_init_127 : decode M_Rf_init.2.1 127 = .ok (.bipush 10, 2) := by decide +kernel
theorem d_Rf_init_129 : decode M_Rf_init.2.1 129 = .ok (.iastore, 1) := by decide +kernel
theorem d_Rf_init_130 : decode M_Rf_init.2.1 130 = .ok (.dup, 1) := by decide +kernel
theorem d_Rf_init_131 : decode M_Rf_init.2.1 131 = .ok (.bipush 14, 2) := by decide +kernel
theorem d_Rf_init_133 : decode M_Rf_init.2.1 133 = .ok (.bipush 10, 2) := by decide +kernel
theorem d_Rf_init_135 : decode M_Rf_init.2.1 135 = .ok (.iastore, 1) := by decide +kernel
theorem d_Rf_init_136 : decode M_Rf_init.2.1 136 = .ok (.dup, 1) := by decide +kernel
theorem d_Rf_init_137 : decode M_Rf_init.2.1 137 = .ok (.bipush 15, 2) := by decide +kernel
theorem d_Rf_init_139 : decode M_Rf_init.2.1 139 = .ok (.bipush 10, 2) := by decide +kernel
theorem d_Rf_init_141 : decode M_Rf_init.2.1 141 = .ok (.iastore, 1) := by decide +kernel
theorem d_Rf_init_142 : decode M_Rf_init.2.1 142 = .ok (.dup, 1) := by decide +kernel
theorem d_Rf_init_143 : decode M_Rf_init.2.1 143 = .ok (.bipush 16, 2) := by decide +kernel
theorem d_Rf_init_145 : decode M_Rf_init.2.1 145 = .ok (.bipush 10, 2) := by decide +kernel
theorem d_Rf_init_147 : decode M_Rf_init.2.1 147 = .ok (.iastore, 1) := by decide +kernel
theorem d_Rf_init_148 : decode M_Rf_init.2.1 148 = .ok (.dup, 1) := by decide +kernel
theorem d_Rf_init_149 : decode M_Rf_init.2.1 149 = .ok (.bipush 17, 2) := by decide +kernel
theorem d_Rf_init_151 : decode M_Rf_init.2.1 151 = .ok (.bipush 10, 2) := by decide +kernel
theorem d_Rf_init_153 : decode M_Rf_init.2.1 153 = .ok (.iastore, 1) := by decide +kernel
theorem d_Rf_init_154 : decode M_Rf_init.2.1 154 = .ok (.dup, 1) := by decide +kernel
theorem d_Rf_init_155 : decode M_Rf_init.2.1 155 = .ok (.bipush 18, 2) := by decide +kernel
theorem d_Rf_init_157 : decode M_Rf_init.2.1 157 = .ok (.bipush 10, 2) := by decide +kernel
theorem d_Rf_init_159 : decode M_Rf_init.2.1 159 = .ok (.iastore, 1) := by decide +kernel
theorem d_Rf_init_160 : decode M_Rf_init.2.1 160 = .ok (.dup, 1) := by decide +kernel
theorem d_Rf_init_161 : decode M_Rf_init.2.1 161 = .ok (.bipush 19, 2) := by decide +kernel
theorem d_Rf_init_163 : decode M_Rf_init.2.1 163 = .ok (.bipush 10, 2) := by decide +kernel
theorem d_Rf_init_165 : decode M_Rf_init.2.1 165 = .ok (.iastore, 1) := by decide +kernel
theorem d_Rf_init_166 : decode M_Rf_init.2.1 166 = .ok (.dup, 1) := by decide +kernel
theorem d_Rf_init_167 : decode M_Rf_init.2.1 167 = .ok (.bipush 20, 2) := by decide +kernel
theorem d_Rf_init_169 : decode M_Rf_init.2.1 169 = .ok (.bipush 10, 2) := by decide +kernel
theorem d_Rf_init_171 : decode M_Rf_init.2.1 171 = .ok (.iastore, 1) := by decide +kernel
theorem d_Rf_init_172 : decode M_Rf_init.2.1 172 = .ok (.dup, 1) := by decide +kernel
theorem d_Rf_init_173 : decode M_Rf_init.2.1 173 = .ok (.bipush 21, 2) := by decide +kernel
theorem d_Rf_init_175 : decode M_Rf_init.2.1 175 = .ok (.bipush 10, 2) := by decide +kernel
theorem d_Rf_init_177 : decode M_Rf_init.2.1 177 = .ok (.iastore, 1) := by decide +kernel
theorem d_Rf_init_178 : decode M_Rf_init.2.1 178 = .ok (.dup, 1) := by decide +kernel
theorem d_Rf_init_179 : decode M_Rf_init.2.1 179 = .ok (.bipush 22, 2) := by decide +kernel
theorem d_Rf_init_181 : decode M_Rf_init.2.1 181 = .ok (.bipush 10, 2) := by decide +kernel
theorem d_Rf_init_183 : decode M_Rf_init.2.1 183 = .ok (.iastore, 1) := by decide +kernel
theorem d_Rf_init_184 : decode M_Rf_init.2.1 184 = .ok (.dup, 1) := by decide +kernel
theorem d_Rf_init_185 : decode M_Rf_init.2.1 185 = .ok (.bipush 23, 2) := by decide +kernel
theorem d_Rf_init_187 : decode M_Rf_init.2.1 187 = .ok (.bipush 10, 2) := by decide +kernel
theorem d_Rf_init_189 : decode M_Rf_init.2.1 189 = .ok (.iastore, 1) := by decide +kernel
theorem d_Rf_init_190 : decode M_Rf_init.2.1 190 = .ok (.putfield 25, 3) := by decide +kernel
theorem d_Rf_init_193 : decode M_Rf_init.2.1 193 = .ok (.aload_n 0, 1) := by decide +kernel
theorem d_Rf_init_194 : decode M_Rf_init.2.1 194 = .ok (.bipush 12, 2) := by decide +kernel
theorem d_Rf_init_196 : decode M_Rf_init.2.1 196 = .ok (.newarray .int, 2) := by decide +kernel
theorem d_Rf_init_198 : decode M_Rf_init.2.1 198 = .ok (.putfield 28, 3) := by decide +kernel
theorem d_Rf_init_201 : decode M_Rf_init.2.1 201 = .ok (.aload_n 0, 1) := by decide +kernel
theorem d_Rf_init_202 : decode M_Rf_init.2.1 202 = .ok (.bipush 12, 2) := by decide +kernel
theorem d_Rf_init_204 : decode M_Rf_init.2.1 204 = .ok (.newarray .int, 2) := by decide +kernel
theorem d_Rf_init_206 : decode M_Rf_init.2.1 206 = .ok (.putfield 31, 3) := by decide +kernel
theorem d_Rf_init_209 : decode M_Rf_init.2.1 209 = .ok (.aload_n 0, 1) := by decide +kernel
theorem d_Rf_init_210 : decode M_Rf_init.2.1 210 = .ok (.bipush 12, 2) := by decide +kernel
theorem d_Rf_init_212 : decode M_Rf_init.2.1 212 = .ok (.newarray .int, 2) := by decide +kernel
theorem d_Rf_init_214 : decode M_Rf_init.2.1 214 = .ok (.putfield 34, 3) := by decide +kernel
theorem d_Rf_init_217 : decode M_Rf_init.2.1 217 = .ok (.aload_n 0, 1) := by decide +kernel
theorem d_Rf_init_218 : decode M_Rf_init.2.1 218 = .ok (.bipush 12, 2) := by decide +kernel
theorem d_Rf_init_220 : decode M_Rf_init.2.1 220 = .ok (.newarray .int, 2) := by decide +kernel
theorem d_Rf_init_222 : decode M_Rf_init.2.1 222 = .ok (.putfield 37, 3) := by decide +kernel
theorem d_Rf_init_225 : decode M_Rf_init.2.1 225 = .ok (.aload_n 0, 1) := by decide +kernel
theorem d_Rf_init_226 : decode M_Rf_init.2.1 226 = .ok (.bipush 12, 2) := by decide +kernel
theorem d_Rf_init_228 : decode M_Rf_init.2.1 228 = .ok (.newarray .int, 2) := by decide +kernel
theorem d_Rf_init_230 : decode M_Rf_init.2.1 230 = .ok (.putfield 40, 3) := by decide +kernel
theorem d_Rf_init_233 : decode M_Rf_init.2.1 233 = .ok (.aload_n 0, 1) := by decide +kernel
theorem d_Rf_init_234 : decode M_Rf_init.2.1 234 = .ok (.bipush 6, 2) := by decide +kernel
theorem d_Rf_init_236 : decode M_Rf_init.2.1 236 = .ok (.newarray .int, 2) := by decide +kernel
theorem d_Rf_init_238 : decode M_Rf_init.2.1 238 = .ok (.dup, 1) := by decide +kernel
theorem d_Rf_init_239 : decode M_Rf_init.2.1 239 = .ok (.iconst 0, 1) := by decide +kernel
theorem d_Rf_init_240 : decode M_Rf_init.2.1 240 = .ok (.iconst (-1), 1) := by decide +kernel
theorem d_Rf_init_241 : decode M_Rf_init.2.1 241 = .ok (.iastore, 1) := by decide +kernel
theorem d_Rf_init_242 : decode M_Rf_init.2.1 242 = .ok (.dup, 1) := by decide +kernel
theorem d_Rf_init_243 : decode M_Rf_init.2.1 243 = .ok (.iconst 1, 1) := by decide +kernel
theorem d_Rf_init_244 : decode M_Rf_init.2.1 244 = .ok (.iconst (-1), 1) := by decide +kernel
theorem d_Rf_init_245 : decode M_Rf_init.2.1 245 = .ok (.iastore, 1) := by decide +kernel
theorem d_Rf_init_246 : decode M_Rf_init.2.1 246 = .ok (.dup, 1) := by decide +kernel
theorem d_Rf_init_247 : decode M_Rf_init.2.1 247 = .ok (.iconst 2, 1) := by decide +kernel
theorem d_Rf_init_248 : decode M_Rf_init.2.1 248 = .ok (.iconst (-1), 1) := by decide +kernel
theorem d_Rf_init_249 : decode M_Rf_init.2.1 249 = .ok (.iastore, 1) := by decide +kernel
theorem d_Rf_init_250 : decode M_Rf_init.2.1 250 = .ok (.dup, 1) := by decide +kernel
theorem d_Rf_init_251 : decode M_Rf_init.2.1 251 = .ok (.iconst 3, 1) := by decide +kernel
theorem d_Rf_init_252 : decode M_Rf_init.2.1 252 = .ok (.iconst (-1), 1) := by decide +kernel
theorem d_Rf_init_253 : decode M_Rf_init.2.1 253 = .ok (.iastore, 1) := by decide +kernel
theorem d_Rf_init_254 : decode M_Rf_init.2.1 254 = .ok (.dup, 1) := by decide +kernel
theorem d_Rf_init_255 : decode M_Rf_init.2.1 255 = .ok (.iconst 4, 1) := by decide +kernel
theorem d_Rf_init_256 : decode M_Rf_init.2.1 256 = .ok (.iconst (-1), 1) := by decide +kernel
theorem d_Rf_init_257 : decode M_Rf_init.2.1 257 = .ok (.iastore, 1) := by decide +kernel
theorem d_Rf_init_258 : decode M_Rf_init.2.1 258 = .ok (.dup, 1) := by decide +kernel
theorem d_Rf_init_259 : decode M_Rf_init.2.1 259 = .ok (.iconst 5, 1) := by decide +kernel
theorem d_Rf_init_260 : decode M_Rf_init.2.1 260 = .ok (.iconst (-1), 1) := by decide +kernel
theorem d_Rf_init_261 : decode M_Rf_init.2.1 261 = .ok (.iastore, 1) := by decide +kernel
theorem d_Rf_init_262 : decode M_Rf_init.2.1 262 = .ok (.putfield 43, 3) := by decide +kernel
theorem d_Rf_init_265 : decode M_Rf_init.2.1 265 = .ok (.aload_n 0, 1) := by decide +kernel
theorem d_Rf_init_266 : decode M_Rf_init.2.1 266 = .ok (.bipush 24, 2) := by decide +kernel
theorem d_Rf_init_268 : decode M_Rf_init.2.1 268 = .ok (.newarray .int, 2) := by decide +kernel
theorem d_Rf_init_270 : decode M_Rf_init.2.1 270 = .ok (.putfield 46, 3) := by decide +kernel
theorem d_Rf_init_273 : decode M_Rf_init.2.1 273 = .ok (.aload_n 0, 1) := by decide +kernel
theorem d_Rf_init_274 : decode M_Rf_init.2.1 274 = .ok (.bipush 6, 2) := by decide +kernel
theorem d_Rf_init_276 : decode M_Rf_init.2.1 276 = .ok (.newarray .int, 2) := by decide +kernel
theorem d_Rf_init_278 : decode M_Rf_init.2.1 278 = .ok (.putfield 49, 3) := by decide +kernel
theorem d_Rf_init_281 : decode M_Rf_init.2.1 281 = .ok (.aload_n 0, 1) := by decide +kernel
theorem d_Rf_init_282 : decode M_Rf_init.2.1 282 = .ok (.bipush 6, 2) := by decide +kernel
theorem d_Rf_init_284 : decode M_Rf_init.2.1 284 = .ok (.newarray .int, 2) := by decide +kernel
theorem d_Rf_init_286 : decode M_Rf_init.2.1 286 = .ok (.putfield 52, 3) := by decide +kernel
theorem d_Rf_init_289 : decode M_Rf_init.2.1 289 = .ok (.aload_n 0, 1) := by decide +kernel
theorem d_Rf_init_290 : decode M_Rf_init.2.1 290 = .ok (.bipush 6, 2) := by decide +kernel
theorem d_Rf_init_292 : decode M_Rf_init.2.1 292 = .ok (.newarray .boolean, 2) := by decide +kernel
theorem d_Rf_init_294 : decode M_Rf_init.2.1 294 = .ok (.putfield 55, 3) := by decide +kernel
theorem d_Rf_init_297 : decode M_Rf_init.2.1 297 = .ok (.aload_n 0, 1) := by decide +kernel
theorem d_Rf_init_298 : decode M_Rf_init.2.1 298 = .ok (.bipush 30, 2) := by decide +kernel
theorem d_Rf_init_300 : decode M_Rf_init.2.1 300 = .ok (.newarray .int, 2) := by decide +kernel
theorem d_Rf_init_302 : decode M_Rf_init.2.1 302 = .ok (.putfield 59, 3) := by decide +kernel
theorem d_Rf_init_305 : decode M_Rf_init.2.1 305 = .ok (.aload_n 0, 1) := by decide +kernel
theorem d_Rf_init_306 : decode M_Rf_init.2.1 306 = .ok (.bipush 30, 2) := by decide +kernel
theorem d_Rf_init_308 : decode M_Rf_init.2.1 308 = .ok (.newarray .int, 2) := by decide +kernel
theorem d_Rf_init_310 : decode M_Rf_init.2.1 310 = .ok (.putfield 62, 3) := by decide +kernel
theorem d_Rf_init_313 : decode M_Rf_init.2.1 313 = .ok (.aload_n 0, 1) := by decide +kernel
theorem d_Rf_init_314 : decode M_Rf_init.2.1 314 = .ok (.bipush 30, 2) := by decide +kernel
theorem d_Rf_init_316 : decode M_Rf_init.2.1 316 = .ok (.newarray .int, 2) := by decide +kernel
theorem d_Rf_init_318 : decode M_Rf_init.2.1 318 = .ok (.putfield 65, 3) := by decide +kernel
theorem d_Rf_init_321 : decode M_Rf_init.2.1 321 = .ok (.aload_n 0, 1) := by decide +kernel
theorem d_Rf_init_322 : decode M_Rf_init.2.1 322 = .ok (.bipush 30, 2) := by decide +kernel
theorem d_Rf_init_324 : decode M_Rf_init.2.1 324 = .ok (.newarray .int, 2) := by decide +kernel
theorem d_Rf_init_326 : decode M_Rf_init.2.1 326 = .ok (.putfield 68, 3) := by decide +kernel
theorem d_Rf_init_329 : decode M_Rf_init.2.1 329 = .ok (.aload_n 0, 1) := by decide +kernel
theorem d_Rf_init_330 : decode M_Rf_init.2.1 330 = .ok (.bipush 30, 2) := by decide +kernel
theorem d_Rf_init_332 : decode M_Rf_init.2.1 332 = .ok (.newarray .int, 2) := by decide +kernel
theorem d_Rf_init_334 : decode M_Rf_init.2.1 334 = .ok (.putfield 71, 3) := by decide +kernel
theorem d_Rf_init_337 : decode M_Rf_init.2.1 337 = .ok (.aload_n 0, 1) := by decide +kernel
theorem d_Rf_init_338 : decode M_Rf_init.2.1 338 = .ok (.bipush 30, 2) := by decide +kernel
theorem d_Rf_init_340 : decode M_Rf_init.2.1 340 = .ok (.newarray .int, 2) := by decide +kernel
theorem d_Rf_init_342 : decode M_Rf_init.2.1 342 = .ok (.dup, 1) := by decide +kernel
theorem d_Rf_init_343 : decode M_Rf_init.2.1 343 = .ok (.iconst 0, 1) := by decide +kernel
theorem d_Rf_init_344 : decode M_Rf_init.2.1 344 = .ok (.iconst (-1), 1) := by decide +kernel
theorem d_Rf_init_345 : decode M_Rf_init.2.1 345 = .ok (.iastore, 1) := by decide +kernel
theorem d_Rf_init_346 : decode M_Rf_init.2.1 346 = .ok (.dup, 1) := by decide +kernel
theorem d_Rf_init_347 : decode M_Rf_init.2.1 347 = .ok (.iconst 1, 1) := by decide +kernel
theorem d_Rf_init_348 : decode M_Rf_init.2.1 348 = .ok (.iconst (-1), 1) := by decide +kernel
theorem d_Rf_init_349 : decode M_Rf_init.2.1 349 = .ok (.iastore, 1) := by decide +kernel
theorem d_Rf_init_350 : decode M_Rf_init.2.1 350 = .ok (.dup, 1) := by decide +kernel
theorem d_Rf_init_351 : decode M_Rf_init.2.1 351 = .ok (.iconst 2, 1) := by decide +kernel
theorem d_Rf_init_352 : decode M_Rf_init.2.1 352 = .ok (.iconst (-1), 1) := by decide +kernel
theorem d_Rf_init_353 : decode M_Rf_init.2.1 353 = .ok (.iastore, 1) := by decide +kernel
theorem d_Rf_init_354 : decode M_Rf_init.2.1 354 = .ok (.dup, 1) := by decide +kernel
theorem d_Rf_init_355 : decode M_Rf_init.2.1 355 = .ok (.iconst 3, 1) := by decide +kernel
theorem d_Rf_init_356 : decode M_Rf_init.2.1 356 = .ok (.iconst (-1), 1) := by decide +kernel
theorem d_Rf_init_357 : decode M_Rf_init.2.1 357 = .ok (.iastore, 1) := by decide +kernel
theorem d_Rf_init_358 : decode M_Rf_init.2.1 358 = .ok (.dup, 1) := by decide +kernel
theorem d_Rf_init_359 : decode M_Rf_init.2.1 359 = .ok (.iconst 4, 1) := by decide +kernel
theorem d_Rf_init_360 : decode M_Rf_init.2.1 360 = .ok (.iconst (-1), 1) := by decide +kernel
theorem d_Rf_init_361 : decode M_Rf_init.2.1 361 = .ok (.iastore, 1) := by decide +kernel
theorem d_Rf_init_362 : decode M_Rf_init.2.1 362 = .ok (.dup, 1) := by decide +kernel
theorem d_Rf_init_363 : decode M_Rf_init.2.1 363 = .ok (.iconst 5, 1) := by decide +kernel
theorem d_Rf_init_364 : decode M_Rf_init.2.1 364 = .ok (.iconst (-1), 1) := by decide +kernel
theorem d_Rf_init_365 : decode M_Rf_init.2.1 365 = .ok (.iastore, 1) := by decide +kernel
theorem d_Rf_init_366 : decode M_Rf_init.2.1 366 = .ok (.dup, 1) := by decide +kernel
theorem d_Rf_init_367 : decode M_Rf_init.2.1 367 = .ok (.bipush 6, 2) := by decide +kernel
theorem d_Rf_init_369 : decode M_Rf_init.2.1 369 = .ok (.iconst (-1), 1) := by decide +kernel
theorem d_Rf_init_370 : decode M_Rf_init.2.1 370 = .ok (.iastore, 1) := by decide +kernel
theorem d_Rf_init_371 : decode M_Rf_init.2.1 371 = .ok (.dup, 1) := by decide +kernel
theorem d_Rf_init_372 : decode M_Rf_init.2.1 372 = .ok (.bipush 7, 2) := by decide +kernel
theorem d_Rf_init_374 : decode M_Rf_init.2.1 374 = .ok (.iconst (-1), 1) := by decide +kernel
theorem d_Rf_init_375 : decode M_Rf_init.2.1 375 = .ok (.iastore, 1) := by decide +kernel
theorem d_Rf_init_376 : decode M_Rf_init.2.1 376 = .ok (.dup, 1) := by decide +kernel
theorem d_Rf_init_377 : decode M_Rf_init.2.1 377 = .ok (.bipush 8, 2) := by decide +kernel
theorem d_Rf_init_379 : decode M_Rf_init.2.1 379 = .ok (.iconst (-1), 1) := by decide +kernel
theorem d_Rf_init_380 : decode M_Rf_init.2.1 380 = .ok (.iastore, 1) := by decide +kernel
theorem d_Rf_init_381 : decode M_Rf_init.2.1 381 = .ok (.dup, 1) := by decide +kernel
theorem d_Rf_init_382 : decode M_Rf_init.2.1 382 = .ok (.bipush 9, 2) := by decide +kernel
theorem d_Rf_init_384 : decode M_Rf_init.2.1 384 = .ok (.iconst (-1), 1) := by decide +kernel
theorem d_Rf_init_385 : decode M_Rf_init.2.1 385 = .ok (.iastore, 1) := by decide +kernel
theorem d_Rf_init_386 : decode M_Rf_init.2.1 386 = .ok (.dup, 1) := by decide +kernel
theorem d_Rf_init_387 : decode M_Rf_init.2.1 387 = .ok (.bipush 10, 2) := by decide +kernel
theorem d_Rf_init_389 : decode M_Rf_init.2.1 389 = .ok (.iconst (-1), 1) := by decide +kernel
theorem d_Rf_init_390 : decode M_Rf_init.2.1 390 = .ok (.iastore, 1) := by decide +kernel
theorem d_Rf_init_391 : decode M_Rf_init.2.1 391 = .ok (.dup, 1) := by decide +kernel
theorem d_Rf_init_392 : decode M_Rf_init.2.1 392 = .ok (.bipush 11, 2) := by decide +kernel
theorem d_Rf_init_394 : decode M_Rf_init.2.1 394 = .ok (.iconst (-1), 1) := by decide +kernel
theorem d_Rf_init_395 : decode M_Rf_init.2.1 395 = .ok (.iastore, 1) := by decide +kernel
theorem d_Rf_init_396 : decode M_Rf_init.2.1 396 = .ok (.dup, 1) := by decide +kernel
theorem d_Rf_init_397 : decode M_Rf_init.2.1 397 = .ok (.bipush 12, 2) := by decide +kernel
theorem d_Rf_init_399 : decode M_Rf_init.2.1 399 = .ok (.iconst (-1), 1) := by decide +kernel
theorem d_Rf_init_400 : decode M_Rf_init.2.1 400 = .ok (.iastore, 1) := by decide +kernel
theorem d_Rf_init_401 : decode M_Rf_init.2.1 401 = .ok (.dup, 1) := by decide +kernel
theorem d_Rf_init_402 : decode M_Rf_init.2.1 402 = .ok (.bipush 13, 2) := by decide +kernel
theorem d_Rf_init_404 : decode M_Rf_init.2.1 404 = .ok (.iconst (-1), 1) := by decide +kernel
theorem d_Rf_init_405 : decode M_Rf_init.2.1 405 = .ok (.iastore, 1) := by decide +kernel
theorem d_Rf_init_406 : decode M_Rf_init.2.1 406 = .ok (.dup, 1) := by decide +kernel
theorem d_Rf_init_407 : decode M_Rf_init.2.1 407 = .ok (.bipush 14, 2) := by decide +kernel
theorem d_Rf_init_409 : decode M_Rf_init.2.1 409 = .ok (.iconst (-1), 1) := by decide +kernel
theorem d_Rf_init_410 : decode M_Rf_init.2.1 410 = .ok (.iastore, 1) := by decide +kernel
theorem d_Rf_init_411 : decode M_Rf_init.2.1 411 = .ok (.dup, 1) := by decide +kernel
theorem d_Rf_init_412 : decode M_Rf_init.2.1 412 = .ok (.bipush 15, 2) := by decide +kernel
theorem d_Rf_init_414 : decode M_Rf_init.2.1 414 = .ok (.iconst (-1), 1) := by decide +kernel
theorem d_Rf_init_415 : decode M_Rf_init.2.1 415 = .ok (.iastore, 1) := by decide +kernel
theorem d_Rf_init_416 : decode M_Rf_init.2.1 416 = .ok (.dup, 1) := by decide +kernel
theorem d_Rf_init_417 : decode M_Rf_init.2.1 417 = .ok (.bipush 16, 2) := by decide +kernel
theorem d_Rf_init_419 : decode M_Rf_init.2.1 419 = .ok (.iconst (-1), 1) := by decide +kernel
theorem d_Rf_init_420 : decode M_Rf_init.2.1 420 = .ok (.iastore, 1) := by decide +kernel
theorem d_Rf_init_421 : decode M_Rf_init.2.1 421 = .ok (.dup, 1) := by decide +kernel
theorem d_Rf_init_422 : decode M_Rf_init.2.1 422 = .ok (.bipush 17, 2) := by decide +kernel
theorem d_Rf_init_424 : decode M_Rf_init.2.1 424 = .ok (.iconst (-1), 1) := by decide +kernel
theorem d_Rf_init_425 : decode M_Rf_init.2.1 425 = .ok (.iastore, 1) := by decide +kernel
theorem d_Rf_init_426 : decode M_Rf_init.2.1 426 = .ok (.dup, 1) := by decide +kernel
theorem d_Rf_init_427 : decode M_Rf_init.2.1 427 = .ok (.bipush 18, 2) := by decide +kernel
theorem d_Rf_init_429 : decode M_Rf_init.2.1 429 = .ok (.iconst (-1), 1) := by decide +kernel
theorem d_Rf_init_430 : decode M_Rf_init.2.1 430 = .ok (.iastore, 1) := by decide +kernel
theorem d_Rf_init_431 : decode M_Rf_init.2.1 431 = .ok (.dup, 1) := by decide +kernel
theorem d_Rf_init_432 : decode M_Rf_init.2.1 432 = .ok (.bipush 19, 2) := by decide +kernel
theorem d_Rf_init_434 : decode M_Rf_init.2.1 434 = .ok (.iconst (-1), 1) := by decide +kernel
theorem d_Rf_init_435 : decode M_Rf_init.2.1 435 = .ok (.iastore, 1) := by decide +kernel
theorem d_Rf_init_436 : decode M_Rf_init.2.1 436 = .ok (.dup, 1) := by decide +kernel
theorem d_Rf_init_437 : decode M_Rf_init.2.1 437 = .ok (.bipush 20, 2) := by decide +kernel
theorem d_Rf_init_439 : decode M_Rf_init.2.1 439 = .ok (.iconst (-1), 1) := by decide +kernel
theorem d_Rf_init_440 : decode M_Rf_init.2.1 440 = .ok (.iastore, 1) := by decide +kernel
theorem d_Rf_init_441 : decode M_Rf_init.2.1 441 = .ok (.dup, 1) := by decide +kernel
theorem d_Rf_init_442 : decode M_Rf_init.2.1 442 = .ok (.bipush 21, 2) := by decide +kernel
theorem d_Rf_init_444 : decode M_Rf_init.2.1 444 = .ok (.iconst (-1), 1) := by decide +kernel
theorem d_Rf_init_445 : decode M_Rf_init.2.1 445 = .ok (.iastore, 1) := by decide +kernel
theorem d_Rf_init_446 : decode M_Rf_init.2.1 446 = .ok (.dup, 1) := by decide +kernel
theorem d_Rf_init_447 : decode M_Rf_init.2.1 447 = .ok (.bipush 22, 2) := by decide +kernel
theorem d_Rf_init_449 : decode M_Rf_init.2.1 449 = .ok (.iconst (-1), 1) := by decide +kernel
theorem d_Rf_init_450 : decode M_Rf_init.2.1 450 = .ok (.iastore, 1) := by decide +kernel
theorem d_Rf_init_451 : decode M_Rf_init.2.1 451 = .ok (.dup, 1) := by decide +kernel
theorem d_Rf_init_452 : decode M_Rf_init.2.1 452 = .ok (.bipush 23, 2) := by decide +kernel
theorem d_Rf_init_454 : decode M_Rf_init.2.1 454 = .ok (.iconst (-1), 1) := by decide +kernel
theorem d_Rf_init_455 : decode M_Rf_init.2.1 455 = .ok (.iastore, 1) := by decide +kernel
theorem d_Rf_init_456 : decode M_Rf_init.2.1 456 = .ok (.dup, 1) := by decide +kernel
theorem d_Rf_init_457 : decode M_Rf_init.2.1 457 = .ok (.bipush 24, 2) := by decide +kernel
theorem d_Rf_init_459 : decode M_Rf_init.2.1 459 = .ok (.iconst (-1), 1) := by decide +kernel
theorem d_Rf_init_460 : decode M_Rf_init.2.1 460 = .ok (.iastore, 1) := by decide +kernel
theorem d_Rf_init_461 : decode M_Rf_init.2.1 461 = .ok (.dup, 1) := by decide +kernel
theorem d_Rf_init_462 : decode M_Rf_init.2.1 462 = .ok (.bipush 25, 2) := by decide +kernel
theorem d_Rf_init_464 : decode M_Rf_init.2.1 464 = .ok (.iconst (-1), 1) := by decide +kernel
theorem d_Rf_init_465 : decode M_Rf_init.2.1 465 = .ok (.iastore, 1) := by decide +kernel
theorem d_Rf_init_466 : decode M_Rf_init.2.1 466 = .ok (.dup, 1) := by decide +kernel
theorem d_Rf_init_467 : decode M_Rf_init.2.1 467 = .ok (.bipush 26, 2) := by decide +kernel
theorem d_Rf_init_469 : decode M_Rf_init.2.1 469 = .ok (.iconst (-1), 1) := by decide +kernel
theorem d_Rf_init_470 : decode M_Rf_init.2.1 470 = .ok (.iastore, 1) := by decide +kernel
theorem d_Rf_init_471 : decode M_Rf_init.2.1 471 = .ok (.dup, 1) := by decide +kernel
theorem d_Rf_init_472 : decode M_Rf_init.2.1 472 = .ok (.bipush 27, 2) := by decide +kernel
theorem d_Rf_init_474 : decode M_Rf_init.2.1 474 = .ok (.iconst (-1), 1) := by decide +kernel
theorem d_Rf_init_475 : decode M_Rf_init.2.1 475 = .ok (.iastore, 1) := by decide +kernel
theorem d_Rf_init_476 : decode M_Rf_init.2.1 476 = .ok (.dup, 1) := by decide +kernel
theorem d_Rf_init_477 : decode M_Rf_init.2.1 477 = .ok (.bipush 28, 2) := by decide +kernel
theorem d_Rf_init_479 : decode M_Rf_init.2.1 479 = .ok (.iconst (-1), 1) := by decide +kernel
theorem d_Rf_init_480 : decode M_Rf_init.2.1 480 = .ok (.iastore, 1) := by decide +kernel
theorem d_Rf_init_481 : decode M_Rf_init.2.1 481 = .ok (.dup, 1) := by decide +kernel
theorem d_Rf_init_482 : decode M_Rf_init.2.1 482 = .ok (.bipush 29, 2) := by decide +kernel
theorem d_Rf_init_484 : decode M_Rf_init.2.1 484 = .ok (.iconst (-1), 1) := by decide +kernel
theorem d_Rf_init_485 : decode M_Rf_init.2.1 485 = .ok (.iastore, 1) := by decide +kernel
theorem d_Rf_init_486 : decode M_Rf_init.2.1 486 = .ok (.putfield 74, 3) := by decide +kernel
theorem d_Rf_init_489 : decode M_Rf_init.2.1 489 = .ok (.aload_n 0, 1) := by decide +kernel
theorem d_Rf_init_490 : decode M_Rf_init.2.1 490 = .ok (.sipush 160, 3) := by decide +kernel
theorem d_Rf_init_493 : decode M_Rf_init.2.1 493 = .ok (.newarray .int, 2) := by decide +kernel
theorem d_Rf_init_495 : decode M_Rf_init.2.1 495 = .ok (.putfield 77, 3) := by decide +kernel
theorem d_Rf_init_498 : decode M_Rf_init.2.1 498 = .ok (.aload_n 0, 1) := by decide +kernel
theorem d_Rf_init_499 : decode M_Rf_init.2.1 499 = .ok (.bipush 6, 2) := by decide +kernel
theorem d_Rf_init_501 : decode M_Rf_init.2.1 501 = .ok (.newarray .int, 2) := by decide +kernel
theorem d_Rf_init_503 : decode M_Rf_init.2.1 503 = .ok (.putfield 80, 3) := by decide +kernel
theorem d_Rf_init_506 : decode M_Rf_init.2.1 506 = .ok (.aload_n 0, 1) := by decide +kernel
theorem d_Rf_init_507 : decode M_Rf_init.2.1 507 = .ok (.bipush 48, 2) := by decide +kernel
theorem d_Rf_init_509 : decode M_Rf_init.2.1 509 = .ok (.newarray .int, 2) := by decide +kernel
theorem d_Rf_init_511 : decode M_Rf_init.2.1 511 = .ok (.putfield 83, 3) := by decide +kernel
theorem d_Rf_init_514 : decode M_Rf_init.2.1 514 = .ok (.aload_n 0, 1) := by decide +kernel
theorem d_Rf_init_515 : decode M_Rf_init.2.1 515 = .ok (.bipush 48, 2) := by decide +kernel
theorem d_Rf_init_517 : decode M_Rf_init.2.1 517 = .ok (.newarray .int, 2) := by decide +kernel
theorem d_Rf_init_519 : decode M_Rf_init.2.1 519 = .ok (.putfield 86, 3) := by decide +kernel
theorem d_Rf_init_522 : decode M_Rf_init.2.1 522 = .ok (.aload_n 0, 1) := by decide +kernel
theorem d_Rf_init_523 : decode M_Rf_init.2.1 523 = .ok (.bipush 48, 2) := by decide +kernel
theorem d_Rf_init_525 : decode M_Rf_init.2.1 525 = .ok (.newarray .int, 2) := by decide +kernel
theorem d_Rf_init_527 : decode M_Rf_init.2.1 527 = .ok (.putfield 89, 3) := by decide +kernel
theorem d_Rf_init_530 : decode M_Rf_init.2.1 530 = .ok (.aload_n 0, 1) := by decide +kernel
theorem d_Rf_init_531 : decode M_Rf_init.2.1 531 = .ok (.sipush 144, 3) := by decide +kernel
theorem d_Rf_init_534 : decode M_Rf_init.2.1 534 = .ok (.newarray .int, 2) := by decide +kernel
theorem d_Rf_init_536 : decode M_Rf_init.2.1 536 = .ok (.putfield 92, 3) := by decide +kernel
theorem d_Rf_init_539 : decode M_Rf_init.2.1 539 = .ok (.aload_n 0, 1) := by decide +kernel
theorem d_Rf_init_540 : decode M_Rf_init.2.1 540 = .ok (.sipush 144, 3) := by decide +kernel
theorem d_Rf_init_543 : decode M_Rf_init.2.1 543 = .ok (.newarray .int, 2) := by decide +kernel
theorem d_Rf_init_545 : decode M_Rf_init.2.1 545 = .ok (.putfield 95, 3) := by decide +kernel
theorem d_Rf_init_548 : decode M_Rf_init.2.1 548 = .ok (.aload_n 0, 1) := by decide +kernel
theorem d_Rf_init_549 : decode M_Rf_init.2.1 549 = .ok (.sipush 144, 3) := by decide +kernel
theorem d_Rf_init_552 : decode M_Rf_init.2.1 552 = .ok (.newarray .int, 2) := by decide +kernel
theorem d_Rf_init_554 : decode M_Rf_init.2.1 554 = .ok (.putfield 98, 3) := by decide +kernel
theorem d_Rf_init_557 : decode M_Rf_init.2.1 557 = .ok (.aload_n 0, 1) := by decide +kernel
theorem d_Rf_init_558 : decode M_Rf_init.2.1 558 = .ok (.iconst 4, 1) := by decide +kernel
theorem d_Rf_init_559 : decode M_Rf_init.2.1 559 = .ok (.newarray .int, 2) := by decide +kernel
theorem d_Rf_init_561 : decode M_Rf_init.2.1 561 = .ok (.dup, 1) := by decide +kernel
theorem d_Rf_init_562 : decode M_Rf_init.2.1 562 = .ok (.iconst 0, 1) := by decide +kernel
theorem d_Rf_init_563 : decode M_Rf_init.2.1 563 = .ok (.iconst (-1), 1) := by decide +kernel
theorem d_Rf_init_564 : decode M_Rf_init.2.1 564 = .ok (.iastore, 1) := by decide +kernel
theorem d_Rf_init_565 : decode M_Rf_init.2.1 565 = .ok (.dup, 1) := by decide +kernel
theorem d_Rf_init_566 : decode M_Rf_init.2.1 566 = .ok (.iconst 1, 1) := by decide +kernel
theorem d_Rf_init_567 : decode M_Rf_init.2.1 567 = .ok (.iconst (-1), 1) := by decide +kernel
theorem d_Rf_init_568 : decode M_Rf_init.2.1 568 = .ok (.iastore, 1) := by decide +kernel
theorem d_Rf_init_569 : decode M_Rf_init.2.1 569 = .ok (.dup, 1) := by decide +kernel
theorem d_Rf_init_570 : decode M_Rf_init.2.1 570 = .ok (.iconst 2, 1) := by decide +kernel
theorem d_Rf_init_571 : decode M_Rf_init.2.1 571 = .ok (.iconst (-1), 1) := by decide +kernel
theorem d_Rf_init_572 : decode M_Rf_init.2.1 572 = .ok (.iastore, 1) := by decide +kernel
theorem d_Rf_init_573 : decode M_Rf_init.2.1 573 = .ok (.dup, 1) := by decide +kernel
theorem d_Rf_init_574 : decode M_Rf_init.2.1 574 = .ok (.iconst 3, 1) := by decide +kernel
theorem d_Rf_init_575 : decode M_Rf_init.2.1 575 = .ok (.iconst (-1), 1) := by decide +kernel
theorem d_Rf_init_576 : decode M_Rf_init.2.1 576 = .ok (.iastore, 1) := by decide +kernel
theorem d_Rf_init_577 : decode M_Rf_init.2.1 577 = .ok (.putfield 101, 3) := by decide +kernel
theorem d_Rf_init_580 : decode M_Rf_init.2.1 580 = .ok (.aload_n 0, 1) := by decide +kernel
theorem d_Rf_init_581 : decode M_Rf_init.2.1 581 = .ok (.iconst 4, 1) := by decide +kernel
theorem d_Rf_init_582 : decode M_Rf_init.2.1 582 = .ok (.newarray .int, 2) := by decide +kernel
theorem d_Rf_init_584 : decode M_Rf_init.2.1 584 = .ok (.putfield 104, 3) := by decide +kernel
theorem d_Rf_init_587 : decode M_Rf_init.2.1 587 = .ok (.aload_n 0, 1) := by decide +kernel
theorem d_Rf_init_588 : decode M_Rf_init.2.1 588 = .ok (.sipush 160, 3) := by decide +kernel
theorem d_Rf_init_591 : decode M_Rf_init.2.1 591 = .ok (.newarray .int, 2) := by decide +kernel
theorem d_Rf_init_593 : decode M_Rf_init.2.1 593 = .ok (.putfield 107, 3) := by decide +kernel
theorem d_Rf_init_596 : decode M_Rf_init.2.1 596 = .ok (.aload_n 0, 1) := by decide +kernel
theorem d_Rf_init_597 : decode M_Rf_init.2.1 597 = .ok (.bipush 11, 2) := by decide +kernel
theorem d_Rf_init_599 : decode M_Rf_init.2.1 599 = .ok (.newarray .long, 2) := by decide +kernel
theorem d_Rf_init_601 : decode M_Rf_init.2.1 601 = .ok (.dup, 1) := by decide +kernel
theorem d_Rf_init_602 : decode M_Rf_init.2.1 602 = .ok (.iconst 0, 1) := by decide +kernel
theorem d_Rf_init_603 : decode M_Rf_init.2.1 603 = .ok (.ldc2_w 110, 3) := by decide +kernel
theorem d_Rf_init_606 : decode M_Rf_init.2.1 606 = .ok (.lastore, 1) := by decide +kernel
theorem d_Rf_init_607 : decode M_Rf_init.2.1 607 = .ok (.dup, 1) := by decide +kernel
theorem d_Rf_init_608 : decode M_Rf_init.2.1 608 = .ok (.iconst 1, 1) := by decide +kernel
theorem d_Rf_init_609 : decode M_Rf_init.2.1 609 = .ok (.ldc2_w 112, 3) := by decide +kernel
theorem d_Rf_init_612 : decode M_Rf_init.2.1 612 = .ok (.lastore, 1) := by decide +kernel
theorem d_Rf_init_613 : decode M_Rf_init.2.1 613 = .ok (.dup, 1) := by decide +kernel
theorem d_Rf_init_614 : decode M_Rf_init.2.1 614 = .ok (.iconst 2, 1) := by decide +kernel
theorem d_Rf_init_615 : decode M_Rf_init.2.1 615 = .ok (.ldc2_w 114, 3) := by decide +kernel
theorem d_Rf_init_618 : decode M_Rf_init.2.1 618 = .ok (.lastore, 1) := by decide +kernel
theorem d_Rf_init_619 : decode M_Rf_init.2.1 619 = .ok (.dup, 1) := by decide +kernel
theorem d_Rf_init_620 : decode M_Rf_init.2.1 620 = .ok (.iconst 3, 1) := by decide +kernel
theorem d_Rf_init_621 : decode M_Rf_init.2.1 621 = .ok (.ldc2_w 116, 3) := by decide +kernel
theorem d_Rf_init_624 : decode M_Rf_init.2.1 624 = .ok (.lastore, 1) := by decide +kernel
theorem d_Rf_init_625 : decode M_Rf_init.2.1 625 = .ok (.dup, 1) := by decide +kernel
theorem d_Rf_init_626 : decode M_Rf_init.2.1 626 = .ok (.iconst 4, 1) := by decide +kernel
theorem d_Rf_init_627 : decode M_Rf_init.2.1 627 = .ok (.ldc2_w 118, 3) := by decide +kernel
theorem d_Rf_init_630 : decode M_Rf_init.2.1 630 = .ok (.lastore, 1) := by decide +kernel
theorem d_Rf_init_631 : decode M_Rf_init.2.1 631 = .ok (.dup, 1) := by decide +kernel
theorem d_Rf_init_632 : decode M_Rf_init.2.1 632 = .ok (.iconst 5, 1) := by decide +kernel
theorem d_Rf_init_633 : decode M_Rf_init.2.1 633 = .ok (.ldc2_w 120, 3) := by decide +kernel
theorem d_Rf_init_636 : decode M_Rf_init.2.1 636 = .ok (.lastore, 1) := by decide +kernel
theorem d_Rf_init_637 : decode M_Rf_init.2.1 637 = .ok (.dup, 1) := by decide +kernel
theorem d_Rf_init_638 : decode M_Rf_init.2.1 638 = .ok (.bipush 6, 2) := by decide +kernel
theorem d_Rf_init_640 : decode M_Rf_init.2.1 640 = .ok (.ldc2_w 122, 3) := by decide +kernel
theorem d_Rf_init_643 : decode M_Rf_init.2.1 643 = .ok (.lastore, 1) := by decide +kernel
theorem d_Rf_init_644 : decode M_Rf_init.2.1 644 = .ok (.dup, 1) := by decide +kernel
theorem d_Rf_init_645 : decode M_Rf_init.2.1 645 = .ok (.bipush 7, 2) := by decide +kernel
theorem d_Rf_init_647 : decode M_Rf_init.2.1 647 = .ok (.ldc2_w 124, 3) := by decide +kernel
theorem d_Rf_init_650 : decode M_Rf_init.2.1 650 = .ok (.lastore, 1) := by decide +kernel
theorem d_Rf_init_651 : decode M_Rf_init.2.1 651 = .ok (.dup, 1) := by decide +kernel
theorem d_Rf_init_652 : decode M_Rf_init.2.1 652 = .ok (.bipush 8, 2) := by decide +kernel
theorem d_Rf_init_654 : decode M_Rf_init.2.1 654 = .ok (.ldc2_w 126, 3) := by decide +kernel
theorem d_Rf_init_657 : decode M_Rf_init.2.1 657 = .ok (.lastore, 1) := by decide +kernel
theorem d_Rf_init_658 : decode M_Rf_init.2.1 658 = .ok (.dup, 1) := by decide +kernel
theorem d_Rf_init_659 : decode M_Rf_init.2.1 659 = .ok (.bipush 9, 2) := by decide +kernel
theorem d_Rf_init_661 : decode M_Rf_init.2.1 661 = .ok (.ldc2_w 128, 3) := by decide +kernel
theorem d_Rf_init_664 : decode M_Rf_init.2.1 664 = .ok (.lastore, 1) := by decide +kernel
theorem d_Rf_init_665 : decode M_Rf_init.2.1 665 = .ok (.dup, 1) := by decide +kernel
theorem d_Rf_init_666 : decode M_Rf_init.2.1 666 = .ok (.bipush 10, 2) := by decide +kernel
theorem d_Rf_init_668 : decode M_Rf_init.2.1 668 = .ok (.ldc2_w 130, 3) := by decide +kernel
theorem d_Rf_init_671 : decode M_Rf_init.2.1 671 = .ok (.lastore, 1) := by decide +kernel
theorem d_Rf_init_672 : decode M_Rf_init.2.1 672 = .ok (.putfield 132, 3) := by decide +kernel
theorem d_Rf_init_675 : decode M_Rf_init.2.1 675 = .ok (.aload_n 0, 1) := by decide +kernel
theorem d_Rf_init_676 : decode M_Rf_init.2.1 676 = .ok (.bipush 11, 2) := by decide +kernel
theorem d_Rf_init_678 : decode M_Rf_init.2.1 678 = .ok (.newarray .int, 2) := by decide +kernel
theorem d_Rf_init_680 : decode M_Rf_init.2.1 680 = .ok (.dup, 1) := by decide +kernel
theorem d_Rf_init_681 : decode M_Rf_init.2.1 681 = .ok (.iconst 0, 1) := by decide +kernel
theorem d_Rf_init_682 : decode M_Rf_init.2.1 682 = .ok (.iconst 2, 1) := by decide +kernel
theorem d_Rf_init_683 : decode M_Rf_init.2.1 683 = .ok (.iastore, 1) := by decide +kernel
theorem d_Rf_init_684 : decode M_Rf_init.2.1 684 = .ok (.dup, 1) := by decide +kernel
theorem d_Rf_init_685 : decode M_Rf_init.2.1 685 = .ok (.iconst 1, 1) := by decide +kernel
theorem d_Rf_init_686 : decode M_Rf_init.2.1 686 = .ok (.iconst 4, 1) := by decide +kernel
theorem d_Rf_init_687 : decode M_Rf_init.2.1 687 = .ok (.iastore, 1) := by decide +kernel
theorem d_Rf_init_688 : decode M_Rf_init.2.1 688 = .ok (.dup, 1) := by decide +kernel
theorem d_Rf_init_689 : decode M_Rf_init.2.1 689 = .ok (.iconst 2, 1) := by decide +kernel
theorem d_Rf_init_690 : decode M_Rf_init.2.1 690 = .ok (.iconst 4, 1) := by decide +kernel
theorem d_Rf_init_691 : decode M_Rf_init.2.1 691 = .ok (.iastore, 1) := by decide +kernel
theorem d_Rf_init_692 : decode M_Rf_init.2.1 692 = .ok (.dup, 1) := by decide +kernel
theorem d_Rf_init_693 : decode M_Rf_init.2.1 693 = .ok (.iconst 3, 1) := by decide +kernel
theorem d_Rf_init_694 : decode M_Rf_init.2.1 694 = .ok (.bipush 6, 2) := by decide +kernel
theorem d_Rf_init_696 : decode M_Rf_init.2.1 696 = .ok (.iastore, 1) := by decide +kernel
theorem d_Rf_init_697 : decode M_Rf_init.2.1 697 = .ok (.dup, 1) := by decide +kernel
theorem d_Rf_init_698 : decode M_Rf_init.2.1 698 = .ok (.iconst 4, 1) := by decide +kernel
theorem d_Rf_init_699 : decode M_Rf_init.2.1 699 = .ok (.iconst 4, 1) := by decide +kernel
theorem d_Rf_init_700 : decode M_Rf_init.2.1 700 = .ok (.iastore, 1) := by decide +kernel
theorem d_Rf_init_701 : decode M_Rf_init.2.1 701 = .ok (.dup, 1) := by decide +kernel
theorem d_Rf_init_702 : decode M_Rf_init.2.1 702 = .ok (.iconst 5, 1) := by decide +kernel
theorem d_Rf_init_703 : decode M_Rf_init.2.1 703 = .ok (.iconst 4, 1) := by decide +kernel
theorem d_Rf_init_704 : decode M_Rf_init.2.1 704 = .ok (.iastore, 1) := by decide +kernel
theorem d_Rf_init_705 : decode M_Rf_init.2.1 705 = .ok (.dup, 1) := by decide +kernel
theorem d_Rf_init_706 : decode M_Rf_init.2.1 706 = .ok (.bipush 6, 2) := by decide +kernel
theorem d_Rf_init_708 : decode M_Rf_init.2.1 708 = .ok (.iconst 4, 1) := by decide +kernel
theorem d_Rf_init_709 : decode M_Rf_init.2.1 709 = .ok (.iastore, 1) := by decide +kernel
theorem d_Rf_init_710 : decode M_Rf_init.2.1 710 = .ok (.dup, 1) := by decide +kernel
theorem d_Rf_init_711 : decode M_Rf_init.2.1 711 = .ok (.bipush 7, 2) := by decide +kernel
theorem d_Rf_init_713 : decode M_Rf_init.2.1 713 = .ok (.iconst 5, 1) := by decide +kernel
theorem d_Rf_init_714 : decode M_Rf_init.2.1 714 = .ok (.iastore, 1) := by decide +kernel
theorem d_Rf_init_715 : decode M_Rf_init.2.1 715 = .ok (.dup, 1) := by decide +kernel
theorem d_Rf_init_716 : decode M_Rf_init.2.1 716 = .ok (.bipush 8, 2) := by decide +kernel
theorem d_Rf_init_718 : decode M_Rf_init.2.1 718 = .ok (.iconst 5, 1) := by decide +kernel
theorem d_Rf_init_719 : decode M_Rf_init.2.1 719 = .ok (.iastore, 1) := by decide +kernel
theorem d_Rf_init_720 : decode M_Rf_init.2.1 720 = .ok (.dup, 1) := by decide +kernel
theorem d_Rf_init_721 : decode M_Rf_init.2.1 721 = .ok (.bipush 9, 2) := by decide +kernel
theorem d_Rf_init_723 : decode M_Rf_init.2.1 723 = .ok (.iconst 5, 1) := by decide +kernel
theorem d_Rf_init_724 : decode M_Rf_init.2.1 724 = .ok (.iastore, 1) := by decide +kernel
theorem d_Rf_init_725 : decode M_Rf_init.2.1 725 = .ok (.dup, 1) := by decide +kernel
theorem d_Rf_init_726 : decode M_Rf_init.2.1 726 = .ok (.bipush 10, 2) := by decide +kernel
theorem d_Rf_init_728 : decode M_Rf_init.2.1 728 = .ok (.bipush 6, 2) := by decide +kernel
theorem d_Rf_init_730 : decode M_Rf_init.2.1 730 = .ok (.iastore, 1) := by decide +kernel
theorem d_Rf_init_731 : decode M_Rf_init.2.1 731 = .ok (.putfield 136, 3) := by decide +kernel
theorem d_Rf_init_734 : decode M_Rf_init.2.1 734 = .ok (.aload_n 0, 1) := by decide +kernel
theorem d_Rf_init_735 : decode M_Rf_init.2.1 735 = .ok (.bipush 6, 2) := by decide +kernel
theorem d_Rf_init_737 : decode M_Rf_init.2.1 737 = .ok (.newarray .int, 2) := by decide +kernel
theorem d_Rf_init_739 : decode M_Rf_init.2.1 739 = .ok (.putfield 139, 3) := by decide +kernel
theorem d_Rf_init_742 : decode M_Rf_init.2.1 742 = .ok (.aload_n 0, 1) := by decide +kernel
theorem d_Rf_init_743 : decode M_Rf_init.2.1 743 = .ok (.bipush 6, 2) := by decide +kernel
theorem d_Rf_init_745 : decode M_Rf_init.2.1 745 = .ok (.newarray .int, 2) := by decide +kernel
theorem d_Rf_init_747 : decode M_Rf_init.2.1 747 = .ok (.putfield 142, 3) := by decide +kernel
theorem d_Rf_init_750 : decode M_Rf_init.2.1 750 = .ok (.aload_n 0, 1) := by decide +kernel
theorem d_Rf_init_751 : decode M_Rf_init.2.1 751 = .ok (.bipush 6, 2) := by decide +kernel
theorem d_Rf_init_753 : decode M_Rf_init.2.1 753 = .ok (.newarray .int, 2) := by decide +kernel
theorem d_Rf_init_755 : decode M_Rf_init.2.1 755 = .ok (.putfield 145, 3) := by decide +kernel
theorem d_Rf_init_758 : decode M_Rf_init.2.1 758 = .ok (.aload_n 0, 1) := by decide +kernel
theorem d_Rf_init_759 : decode M_Rf_init.2.1 759 = .ok (.iconst 4, 1) := by decide +kernel
theorem d_Rf_init_760 : decode M_Rf_init.2.1 760 = .ok (.newarray .int, 2) := by decide +kernel
theorem d_Rf_init_762 : decode M_Rf_init.2.1 762 = .ok (.putfield 148, 3) := by decide +kernel
theorem d_Rf_init_765 : decode M_Rf_init.2.1 765 = .ok (.return_, 1) := by decide +kernel
set_option maxHeartbeats 4000000 in
set_option maxRecDepth 100000 in
theorem ri_5 {D : xD} {N : Nat} {l : Launch} {d : Nat} {K : Option Value → List va_E → Prop} (hK : K none (rS D N 39)) : Wp D N l (EI M_Rf_init) M_Rf_init (Rm (d + 1) 39 2055) (Qm D N K 39 2055) 34 2022 675 [(0, .ref (N + 0))] [] (rS D N 34) := by
  refine wp_aload_n (q := 676) d_Rf_init_675 rfl rfl ?_
  refine wp_bipush (q := 678) d_Rf_init_676 rfl bp_11 ?_
  refine wp_newa 0 (q := 680) (atype := .int) (ty := .int) (N' := 11) (a0 := (11, .inl (fun _ => 0))) rfl rfl rfl kw_ai d_Rf_init_678 rfl (fun cA => rfl) (by decide) (by decide) (Nat.le_of_ble_eq_true rfl) (Nat.le_of_ble_eq_true rfl) ?_
  refine wp_cast (v2 := .ref (N + 35)) (g2 := rP D N 34 (iA D 11 ((fun _ => 0)))) rfl (rfl) ?_
  refine wp_dup (q := 681) d_Rf_init_680 rfl rfl ?_
  refine wp_iconst (q := 682) d_Rf_init_681 rfl ic_0 ?_
  refine wp_iconst (q := 683) d_Rf_init_682 rfl ic_2 ?_
  refine wp_iast (q := 684) d_Rf_init_683 rfl (show (rP D N 34 (iA D 11 ((fun _ => 0))))[35]? = some (iA D 11 ((fun _ => 0))) from rfl) (by omega) (by decide) (show (rP D N 34 (iA D 11 ((fun _ => 0)))).set 35 (iA D 11 (upd (fun _ => 0) 0 (nI 2))) = rP D N 34 (iA D 11 (upd (fun _ => 0) 0 (nI 2))) from rfl) ?_
  refine wp_dup (q := 685) d_Rf_init_684 rfl rfl ?_
  refine wp_iconst (q := 686) d_Rf_init_685 rfl ic_1 ?_
  refine wp_iconst (q := 687) d_Rf_init_686 rfl ic_4 ?_
  refine wp_iast (q := 688) d_Rf_init_687 rfl (show (rP D N 34 (iA D 11 (upd (fun _ => 0) 0 (nI 2))))[35]? = some (iA D 11 (upd (fun _ => 0) 0 (nI 2))) from rfl) (by omega) (by decide) (show (rP D N 34 (iA D 11 (upd (fun _ => 0) 0 (nI 2)))).set 35 (iA D 11 (upd (upd (fun _ => 0) 0 (nI 2)) 1 (nI 4))) = rP D N 34 (iA D 11 (upd (upd (fun _ => 0) 0 (nI 2)) 1 (nI 4))) from rfl) ?_
  refine wp_dup (q := 689) d_Rf_init_688 rfl rfl ?_
  refine wp_iconst (q := 690) d_Rf_init_689 rfl ic_2 ?_
  refine wp_iconst (q := 691) d_Rf_init_690 rfl ic_4 ?_
  refine wp_iast (q := 692) d_Rf_init_691 rfl (show (rP D N 34 (iA D 11 (upd (upd (fun _ => 0) 0 (nI 2)) 1 (nI 4))))[35]? = some (iA D 11 (upd (upd (fun _ => 0) 0 (nI 2)) 1 (nI 4))) from rfl) (by omega) (by decide) (show (rP D N 34 (iA D 11 (upd (upd (fun _ => 0) 0 (nI 2)) 1 (nI 4)))).set 35 (iA D 11 (upd (upd (upd (fun _ => 0) 0 (nI 2)) 1 (nI 4)) 2 (nI 4))) = rP D N 34 (iA D 11 (upd (upd (upd (fun _ => 0) 0 (nI 2)) 1 (nI 4)) 2 (nI 4))) from rfl) ?_
  refine wp_dup (q := 693) d_Rf_init_692 rfl rfl ?_
  refine wp_iconst (q := 694) d_Rf_init_693 rfl ic_3 ?_
  refine wp_bipush (q := 696) d_Rf_init_694 rfl bp_6 ?_
  refine wp_iast (q := 697) d_Rf_init_696 rfl (show (rP D N 34 (iA D 11 (upd (upd (upd (fun _ => 0) 0 (nI 2)) 1 (nI 4)) 2 (nI 4))))[35]? = some (iA D 11 (upd (upd (upd (fun _ => 0) 0 (nI 2)) 1 (nI 4)) 2 (nI 4))) from rfl) (by omega) (by decide) (show (rP D N 34 (iA D 11 (upd (upd (upd (fun _ => 0) 0 (nI 2)) 1 (nI 4)) 2 (nI 4)))).set 35 (iA D 11 (upd (upd (upd (upd (fun _ => 0) 0 (nI 2)) 1 (nI 4)) 2 (nI 4)) 3 (nI 6))) = rP D N 34 (iA D 11 (upd (upd (upd (upd (fun _ => 0) 0 (nI 2)) 1 (nI 4)) 2 (nI 4)) 3 (nI 6))) from rfl) ?_
  refine wp_dup (q := 698) d_Rf_init_697 rfl rfl ?_
  refine wp_iconst (q := 699) d_Rf_init_698 rfl ic_4 ?_
  refine wp_iconst (q := 700) d_Rf_init_699 rfl ic_4 ?_
  refine wp_iast (q := 701) d_Rf_init_700 rfl (show (rP D N 34 (iA D 11 (upd (upd (upd (upd (fun _ => 0) 0 (nI 2)) 1 (nI 4)) 2 (nI 4)) 3 (nI 6))))[35]? = some (iA D 11 (upd (upd (upd (upd (fun _ => 0) 0 (nI 2)) 1 (nI 4)) 2 (nI 4)) 3 (nI 6))) from rfl) (by omega) (by decide) (show (rP D N 34 (iA D 11 (upd (upd (upd (upd (fun _ => 0) 0 (nI 2)) 1 (nI 4)) 2 (nI 4)) 3 (nI 6)))).set 35 (iA D 11 (upd (upd (upd (upd (upd (fun _ => 0) 0 (nI 2)) 1 (nI 4)) 2 (nI 4)) 3 (nI 6)) 4 (nI 4))) = rP D N 34 (iA D 11 (upd (upd (upd (upd (upd (fun _ => 0) 0 (nI 2)) 1 (nI 4)) 2 (nI 4)) 3 (nI 6)) 4 (nI 4))) from rfl) ?_
  refine wp_dup (q := 702) d_Rf_init_701 rfl rfl ?_
  refine wp_iconst (q := 703) d_Rf_init_702 rfl ic_5 ?_
  refine wp_iconst (q := 704) d_Rf_init_703 rfl ic_4 ?_
  refine wp_iast (q := 705) d_Rf_init_704 rfl (show (rP D N 34 (iA D 11 (upd (upd (upd (upd (upd (fun _ => 0) 0 (nI 2)) 1 (nI 4)) 2 (nI 4)) 3 (nI 6)) 4 (nI 4))))[35]? = some (iA D 11 (upd (upd (upd (upd (upd (fun _ => 0) 0 (nI 2)) 1 (nI 4)) 2 (nI 4)) 3 (nI 6)) 4 (nI 4))) from rfl) (by omega) (by decide) (show (rP D N 34 (iA D 11 (upd (upd (upd (upd (upd (fun _ => 0) 0 (nI 2)) 1 (nI 4)) 2 (nI 4)) 3 (nI 6)) 4 (nI 4)))).set 35 (iA D 11 (upd (upd (upd (upd (upd (upd (fun _ => 0) 0 (nI 2)) 1 (nI 4)) 2 (nI 4)) 3 (nI 6)) 4 (nI 4)) 5 (nI 4))) = rP D N 34 (iA D 11 (upd (upd (upd (upd (upd (upd (fun _ => 0) 0 (nI 2)) 1 (nI 4)) 2 (nI 4)) 3 (nI 6)) 4 (nI 4)) 5 (nI 4))) from rfl) ?_
  refine wp_dup (q := 706) d_Rf_init_705 rfl rfl ?_
  refine wp_bipush (q := 708) d_Rf_init_706 rfl bp_6 ?_
  refine wp_iconst (q := 709) d_Rf_init_708 rfl ic_4 ?_
  refine wp_iast (q := 710) d_Rf_init_709 rfl (show (rP D N 34 (iA D 11 (upd (upd (upd (upd (upd (upd (fun _ => 0) 0 (nI 2)) 1 (nI 4)) 2 (nI 4)) 3 (nI 6)) 4 (nI 4)) 5 (nI 4))))[35]? = some (iA D 11 (upd (upd (upd (upd (upd (upd (fun _ => 0) 0 (nI 2)) 1 (nI 4)) 2 (nI 4)) 3 (nI 6)) 4 (nI 4)) 5 (nI 4))) from rfl) (by omega) (by decide) (show (rP D N 34 (iA D 11 (upd (upd (upd (upd (upd (upd (fun _ => 0) 0 (nI 2)) 1 (nI 4)) 2 (nI 4)) 3 (nI 6)) 4 (nI 4)) 5 (nI 4)))).set 35 (iA D 11 (upd (upd (upd (upd (upd (upd (upd (fun _ => 0) 0 (nI 2)) 1 (nI 4)) 2 (nI 4)) 3 (nI 6)) 4 (nI 4)) 5 (nI 4)) 6 (nI 4))) = rP D N 34 (iA D 11 (upd (upd (upd (upd (upd (upd (upd (fun _ => 0) 0 (nI 2)) 1 (nI 4)) 2 (nI 4)) 3 (nI 6)) 4 (nI 4)) 5 (nI 4)) 6 (nI 4))) from rfl) ?_
  refine wp_dup (q := 711) d_Rf_init_710 rfl rfl ?_
  refine wp_bipush (q := 713) d_Rf_init_711 rfl bp_7 ?_
  refine wp_iconst (q := 714) d_Rf_init_713 rfl ic_5 ?_
  refine wp_iast (q := 715) d_Rf_init_714 rfl (show (rP D N 34 (iA D 11 (upd (upd (upd (upd (upd (upd (upd (fun _ => 0) 0 (nI 2)) 1 (nI 4)) 2 (nI 4)) 3 (nI 6)) 4 (nI 4)) 5 (nI 4)) 6 (nI 4))))[35]? = some (iA D 11 (upd (upd (upd (upd (upd (upd (upd (fun _ => 0) 0 (nI 2)) 1 (nI 4)) 2 (nI 4)) 3 (nI 6)) 4 (nI 4)) 5 (nI 4)) 6 (nI 4))) from rfl) (by omega) (by decide) (show (rP D N 34 (iA D 11 (upd (upd (upd (upd (upd (upd (upd (fun _ => 0) 0 (nI 2)) 1 (nI 4)) 2 (nI 4)) 3 (nI 6)) 4 (nI 4)) 5 (nI 4)) 6 (nI 4)))).set 35 (iA D 11 (upd (upd (upd (upd (upd (upd (upd (upd (fun _ => 0) 0 (nI 2)) 1 (nI 4)) 2 (nI 4)) 3 (nI 6)) 4 (nI 4)) 5 (nI 4)) 6 (nI 4)) 7 (nI 5))) = rP D N 34 (iA D 11 (upd (upd (upd (upd (upd (upd (upd (upd (fun _ => 0) 0 (nI 2)) 1 (nI 4)) 2 (nI 4)) 3 (nI 6)) 4 (nI 4)) 5 (nI 4)) 6 (nI 4)) 7 (nI 5))) from rfl) ?_
  refine wp_dup (q := 716) d_Rf_init_715 rfl rfl ?_
  refine wp_bipush (q := 718) d_Rf_init_716 rfl bp_8 ?_
  refine wp_iconst (q := 719) d_Rf_init_718 rfl ic_5 ?_
  refine wp_iast (q := 720) d_Rf_init_719 rfl (show (rP D N 34 (iA D 11 (upd (upd (upd (upd (upd (upd (upd (upd (fun _ => 0) 0 (nI 2)) 1 (nI 4)) 2 (nI 4)) 3 (nI 6)) 4 (nI 4)) 5 (nI 4)) 6 (nI 4)) 7 (nI 5))))[35]? = some (iA D 11 (upd (upd (upd (upd (upd (upd (upd (upd (fun _ => 0) 0 (nI 2)) 1 (nI 4)) 2 (nI 4)) 3 (nI 6)) 4 (nI 4)) 5 (nI 4)) 6 (nI 4)) 7 (nI 5))) from rfl) (by omega) (by decide) (show (rP D N 34 (iA D 11 (upd (upd (upd (upd (upd (upd (upd (upd (fun _ => 0) 0 (nI 2)) 1 (nI 4)) 2 (nI 4)) 3 (nI 6)) 4 (nI 4)) 5 (nI 4)) 6 (nI 4)) 7 (nI 5)))).set 35 (iA D 11 (upd (upd (upd (upd (upd (upd (upd (upd (upd (fun _ => 0) 0 (nI 2)) 1 (nI 4)) 2 (nI 4)) 3 (nI 6)) 4 (nI 4)) 5 (nI 4)) 6 (nI 4)) 7 (nI 5)) 8 (nI 5))) = rP D N 34 (iA D 11 (upd (upd (upd (upd (upd (upd (upd (upd (upd (fun _ => 0) 0 (nI 2)) 1 (nI 4)) 2 (nI 4)) 3 (nI 6)) 4 (nI 4)) 5 (nI 4)) 6 (nI 4)) 7 (nI 5)) 8 (nI 5))) from rfl) ?_
  refine wp_dup (q := 721) d_Rf_init_720 rfl rfl ?_
  refine wp_bipush (q := 723) d_Rf_init_721 rfl bp_9 ?_
  refine wp_iconst (q := 724) d_Rf_init_723 rfl ic_5 ?_
  refine wp_iast (q := 725) d_Rf_init_724 rfl (show (rP D N 34 (iA D 11 (upd (upd (upd (upd (upd (upd (upd (upd (upd (fun _ => 0) 0 (nI 2)) 1 (nI 4)) 2 (nI 4)) 3 (nI 6)) 4 (nI 4)) 5 (nI 4)) 6 (nI 4)) 7 (nI 5)) 8 (nI 5))))[35]? = some (iA D 11 (upd (upd (upd (upd (upd (upd (upd (upd (upd (fun _ => 0) 0 (nI 2)) 1 (nI 4)) 2 (nI 4)) 3 (nI 6)) 4 (nI 4)) 5 (nI 4)) 6 (nI 4)) 7 (nI 5)) 8 (nI 5))) from rfl) (by omega) (by decide) (show (rP D N 34 (iA D 11 (upd (upd (upd (upd (upd (upd (upd (upd (upd (fun _ => 0) 0 (nI 2)) 1 (nI 4)) 2 (nI 4)) 3 (nI 6)) 4 (nI 4)) 5 (nI 4)) 6 (nI 4)) 7 (nI 5)) 8 (nI 5)))).set 35 (iA D 11 (upd (upd (upd (upd (upd (upd (upd (upd (upd (upd (fun _ => 0) 0 (nI 2)) 1 (nI 4)) 2 (nI 4)) 3 (nI 6)) 4 (nI 4)) 5 (nI 4)) 6 (nI 4)) 7 (nI 5)) 8 (nI 5)) 9 (nI 5))) = rP D N 34 (iA D 11 (upd (upd (upd (upd (upd (upd (upd (upd (upd (upd (fun _ => 0) 0 (nI 2)) 1 (nI 4)) 2 (nI 4)) 3 (nI 6)) 4 (nI 4)) 5 (nI 4)) 6 (nI 4)) 7 (nI 5)) 8 (nI 5)) 9 (nI 5))) from rfl) ?_
  refine wp_dup (q := 726) d_Rf_init_725 rfl rfl ?_
  refine wp_bipush (q := 728) d_Rf_init_726 rfl bp_10 ?_
  refine wp_bipush (q := 730) d_Rf_init_728 rfl bp_6 ?_
  refine wp_iast (q := 731) d_Rf_init_730 rfl (show (rP D N 34 (iA D 11 (upd (upd (upd (upd (upd (upd (upd (upd (upd (upd (fun _ => 0) 0 (nI 2)) 1 (nI 4)) 2 (nI 4)) 3 (nI 6)) 4 (nI 4)) 5 (nI 4)) 6 (nI 4)) 7 (nI 5)) 8 (nI 5)) 9 (nI 5))))[35]? = some (iA D 11 (upd (upd (upd (upd (upd (upd (upd (upd (upd (upd (fun _ => 0) 0 (nI 2)) 1 (nI 4)) 2 (nI 4)) 3 (nI 6)) 4 (nI 4)) 5 (nI 4)) 6 (nI 4)) 7 (nI 5)) 8 (nI 5)) 9 (nI 5))) from rfl) (by omega) (by decide) (show (rP D N 34 (iA D 11 (upd (upd (upd (upd (upd (upd (upd (upd (upd (upd (fun _ => 0) 0 (nI 2)) 1 (nI 4)) 2 (nI 4)) 3 (nI 6)) 4 (nI 4)) 5 (nI 4)) 6 (nI 4)) 7 (nI 5)) 8 (nI 5)) 9 (nI 5)))).set 35 (iA D 11 (upd (upd (upd (upd (upd (upd (upd (upd (upd (upd (upd (fun _ => 0) 0 (nI 2)) 1 (nI 4)) 2 (nI 4)) 3 (nI 6)) 4 (nI 4)) 5 (nI 4)) 6 (nI 4)) 7 (nI 5)) 8 (nI 5)) 9 (nI 5)) 10 (nI 6))) = rP D N 34 (iA D 11 (upd (upd (upd (upd (upd (upd (upd (upd (upd (upd (upd (fun _ => 0) 0 (nI 2)) 1 (nI 4)) 2 (nI 4)) 3 (nI 6)) 4 (nI 4)) 5 (nI 4)) 6 (nI 4)) 7 (nI 5)) 8 (nI 5)) 9 (nI 5)) 10 (nI 6))) from rfl) ?_
  refine wp_putF (q := 734) fl_Rf_136 (fun _ _ _ h => h rfl) rfl d_Rf_init_731 rfl (show (rP D N 34 (iA D 11 (upd (upd (upd (upd (upd (upd (upd (upd (upd (upd (upd (fun _ => 0) 0 (nI 2)) 1 (nI 4)) 2 (nI 4)) 3 (nI 6)) 4 (nI 4)) 5 (nI 4)) 6 (nI 4)) 7 (nI 5)) 8 (nI 5)) 9 (nI 5)) 10 (nI 6))))[0]? = some (.inr (12, rFl N 34)) from rfl) (Nat.le_of_ble_eq_true rfl) rfl rfl (show (rP D N 34 (iA D 11 (upd (upd (upd (upd (upd (upd (upd (upd (upd (upd (upd (fun _ => 0) 0 (nI 2)) 1 (nI 4)) 2 (nI 4)) 3 (nI 6)) 4 (nI 4)) 5 (nI 4)) 6 (nI 4)) 7 (nI 5)) 8 (nI 5)) 9 (nI 5)) 10 (nI 6)))).set 0 (.inr (12, (rFl N 34).set 44 (.ref (N + 35)))) = rS D N 35 from rfl) ?_
  refine wp_aload_n (q := 735) d_Rf_init_734 rfl rfl ?_
  refine wp_bipush (q := 737) d_Rf_init_735 rfl bp_6 ?_
  refine wp_newa 0 (q := 739) (atype := .int) (ty := .int) (N' := 6) (a0 := (6, .inl (fun _ => 0))) rfl rfl rfl kw_ai d_Rf_init_737 rfl (fun cA => rfl) (by decide) (by decide) (Nat.le_of_ble_eq_true rfl) (Nat.le_of_ble_eq_true rfl) ?_
  refine wp_cast (v2 := .ref (N + 36)) (g2 := rP D N 35 (iA D 6 (fun _ => 0))) rfl (rfl) ?_
  refine wp_putF (q := 742) fl_Rf_139 (fun _ _ _ h => h rfl) rfl d_Rf_init_739 rfl (show (rP D N 35 (iA D 6 (fun _ => 0)))[0]? = some (.inr (12, rFl N 35)) from rfl) (Nat.le_of_ble_eq_true rfl) rfl rfl (show (rP D N 35 (iA D 6 (fun _ => 0))).set 0 (.inr (12, (rFl N 35).set 46 (.ref (N + 36)))) = rS D N 36 from rfl) ?_
  refine wp_aload_n (q := 743) d_Rf_init_742 rfl rfl ?_
  refine wp_bipush (q := 745) d_Rf_init_743 rfl bp_6 ?_
  refine wp_newa 0 (q := 747) (atype := .int) (ty := .int) (N' := 6) (a0 := (6, .inl (fun _ => 0))) rfl rfl rfl kw_ai d_Rf_init_745 rfl (fun cA => rfl) (by decide) (by decide) (Nat.le_of_ble_eq_true rfl) (Nat.le_of_ble_eq_true rfl) ?_
  refine wp_cast (v2 := .ref (N + 37)) (g2 := rP D N 36 (iA D 6 (fun _ => 0))) rfl (rfl) ?_
  refine wp_putF (q := 750) fl_Rf_142 (fun _ _ _ h => h rfl) rfl d_Rf_init_747 rfl (show (rP D N 36 (iA D 6 (fun _ => 0)))[0]? = some (.inr (12, rFl N 36)) from rfl) (Nat.le_of_ble_eq_true rfl) rfl rfl (show (rP D N 36 (iA D 6 (fun _ => 0))).set 0 (.inr (12, (rFl N 36).set 47 (.ref (N + 37)))) = rS D N 37 from rfl) ?_
  refine wp_aload_n (q := 751) d_Rf_init_750 rfl rfl ?_
  refine wp_bipush (q := 753) d_Rf_init_751 rfl bp_6 ?_
  refine wp_newa 0 (q := 755) (atype := .int) (ty := .int) (N' := 6) (a0 := (6, .inl (fun _ => 0))) rfl rfl rfl kw_ai d_Rf_init_753 rfl (fun cA => rfl) (by decide) (by decide) (Nat.le_of_ble_eq_true rfl) (Nat.le_of_ble_eq_true rfl) ?_
  refine wp_cast (v2 := .ref (N + 38)) (g2 := rP D N 37 (iA D 6 (fun _ => 0))) rfl (rfl) ?_
  refine wp_putF (q := 758) fl_Rf_145 (fun _ _ _ h => h rfl) rfl d_Rf_init_755 rfl (show (rP D N 37 (iA D 6 (fun _ => 0)))[0]? = some (.inr (12, rFl N 37)) from rfl) (Nat.le_of_ble_eq_true rfl) rfl rfl (show (rP D N 37 (iA D 6 (fun _ => 0))).set 0 (.inr (12, (rFl N 37).set 48 (.ref (N + 38)))) = rS D N 38 from rfl) ?_
  refine wp_aload_n (q := 759) d_Rf_init_758 rfl rfl ?_
  refine wp_iconst (q := 760) d_Rf_init_759 rfl ic_4 ?_
  refine wp_newa 0 (q := 762) (atype := .int) (ty := .int) (N' := 4) (a0 := (4, .inl (fun _ => 0))) rfl rfl rfl kw_ai d_Rf_init_760 rfl (fun cA => rfl) (by decide) (by decide) (Nat.le_of_ble_eq_true rfl) (Nat.le_of_ble_eq_true rfl) ?_
  refine wp_cast (v2 := .ref (N + 39)) (g2 := rP D N 38 (iA D 4 (fun _ => 0))) rfl (rfl) ?_
  refine wp_putF (q := 765) fl_Rf_148 (fun _ _ _ h => h rfl) rfl d_Rf_init_762 rfl (show (rP D N 38 (iA D 4 (fun _ => 0)))[0]? = some (.inr (12, rFl N 38)) from rfl) (Nat.le_of_ble_eq_true rfl) rfl rfl (show (rP D N 38 (iA D 4 (fun _ => 0))).set 0 (.inr (12, (rFl N 38).set 49 (.ref (N + 39)))) = rS D N 39 from rfl) ?_
  refine wp_vret d_Rf_init_765 rfl (Nat.le_refl _) (Nat.le_refl _) ?_
  exact hK
set_option maxHeartbeats 4000000 in
set_option maxRecDepth 100000 in
theorem ri_4 {D : xD} {N : Nat} {l : Launch} {d : Nat} {K : Option Value → List va_E → Prop} (hK : K none (rS D N 39)) : Wp D N l (EI M_Rf_init) M_Rf_init (Rm (d + 1) 39 2055) (Qm D N K 39 2055) 32 1851 587 [(0, .ref (N + 0))] [] (rS D N 32) := by
  refine wp_aload_n (q := 588) d_Rf_init_587 rfl rfl ?_
  refine wp_sipush (q := 591) d_Rf_init_588 rfl sp_160 ?_
  refine wp_newa 0 (q := 593) (atype := .int) (ty := .int) (N' := 160) (a0 := (160, .inl (fun _ => 0))) rfl rfl rfl kw_ai d_Rf_init_591 rfl (fun cA => rfl) (by decide) (by decide) (Nat.le_of_ble_eq_true rfl) (Nat.le_of_ble_eq_true rfl) ?_
  refine wp_cast (v2 := .ref (N + 33)) (g2 := rP D N 32 (iA D 160 (fun _ => 0))) rfl (rfl) ?_
  refine wp_putF (q := 596) fl_Rf_107 (fun _ _ _ h => h rfl) rfl d_Rf_init_593 rfl (show (rP D N 32 (iA D 160 (fun _ => 0)))[0]? = some (.inr (12, rFl N 32)) from rfl) (Nat.le_of_ble_eq_true rfl) rfl rfl (show (rP D N 32 (iA D 160 (fun _ => 0))).set 0 (.inr (12, (rFl N 32).set 42 (.ref (N + 33)))) = rS D N 33 from rfl) ?_
  refine wp_aload_n (q := 597) d_Rf_init_596 rfl rfl ?_
  refine wp_bipush (q := 599) d_Rf_init_597 rfl bp_11 ?_
  refine wp_newa 2 (q := 601) (atype := .long) (ty := .long) (N' := 11) (a0 := (11, .inr (.inl (fun _ => 0)))) rfl rfl rfl kw_aj d_Rf_init_599 rfl (fun cA => rfl) (by decide) (by decide) (Nat.le_of_ble_eq_true rfl) (Nat.le_of_ble_eq_true rfl) ?_
  refine wp_cast (v2 := .ref (N + 34)) (g2 := rP D N 33 (lA D 11 ((fun _ => 0)))) rfl (rfl) ?_
  refine wp_dup (q := 602) d_Rf_init_601 rfl rfl ?_
  refine wp_iconst (q := 603) d_Rf_init_602 rfl ic_0 ?_
  refine wp_ldc2 (q := 606) d_Rf_init_603 rfl kl_Rf_110 ?_
  refine wp_last (q := 607) d_Rf_init_606 rfl (show (rP D N 33 (lA D 11 ((fun _ => 0))))[34]? = some (lA D 11 ((fun _ => 0))) from rfl) (by omega) (by decide) (show (rP D N 33 (lA D 11 ((fun _ => 0)))).set 34 (lA D 11 (vp_updL (fun _ => 0) 0 26479)) = rP D N 33 (lA D 11 (vp_updL (fun _ => 0) 0 26479)) from rfl) ?_
  refine wp_dup (q := 608) d_Rf_init_607 rfl rfl ?_
  refine wp_iconst (q := 609) d_Rf_init_608 rfl ic_1 ?_
  refine wp_ldc2 (q := 612) d_Rf_init_609 rfl kl_Rf_112 ?_
  refine wp_last (q := 613) d_Rf_init_612 rfl (show (rP D N 33 (lA D 11 (vp_updL (fun _ => 0) 0 26479)))[34]? = some (lA D 11 (vp_updL (fun _ => 0) 0 26479)) from rfl) (by omega) (by decide) (show (rP D N 33 (lA D 11 (vp_updL (fun _ => 0) 0 26479))).set 34 (lA D 11 (vp_updL (vp_updL (fun _ => 0) 0 26479) 1 1717662309)) = rP D N 33 (lA D 11 (vp_updL (vp_updL (fun _ => 0) 0 26479) 1 1717662309)) from rfl) ?_
  refine wp_dup (q := 614) d_Rf_init_613 rfl rfl ?_
  refine wp_iconst (q := 615) d_Rf_init_614 rfl ic_2 ?_
  refine wp_ldc2 (q := 618) d_Rf_init_615 rfl kl_Rf_114 ?_
  refine wp_last (q := 619) d_Rf_init_618 rfl (show (rP D N 33 (lA D 11 (vp_updL (vp_updL (fun _ => 0) 0 26479) 1 1717662309)))[34]? = some (lA D 11 (vp_updL (vp_updL (fun _ => 0) 0 26479) 1 1717662309)) from rfl) (by omega) (by decide) (show (rP D N 33 (lA D 11 (vp_updL (vp_updL (fun _ => 0) 0 26479) 1 1717662309))).set 34 (lA D 11 (vp_updL (vp_updL (vp_updL (fun _ => 0) 0 26479) 1 1717662309) 2 1801807216)) = rP D N 33 (lA D 11 (vp_updL (vp_updL (vp_updL (fun _ => 0) 0 26479) 1 1717662309) 2 1801807216)) from rfl) ?_
  refine wp_dup (q := 620) d_Rf_init_619 rfl rfl ?_
  refine wp_iconst (q := 621) d_Rf_init_620 rfl ic_3 ?_
  refine wp_ldc2 (q := 624) d_Rf_init_621 rfl kl_Rf_116 ?_
  refine wp_last (q := 625) d_Rf_init_624 rfl (show (rP D N 33 (lA D 11 (vp_updL (vp_updL (vp_updL (fun _ => 0) 0 26479) 1 1717662309) 2 1801807216)))[34]? = some (lA D 11 (vp_updL (vp_updL (vp_updL (fun _ => 0) 0 26479) 1 1717662309) 2 1801807216)) from rfl) (by omega) (by decide) (show (rP D N 33 (lA D 11 (vp_updL (vp_updL (vp_updL (fun _ => 0) 0 26479) 1 1717662309) 2 1801807216))).set 34 (lA D 11 (vp_updL (vp_updL (vp_updL (vp_updL (fun _ => 0) 0 26479) 1 1717662309) 2 1801807216) 3 131260264768868)) = rP D N 33 (lA D 11 (vp_updL (vp_updL (vp_updL (vp_updL (fun _ => 0) 0 26479) 1 1717662309) 2 1801807216) 3 131260264768868)) from rfl) ?_
  refine wp_dup (q := 626) d_Rf_init_625 rfl rfl ?_
  refine wp_iconst (q := 627) d_Rf_init_626 rfl ic_4 ?_
  refine wp_ldc2 (q := 630) d_Rf_init_627 rfl kl_Rf_118 ?_
  refine wp_last (q := 631) d_Rf_init_630 rfl (show (rP D N 33 (lA D 11 (vp_updL (vp_updL (vp_updL (vp_updL (fun _ => 0) 0 26479) 1 1717662309) 2 1801807216) 3 131260264768868)))[34]? = some (lA D 11 (vp_updL (vp_updL (vp_updL (vp_updL (fun _ => 0) 0 26479) 1 1717662309) 2 1801807216) 3 131260264768868)) from rfl) (by omega) (by decide) (show (rP D N 33 (lA D 11 (vp_updL (vp_updL (vp_updL (vp_updL (fun _ => 0) 0 26479) 1 1717662309) 2 1801807216) 3 131260264768868))).set 34 (lA D 11 (vp_updL (vp_updL (vp_updL (vp_updL (vp_updL (fun _ => 0) 0 26479) 1 1717662309) 2 1801807216) 3 131260264768868) 4 1936682084)) = rP D N 33 (lA D 11 (vp_updL (vp_updL (vp_updL (vp_updL (vp_updL (fun _ => 0) 0 26479) 1 1717662309) 2 1801807216) 3 131260264768868) 4 1936682084)) from rfl) ?_
  refine wp_dup (q := 632) d_Rf_init_631 rfl rfl ?_
  refine wp_iconst (q := 633) d_Rf_init_632 rfl ic_5 ?_
  refine wp_ldc2 (q := 636) d_Rf_init_633 rfl kl_Rf_120 ?_
  refine wp_last (q := 637) d_Rf_init_636 rfl (show (rP D N 33 (lA D 11 (vp_updL (vp_updL (vp_updL (vp_updL (vp_updL (fun _ => 0) 0 26479) 1 1717662309) 2 1801807216) 3 131260264768868) 4 1936682084)))[34]? = some (lA D 11 (vp_updL (vp_updL (vp_updL (vp_updL (vp_updL (fun _ => 0) 0 26479) 1 1717662309) 2 1801807216) 3 131260264768868) 4 1936682084)) from rfl) (by omega) (by decide) (show (rP D N 33 (lA D 11 (vp_updL (vp_updL (vp_updL (vp_updL (vp_updL (fun _ => 0) 0 26479) 1 1717662309) 2 1801807216) 3 131260264768868) 4 1936682084))).set 34 (lA D 11 (vp_updL (vp_updL (vp_updL (vp_updL (vp_updL (vp_updL (fun _ => 0) 0 26479) 1 1717662309) 2 1801807216) 3 131260264768868) 4 1936682084) 5 1918986606)) = rP D N 33 (lA D 11 (vp_updL (vp_updL (vp_updL (vp_updL (vp_updL (vp_updL (fun _ => 0) 0 26479) 1 1717662309) 2 1801807216) 3 131260264768868) 4 1936682084) 5 1918986606)) from rfl) ?_
  refine wp_dup (q := 638) d_Rf_init_637 rfl rfl ?_
  refine wp_bipush (q := 640) d_Rf_init_638 rfl bp_6 ?_
  refine wp_ldc2 (q := 643) d_Rf_init_640 rfl kl_Rf_122 ?_
  refine wp_last (q := 644) d_Rf_init_643 rfl (show (rP D N 33 (lA D 11 (vp_updL (vp_updL (vp_updL (vp_updL (vp_updL (vp_updL (fun _ => 0) 0 26479) 1 1717662309) 2 1801807216) 3 131260264768868) 4 1936682084) 5 1918986606)))[34]? = some (lA D 11 (vp_updL (vp_updL (vp_updL (vp_updL (vp_updL (vp_updL (fun _ => 0) 0 26479) 1 1717662309) 2 1801807216) 3 131260264768868) 4 1936682084) 5 1918986606)) from rfl) (by omega) (by decide) (show (rP D N 33 (lA D 11 (vp_updL (vp_updL (vp_updL (vp_updL (vp_updL (vp_updL (fun _ => 0) 0 26479) 1 1717662309) 2 1801807216) 3 131260264768868) 4 1936682084) 5 1918986606))).set 34 (lA D 11 (vp_updL (vp_updL (vp_updL (vp_updL (vp_updL (vp_updL (vp_updL (fun _ => 0) 0 26479) 1 1717662309) 2 1801807216) 3 131260264768868) 4 1936682084) 5 1918986606) 6 1752135026)) = rP D N 33 (lA D 11 (vp_updL (vp_updL (vp_updL (vp_updL (vp_updL (vp_updL (vp_updL (fun _ => 0) 0 26479) 1 1717662309) 2 1801807216) 3 131260264768868) 4 1936682084) 5 1918986606) 6 1752135026)) from rfl) ?_
  refine wp_dup (q := 645) d_Rf_init_644 rfl rfl ?_
  refine wp_bipush (q := 647) d_Rf_init_645 rfl bp_7 ?_
  refine wp_ldc2 (q := 650) d_Rf_init_647 rfl kl_Rf_124 ?_
  refine wp_last (q := 651) d_Rf_init_650 rfl (show (rP D N 33 (lA D 11 (vp_updL (vp_updL (vp_updL (vp_updL (vp_updL (vp_updL (vp_updL (fun _ => 0) 0 26479) 1 1717662309) 2 1801807216) 3 131260264768868) 4 1936682084) 5 1918986606) 6 1752135026)))[34]? = some (lA D 11 (vp_updL (vp_updL (vp_updL (vp_updL (vp_updL (vp_updL (vp_updL (fun _ => 0) 0 26479) 1 1717662309) 2 1801807216) 3 131260264768868) 4 1936682084) 5 1918986606) 6 1752135026)) from rfl) (by omega) (by decide) (show (rP D N 33 (lA D 11 (vp_updL (vp_updL (vp_updL (vp_updL (vp_updL (vp_updL (vp_updL (fun _ => 0) 0 26479) 1 1717662309) 2 1801807216) 3 131260264768868) 4 1936682084) 5 1918986606) 6 1752135026))).set 34 (lA D 11 (vp_updL (vp_updL (vp_updL (vp_updL (vp_updL (vp_updL (vp_updL (vp_updL (fun _ => 0) 0 26479) 1 1717662309) 2 1801807216) 3 131260264768868) 4 1936682084) 5 1918986606) 6 1752135026) 7 487300887909)) = rP D N 33 (lA D 11 (vp_updL (vp_updL (vp_updL (vp_updL (vp_updL (vp_updL (vp_updL (vp_updL (fun _ => 0) 0 26479) 1 1717662309) 2 1801807216) 3 131260264768868) 4 1936682084) 5 1918986606) 6 1752135026) 7 487300887909)) from rfl) ?_
  refine wp_dup (q := 652) d_Rf_init_651 rfl rfl ?_
  refine wp_bipush (q := 654) d_Rf_init_652 rfl bp_8 ?_
  refine wp_ldc2 (q := 657) d_Rf_init_654 rfl kl_Rf_126 ?_
  refine wp_last (q := 658) d_Rf_init_657 rfl (show (rP D N 33 (lA D 11 (vp_updL (vp_updL (vp_updL (vp_updL (vp_updL (vp_updL (vp_updL (vp_updL (fun _ => 0) 0 26479) 1 1717662309) 2 1801807216) 3 131260264768868) 4 1936682084) 5 1918986606) 6 1752135026) 7 487300887909)))[34]? = some (lA D 11 (vp_updL (vp_updL (vp_updL (vp_updL (vp_updL (vp_updL (vp_updL (vp_updL (fun _ => 0) 0 26479) 1 1717662309) 2 1801807216) 3 131260264768868) 4 1936682084) 5 1918986606) 6 1752135026) 7 487300887909)) from rfl) (by omega) (by decide) (show (rP D N 33 (lA D 11 (vp_updL (vp_updL (vp_updL (vp_updL (vp_updL (vp_updL (vp_updL (vp_updL (fun _ => 0) 0 26479) 1 1717662309) 2 1801807216) 3 131260264768868) 4 1936682084) 5 1918986606) 6 1752135026) 7 487300887909))).set 34 (lA D 11 (vp_updL (vp_updL (vp_updL (vp_updL (vp_updL (vp_updL (vp_updL (vp_updL (vp_updL (fun _ => 0) 0 26479) 1 1717662309) 2 1801807216) 3 131260264768868) 4 1936682084) 5 1918986606) 6 1752135026) 7 487300887909) 8 495873779557)) = rP D N 33 (lA D 11 (vp_updL (vp_updL (vp_updL (vp_updL (vp_updL (vp_updL (vp_updL (vp_updL (vp_updL (fun _ => 0) 0 26479) 1 1717662309) 2 1801807216) 3 131260264768868) 4 1936682084) 5 1918986606) 6 1752135026) 7 487300887909) 8 495873779557)) from rfl) ?_
  refine wp_dup (q := 659) d_Rf_init_658 rfl rfl ?_
  refine wp_bipush (q := 661) d_Rf_init_659 rfl bp_9 ?_
  refine wp_ldc2 (q := 664) d_Rf_init_661 rfl kl_Rf_128 ?_
  refine wp_last (q := 665) d_Rf_init_664 rfl (show (rP D N 33 (lA D 11 (vp_updL (vp_updL (vp_updL (vp_updL (vp_updL (vp_updL (vp_updL (vp_updL (vp_updL (fun _ => 0) 0 26479) 1 1717662309) 2 1801807216) 3 131260264768868) 4 1936682084) 5 1918986606) 6 1752135026) 7 487300887909) 8 495873779557)))[34]? = some (lA D 11 (vp_updL (vp_updL (vp_updL (vp_updL (vp_updL (vp_updL (vp_updL (vp_updL (vp_updL (fun _ => 0) 0 26479) 1 1717662309) 2 1801807216) 3 131260264768868) 4 1936682084) 5 1918986606) 6 1752135026) 7 487300887909) 8 495873779557)) from rfl) (by omega) (by decide) (show (rP D N 33 (lA D 11 (vp_updL (vp_updL (vp_updL (vp_updL (vp_updL (vp_updL (vp_updL (vp_updL (vp_updL (fun _ => 0) 0 26479) 1 1717662309) 2 1801807216) 3 131260264768868) 4 1936682084) 5 1918986606) 6 1752135026) 7 487300887909) 8 495873779557))).set 34 (lA D 11 (vp_updL (vp_updL (vp_updL (vp_updL (vp_updL (vp_updL (vp_updL (vp_updL (vp_updL (vp_updL (fun _ => 0) 0 26479) 1 1717662309) 2 1801807216) 3 131260264768868) 4 1936682084) 5 1918986606) 6 1752135026) 7 487300887909) 8 495873779557) 9 478745093490)) = rP D N 33 (lA D 11 (vp_updL (vp_updL (vp_updL (vp_updL (vp_updL (vp_updL (vp_updL (vp_updL (vp_updL (vp_updL (fun _ => 0) 0 26479) 1 1717662309) 2 1801807216) 3 131260264768868) 4 1936682084) 5 1918986606) 6 1752135026) 7 487300887909) 8 495873779557) 9 478745093490)) from rfl) ?_
  refine wp_dup (q := 666) d_Rf_init_665 rfl rfl ?_
  refine wp_bipush (q := 668) d_Rf_init_666 rfl bp_10 ?_
  refine wp_ldc2 (q := 671) d_Rf_init_668 rfl kl_Rf_130 ?_
  refine wp_last (q := 672) d_Rf_init_671 rfl (show (rP D N 33 (lA D 11 (vp_updL (vp_updL (vp_updL (vp_updL (vp_updL (vp_updL (vp_updL (vp_updL (vp_updL (vp_updL (fun _ => 0) 0 26479) 1 1717662309) 2 1801807216) 3 131260264768868) 4 1936682084) 5 1918986606) 6 1752135026) 7 487300887909) 8 495873779557) 9 478745093490)))[34]? = some (lA D 11 (vp_updL (vp_updL (vp_updL (vp_updL (vp_updL (vp_updL (vp_updL (vp_updL (vp_updL (vp_updL (fun _ => 0) 0 26479) 1 1717662309) 2 1801807216) 3 131260264768868) 4 1936682084) 5 1918986606) 6 1752135026) 7 487300887909) 8 495873779557) 9 478745093490)) from rfl) (by omega) (by decide) (show (rP D N 33 (lA D 11 (vp_updL (vp_updL (vp_updL (vp_updL (vp_updL (vp_updL (vp_updL (vp_updL (vp_updL (vp_updL (fun _ => 0) 0 26479) 1 1717662309) 2 1801807216) 3 131260264768868) 4 1936682084) 5 1918986606) 6 1752135026) 7 487300887909) 8 495873779557) 9 478745093490))).set 34 (lA D 11 (vp_updL (vp_updL (vp_updL (vp_updL (vp_updL (vp_updL (vp_updL (vp_updL (vp_updL (vp_updL (vp_updL (fun _ => 0) 0 26479) 1 1717662309) 2 1801807216) 3 131260264768868) 4 1936682084) 5 1918986606) 6 1752135026) 7 487300887909) 8 495873779557) 9 478745093490) 10 111469206070628)) = rP D N 33 (lA D 11 (vp_updL (vp_updL (vp_updL (vp_updL (vp_updL (vp_updL (vp_updL (vp_updL (vp_updL (vp_updL (vp_updL (fun _ => 0) 0 26479) 1 1717662309) 2 1801807216) 3 131260264768868) 4 1936682084) 5 1918986606) 6 1752135026) 7 487300887909) 8 495873779557) 9 478745093490) 10 111469206070628)) from rfl) ?_
  refine wp_putF (q := 675) fl_Rf_132 (fun _ _ _ h => h rfl) rfl d_Rf_init_672 rfl (show (rP D N 33 (lA D 11 (vp_updL (vp_updL (vp_updL (vp_updL (vp_updL (vp_updL (vp_updL (vp_updL (vp_updL (vp_updL (vp_updL (fun _ => 0) 0 26479) 1 1717662309) 2 1801807216) 3 131260264768868) 4 1936682084) 5 1918986606) 6 1752135026) 7 487300887909) 8 495873779557) 9 478745093490) 10 111469206070628)))[0]? = some (.inr (12, rFl N 33)) from rfl) (Nat.le_of_ble_eq_true rfl) rfl rfl (show (rP D N 33 (lA D 11 (vp_updL (vp_updL (vp_updL (vp_updL (vp_updL (vp_updL (vp_updL (vp_updL (vp_updL (vp_updL (vp_updL (fun _ => 0) 0 26479) 1 1717662309) 2 1801807216) 3 131260264768868) 4 1936682084) 5 1918986606) 6 1752135026) 7 487300887909) 8 495873779557) 9 478745093490) 10 111469206070628))).set 0 (.inr (12, (rFl N 33).set 43 (.ref (N + 34)))) = rS D N 34 from rfl) ?_
  exact ri_5 hK
set_option maxHeartbeats 4000000 in
set_option maxRecDepth 100000 in
theorem ri_3 {D : xD} {N : Nat} {l : Launch} {d : Nat} {K : Option Value → List va_E → Prop} (hK : K none (rS D N 39)) : Wp D N l (EI M_Rf_init) M_Rf_init (Rm (d + 1) 39 2055) (Qm D N K 39 2055) 22 1101 489 [(0, .ref (N + 0))] [] (rS D N 22) := by
  refine wp_aload_n (q := 490) d_Rf_init_489 rfl rfl ?_
  refine wp_sipush (q := 493) d_Rf_init_490 rfl sp_160 ?_
  refine wp_newa 0 (q := 495) (atype := .int) (ty := .int) (N' := 160) (a0 := (160, .inl (fun _ => 0))) rfl rfl rfl kw_ai d_Rf_init_493 rfl (fun cA => rfl) (by decide) (by decide) (Nat.le_of_ble_eq_true rfl) (Nat.le_of_ble_eq_true rfl) ?_
  refine wp_cast (v2 := .ref (N + 23)) (g2 := rP D N 22 (iA D 160 (fun _ => 0))) rfl (rfl) ?_
  refine wp_putF (q := 498) fl_Rf_77 (fun _ _ _ h => h rfl) rfl d_Rf_init_495 rfl (show (rP D N 22 (iA D 160 (fun _ => 0)))[0]? = some (.inr (12, rFl N 22)) from rfl) (Nat.le_of_ble_eq_true rfl) rfl rfl (show (rP D N 22 (iA D 160 (fun _ => 0))).set 0 (.inr (12, (rFl N 22).set 30 (.ref (N + 23)))) = rS D N 23 from rfl) ?_
  refine wp_aload_n (q := 499) d_Rf_init_498 rfl rfl ?_
  refine wp_bipush (q := 501) d_Rf_init_499 rfl bp_6 ?_
  refine wp_newa 0 (q := 503) (atype := .int) (ty := .int) (N' := 6) (a0 := (6, .inl (fun _ => 0))) rfl rfl rfl kw_ai d_Rf_init_501 rfl (fun cA => rfl) (by decide) (by decide) (Nat.le_of_ble_eq_true rfl) (Nat.le_of_ble_eq_true rfl) ?_
  refine wp_cast (v2 := .ref (N + 24)) (g2 := rP D N 23 (iA D 6 (fun _ => 0))) rfl (rfl) ?_
  refine wp_putF (q := 506) fl_Rf_80 (fun _ _ _ h => h rfl) rfl d_Rf_init_503 rfl (show (rP D N 23 (iA D 6 (fun _ => 0)))[0]? = some (.inr (12, rFl N 23)) from rfl) (Nat.le_of_ble_eq_true rfl) rfl rfl (show (rP D N 23 (iA D 6 (fun _ => 0))).set 0 (.inr (12, (rFl N 23).set 33 (.ref (N + 24)))) = rS D N 24 from rfl) ?_
  refine wp_aload_n (q := 507) d_Rf_init_506 rfl rfl ?_
  refine wp_bipush (q := 509) d_Rf_init_507 rfl bp_48 ?_
  refine wp_newa 0 (q := 511) (atype := .int) (ty := .int) (N' := 48) (a0 := (48, .inl (fun _ => 0))) rfl rfl rfl kw_ai d_Rf_init_509 rfl (fun cA => rfl) (by decide) (by decide) (Nat.le_of_ble_eq_true rfl) (Nat.le_of_ble_eq_true rfl) ?_
  refine wp_cast (v2 := .ref (N + 25)) (g2 := rP D N 24 (iA D 48 (fun _ => 0))) rfl (rfl) ?_
  refine wp_putF (q := 514) fl_Rf_83 (fun _ _ _ h => h rfl) rfl d_Rf_init_511 rfl (show (rP D N 24 (iA D 48 (fun _ => 0)))[0]? = some (.inr (12, rFl N 24)) from rfl) (Nat.le_of_ble_eq_true rfl) rfl rfl (show (rP D N 24 (iA D 48 (fun _ => 0))).set 0 (.inr (12, (rFl N 24).set 34 (.ref (N + 25)))) = rS D N 25 from rfl) ?_
  refine wp_aload_n (q := 515) d_Rf_init_514 rfl rfl ?_
  refine wp_bipush (q := 517) d_Rf_init_515 rfl bp_48 ?_
  refine wp_newa 0 (q := 519) (atype := .int) (ty := .int) (N' := 48) (a0 := (48, .inl (fun _ => 0))) rfl rfl rfl kw_ai d_Rf_init_517 rfl (fun cA => rfl) (by decide) (by decide) (Nat.le_of_ble_eq_true rfl) (Nat.le_of_ble_eq_true rfl) ?_
  refine wp_cast (v2 := .ref (N + 26)) (g2 := rP D N 25 (iA D 48 (fun _ => 0))) rfl (rfl) ?_
  refine wp_putF (q := 522) fl_Rf_86 (fun _ _ _ h => h rfl) rfl d_Rf_init_519 rfl (show (rP D N 25 (iA D 48 (fun _ => 0)))[0]? = some (.inr (12, rFl N 25)) from rfl) (Nat.le_of_ble_eq_true rfl) rfl rfl (show (rP D N 25 (iA D 48 (fun _ => 0))).set 0 (.inr (12, (rFl N 25).set 35 (.ref (N + 26)))) = rS D N 26 from rfl) ?_
  refine wp_aload_n (q := 523) d_Rf_init_522 rfl rfl ?_
  refine wp_bipush (q := 525) d_Rf_init_523 rfl bp_48 ?_
  refine wp_newa 0 (q := 527) (atype := .int) (ty := .int) (N' := 48) (a0 := (48, .inl (fun _ => 0))) rfl rfl rfl kw_ai d_Rf_init_525 rfl (fun cA => rfl) (by decide) (by decide) (Nat.le_of_ble_eq_true rfl) (Nat.le_of_ble_eq_true rfl) ?_
  refine wp_cast (v2 := .ref (N + 27)) (g2 := rP D N 26 (iA D 48 (fun _ => 0))) rfl (rfl) ?_
  refine wp_putF (q := 530) fl_Rf_89 (fun _ _ _ h => h rfl) rfl d_Rf_init_527 rfl (show (rP D N 26 (iA D 48 (fun _ => 0)))[0]? = some (.inr (12, rFl N 26)) from rfl) (Nat.le_of_ble_eq_true rfl) rfl rfl (show (rP D N 26 (iA D 48 (fun _ => 0))).set 0 (.inr (12, (rFl N 26).set 36 (.ref (N + 27)))) = rS D N 27 from rfl) ?_
  refine wp_aload_n (q := 531) d_Rf_init_530 rfl rfl ?_
  refine wp_sipush (q := 534) d_Rf_init_531 rfl sp_144 ?_
  refine wp_newa 0 (q := 536) (atype := .int) (ty := .int) (N' := 144) (a0 := (144, .inl (fun _ => 0))) rfl rfl rfl kw_ai d_Rf_init_534 rfl (fun cA => rfl) (by decide) (by decide) (Nat.le_of_ble_eq_true rfl) (Nat.le_of_ble_eq_true rfl) ?_
  refine wp_cast (v2 := .ref (N + 28)) (g2 := rP D N 27 (iA D 144 (fun _ => 0))) rfl (rfl) ?_
  refine wp_putF (q := 539) fl_Rf_92 (fun _ _ _ h => h rfl) rfl d_Rf_init_536 rfl (show (rP D N 27 (iA D 144 (fun _ => 0)))[0]? = some (.inr (12, rFl N 27)) from rfl) (Nat.le_of_ble_eq_true rfl) rfl rfl (show (rP D N 27 (iA D 144 (fun _ => 0))).set 0 (.inr (12, (rFl N 27).set 37 (.ref (N + 28)))) = rS D N 28 from rfl) ?_
  refine wp_aload_n (q := 540) d_Rf_init_539 rfl rfl ?_
  refine wp_sipush (q := 543) d_Rf_init_540 rfl sp_144 ?_
  refine wp_newa 0 (q := 545) (atype := .int) (ty := .int) (N' := 144) (a0 := (144, .inl (fun _ => 0))) rfl rfl rfl kw_ai d_Rf_init_543 rfl (fun cA => rfl) (by decide) (by decide) (Nat.le_of_ble_eq_true rfl) (Nat.le_of_ble_eq_true rfl) ?_
  refine wp_cast (v2 := .ref (N + 29)) (g2 := rP D N 28 (iA D 144 (fun _ => 0))) rfl (rfl) ?_
  refine wp_putF (q := 548) fl_Rf_95 (fun _ _ _ h => h rfl) rfl d_Rf_init_545 rfl (show (rP D N 28 (iA D 144 (fun _ => 0)))[0]? = some (.inr (12, rFl N 28)) from rfl) (Nat.le_of_ble_eq_true rfl) rfl rfl (show (rP D N 28 (iA D 144 (fun _ => 0))).set 0 (.inr (12, (rFl N 28).set 38 (.ref (N + 29)))) = rS D N 29 from rfl) ?_
  refine wp_aload_n (q := 549) d_Rf_init_548 rfl rfl ?_
  refine wp_sipush (q := 552) d_Rf_init_549 rfl sp_144 ?_
  refine wp_newa 0 (q := 554) (atype := .int) (ty := .int) (N' := 144) (a0 := (144, .inl (fun _ => 0))) rfl rfl rfl kw_ai d_Rf_init_552 rfl (fun cA => rfl) (by decide) (by decide) (Nat.le_of_ble_eq_true rfl) (Nat.le_of_ble_eq_true rfl) ?_
  refine wp_cast (v2 := .ref (N + 30)) (g2 := rP D N 29 (iA D 144 (fun _ => 0))) rfl (rfl) ?_
  refine wp_putF (q := 557) fl_Rf_98 (fun _ _ _ h => h rfl) rfl d_Rf_init_554 rfl (show (rP D N 29 (iA D 144 (fun _ => 0)))[0]? = some (.inr (12, rFl N 29)) from rfl) (Nat.le_of_ble_eq_true rfl) rfl rfl (show (rP D N 29 (iA D 144 (fun _ => 0))).set 0 (.inr (12, (rFl N 29).set 39 (.ref (N + 30)))) = rS D N 30 from rfl) ?_
  refine wp_aload_n (q := 558) d_Rf_init_557 rfl rfl ?_
  refine wp_iconst (q := 559) d_Rf_init_558 rfl ic_4 ?_
  refine wp_newa 0 (q := 561) (atype := .int) (ty := .int) (N' := 4) (a0 := (4, .inl (fun _ => 0))) rfl rfl rfl kw_ai d_Rf_init_559 rfl (fun cA => rfl) (by decide) (by decide) (Nat.le_of_ble_eq_true rfl) (Nat.le_of_ble_eq_true rfl) ?_
  refine wp_cast (v2 := .ref (N + 31)) (g2 := rP D N 30 (iA D 4 (cfl 0 (-1)))) rfl (by rw [← cstz]; rfl) ?_
  refine wp_dup (q := 562) d_Rf_init_561 rfl rfl ?_
  refine wp_iconst (q := 563) d_Rf_init_562 rfl ic_0 ?_
  refine wp_iconst (q := 564) d_Rf_init_563 rfl ic_m1 ?_
  refine wp_iast (q := 565) d_Rf_init_564 rfl (show (rP D N 30 (iA D 4 (cfl 0 (-1))))[31]? = some (iA D 4 (cfl 0 (-1))) from rfl) (by omega) (by decide) (show (rP D N 30 (iA D 4 (cfl 0 (-1)))).set 31 (iA D 4 (upd (cfl 0 (-1)) 0 (-1))) = rP D N 30 (iA D 4 (cfl 1 (-1))) from by rw [csts]; rfl) ?_
  refine wp_dup (q := 566) d_Rf_init_565 rfl rfl ?_
  refine wp_iconst (q := 567) d_Rf_init_566 rfl ic_1 ?_
  refine wp_iconst (q := 568) d_Rf_init_567 rfl ic_m1 ?_
  refine wp_iast (q := 569) d_Rf_init_568 rfl (show (rP D N 30 (iA D 4 (cfl 1 (-1))))[31]? = some (iA D 4 (cfl 1 (-1))) from rfl) (by omega) (by decide) (show (rP D N 30 (iA D 4 (cfl 1 (-1)))).set 31 (iA D 4 (upd (cfl 1 (-1)) 1 (-1))) = rP D N 30 (iA D 4 (cfl 2 (-1))) from by rw [csts]; rfl) ?_
  refine wp_dup (q := 570) d_Rf_init_569 rfl rfl ?_
  refine wp_iconst (q := 571) d_Rf_init_570 rfl ic_2 ?_
  refine wp_iconst (q := 572) d_Rf_init_571 rfl ic_m1 ?_
  refine wp_iast (q := 573) d_Rf_init_572 rfl (show (rP D N 30 (iA D 4 (cfl 2 (-1))))[31]? = some (iA D 4 (cfl 2 (-1))) from rfl) (by omega) (by decide) (show (rP D N 30 (iA D 4 (cfl 2 (-1)))).set 31 (iA D 4 (upd (cfl 2 (-1)) 2 (-1))) = rP D N 30 (iA D 4 (cfl 3 (-1))) from by rw [csts]; rfl) ?_
  refine wp_dup (q := 574) d_Rf_init_573 rfl rfl ?_
  refine wp_iconst (q := 575) d_Rf_init_574 rfl ic_3 ?_
  refine wp_iconst (q := 576) d_Rf_init_575 rfl ic_m1 ?_
  refine wp_iast (q := 577) d_Rf_init_576 rfl (show (rP D N 30 (iA D 4 (cfl 3 (-1))))[31]? = some (iA D 4 (cfl 3 (-1))) from rfl) (by omega) (by decide) (show (rP D N 30 (iA D 4 (cfl 3 (-1)))).set 31 (iA D 4 (upd (cfl 3 (-1)) 3 (-1))) = rP D N 30 (iA D 4 (cfl 4 (-1))) from by rw [csts]; rfl) ?_
  refine wp_putF (q := 580) fl_Rf_101 (fun _ _ _ h => h rfl) rfl d_Rf_init_577 rfl (show (rP D N 30 (iA D 4 (cfl 4 (-1))))[0]? = some (.inr (12, rFl N 30)) from rfl) (Nat.le_of_ble_eq_true rfl) rfl rfl (show (rP D N 30 (iA D 4 (cfl 4 (-1)))).set 0 (.inr (12, (rFl N 30).set 40 (.ref (N + 31)))) = rS D N 31 from rfl) ?_
  refine wp_aload_n (q := 581) d_Rf_init_580 rfl rfl ?_
  refine wp_iconst (q := 582) d_Rf_init_581 rfl ic_4 ?_
  refine wp_newa 0 (q := 584) (atype := .int) (ty := .int) (N' := 4) (a0 := (4, .inl (fun _ => 0))) rfl rfl rfl kw_ai d_Rf_init_582 rfl (fun cA => rfl) (by decide) (by decide) (Nat.le_of_ble_eq_true rfl) (Nat.le_of_ble_eq_true rfl) ?_
  refine wp_cast (v2 := .ref (N + 32)) (g2 := rP D N 31 (iA D 4 (fun _ => 0))) rfl (rfl) ?_
  refine wp_putF (q := 587) fl_Rf_104 (fun _ _ _ h => h rfl) rfl d_Rf_init_584 rfl (show (rP D N 31 (iA D 4 (fun _ => 0)))[0]? = some (.inr (12, rFl N 31)) from rfl) (Nat.le_of_ble_eq_true rfl) rfl rfl (show (rP D N 31 (iA D 4 (fun _ => 0))).set 0 (.inr (12, (rFl N 31).set 41 (.ref (N + 32)))) = rS D N 32 from rfl) ?_
  exact ri_4 hK
set_option maxHeartbeats 4000000 in
set_option maxRecDepth 100000 in
theorem ri_2 {D : xD} {N : Nat} {l : Launch} {d : Nat} {K : Option Value → List va_E → Prop} (hK : K none (rS D N 39)) : Wp D N l (EI M_Rf_init) M_Rf_init (Rm (d + 1) 39 2055) (Qm D N K 39 2055) 12 879 265 [(0, .ref (N + 0))] [] (rS D N 12) := by
  refine wp_aload_n (q := 266) d_Rf_init_265 rfl rfl ?_
  refine wp_bipush (q := 268) d_Rf_init_266 rfl bp_24 ?_
  refine wp_newa 0 (q := 270) (atype := .int) (ty := .int) (N' := 24) (a0 := (24, .inl (fun _ => 0))) rfl rfl rfl kw_ai d_Rf_init_268 rfl (fun cA => rfl) (by decide) (by decide) (Nat.le_of_ble_eq_true rfl) (Nat.le_of_ble_eq_true rfl) ?_
  refine wp_cast (v2 := .ref (N + 13)) (g2 := rP D N 12 (iA D 24 (fun _ => 0))) rfl (rfl) ?_
  refine wp_putF (q := 273) fl_Rf_46 (fun _ _ _ h => h rfl) rfl d_Rf_init_270 rfl (show (rP D N 12 (iA D 24 (fun _ => 0)))[0]? = some (.inr (12, rFl N 12)) from rfl) (Nat.le_of_ble_eq_true rfl) rfl rfl (show (rP D N 12 (iA D 24 (fun _ => 0))).set 0 (.inr (12, (rFl N 12).set 15 (.ref (N + 13)))) = rS D N 13 from rfl) ?_
  refine wp_aload_n (q := 274) d_Rf_init_273 rfl rfl ?_
  refine wp_bipush (q := 276) d_Rf_init_274 rfl bp_6 ?_
  refine wp_newa 0 (q := 278) (atype := .int) (ty := .int) (N' := 6) (a0 := (6, .inl (fun _ => 0))) rfl rfl rfl kw_ai d_Rf_init_276 rfl (fun cA => rfl) (by decide) (by decide) (Nat.le_of_ble_eq_true rfl) (Nat.le_of_ble_eq_true rfl) ?_
  refine wp_cast (v2 := .ref (N + 14)) (g2 := rP D N 13 (iA D 6 (fun _ => 0))) rfl (rfl) ?_
  refine wp_putF (q := 281) fl_Rf_49 (fun _ _ _ h => h rfl) rfl d_Rf_init_278 rfl (show (rP D N 13 (iA D 6 (fun _ => 0)))[0]? = some (.inr (12, rFl N 13)) from rfl) (Nat.le_of_ble_eq_true rfl) rfl rfl (show (rP D N 13 (iA D 6 (fun _ => 0))).set 0 (.inr (12, (rFl N 13).set 20 (.ref (N + 14)))) = rS D N 14 from rfl) ?_
  refine wp_aload_n (q := 282) d_Rf_init_281 rfl rfl ?_
  refine wp_bipush (q := 284) d_Rf_init_282 rfl bp_6 ?_
  refine wp_newa 0 (q := 286) (atype := .int) (ty := .int) (N' := 6) (a0 := (6, .inl (fun _ => 0))) rfl rfl rfl kw_ai d_Rf_init_284 rfl (fun cA => rfl) (by decide) (by decide) (Nat.le_of_ble_eq_true rfl) (Nat.le_of_ble_eq_true rfl) ?_
  refine wp_cast (v2 := .ref (N + 15)) (g2 := rP D N 14 (iA D 6 (fun _ => 0))) rfl (rfl) ?_
  refine wp_putF (q := 289) fl_Rf_52 (fun _ _ _ h => h rfl) rfl d_Rf_init_286 rfl (show (rP D N 14 (iA D 6 (fun _ => 0)))[0]? = some (.inr (12, rFl N 14)) from rfl) (Nat.le_of_ble_eq_true rfl) rfl rfl (show (rP D N 14 (iA D 6 (fun _ => 0))).set 0 (.inr (12, (rFl N 14).set 21 (.ref (N + 15)))) = rS D N 15 from rfl) ?_
  refine wp_aload_n (q := 290) d_Rf_init_289 rfl rfl ?_
  refine wp_bipush (q := 292) d_Rf_init_290 rfl bp_6 ?_
  refine wp_newa 3 (q := 294) (atype := .boolean) (ty := .boolean) (N' := 6) (a0 := (6, .inl (fun _ => 0))) rfl rfl rfl kw_az d_Rf_init_292 rfl (fun cA => rfl) (by decide) (by decide) (Nat.le_of_ble_eq_true rfl) (Nat.le_of_ble_eq_true rfl) ?_
  refine wp_cast (v2 := .ref (N + 16)) (g2 := rP D N 15 (zA D 6 (fun _ => 0))) rfl (rfl) ?_
  refine wp_putF (q := 297) fl_Rf_55 (fun _ _ _ h => h rfl) rfl d_Rf_init_294 rfl (show (rP D N 15 (zA D 6 (fun _ => 0)))[0]? = some (.inr (12, rFl N 15)) from rfl) (Nat.le_of_ble_eq_true rfl) rfl rfl (show (rP D N 15 (zA D 6 (fun _ => 0))).set 0 (.inr (12, (rFl N 15).set 22 (.ref (N + 16)))) = rS D N 16 from rfl) ?_
  refine wp_aload_n (q := 298) d_Rf_init_297 rfl rfl ?_
  refine wp_bipush (q := 300) d_Rf_init_298 rfl bp_30 ?_
  refine wp_newa 0 (q := 302) (atype := .int) (ty := .int) (N' := 30) (a0 := (30, .inl (fun _ => 0))) rfl rfl rfl kw_ai d_Rf_init_300 rfl (fun cA => rfl) (by decide) (by decide) (Nat.le_of_ble_eq_true rfl) (Nat.le_of_ble_eq_true rfl) ?_
  refine wp_cast (v2 := .ref (N + 17)) (g2 := rP D N 16 (iA D 30 (fun _ => 0))) rfl (rfl) ?_
  refine wp_putF (q := 305) fl_Rf_59 (fun _ _ _ h => h rfl) rfl d_Rf_init_302 rfl (show (rP D N 16 (iA D 30 (fun _ => 0)))[0]? = some (.inr (12, rFl N 16)) from rfl) (Nat.le_of_ble_eq_true rfl) rfl rfl (show (rP D N 16 (iA D 30 (fun _ => 0))).set 0 (.inr (12, (rFl N 16).set 24 (.ref (N + 17)))) = rS D N 17 from rfl) ?_
  refine wp_aload_n (q := 306) d_Rf_init_305 rfl rfl ?_
  refine wp_bipush (q := 308) d_Rf_init_306 rfl bp_30 ?_
  refine wp_newa 0 (q := 310) (atype := .int) (ty := .int) (N' := 30) (a0 := (30, .inl (fun _ => 0))) rfl rfl rfl kw_ai d_Rf_init_308 rfl (fun cA => rfl) (by decide) (by decide) (Nat.le_of_ble_eq_true rfl) (Nat.le_of_ble_eq_true rfl) ?_
  refine wp_cast (v2 := .ref (N + 18)) (g2 := rP D N 17 (iA D 30 (fun _ => 0))) rfl (rfl) ?_
  refine wp_putF (q := 313) fl_Rf_62 (fun _ _ _ h => h rfl) rfl d_Rf_init_310 rfl (show (rP D N 17 (iA D 30 (fun _ => 0)))[0]? = some (.inr (12, rFl N 17)) from rfl) (Nat.le_of_ble_eq_true rfl) rfl rfl (show (rP D N 17 (iA D 30 (fun _ => 0))).set 0 (.inr (12, (rFl N 17).set 25 (.ref (N + 18)))) = rS D N 18 from rfl) ?_
  refine wp_aload_n (q := 314) d_Rf_init_313 rfl rfl ?_
  refine wp_bipush (q := 316) d_Rf_init_314 rfl bp_30 ?_
  refine wp_newa 0 (q := 318) (atype := .int) (ty := .int) (N' := 30) (a0 := (30, .inl (fun _ => 0))) rfl rfl rfl kw_ai d_Rf_init_316 rfl (fun cA => rfl) (by decide) (by decide) (Nat.le_of_ble_eq_true rfl) (Nat.le_of_ble_eq_true rfl) ?_
  refine wp_cast (v2 := .ref (N + 19)) (g2 := rP D N 18 (iA D 30 (fun _ => 0))) rfl (rfl) ?_
  refine wp_putF (q := 321) fl_Rf_65 (fun _ _ _ h => h rfl) rfl d_Rf_init_318 rfl (show (rP D N 18 (iA D 30 (fun _ => 0)))[0]? = some (.inr (12, rFl N 18)) from rfl) (Nat.le_of_ble_eq_true rfl) rfl rfl (show (rP D N 18 (iA D 30 (fun _ => 0))).set 0 (.inr (12, (rFl N 18).set 26 (.ref (N + 19)))) = rS D N 19 from rfl) ?_
  refine wp_aload_n (q := 322) d_Rf_init_321 rfl rfl ?_
  refine wp_bipush (q := 324) d_Rf_init_322 rfl bp_30 ?_
  refine wp_newa 0 (q := 326) (atype := .int) (ty := .int) (N' := 30) (a0 := (30, .inl (fun _ => 0))) rfl rfl rfl kw_ai d_Rf_init_324 rfl (fun cA => rfl) (by decide) (by decide) (Nat.le_of_ble_eq_true rfl) (Nat.le_of_ble_eq_true rfl) ?_
  refine wp_cast (v2 := .ref (N + 20)) (g2 := rP D N 19 (iA D 30 (fun _ => 0))) rfl (rfl) ?_
  refine wp_putF (q := 329) fl_Rf_68 (fun _ _ _ h => h rfl) rfl d_Rf_init_326 rfl (show (rP D N 19 (iA D 30 (fun _ => 0)))[0]? = some (.inr (12, rFl N 19)) from rfl) (Nat.le_of_ble_eq_true rfl) rfl rfl (show (rP D N 19 (iA D 30 (fun _ => 0))).set 0 (.inr (12, (rFl N 19).set 27 (.ref (N + 20)))) = rS D N 20 from rfl) ?_
  refine wp_aload_n (q := 330) d_Rf_init_329 rfl rfl ?_
  refine wp_bipush (q := 332) d_Rf_init_330 rfl bp_30 ?_
  refine wp_newa 0 (q := 334) (atype := .int) (ty := .int) (N' := 30) (a0 := (30, .inl (fun _ => 0))) rfl rfl rfl kw_ai d_Rf_init_332 rfl (fun cA => rfl) (by decide) (by decide) (Nat.le_of_ble_eq_true rfl) (Nat.le_of_ble_eq_true rfl) ?_
  refine wp_cast (v2 := .ref (N + 21)) (g2 := rP D N 20 (iA D 30 (fun _ => 0))) rfl (rfl) ?_
  refine wp_putF (q := 337) fl_Rf_71 (fun _ _ _ h => h rfl) rfl d_Rf_init_334 rfl (show (rP D N 20 (iA D 30 (fun _ => 0)))[0]? = some (.inr (12, rFl N 20)) from rfl) (Nat.le_of_ble_eq_true rfl) rfl rfl (show (rP D N 20 (iA D 30 (fun _ => 0))).set 0 (.inr (12, (rFl N 20).set 28 (.ref (N + 21)))) = rS D N 21 from rfl) ?_
  refine wp_aload_n (q := 338) d_Rf_init_337 rfl rfl ?_
  refine wp_bipush (q := 340) d_Rf_init_338 rfl bp_30 ?_
  refine wp_newa 0 (q := 342) (atype := .int) (ty := .int) (N' := 30) (a0 := (30, .inl (fun _ => 0))) rfl rfl rfl kw_ai d_Rf_init_340 rfl (fun cA => rfl) (by decide) (by decide) (Nat.le_of_ble_eq_true rfl) (Nat.le_of_ble_eq_true rfl) ?_
  refine wp_cast (v2 := .ref (N + 22)) (g2 := rP D N 21 (iA D 30 (cfl 0 (-1)))) rfl (by rw [← cstz]; rfl) ?_
  refine wp_dup (q := 343) d_Rf_init_342 rfl rfl ?_
  refine wp_iconst (q := 344) d_Rf_init_343 rfl ic_0 ?_
  refine wp_iconst (q := 345) d_Rf_init_344 rfl ic_m1 ?_
  refine wp_iast (q := 346) d_Rf_init_345 rfl (show (rP D N 21 (iA D 30 (cfl 0 (-1))))[22]? = some (iA D 30 (cfl 0 (-1))) from rfl) (by omega) (by decide) (show (rP D N 21 (iA D 30 (cfl 0 (-1)))).set 22 (iA D 30 (upd (cfl 0 (-1)) 0 (-1))) = rP D N 21 (iA D 30 (cfl 1 (-1))) from by rw [csts]; rfl) ?_
  refine wp_dup (q := 347) d_Rf_init_346 rfl rfl ?_
  refine wp_iconst (q := 348) d_Rf_init_347 rfl ic_1 ?_
  refine wp_iconst (q := 349) d_Rf_init_348 rfl ic_m1 ?_
  refine wp_iast (q := 350) d_Rf_init_349 rfl (show (rP D N 21 (iA D 30 (cfl 1 (-1))))[22]? = some (iA D 30 (cfl 1 (-1))) from rfl) (by omega) (by decide) (show (rP D N 21 (iA D 30 (cfl 1 (-1)))).set 22 (iA D 30 (upd (cfl 1 (-1)) 1 (-1))) = rP D N 21 (iA D 30 (cfl 2 (-1))) from by rw [csts]; rfl) ?_
  refine wp_dup (q := 351) d_Rf_init_350 rfl rfl ?_
  refine wp_iconst (q := 352) d_Rf_init_351 rfl ic_2 ?_
  refine wp_iconst (q := 353) d_Rf_init_352 rfl ic_m1 ?_
  refine wp_iast (q := 354) d_Rf_init_353 rfl (show (rP D N 21 (iA D 30 (cfl 2 (-1))))[22]? = some (iA D 30 (cfl 2 (-1))) from rfl) (by omega) (by decide) (show (rP D N 21 (iA D 30 (cfl 2 (-1)))).set 22 (iA D 30 (upd (cfl 2 (-1)) 2 (-1))) = rP D N 21 (iA D 30 (cfl 3 (-1))) from by rw [csts]; rfl) ?_
  refine wp_dup (q := 355) d_Rf_init_354 rfl rfl ?_
  refine wp_iconst (q := 356) d_Rf_init_355 rfl ic_3 ?_
  refine wp_iconst (q := 357) d_Rf_init_356 rfl ic_m1 ?_
  refine wp_iast (q := 358) d_Rf_init_357 rfl (show (rP D N 21 (iA D 30 (cfl 3 (-1))))[22]? = some (iA D 30 (cfl 3 (-1))) from rfl) (by omega) (by decide) (show (rP D N 21 (iA D 30 (cfl 3 (-1)))).set 22 (iA D 30 (upd (cfl 3 (-1)) 3 (-1))) = rP D N 21 (iA D 30 (cfl 4 (-1))) from by rw [csts]; rfl) ?_
  refine wp_dup (q := 359) d_Rf_init_358 rfl rfl ?_
  refine wp_iconst (q := 360) d_Rf_init_359 rfl ic_4 ?_
  refine wp_iconst (q := 361) d_Rf_init_360 rfl ic_m1 ?_
  refine wp_iast (q := 362) d_Rf_init_361 rfl (show (rP D N 21 (iA D 30 (cfl 4 (-1))))[22]? = some (iA D 30 (cfl 4 (-1))) from rfl) (by omega) (by decide) (show (rP D N 21 (iA D 30 (cfl 4 (-1)))).set 22 (iA D 30 (upd (cfl 4 (-1)) 4 (-1))) = rP D N 21 (iA D 30 (cfl 5 (-1))) from by rw [csts]; rfl) ?_
  refine wp_dup (q := 363) d_Rf_init_362 rfl rfl ?_
  refine wp_iconst (q := 364) d_Rf_init_363 rfl ic_5 ?_
  refine wp_iconst (q := 365) d_Rf_init_364 rfl ic_m1 ?_
  refine wp_iast (q := 366) d_Rf_init_365 rfl (show (rP D N 21 (iA D 30 (cfl 5 (-1))))[22]? = some (iA D 30 (cfl 5 (-1))) from rfl) (by omega) (by decide) (show (rP D N 21 (iA D 30 (cfl 5 (-1)))).set 22 (iA D 30 (upd (cfl 5 (-1)) 5 (-1))) = rP D N 21 (iA D 30 (cfl 6 (-1))) from by rw [csts]; rfl) ?_
  refine wp_dup (q := 367) d_Rf_init_366 rfl rfl ?_
  refine wp_bipush (q := 369) d_Rf_init_367 rfl bp_6 ?_
  refine wp_iconst (q := 370) d_Rf_init_369 rfl ic_m1 ?_
  refine wp_iast (q := 371) d_Rf_init_370 rfl (show (rP D N 21 (iA D 30 (cfl 6 (-1))))[22]? = some (iA D 30 (cfl 6 (-1))) from rfl) (by omega) (by decide) (show (rP D N 21 (iA D 30 (cfl 6 (-1)))).set 22 (iA D 30 (upd (cfl 6 (-1)) 6 (-1))) = rP D N 21 (iA D 30 (cfl 7 (-1))) from by rw [csts]; rfl) ?_
  refine wp_dup (q := 372) d_Rf_init_371 rfl rfl ?_
  refine wp_bipush (q := 374) d_Rf_init_372 rfl bp_7 ?_
  refine wp_iconst (q := 375) d_Rf_init_374 rfl ic_m1 ?_
  refine wp_iast (q := 376) d_Rf_init_375 rfl (show (rP D N 21 (iA D 30 (cfl 7 (-1))))[22]? = some (iA D 30 (cfl 7 (-1))) from rfl) (by omega) (by decide) (show (rP D N 21 (iA D 30 (cfl 7 (-1)))).set 22 (iA D 30 (upd (cfl 7 (-1)) 7 (-1))) = rP D N 21 (iA D 30 (cfl 8 (-1))) from by rw [csts]; rfl) ?_
  refine wp_dup (q := 377) d_Rf_init_376 rfl rfl ?_
  refine wp_bipush (q := 379) d_Rf_init_377 rfl bp_8 ?_
  refine wp_iconst (q := 380) d_Rf_init_379 rfl ic_m1 ?_
  refine wp_iast (q := 381) d_Rf_init_380 rfl (show (rP D N 21 (iA D 30 (cfl 8 (-1))))[22]? = some (iA D 30 (cfl 8 (-1))) from rfl) (by omega) (by decide) (show (rP D N 21 (iA D 30 (cfl 8 (-1)))).set 22 (iA D 30 (upd (cfl 8 (-1)) 8 (-1))) = rP D N 21 (iA D 30 (cfl 9 (-1))) from by rw [csts]; rfl) ?_
  refine wp_dup (q := 382) d_Rf_init_381 rfl rfl ?_
  refine wp_bipush (q := 384) d_Rf_init_382 rfl bp_9 ?_
  refine wp_iconst (q := 385) d_Rf_init_384 rfl ic_m1 ?_
  refine wp_iast (q := 386) d_Rf_init_385 rfl (show (rP D N 21 (iA D 30 (cfl 9 (-1))))[22]? = some (iA D 30 (cfl 9 (-1))) from rfl) (by omega) (by decide) (show (rP D N 21 (iA D 30 (cfl 9 (-1)))).set 22 (iA D 30 (upd (cfl 9 (-1)) 9 (-1))) = rP D N 21 (iA D 30 (cfl 10 (-1))) from by rw [csts]; rfl) ?_
  refine wp_dup (q := 387) d_Rf_init_386 rfl rfl ?_
  refine wp_bipush (q := 389) d_Rf_init_387 rfl bp_10 ?_
  refine wp_iconst (q := 390) d_Rf_init_389 rfl ic_m1 ?_
  refine wp_iast (q := 391) d_Rf_init_390 rfl (show (rP D N 21 (iA D 30 (cfl 10 (-1))))[22]? = some (iA D 30 (cfl 10 (-1))) from rfl) (by omega) (by decide) (show (rP D N 21 (iA D 30 (cfl 10 (-1)))).set 22 (iA D 30 (upd (cfl 10 (-1)) 10 (-1))) = rP D N 21 (iA D 30 (cfl 11 (-1))) from by rw [csts]; rfl) ?_
  refine wp_dup (q := 392) d_Rf_init_391 rfl rfl ?_
  refine wp_bipush (q := 394) d_Rf_init_392 rfl bp_11 ?_
  refine wp_iconst (q := 395) d_Rf_init_394 rfl ic_m1 ?_
  refine wp_iast (q := 396) d_Rf_init_395 rfl (show (rP D N 21 (iA D 30 (cfl 11 (-1))))[22]? = some (iA D 30 (cfl 11 (-1))) from rfl) (by omega) (by decide) (show (rP D N 21 (iA D 30 (cfl 11 (-1)))).set 22 (iA D 30 (upd (cfl 11 (-1)) 11 (-1))) = rP D N 21 (iA D 30 (cfl 12 (-1))) from by rw [csts]; rfl) ?_
  refine wp_dup (q := 397) d_Rf_init_396 rfl rfl ?_
  refine wp_bipush (q := 399) d_Rf_init_397 rfl bp_12 ?_
  refine wp_iconst (q := 400) d_Rf_init_399 rfl ic_m1 ?_
  refine wp_iast (q := 401) d_Rf_init_400 rfl (show (rP D N 21 (iA D 30 (cfl 12 (-1))))[22]? = some (iA D 30 (cfl 12 (-1))) from rfl) (by omega) (by decide) (show (rP D N 21 (iA D 30 (cfl 12 (-1)))).set 22 (iA D 30 (upd (cfl 12 (-1)) 12 (-1))) = rP D N 21 (iA D 30 (cfl 13 (-1))) from by rw [csts]; rfl) ?_
  refine wp_dup (q := 402) d_Rf_init_401 rfl rfl ?_
  refine wp_bipush (q := 404) d_Rf_init_402 rfl bp_13 ?_
  refine wp_iconst (q := 405) d_Rf_init_404 rfl ic_m1 ?_
  refine wp_iast (q := 406) d_Rf_init_405 rfl (show (rP D N 21 (iA D 30 (cfl 13 (-1))))[22]? = some (iA D 30 (cfl 13 (-1))) from rfl) (by omega) (by decide) (show (rP D N 21 (iA D 30 (cfl 13 (-1)))).set 22 (iA D 30 (upd (cfl 13 (-1)) 13 (-1))) = rP D N 21 (iA D 30 (cfl 14 (-1))) from by rw [csts]; rfl) ?_
  refine wp_dup (q := 407) d_Rf_init_406 rfl rfl ?_
  refine wp_bipush (q := 409) d_Rf_init_407 rfl bp_14 ?_
  refine wp_iconst (q := 410) d_Rf_init_409 rfl ic_m1 ?_
  refine wp_iast (q := 411) d_Rf_init_410 rfl (show (rP D N 21 (iA D 30 (cfl 14 (-1))))[22]? = some (iA D 30 (cfl 14 (-1))) from rfl) (by omega) (by decide) (show (rP D N 21 (iA D 30 (cfl 14 (-1)))).set 22 (iA D 30 (upd (cfl 14 (-1)) 14 (-1))) = rP D N 21 (iA D 30 (cfl 15 (-1))) from by rw [csts]; rfl) ?_
  refine wp_dup (q := 412) d_Rf_init_411 rfl rfl ?_
  refine wp_bipush (q := 414) d_Rf_init_412 rfl bp_15 ?_
  refine wp_iconst (q := 415) d_Rf_init_414 rfl ic_m1 ?_
  refine wp_iast (q := 416) d_Rf_init_415 rfl (show (rP D N 21 (iA D 30 (cfl 15 (-1))))[22]? = some (iA D 30 (cfl 15 (-1))) from rfl) (by omega) (by decide) (show (rP D N 21 (iA D 30 (cfl 15 (-1)))).set 22 (iA D 30 (upd (cfl 15 (-1)) 15 (-1))) = rP D N 21 (iA D 30 (cfl 16 (-1))) from by rw [csts]; rfl) ?_
  refine wp_dup (q := 417) d_Rf_init_416 rfl rfl ?_
  refine wp_bipush (q := 419) d_Rf_init_417 rfl bp_16 ?_
  refine wp_iconst (q := 420) d_Rf_init_419 rfl ic_m1 ?_
  refine wp_iast (q := 421) d_Rf_init_420 rfl (show (rP D N 21 (iA D 30 (cfl 16 (-1))))[22]? = some (iA D 30 (cfl 16 (-1))) from rfl) (by omega) (by decide) (show (rP D N 21 (iA D 30 (cfl 16 (-1)))).set 22 (iA D 30 (upd (cfl 16 (-1)) 16 (-1))) = rP D N 21 (iA D 30 (cfl 17 (-1))) from by rw [csts]; rfl) ?_
  refine wp_dup (q := 422) d_Rf_init_421 rfl rfl ?_
  refine wp_bipush (q := 424) d_Rf_init_422 rfl bp_17 ?_
  refine wp_iconst (q := 425) d_Rf_init_424 rfl ic_m1 ?_
  refine wp_iast (q := 426) d_Rf_init_425 rfl (show (rP D N 21 (iA D 30 (cfl 17 (-1))))[22]? = some (iA D 30 (cfl 17 (-1))) from rfl) (by omega) (by decide) (show (rP D N 21 (iA D 30 (cfl 17 (-1)))).set 22 (iA D 30 (upd (cfl 17 (-1)) 17 (-1))) = rP D N 21 (iA D 30 (cfl 18 (-1))) from by rw [csts]; rfl) ?_
  refine wp_dup (q := 427) d_Rf_init_426 rfl rfl ?_
  refine wp_bipush (q := 429) d_Rf_init_427 rfl bp_18 ?_
  refine wp_iconst (q := 430) d_Rf_init_429 rfl ic_m1 ?_
  refine wp_iast (q := 431) d_Rf_init_430 rfl (show (rP D N 21 (iA D 30 (cfl 18 (-1))))[22]? = some (iA D 30 (cfl 18 (-1))) from rfl) (by omega) (by decide) (show (rP D N 21 (iA D 30 (cfl 18 (-1)))).set 22 (iA D 30 (upd (cfl 18 (-1)) 18 (-1))) = rP D N 21 (iA D 30 (cfl 19 (-1))) from by rw [csts]; rfl) ?_
  refine wp_dup (q := 432) d_Rf_init_431 rfl rfl ?_
  refine wp_bipush (q := 434) d_Rf_init_432 rfl bp_19 ?_
  refine wp_iconst (q := 435) d_Rf_init_434 rfl ic_m1 ?_
  refine wp_iast (q := 436) d_Rf_init_435 rfl (show (rP D N 21 (iA D 30 (cfl 19 (-1))))[22]? = some (iA D 30 (cfl 19 (-1))) from rfl) (by omega) (by decide) (show (rP D N 21 (iA D 30 (cfl 19 (-1)))).set 22 (iA D 30 (upd (cfl 19 (-1)) 19 (-1))) = rP D N 21 (iA D 30 (cfl 20 (-1))) from by rw [csts]; rfl) ?_
  refine wp_dup (q := 437) d_Rf_init_436 rfl rfl ?_
  refine wp_bipush (q := 439) d_Rf_init_437 rfl bp_20 ?_
  refine wp_iconst (q := 440) d_Rf_init_439 rfl ic_m1 ?_
  refine wp_iast (q := 441) d_Rf_init_440 rfl (show (rP D N 21 (iA D 30 (cfl 20 (-1))))[22]? = some (iA D 30 (cfl 20 (-1))) from rfl) (by omega) (by decide) (show (rP D N 21 (iA D 30 (cfl 20 (-1)))).set 22 (iA D 30 (upd (cfl 20 (-1)) 20 (-1))) = rP D N 21 (iA D 30 (cfl 21 (-1))) from by rw [csts]; rfl) ?_
  refine wp_dup (q := 442) d_Rf_init_441 rfl rfl ?_
  refine wp_bipush (q := 444) d_Rf_init_442 rfl bp_21 ?_
  refine wp_iconst (q := 445) d_Rf_init_444 rfl ic_m1 ?_
  refine wp_iast (q := 446) d_Rf_init_445 rfl (show (rP D N 21 (iA D 30 (cfl 21 (-1))))[22]? = some (iA D 30 (cfl 21 (-1))) from rfl) (by omega) (by decide) (show (rP D N 21 (iA D 30 (cfl 21 (-1)))).set 22 (iA D 30 (upd (cfl 21 (-1)) 21 (-1))) = rP D N 21 (iA D 30 (cfl 22 (-1))) from by rw [csts]; rfl) ?_
  refine wp_dup (q := 447) d_Rf_init_446 rfl rfl ?_
  refine wp_bipush (q := 449) d_Rf_init_447 rfl bp_22 ?_
  refine wp_iconst (q := 450) d_Rf_init_449 rfl ic_m1 ?_
  refine wp_iast (q := 451) d_Rf_init_450 rfl (show (rP D N 21 (iA D 30 (cfl 22 (-1))))[22]? = some (iA D 30 (cfl 22 (-1))) from rfl) (by omega) (by decide) (show (rP D N 21 (iA D 30 (cfl 22 (-1)))).set 22 (iA D 30 (upd (cfl 22 (-1)) 22 (-1))) = rP D N 21 (iA D 30 (cfl 23 (-1))) from by rw [csts]; rfl) ?_
  refine wp_dup (q := 452) d_Rf_init_451 rfl rfl ?_
  refine wp_bipush (q := 454) d_Rf_init_452 rfl bp_23 ?_
  refine wp_iconst (q := 455) d_Rf_init_454 rfl ic_m1 ?_
  refine wp_iast (q := 456) d_Rf_init_455 rfl (show (rP D N 21 (iA D 30 (cfl 23 (-1))))[22]? = some (iA D 30 (cfl 23 (-1))) from rfl) (by omega) (by decide) (show (rP D N 21 (iA D 30 (cfl 23 (-1)))).set 22 (iA D 30 (upd (cfl 23 (-1)) 23 (-1))) = rP D N 21 (iA D 30 (cfl 24 (-1))) from by rw [csts]; rfl) ?_
  refine wp_dup (q := 457) d_Rf_init_456 rfl rfl ?_
  refine wp_bipush (q := 459) d_Rf_init_457 rfl bp_24 ?_
  refine wp_iconst (q := 460) d_Rf_init_459 rfl ic_m1 ?_
  refine wp_iast (q := 461) d_Rf_init_460 rfl (show (rP D N 21 (iA D 30 (cfl 24 (-1))))[22]? = some (iA D 30 (cfl 24 (-1))) from rfl) (by omega) (by decide) (show (rP D N 21 (iA D 30 (cfl 24 (-1)))).set 22 (iA D 30 (upd (cfl 24 (-1)) 24 (-1))) = rP D N 21 (iA D 30 (cfl 25 (-1))) from by rw [csts]; rfl) ?_
  refine wp_dup (q := 462) d_Rf_init_461 rfl rfl ?_
  refine wp_bipush (q := 464) d_Rf_init_462 rfl bp_25 ?_
  refine wp_iconst (q := 465) d_Rf_init_464 rfl ic_m1 ?_
  refine wp_iast (q := 466) d_Rf_init_465 rfl (show (rP D N 21 (iA D 30 (cfl 25 (-1))))[22]? = some (iA D 30 (cfl 25 (-1))) from rfl) (by omega) (by decide) (show (rP D N 21 (iA D 30 (cfl 25 (-1)))).set 22 (iA D 30 (upd (cfl 25 (-1)) 25 (-1))) = rP D N 21 (iA D 30 (cfl 26 (-1))) from by rw [csts]; rfl) ?_
  refine wp_dup (q := 467) d_Rf_init_466 rfl rfl ?_
  refine wp_bipush (q := 469) d_Rf_init_467 rfl bp_26 ?_
  refine wp_iconst (q := 470) d_Rf_init_469 rfl ic_m1 ?_
  refine wp_iast (q := 471) d_Rf_init_470 rfl (show (rP D N 21 (iA D 30 (cfl 26 (-1))))[22]? = some (iA D 30 (cfl 26 (-1))) from rfl) (by omega) (by decide) (show (rP D N 21 (iA D 30 (cfl 26 (-1)))).set 22 (iA D 30 (upd (cfl 26 (-1)) 26 (-1))) = rP D N 21 (iA D 30 (cfl 27 (-1))) from by rw [csts]; rfl) ?_
  refine wp_dup (q := 472) d_Rf_init_471 rfl rfl ?_
  refine wp_bipush (q := 474) d_Rf_init_472 rfl bp_27 ?_
  refine wp_iconst (q := 475) d_Rf_init_474 rfl ic_m1 ?_
  refine wp_iast (q := 476) d_Rf_init_475 rfl (show (rP D N 21 (iA D 30 (cfl 27 (-1))))[22]? = some (iA D 30 (cfl 27 (-1))) from rfl) (by omega) (by decide) (show (rP D N 21 (iA D 30 (cfl 27 (-1)))).set 22 (iA D 30 (upd (cfl 27 (-1)) 27 (-1))) = rP D N 21 (iA D 30 (cfl 28 (-1))) from by rw [csts]; rfl) ?_
  refine wp_dup (q := 477) d_Rf_init_476 rfl rfl ?_
  refine wp_bipush (q := 479) d_Rf_init_477 rfl bp_28 ?_
  refine wp_iconst (q := 480) d_Rf_init_479 rfl ic_m1 ?_
  refine wp_iast (q := 481) d_Rf_init_480 rfl (show (rP D N 21 (iA D 30 (cfl 28 (-1))))[22]? = some (iA D 30 (cfl 28 (-1))) from rfl) (by omega) (by decide) (show (rP D N 21 (iA D 30 (cfl 28 (-1)))).set 22 (iA D 30 (upd (cfl 28 (-1)) 28 (-1))) = rP D N 21 (iA D 30 (cfl 29 (-1))) from by rw [csts]; rfl) ?_
  refine wp_dup (q := 482) d_Rf_init_481 rfl rfl ?_
  refine wp_bipush (q := 484) d_Rf_init_482 rfl bp_29 ?_
  refine wp_iconst (q := 485) d_Rf_init_484 rfl ic_m1 ?_
  refine wp_iast (q := 486) d_Rf_init_485 rfl (show (rP D N 21 (iA D 30 (cfl 29 (-1))))[22]? = some (iA D 30 (cfl 29 (-1))) from rfl) (by omega) (by decide) (show (rP D N 21 (iA D 30 (cfl 29 (-1)))).set 22 (iA D 30 (upd (cfl 29 (-1)) 29 (-1))) = rP D N 21 (iA D 30 (cfl 30 (-1))) from by rw [csts]; rfl) ?_
  refine wp_putF (q := 489) fl_Rf_74 (fun _ _ _ h => h rfl) rfl d_Rf_init_486 rfl (show (rP D N 21 (iA D 30 (cfl 30 (-1))))[0]? = some (.inr (12, rFl N 21)) from rfl) (Nat.le_of_ble_eq_true rfl) rfl rfl (show (rP D N 21 (iA D 30 (cfl 30 (-1)))).set 0 (.inr (12, (rFl N 21).set 29 (.ref (N + 22)))) = rS D N 22 from rfl) ?_
  exact ri_3 hK
set_option maxHeartbeats 4000000 in
set_option maxRecDepth 100000 in
theorem ri_1 {D : xD} {N : Nat} {l : Launch} {d : Nat} {K : Option Value → List va_E → Prop} (hK : K none (rS D N 39)) : Wp D N l (EI M_Rf_init) M_Rf_init (Rm (d + 1) 39 2055) (Qm D N K 39 2055) 6 813 193 [(0, .ref (N + 0))] [] (rS D N 6) := by
  refine wp_aload_n (q := 194) d_Rf_init_193 rfl rfl ?_
  refine wp_bipush (q := 196) d_Rf_init_194 rfl bp_12 ?_
  refine wp_newa 0 (q := 198) (atype := .int) (ty := .int) (N' := 12) (a0 := (12, .inl (fun _ => 0))) rfl rfl rfl kw_ai d_Rf_init_196 rfl (fun cA => rfl) (by decide) (by decide) (Nat.le_of_ble_eq_true rfl) (Nat.le_of_ble_eq_true rfl) ?_
  refine wp_cast (v2 := .ref (N + 7)) (g2 := rP D N 6 (iA D 12 (fun _ => 0))) rfl (rfl) ?_
  refine wp_putF (q := 201) fl_Rf_28 (fun _ _ _ h => h rfl) rfl d_Rf_init_198 rfl (show (rP D N 6 (iA D 12 (fun _ => 0)))[0]? = some (.inr (12, rFl N 6)) from rfl) (Nat.le_of_ble_eq_true rfl) rfl rfl (show (rP D N 6 (iA D 12 (fun _ => 0))).set 0 (.inr (12, (rFl N 6).set 8 (.ref (N + 7)))) = rS D N 7 from rfl) ?_
  refine wp_aload_n (q := 202) d_Rf_init_201 rfl rfl ?_
  refine wp_bipush (q := 204) d_Rf_init_202 rfl bp_12 ?_
  refine wp_newa 0 (q := 206) (atype := .int) (ty := .int) (N' := 12) (a0 := (12, .inl (fun _ => 0))) rfl rfl rfl kw_ai d_Rf_init_204 rfl (fun cA => rfl) (by decide) (by decide) (Nat.le_of_ble_eq_true rfl) (Nat.le_of_ble_eq_true rfl) ?_
  refine wp_cast (v2 := .ref (N + 8)) (g2 := rP D N 7 (iA D 12 (fun _ => 0))) rfl (rfl) ?_
  refine wp_putF (q := 209) fl_Rf_31 (fun _ _ _ h => h rfl) rfl d_Rf_init_206 rfl (show (rP D N 7 (iA D 12 (fun _ => 0)))[0]? = some (.inr (12, rFl N 7)) from rfl) (Nat.le_of_ble_eq_true rfl) rfl rfl (show (rP D N 7 (iA D 12 (fun _ => 0))).set 0 (.inr (12, (rFl N 7).set 9 (.ref (N + 8)))) = rS D N 8 from rfl) ?_
  refine wp_aload_n (q := 210) d_Rf_init_209 rfl rfl ?_
  refine wp_bipush (q := 212) d_Rf_init_210 rfl bp_12 ?_
  refine wp_newa 0 (q := 214) (atype := .int) (ty := .int) (N' := 12) (a0 := (12, .inl (fun _ => 0))) rfl rfl rfl kw_ai d_Rf_init_212 rfl (fun cA => rfl) (by decide) (by decide) (Nat.le_of_ble_eq_true rfl) (Nat.le_of_ble_eq_true rfl) ?_
  refine wp_cast (v2 := .ref (N + 9)) (g2 := rP D N 8 (iA D 12 (fun _ => 0))) rfl (rfl) ?_
  refine wp_putF (q := 217) fl_Rf_34 (fun _ _ _ h => h rfl) rfl d_Rf_init_214 rfl (show (rP D N 8 (iA D 12 (fun _ => 0)))[0]? = some (.inr (12, rFl N 8)) from rfl) (Nat.le_of_ble_eq_true rfl) rfl rfl (show (rP D N 8 (iA D 12 (fun _ => 0))).set 0 (.inr (12, (rFl N 8).set 10 (.ref (N + 9)))) = rS D N 9 from rfl) ?_
  refine wp_aload_n (q := 218) d_Rf_init_217 rfl rfl ?_
  refine wp_bipush (q := 220) d_Rf_init_218 rfl bp_12 ?_
  refine wp_newa 0 (q := 222) (atype := .int) (ty := .int) (N' := 12) (a0 := (12, .inl (fun _ => 0))) rfl rfl rfl kw_ai d_Rf_init_220 rfl (fun cA => rfl) (by decide) (by decide) (Nat.le_of_ble_eq_true rfl) (Nat.le_of_ble_eq_true rfl) ?_
  refine wp_cast (v2 := .ref (N + 10)) (g2 := rP D N 9 (iA D 12 (fun _ => 0))) rfl (rfl) ?_
  refine wp_putF (q := 225) fl_Rf_37 (fun _ _ _ h => h rfl) rfl d_Rf_init_222 rfl (show (rP D N 9 (iA D 12 (fun _ => 0)))[0]? = some (.inr (12, rFl N 9)) from rfl) (Nat.le_of_ble_eq_true rfl) rfl rfl (show (rP D N 9 (iA D 12 (fun _ => 0))).set 0 (.inr (12, (rFl N 9).set 11 (.ref (N + 10)))) = rS D N 10 from rfl) ?_
  refine wp_aload_n (q := 226) d_Rf_init_225 rfl rfl ?_
  refine wp_bipush (q := 228) d_Rf_init_226 rfl bp_12 ?_
  refine wp_newa 0 (q := 230) (atype := .int) (ty := .int) (N' := 12) (a0 := (12, .inl (fun _ => 0))) rfl rfl rfl kw_ai d_Rf_init_228 rfl (fun cA => rfl) (by decide) (by decide) (Nat.le_of_ble_eq_true rfl) (Nat.le_of_ble_eq_true rfl) ?_
  refine wp_cast (v2 := .ref (N + 11)) (g2 := rP D N 10 (iA D 12 (fun _ => 0))) rfl (rfl) ?_
  refine wp_putF (q := 233) fl_Rf_40 (fun _ _ _ h => h rfl) rfl d_Rf_init_230 rfl (show (rP D N 10 (iA D 12 (fun _ => 0)))[0]? = some (.inr (12, rFl N 10)) from rfl) (Nat.le_of_ble_eq_true rfl) rfl rfl (show (rP D N 10 (iA D 12 (fun _ => 0))).set 0 (.inr (12, (rFl N 10).set 12 (.ref (N + 11)))) = rS D N 11 from rfl) ?_
  refine wp_aload_n (q := 234) d_Rf_init_233 rfl rfl ?_
  refine wp_bipush (q := 236) d_Rf_init_234 rfl bp_6 ?_
  refine wp_newa 0 (q := 238) (atype := .int) (ty := .int) (N' := 6) (a0 := (6, .inl (fun _ => 0))) rfl rfl rfl kw_ai d_Rf_init_236 rfl (fun cA => rfl) (by decide) (by decide) (Nat.le_of_ble_eq_true rfl) (Nat.le_of_ble_eq_true rfl) ?_
  refine wp_cast (v2 := .ref (N + 12)) (g2 := rP D N 11 (iA D 6 (cfl 0 (-1)))) rfl (by rw [← cstz]; rfl) ?_
  refine wp_dup (q := 239) d_Rf_init_238 rfl rfl ?_
  refine wp_iconst (q := 240) d_Rf_init_239 rfl ic_0 ?_
  refine wp_iconst (q := 241) d_Rf_init_240 rfl ic_m1 ?_
  refine wp_iast (q := 242) d_Rf_init_241 rfl (show (rP D N 11 (iA D 6 (cfl 0 (-1))))[12]? = some (iA D 6 (cfl 0 (-1))) from rfl) (by omega) (by decide) (show (rP D N 11 (iA D 6 (cfl 0 (-1)))).set 12 (iA D 6 (upd (cfl 0 (-1)) 0 (-1))) = rP D N 11 (iA D 6 (cfl 1 (-1))) from by rw [csts]; rfl) ?_
  refine wp_dup (q := 243) d_Rf_init_242 rfl rfl ?_
  refine wp_iconst (q := 244) d_Rf_init_243 rfl ic_1 ?_
  refine wp_iconst (q := 245) d_Rf_init_244 rfl ic_m1 ?_
  refine wp_iast (q := 246) d_Rf_init_245 rfl (show (rP D N 11 (iA D 6 (cfl 1 (-1))))[12]? = some (iA D 6 (cfl 1 (-1))) from rfl) (by omega) (by decide) (show (rP D N 11 (iA D 6 (cfl 1 (-1)))).set 12 (iA D 6 (upd (cfl 1 (-1)) 1 (-1))) = rP D N 11 (iA D 6 (cfl 2 (-1))) from by rw [csts]; rfl) ?_
  refine wp_dup (q := 247) d_Rf_init_246 rfl rfl ?_
  refine wp_iconst (q := 248) d_Rf_init_247 rfl ic_2 ?_
  refine wp_iconst (q := 249) d_Rf_init_248 rfl ic_m1 ?_
  refine wp_iast (q := 250) d_Rf_init_249 rfl (show (rP D N 11 (iA D 6 (cfl 2 (-1))))[12]? = some (iA D 6 (cfl 2 (-1))) from rfl) (by omega) (by decide) (show (rP D N 11 (iA D 6 (cfl 2 (-1)))).set 12 (iA D 6 (upd (cfl 2 (-1)) 2 (-1))) = rP D N 11 (iA D 6 (cfl 3 (-1))) from by rw [csts]; rfl) ?_
  refine wp_dup (q := 251) d_Rf_init_250 rfl rfl ?_
  refine wp_iconst (q := 252) d_Rf_init_251 rfl ic_3 ?_
  refine wp_iconst (q := 253) d_Rf_init_252 rfl ic_m1 ?_
  refine wp_iast (q := 254) d_Rf_init_253 rfl (show (rP D N 11 (iA D 6 (cfl 3 (-1))))[12]? = some (iA D 6 (cfl 3 (-1))) from rfl) (by omega) (by decide) (show (rP D N 11 (iA D 6 (cfl 3 (-1)))).set 12 (iA D 6 (upd (cfl 3 (-1)) 3 (-1))) = rP D N 11 (iA D 6 (cfl 4 (-1))) from by rw [csts]; rfl) ?_
  refine wp_dup (q := 255) d_Rf_init_254 rfl rfl ?_
  refine wp_iconst (q := 256) d_Rf_init_255 rfl ic_4 ?_
  refine wp_iconst (q := 257) d_Rf_init_256 rfl ic_m1 ?_
  refine wp_iast (q := 258) d_Rf_init_257 rfl (show (rP D N 11 (iA D 6 (cfl 4 (-1))))[12]? = some (iA D 6 (cfl 4 (-1))) from rfl) (by omega) (by decide) (show (rP D N 11 (iA D 6 (cfl 4 (-1)))).set 12 (iA D 6 (upd (cfl 4 (-1)) 4 (-1))) = rP D N 11 (iA D 6 (cfl 5 (-1))) from by rw [csts]; rfl) ?_
  refine wp_dup (q := 259) d_Rf_init_258 rfl rfl ?_
  refine wp_iconst (q := 260) d_Rf_init_259 rfl ic_5 ?_
  refine wp_iconst (q := 261) d_Rf_init_260 rfl ic_m1 ?_
  refine wp_iast (q := 262) d_Rf_init_261 rfl (show (rP D N 11 (iA D 6 (cfl 5 (-1))))[12]? = some (iA D 6 (cfl 5 (-1))) from rfl) (by omega) (by decide) (show (rP D N 11 (iA D 6 (cfl 5 (-1)))).set 12 (iA D 6 (upd (cfl 5 (-1)) 5 (-1))) = rP D N 11 (iA D 6 (cfl 6 (-1))) from by rw [csts]; rfl) ?_
  refine wp_putF (q := 265) fl_Rf_43 (fun _ _ _ h => h rfl) rfl d_Rf_init_262 rfl (show (rP D N 11 (iA D 6 (cfl 6 (-1))))[0]? = some (.inr (12, rFl N 11)) from rfl) (Nat.le_of_ble_eq_true rfl) rfl rfl (show (rP D N 11 (iA D 6 (cfl 6 (-1)))).set 0 (.inr (12, (rFl N 11).set 13 (.ref (N + 12)))) = rS D N 12 from rfl) ?_
  exact ri_2 hK
set_option maxHeartbeats 4000000 in
set_option maxRecDepth 100000 in
theorem ok_Rf_init {D : xD} {N : Nat} {l : Launch} {d : Nat} {K : Option Value → List va_E → Prop} (hK : K none (rS D N 39)) : Ok D N l (d + 1) M_Rf_init [.ref (N + 0)] (rS D N 0) 39 2055 K := by
  refine ok_of (L := [(0, _)]) (by decide) (Nat.le_of_ble_eq_true rfl) rfl ?_
  refine wp_aload_n (q := 1) d_Rf_init_0 rfl rfl ?_
  refine wp_objInit (q := 4) ko_Rf_1 ko_inst ko_code (RO0 ()) d_Rf_init_1 rfl (Nat.le_of_ble_eq_true rfl) ?_
  refine wp_aload_n (q := 5) d_Rf_init_4 rfl rfl ?_
  refine wp_sipush (q := 8) d_Rf_init_5 rfl sp_239 ?_
  refine wp_newa 0 (q := 10) (atype := .int) (ty := .int) (N' := 239) (a0 := (239, .inl (fun _ => 0))) rfl rfl rfl kw_ai d_Rf_init_8 rfl (fun cA => rfl) (by decide) (by decide) (Nat.le_of_ble_eq_true rfl) (Nat.le_of_ble_eq_true rfl) ?_
  refine wp_cast (v2 := .ref (N + 1)) (g2 := rP D N 0 (iA D 239 (fun _ => 0))) rfl (rfl) ?_
  refine wp_putF (q := 13) fl_Rf_7 (fun _ _ _ h => h rfl) rfl d_Rf_init_10 rfl (show (rP D N 0 (iA D 239 (fun _ => 0)))[0]? = some (.inr (12, rFl N 0)) from rfl) (Nat.le_of_ble_eq_true rfl) rfl rfl (show (rP D N 0 (iA D 239 (fun _ => 0))).set 0 (.inr (12, (rFl N 0).set 0 (.ref (N + 1)))) = rS D N 1 from rfl) ?_
  refine wp_aload_n (q := 14) d_Rf_init_13 rfl rfl ?_
  refine wp_sipush (q := 17) d_Rf_init_14 rfl sp_239 ?_
  refine wp_newa 0 (q := 19) (atype := .int) (ty := .int) (N' := 239) (a0 := (239, .inl (fun _ => 0))) rfl rfl rfl kw_ai d_Rf_init_17 rfl (fun cA => rfl) (by decide) (by decide) (Nat.le_of_ble_eq_true rfl) (Nat.le_of_ble_eq_true rfl) ?_
  refine wp_cast (v2 := .ref (N + 2)) (g2 := rP D N 1 (iA D 239 (fun _ => 0))) rfl (rfl) ?_
  refine wp_putF (q := 22) fl_Rf_13 (fun _ _ _ h => h rfl) rfl d_Rf_init_19 rfl (show (rP D N 1 (iA D 239 (fun _ => 0)))[0]? = some (.inr (12, rFl N 1)) from rfl) (Nat.le_of_ble_eq_true rfl) rfl rfl (show (rP D N 1 (iA D 239 (fun _ => 0))).set 0 (.inr (12, (rFl N 1).set 1 (.ref (N + 2)))) = rS D N 2 from rfl) ?_
  refine wp_aload_n (q := 23) d_Rf_init_22 rfl rfl ?_
  refine wp_sipush (q := 26) d_Rf_init_23 rfl sp_239 ?_
  refine wp_newa 0 (q := 28) (atype := .int) (ty := .int) (N' := 239) (a0 := (239, .inl (fun _ => 0))) rfl rfl rfl kw_ai d_Rf_init_26 rfl (fun cA => rfl) (by decide) (by decide) (Nat.le_of_ble_eq_true rfl) (Nat.le_of_ble_eq_true rfl) ?_
  refine wp_cast (v2 := .ref (N + 3)) (g2 := rP D N 2 (iA D 239 (fun _ => 0))) rfl (rfl) ?_
  refine wp_putF (q := 31) fl_Rf_16 (fun _ _ _ h => h rfl) rfl d_Rf_init_28 rfl (show (rP D N 2 (iA D 239 (fun _ => 0)))[0]? = some (.inr (12, rFl N 2)) from rfl) (Nat.le_of_ble_eq_true rfl) rfl rfl (show (rP D N 2 (iA D 239 (fun _ => 0))).set 0 (.inr (12, (rFl N 2).set 2 (.ref (N + 3)))) = rS D N 3 from rfl) ?_
  refine wp_aload_n (q := 32) d_Rf_init_31 rfl rfl ?_
  refine wp_bipush (q := 34) d_Rf_init_32 rfl bp_36 ?_
  refine wp_newa 0 (q := 36) (atype := .int) (ty := .int) (N' := 36) (a0 := (36, .inl (fun _ => 0))) rfl rfl rfl kw_ai d_Rf_init_34 rfl (fun cA => rfl) (by decide) (by decide) (Nat.le_of_ble_eq_true rfl) (Nat.le_of_ble_eq_true rfl) ?_
  refine wp_cast (v2 := .ref (N + 4)) (g2 := rP D N 3 (iA D 36 (fun _ => 0))) rfl (rfl) ?_
  refine wp_putF (q := 39) fl_Rf_19 (fun _ _ _ h => h rfl) rfl d_Rf_init_36 rfl (show (rP D N 3 (iA D 36 (fun _ => 0)))[0]? = some (.inr (12, rFl N 3)) from rfl) (Nat.le_of_ble_eq_true rfl) rfl rfl (show (rP D N 3 (iA D 36 (fun _ => 0))).set 0 (.inr (12, (rFl N 3).set 4 (.ref (N + 4)))) = rS D N 4 from rfl) ?_
  refine wp_aload_n (q := 40) d_Rf_init_39 rfl rfl ?_
  refine wp_bipush (q := 42) d_Rf_init_40 rfl bp_36 ?_
  refine wp_newa 0 (q := 44) (atype := .int) (ty := .int) (N' := 36) (a0 := (36, .inl (fun _ => 0))) rfl rfl rfl kw_ai d_Rf_init_42 rfl (fun cA => rfl) (by decide) (by decide) (Nat.le_of_ble_eq_true rfl) (Nat.le_of_ble_eq_true rfl) ?_
  refine wp_cast (v2 := .ref (N + 5)) (g2 := rP D N 4 (iA D 36 (fun _ => 0))) rfl (rfl) ?_
  refine wp_putF (q := 47) fl_Rf_22 (fun _ _ _ h => h rfl) rfl d_Rf_init_44 rfl (show (rP D N 4 (iA D 36 (fun _ => 0)))[0]? = some (.inr (12, rFl N 4)) from rfl) (Nat.le_of_ble_eq_true rfl) rfl rfl (show (rP D N 4 (iA D 36 (fun _ => 0))).set 0 (.inr (12, (rFl N 4).set 5 (.ref (N + 5)))) = rS D N 5 from rfl) ?_
  refine wp_aload_n (q := 48) d_Rf_init_47 rfl rfl ?_
  refine wp_bipush (q := 50) d_Rf_init_48 rfl bp_24 ?_
  refine wp_newa 0 (q := 52) (atype := .int) (ty := .int) (N' := 24) (a0 := (24, .inl (fun _ => 0))) rfl rfl rfl kw_ai d_Rf_init_50 rfl (fun cA => rfl) (by decide) (by decide) (Nat.le_of_ble_eq_true rfl) (Nat.le_of_ble_eq_true rfl) ?_
  refine wp_cast (v2 := .ref (N + 6)) (g2 := rP D N 5 (iA D 24 (cfl 0 (nI 10)))) rfl (by rw [← cstz]; rfl) ?_
  refine wp_dup (q := 53) d_Rf_init_52 rfl rfl ?_
  refine wp_iconst (q := 54) d_Rf_init_53 rfl ic_0 ?_
  refine wp_bipush (q := 56) d_Rf_init_54 rfl bp_10 ?_
  refine wp_iast (q := 57) d_Rf_init_56 rfl (show (rP D N 5 (iA D 24 (cfl 0 (nI 10))))[6]? = some (iA D 24 (cfl 0 (nI 10))) from rfl) (by omega) (by decide) (show (rP D N 5 (iA D 24 (cfl 0 (nI 10)))).set 6 (iA D 24 (upd (cfl 0 (nI 10)) 0 (nI 10))) = rP D N 5 (iA D 24 (cfl 1 (nI 10))) from by rw [csts]; rfl) ?_
  refine wp_dup (q := 58) d_Rf_init_57 rfl rfl ?_
  refine wp_iconst (q := 59) d_Rf_init_58 rfl ic_1 ?_
  refine wp_bipush (q := 61) d_Rf_init_59 rfl bp_10 ?_
  refine wp_iast (q := 62) d_Rf_init_61 rfl (show (rP D N 5 (iA D 24 (cfl 1 (nI 10))))[6]? = some (iA D 24 (cfl 1 (nI 10))) from rfl) (by omega) (by decide) (show (rP D N 5 (iA D 24 (cfl 1 (nI 10)))).set 6 (iA D 24 (upd (cfl 1 (nI 10)) 1 (nI 10))) = rP D N 5 (iA D 24 (cfl 2 (nI 10))) from by rw [csts]; rfl) ?_
  refine wp_dup (q := 63) d_Rf_init_62 rfl rfl ?_
  refine wp_iconst (q := 64) d_Rf_init_63 rfl ic_2 ?_
  refine wp_bipush (q := 66) d_Rf_init_64 rfl bp_10 ?_
  refine wp_iast (q := 67) d_Rf_init_66 rfl (show (rP D N 5 (iA D 24 (cfl 2 (nI 10))))[6]? = some (iA D 24 (cfl 2 (nI 10))) from rfl) (by omega) (by decide) (show (rP D N 5 (iA D 24 (cfl 2 (nI 10)))).set 6 (iA D 24 (upd (cfl 2 (nI 10)) 2 (nI 10))) = rP D N 5 (iA D 24 (cfl 3 (nI 10))) from by rw [csts]; rfl) ?_
  refine wp_dup (q := 68) d_Rf_init_67 rfl rfl ?_
  refine wp_iconst (q := 69) d_Rf_init_68 rfl ic_3 ?_
  refine wp_bipush (q := 71) d_Rf_init_69 rfl bp_10 ?_
  refine wp_iast (q := 72) d_Rf_init_71 rfl (show (rP D N 5 (iA D 24 (cfl 3 (nI 10))))[6]? = some (iA D 24 (cfl 3 (nI 10))) from rfl) (by omega) (by decide) (show (rP D N 5 (iA D 24 (cfl 3 (nI 10)))).set 6 (iA D 24 (upd (cfl 3 (nI 10)) 3 (nI 10))) = rP D N 5 (iA D 24 (cfl 4 (nI 10))) from by rw [csts]; rfl) ?_
  refine wp_dup (q := 73) d_Rf_init_72 rfl rfl ?_
  refine wp_iconst (q := 74) d_Rf_init_73 rfl ic_4 ?_
  refine wp_bipush (q := 76) d_Rf_init_74 rfl bp_10 ?_
  refine wp_iast (q := 77) d_Rf_init_76 rfl (show (rP D N 5 (iA D 24 (cfl 4 (nI 10))))[6]? = some (iA D 24 (cfl 4 (nI 10))) from rfl) (by omega) (by decide) (show (rP D N 5 (iA D 24 (cfl 4 (nI 10)))).set 6 (iA D 24 (upd (cfl 4 (nI 10)) 4 (nI 10))) = rP D N 5 (iA D 24 (cfl 5 (nI 10))) from by rw [csts]; rfl) ?_
  refine wp_dup (q := 78) d_Rf_init_77 rfl rfl ?_
  refine wp_iconst (q := 79) d_Rf_init_78 rfl ic_5 ?_
  refine wp_bipush (q := 81) d_Rf_init_79 rfl bp_10 ?_
  refine wp_iast (q := 82) d_Rf_init_81 rfl (show (rP D N 5 (iA D 24 (cfl 5 (nI 10))))[6]? = some (iA D 24 (cfl 5 (nI 10))) from rfl) (by omega) (by decide) (show (rP D N 5 (iA D 24 (cfl 5 (nI 10)))).set 6 (iA D 24 (upd (cfl 5 (nI 10)) 5 (nI 10))) = rP D N 5 (iA D 24 (cfl 6 (nI 10))) from by rw [csts]; rfl) ?_
  refine wp_dup (q := 83) d_Rf_init_82 rfl rfl ?_
  refine wp_bipush (q := 85) d_Rf_init_83 rfl bp_6 ?_
  refine wp_bipush (q := 87) d_Rf_init_85 rfl bp_10 ?_
  refine wp_iast (q := 88) d_Rf_init_87 rfl (show (rP D N 5 (iA D 24 (cfl 6 (nI 10))))[6]? = some (iA D 24 (cfl 6 (nI 10))) from rfl) (by omega) (by decide) (show (rP D N 5 (iA D 24 (cfl 6 (nI 10)))).set 6 (iA D 24 (upd (cfl 6 (nI 10)) 6 (nI 10))) = rP D N 5 (iA D 24 (cfl 7 (nI 10))) from by rw [csts]; rfl) ?_
  refine wp_dup (q := 89) d_Rf_init_88 rfl rfl ?_
  refine wp_bipush (q := 91) d_Rf_init_89 rfl bp_7 ?_
  refine wp_bipush (q := 93) d_Rf_init_91 rfl bp_10 ?_
  refine wp_iast (q := 94) d_Rf_init_93 rfl (show (rP D N 5 (iA D 24 (cfl 7 (nI 10))))[6]? = some (iA D 24 (cfl 7 (nI 10))) from rfl) (by omega) (by decide) (show (rP D N 5 (iA D 24 (cfl 7 (nI 10)))).set 6 (iA D 24 (upd (cfl 7 (nI 10)) 7 (nI 10))) = rP D N 5 (iA D 24 (cfl 8 (nI 10))) from by rw [csts]; rfl) ?_
  refine wp_dup (q := 95) d_Rf_init_94 rfl rfl ?_
  refine wp_bipush (q := 97) d_Rf_init_95 rfl bp_8 ?_
  refine wp_bipush (q := 99) d_Rf_init_97 rfl bp_10 ?_
  refine wp_iast (q := 100) d_Rf_init_99 rfl (show (rP D N 5 (iA D 24 (cfl 8 (nI 10))))[6]? = some (iA D 24 (cfl 8 (nI 10))) from rfl) (by omega) (by decide) (show (rP D N 5 (iA D 24 (cfl 8 (nI 10)))).set 6 (iA D 24 (upd (cfl 8 (nI 10)) 8 (nI 10))) = rP D N 5 (iA D 24 (cfl 9 (nI 10))) from by rw [csts]; rfl) ?_
  refine wp_dup (q := 101) d_Rf_init_100 rfl rfl ?_
  refine wp_bipush (q := 103) d_Rf_init_101 rfl bp_9 ?_
  refine wp_bipush (q := 105) d_Rf_init_103 rfl bp_10 ?_
  refine wp_iast (q := 106) d_Rf_init_105 rfl (show (rP D N 5 (iA D 24 (cfl 9 (nI 10))))[6]? = some (iA D 24 (cfl 9 (nI 10))) from rfl) (by omega) (by decide) (show (rP D N 5 (iA D 24 (cfl 9 (nI 10)))).set 6 (iA D 24 (upd (cfl 9 (nI 10)) 9 (nI 10))) = rP D N 5 (iA D 24 (cfl 10 (nI 10))) from by rw [csts]; rfl) ?_
  refine wp_dup (q := 107) d_Rf_init_106 rfl rfl ?_
  refine wp_bipush (q := 109) d_Rf_init_107 rfl bp_10 ?_
  refine wp_bipush (q := 111) d_Rf_init_109 rfl bp_10 ?_
  refine wp_iast (q := 112) d_Rf_init_111 rfl (show (rP D N 5 (iA D 24 (cfl 10 (nI 10))))[6]? = some (iA D 24 (cfl 10 (nI 10))) from rfl) (by omega) (by decide) (show (rP D N 5 (iA D 24 (cfl 10 (nI 10)))).set 6 (iA D 24 (upd (cfl 10 (nI 10)) 10 (nI 10))) = rP D N 5 (iA D 24 (cfl 11 (nI 10))) from by rw [csts]; rfl) ?_
  refine wp_dup (q := 113) d_Rf_init_112 rfl rfl ?_
  refine wp_bipush (q := 115) d_Rf_init_113 rfl bp_11 ?_
  refine wp_bipush (q := 117) d_Rf_init_115 rfl bp_10 ?_
  refine wp_iast (q := 118) d_Rf_init_117 rfl (show (rP D N 5 (iA D 24 (cfl 11 (nI 10))))[6]? = some (iA D 24 (cfl 11 (nI 10))) from rfl) (by omega) (by decide) (show (rP D N 5 (iA D 24 (cfl 11 (nI 10)))).set 6 (iA D 24 (upd (cfl 11 (nI 10)) 11 (nI 10))) = rP D N 5 (iA D 24 (cfl 12 (nI 10))) from by rw [csts]; rfl) ?_
  refine wp_dup (q := 119) d_Rf_init_118 rfl rfl ?_
  refine wp_bipush (q := 121) d_Rf_init_119 rfl bp_12 ?_
  refine wp_bipush (q := 123) d_Rf_init_121 rfl bp_10 ?_
  refine wp_iast (q := 124) d_Rf_init_123 rfl (show (rP D N 5 (iA D 24 (cfl 12 (nI 10))))[6]? = some (iA D 24 (cfl 12 (nI 10))) from rfl) (by omega) (by decide) (show (rP D N 5 (iA D 24 (cfl 12 (nI 10)))).set 6 (iA D 24 (upd (cfl 12 (nI 10)) 12 (nI 10))) = rP D N 5 (iA D 24 (cfl 13 (nI 10))) from by rw [csts]; rfl) ?_
  refine wp_dup (q := 125) d_Rf_init_124 rfl rfl ?_
  refine wp_bipush (q := 127) d_Rf_init_125 rfl bp_13 ?_
  refine wp_bipush (q := 129) d_Rf_init_127 rfl bp_10 ?_
  refine wp_iast (q := 130) d_Rf_init_129 rfl (show (rP D N 5 (iA D 24 (cfl 13 (nI 10))))[6]? = some (iA D 24 (cfl 13 (nI 10))) from rfl) (by omega) (by decide) (show (rP D N 5 (iA D 24 (cfl 13 (nI 10)))).set 6 (iA D 24 (upd (cfl 13 (nI 10)) 13 (nI 10))) = rP D N 5 (iA D 24 (cfl 14 (nI 10))) from by rw [csts]; rfl) ?_
  refine wp_dup (q := 131) d_Rf_init_130 rfl rfl ?_
  refine wp_bipush (q := 133) d_Rf_init_131 rfl bp_14 ?_
  refine wp_bipush (q := 135) d_Rf_init_133 rfl bp_10 ?_
  refine wp_iast (q := 136) d_Rf_init_135 rfl (show (rP D N 5 (iA D 24 (cfl 14 (nI 10))))[6]? = some (iA D 24 (cfl 14 (nI 10))) from rfl) (by omega) (by decide) (show (rP D N 5 (iA D 24 (cfl 14 (nI 10)))).set 6 (iA D 24 (upd (cfl 14 (nI 10)) 14 (nI 10))) = rP D N 5 (iA D 24 (cfl 15 (nI 10))) from by rw [csts]; rfl) ?_
  refine wp_dup (q := 137) d_Rf_init_136 rfl rfl ?_
  refine wp_bipush (q := 139) d_Rf_init_137 rfl bp_15 ?_
  refine wp_bipush (q := 141) d_Rf_init_139 rfl bp_10 ?_
  refine wp_iast (q := 142) d_Rf_init_141 rfl (show (rP D N 5 (iA D 24 (cfl 15 (nI 10))))[6]? = some (iA D 24 (cfl 15 (nI 10))) from rfl) (by omega) (by decide) (show (rP D N 5 (iA D 24 (cfl 15 (nI 10)))).set 6 (iA D 24 (upd (cfl 15 (nI 10)) 15 (nI 10))) = rP D N 5 (iA D 24 (cfl 16 (nI 10))) from by rw [csts]; rfl) ?_
  refine wp_dup (q := 143) d_Rf_init_142 rfl rfl ?_
  refine wp_bipush (q := 145) d_Rf_init_143 rfl bp_16 ?_
  refine wp_bipush (q := 147) d_Rf_init_145 rfl bp_10 ?_
  refine wp_iast (q := 148) d_Rf_init_147 rfl (show (rP D N 5 (iA D 24 (cfl 16 (nI 10))))[6]? = some (iA D 24 (cfl 16 (nI 10))) from rfl) (by omega) (by decide) (show (rP D N 5 (iA D 24 (cfl 16 (nI 10)))).set 6 (iA D 24 (upd (cfl 16 (nI 10)) 16 (nI 10))) = rP D N 5 (iA D 24 (cfl 17 (nI 10))) from by rw [csts]; rfl) ?_
  refine wp_dup (q := 149) d_Rf_init_148 rfl rfl ?_
  refine wp_bipush (q := 151) d_Rf_init_149 rfl bp_17 ?_
  refine wp_bipush (q := 153) d_Rf_init_151 rfl bp_10 ?_
  refine wp_iast (q := 154) d_Rf_init_153 rfl (show (rP D N 5 (iA D 24 (cfl 17 (nI 10))))[6]? = some (iA D 24 (cfl 17 (nI 10))) from rfl) (by omega) (by decide) (show (rP D N 5 (iA D 24 (cfl 17 (nI 10)))).set 6 (iA D 24 (upd (cfl 17 (nI 10)) 17 (nI 10))) = rP D N 5 (iA D 24 (cfl 18 (nI 10))) from by rw [csts]; rfl) ?_
  refine wp_dup (q := 155) d_Rf_init_154 rfl rfl ?_
  refine wp_bipush (q := 157) d_Rf_init_155 rfl bp_18 ?_
  refine wp_bipush (q := 159) d_Rf_init_157 rfl bp_10 ?_
  refine wp_iast (q := 160) d_Rf_init_159 rfl (show (rP D N 5 (iA D 24 (cfl 18 (nI 10))))[6]? = some (iA D 24 (cfl 18 (nI 10))) from rfl) (by omega) (by decide) (show (rP D N 5 (iA D 24 (cfl 18 (nI 10)))).set 6 (iA D 24 (upd (cfl 18 (nI 10)) 18 (nI 10))) = rP D N 5 (iA D 24 (cfl 19 (nI 10))) from by rw [csts]; rfl) ?_
  refine wp_dup (q := 161) d_Rf_init_160 rfl rfl ?_
  refine wp_bipush (q := 163) d_Rf_init_161 rfl bp_19 ?_
  refine wp_bipush (q := 165) d_Rf_init_163 rfl bp_10 ?_
  refine wp_iast (q := 166) d_Rf_init_165 rfl (show (rP D N 5 (iA D 24 (cfl 19 (nI 10))))[6]? = some (iA D 24 (cfl 19 (nI 10))) from rfl) (by omega) (by decide) (show (rP D N 5 (iA D 24 (cfl 19 (nI 10)))).set 6 (iA D 24 (upd (cfl 19 (nI 10)) 19 (nI 10))) = rP D N 5 (iA D 24 (cfl 20 (nI 10))) from by rw [csts]; rfl) ?_
  refine wp_dup (q := 167) d_Rf_init_166 rfl rfl ?_
  refine wp_bipush (q := 169) d_Rf_init_167 rfl bp_20 ?_
  refine wp_bipush (q := 171) d_Rf_init_169 rfl bp_10 ?_
  refine wp_iast (q := 172) d_Rf_init_171 rfl (show (rP D N 5 (iA D 24 (cfl 20 (nI 10))))[6]? = some (iA D 24 (cfl 20 (nI 10))) from rfl) (by omega) (by decide) (show (rP D N 5 (iA D 24 (cfl 20 (nI 10)))).set 6 (iA D 24 (upd (cfl 20 (nI 10)) 20 (nI 10))) = rP D N 5 (iA D 24 (cfl 21 (nI 10))) from by rw [csts]; rfl) ?_
  refine wp_dup (q := 173) d_Rf_init_172 rfl rfl ?_
  refine wp_bipush (q := 175) d_Rf_init_173 rfl bp_21 ?_
  refine wp_bipush (q := 177) d_Rf_init_175 rfl bp_10 ?_
  refine wp_iast (q := 178) d_Rf_init_177 rfl (show (rP D N 5 (iA D 24 (cfl 21 (nI 10))))[6]? = some (iA D 24 (cfl 21 (nI 10))) from rfl) (by omega) (by decide) (show (rP D N 5 (iA D 24 (cfl 21 (nI 10)))).set 6 (iA D 24 (upd (cfl 21 (nI 10)) 21 (nI 10))) = rP D N 5 (iA D 24 (cfl 22 (nI 10))) from by rw [csts]; rfl) ?_
  refine wp_dup (q := 179) d_Rf_init_178 rfl rfl ?_
  refine wp_bipush (q := 181) d_Rf_init_179 rfl bp_22 ?_
  refine wp_bipush (q := 183) d_Rf_init_181 rfl bp_10 ?_
  refine wp_iast (q := 184) d_Rf_init_183 rfl (show (rP D N 5 (iA D 24 (cfl 22 (nI 10))))[6]? = some (iA D 24 (cfl 22 (nI 10))) from rfl) (by omega) (by decide) (show (rP D N 5 (iA D 24 (cfl 22 (nI 10)))).set 6 (iA D 24 (upd (cfl 22 (nI 10)) 22 (nI 10))) = rP D N 5 (iA D 24 (cfl 23 (nI 10))) from by rw [csts]; rfl) ?_
  refine wp_dup (q := 185) d_Rf_init_184 rfl rfl ?_
  refine wp_bipush (q := 187) d_Rf_init_185 rfl bp_23 ?_
  refine wp_bipush (q := 189) d_Rf_init_187 rfl bp_10 ?_
  refine wp_iast (q := 190) d_Rf_init_189 rfl (show (rP D N 5 (iA D 24 (cfl 23 (nI 10))))[6]? = some (iA D 24 (cfl 23 (nI 10))) from rfl) (by omega) (by decide) (show (rP D N 5 (iA D 24 (cfl 23 (nI 10)))).set 6 (iA D 24 (upd (cfl 23 (nI 10)) 23 (nI 10))) = rP D N 5 (iA D 24 (cfl 24 (nI 10))) from by rw [csts]; rfl) ?_
  refine wp_putF (q := 193) fl_Rf_25 (fun _ _ _ h => h rfl) rfl d_Rf_init_190 rfl (show (rP D N 5 (iA D 24 (cfl 24 (nI 10))))[0]? = some (.inr (12, rFl N 5)) from rfl) (Nat.le_of_ble_eq_true rfl) rfl rfl (show (rP D N 5 (iA D 24 (cfl 24 (nI 10)))).set 0 (.inr (12, (rFl N 5).set 6 (.ref (N + 6)))) = rS D N 6 from rfl) ?_
  exact ri_1 hK
theorem encR0 {D : xD} {N : Nat} : rS D N 39 = encR D N c0 z0 (fun _ => 0) (fun _ => 0) := rfl
