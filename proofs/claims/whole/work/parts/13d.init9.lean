section
variable {cells slots : Nat} {p : Program} {l : Launch} {e : Env} {R : Room} {s : State} {m : MethodId} {args : Array Value} {below : List Frame} {meth : Method} {c : Code} {H : Heap} {locs : List Loc} {Q : State → Prop} {cc : ByteArray} {nL : Nat} {Ts : List Cond} {own : String} {D : va_G} {aC : Nat → ClassId} {A : Nat → Prop} {pc : Nat} {ls : Array Slot} {rest : List Value} {w : va_W} {a : Nat}
theorem k_istL2 {nn : Nat} {f : Nat → Int32} {i x : Int32} (hX : K_X p s m args meth c cc nL Ts own D aC A) (hZ : K_S D A s (w ++ [(a, .inl (aC 0, nn, .inl f))]) H locs) (k : Nat) (hk : i.toNatClampNeg = k) (hi : ¬ (i < 0 ∨ nn ≤ i.toNatClampNeg)) (hdg : decode cc pc = .ok (.iastore, 1))
    (kk : ∀ (H1 : Heap) (locs1 : List Loc), K_S D A s (w ++ [(a, .inl (aC 0, nn, .inl (upd f k x)))]) H1 locs1 → W p l e R s m args below meth c H1 locs1 cells slots Q (F0 m (pc + 1) ls rest)) : W p l e R s m args below meth c H locs cells slots Q (F0 m pc ls (.int x :: .int i :: .ref a :: rest)) := by
  subst hk
  exact k_istL hX hZ hi hdg kk
end
theorem dX9_init_0 : decode cX9_init 0 = .ok (.aload_n 0, 1) := by decide +kernel
theorem dX9_init_1 : decode cX9_init 1 = .ok (.invokespecial 1, 3) := by decide +kernel
theorem dX9_init_4 : decode cX9_init 4 = .ok (.aload_n 0, 1) := by decide +kernel
theorem dX9_init_5 : decode cX9_init 5 = .ok (.sipush 150, 3) := by decide +kernel
theorem dX9_init_8 : decode cX9_init 8 = .ok (.newarray .int, 2) := by decide +kernel
theorem dX9_init_10 : decode cX9_init 10 = .ok (.putfield 7, 3) := by decide +kernel
theorem dX9_init_13 : decode cX9_init 13 = .ok (.aload_n 0, 1) := by decide +kernel
theorem dX9_init_14 : decode cX9_init 14 = .ok (.sipush 150, 3) := by decide +kernel
theorem dX9_init_17 : decode cX9_init 17 = .ok (.newarray .int, 2) := by decide +kernel
theorem dX9_init_19 : decode cX9_init 19 = .ok (.putfield 13, 3) := by decide +kernel
theorem dX9_init_22 : decode cX9_init 22 = .ok (.aload_n 0, 1) := by decide +kernel
theorem dX9_init_23 : decode cX9_init 23 = .ok (.iconst 4, 1) := by decide +kernel
theorem dX9_init_24 : decode cX9_init 24 = .ok (.newarray .int, 2) := by decide +kernel
theorem dX9_init_26 : decode cX9_init 26 = .ok (.dup, 1) := by decide +kernel
theorem dX9_init_27 : decode cX9_init 27 = .ok (.iconst 0, 1) := by decide +kernel
theorem dX9_init_28 : decode cX9_init 28 = .ok (.iconst (-1), 1) := by decide +kernel
theorem dX9_init_29 : decode cX9_init 29 = .ok (.iastore, 1) := by decide +kernel
theorem dX9_init_30 : decode cX9_init 30 = .ok (.dup, 1) := by decide +kernel
theorem dX9_init_31 : decode cX9_init 31 = .ok (.iconst 1, 1) := by decide +kernel
theorem dX9_init_32 : decode cX9_init 32 = .ok (.iconst (-1), 1) := by decide +kernel
theorem dX9_init_33 : decode cX9_init 33 = .ok (.iastore, 1) := by decide +kernel
theorem dX9_init_34 : decode cX9_init 34 = .ok (.dup, 1) := by decide +kernel
theorem dX9_init_35 : decode cX9_init 35 = .ok (.iconst 2, 1) := by decide +kernel
theorem dX9_init_36 : decode cX9_init 36 = .ok (.iconst (-1), 1) := by decide +kernel
theorem dX9_init_37 : decode cX9_init 37 = .ok (.iastore, 1) := by decide +kernel
theorem dX9_init_38 : decode cX9_init 38 = .ok (.dup, 1) := by decide +kernel
theorem dX9_init_39 : decode cX9_init 39 = .ok (.iconst 3, 1) := by decide +kernel
theorem dX9_init_40 : decode cX9_init 40 = .ok (.iconst (-1), 1) := by decide +kernel
theorem dX9_init_41 : decode cX9_init 41 = .ok (.iastore, 1) := by decide +kernel
theorem dX9_init_42 : decode cX9_init 42 = .ok (.putfield 16, 3) := by decide +kernel
theorem dX9_init_45 : decode cX9_init 45 = .ok (.aload_n 0, 1) := by decide +kernel
theorem dX9_init_46 : decode cX9_init 46 = .ok (.bipush 32, 2) := by decide +kernel
theorem dX9_init_48 : decode cX9_init 48 = .ok (.newarray .int, 2) := by decide +kernel
theorem dX9_init_50 : decode cX9_init 50 = .ok (.putfield 19, 3) := by decide +kernel
theorem dX9_init_53 : decode cX9_init 53 = .ok (.aload_n 0, 1) := by decide +kernel
theorem dX9_init_54 : decode cX9_init 54 = .ok (.bipush 8, 2) := by decide +kernel
theorem dX9_init_56 : decode cX9_init 56 = .ok (.newarray .int, 2) := by decide +kernel
theorem dX9_init_58 : decode cX9_init 58 = .ok (.putfield 22, 3) := by decide +kernel
theorem dX9_init_61 : decode cX9_init 61 = .ok (.aload_n 0, 1) := by decide +kernel
theorem dX9_init_62 : decode cX9_init 62 = .ok (.iconst 2, 1) := by decide +kernel
theorem dX9_init_63 : decode cX9_init 63 = .ok (.newarray .boolean, 2) := by decide +kernel
theorem dX9_init_65 : decode cX9_init 65 = .ok (.putfield 25, 3) := by decide +kernel
theorem dX9_init_68 : decode cX9_init 68 = .ok (.aload_n 0, 1) := by decide +kernel
theorem dX9_init_69 : decode cX9_init 69 = .ok (.sipush 200, 3) := by decide +kernel
theorem dX9_init_72 : decode cX9_init 72 = .ok (.newarray .int, 2) := by decide +kernel
theorem dX9_init_74 : decode cX9_init 74 = .ok (.putfield 29, 3) := by decide +kernel
theorem dX9_init_77 : decode cX9_init 77 = .ok (.aload_n 0, 1) := by decide +kernel
theorem dX9_init_78 : decode cX9_init 78 = .ok (.bipush 6, 2) := by decide +kernel
theorem dX9_init_80 : decode cX9_init 80 = .ok (.newarray .int, 2) := by decide +kernel
theorem dX9_init_82 : decode cX9_init 82 = .ok (.putfield 32, 3) := by decide +kernel
theorem dX9_init_85 : decode cX9_init 85 = .ok (.aload_n 0, 1) := by decide +kernel
theorem dX9_init_86 : decode cX9_init 86 = .ok (.bipush 6, 2) := by decide +kernel
theorem dX9_init_88 : decode cX9_init 88 = .ok (.newarray .int, 2) := by decide +kernel
theorem dX9_init_90 : decode cX9_init 90 = .ok (.putfield 35, 3) := by decide +kernel
theorem dX9_init_93 : decode cX9_init 93 = .ok (.aload_n 0, 1) := by decide +kernel
theorem dX9_init_94 : decode cX9_init 94 = .ok (.bipush 6, 2) := by decide +kernel
theorem dX9_init_96 : decode cX9_init 96 = .ok (.newarray .int, 2) := by decide +kernel
theorem dX9_init_98 : decode cX9_init 98 = .ok (.putfield 38, 3) := by decide +kernel
theorem dX9_init_101 : decode cX9_init 101 = .ok (.aload_n 0, 1) := by decide +kernel
theorem dX9_init_102 : decode cX9_init 102 = .ok (.iconst 3, 1) := by decide +kernel
theorem dX9_init_103 : decode cX9_init 103 = .ok (.newarray .int, 2) := by decide +kernel
theorem dX9_init_105 : decode cX9_init 105 = .ok (.putfield 41, 3) := by decide +kernel
theorem dX9_init_108 : decode cX9_init 108 = .ok (.aload_n 0, 1) := by decide +kernel
theorem dX9_init_109 : decode cX9_init 109 = .ok (.iconst 3, 1) := by decide +kernel
theorem dX9_init_110 : decode cX9_init 110 = .ok (.newarray .int, 2) := by decide +kernel
theorem dX9_init_112 : decode cX9_init 112 = .ok (.dup, 1) := by decide +kernel
theorem dX9_init_113 : decode cX9_init 113 = .ok (.iconst 0, 1) := by decide +kernel
theorem dX9_init_114 : decode cX9_init 114 = .ok (.iconst (-1), 1) := by decide +kernel
theorem dX9_init_115 : decode cX9_init 115 = .ok (.iastore, 1) := by decide +kernel
theorem dX9_init_116 : decode cX9_init 116 = .ok (.dup, 1) := by decide +kernel
theorem dX9_init_117 : decode cX9_init 117 = .ok (.iconst 1, 1) := by decide +kernel
theorem dX9_init_118 : decode cX9_init 118 = .ok (.iconst (-1), 1) := by decide +kernel
theorem dX9_init_119 : decode cX9_init 119 = .ok (.iastore, 1) := by decide +kernel
theorem dX9_init_120 : decode cX9_init 120 = .ok (.dup, 1) := by decide +kernel
theorem dX9_init_121 : decode cX9_init 121 = .ok (.iconst 2, 1) := by decide +kernel
theorem dX9_init_122 : decode cX9_init 122 = .ok (.iconst (-1), 1) := by decide +kernel
theorem dX9_init_123 : decode cX9_init 123 = .ok (.iastore, 1) := by decide +kernel
theorem dX9_init_124 : decode cX9_init 124 = .ok (.putfield 44, 3) := by decide +kernel
theorem dX9_init_127 : decode cX9_init 127 = .ok (.aload_n 0, 1) := by decide +kernel
theorem dX9_init_128 : decode cX9_init 128 = .ok (.bipush 30, 2) := by decide +kernel
theorem dX9_init_130 : decode cX9_init 130 = .ok (.newarray .int, 2) := by decide +kernel
theorem dX9_init_132 : decode cX9_init 132 = .ok (.putfield 47, 3) := by decide +kernel
theorem dX9_init_135 : decode cX9_init 135 = .ok (.aload_n 0, 1) := by decide +kernel
theorem dX9_init_136 : decode cX9_init 136 = .ok (.bipush 7, 2) := by decide +kernel
theorem dX9_init_138 : decode cX9_init 138 = .ok (.newarray .int, 2) := by decide +kernel
theorem dX9_init_140 : decode cX9_init 140 = .ok (.dup, 1) := by decide +kernel
theorem dX9_init_141 : decode cX9_init 141 = .ok (.iconst 0, 1) := by decide +kernel
theorem dX9_init_142 : decode cX9_init 142 = .ok (.bipush 112, 2) := by decide +kernel
theorem dX9_init_144 : decode cX9_init 144 = .ok (.iastore, 1) := by decide +kernel
theorem dX9_init_145 : decode cX9_init 145 = .ok (.dup, 1) := by decide +kernel
theorem dX9_init_146 : decode cX9_init 146 = .ok (.iconst 1, 1) := by decide +kernel
theorem dX9_init_147 : decode cX9_init 147 = .ok (.bipush 114, 2) := by decide +kernel
theorem dX9_init_149 : decode cX9_init 149 = .ok (.iastore, 1) := by decide +kernel
theorem dX9_init_150 : decode cX9_init 150 = .ok (.dup, 1) := by decide +kernel
theorem dX9_init_151 : decode cX9_init 151 = .ok (.iconst 2, 1) := by decide +kernel
theorem dX9_init_152 : decode cX9_init 152 = .ok (.bipush 111, 2) := by decide +kernel
theorem dX9_init_154 : decode cX9_init 154 = .ok (.iastore, 1) := by decide +kernel
theorem dX9_init_155 : decode cX9_init 155 = .ok (.dup, 1) := by decide +kernel
theorem dX9_init_156 : decode cX9_init 156 = .ok (.iconst 3, 1) := by decide +kernel
theorem dX9_init_157 : decode cX9_init 157 = .ok (.bipush 103, 2) := by decide +kernel
theorem dX9_init_159 : decode cX9_init 159 = .ok (.iastore, 1) := by decide +kernel
theorem dX9_init_160 : decode cX9_init 160 = .ok (.dup, 1) := by decide +kernel
theorem dX9_init_161 : decode cX9_init 161 = .ok (.iconst 4, 1) := by decide +kernel
theorem dX9_init_162 : decode cX9_init 162 = .ok (.bipush 114, 2) := by decide +kernel
theorem dX9_init_164 : decode cX9_init 164 = .ok (.iastore, 1) := by decide +kernel
theorem dX9_init_165 : decode cX9_init 165 = .ok (.dup, 1) := by decide +kernel
theorem dX9_init_166 : decode cX9_init 166 = .ok (.iconst 5, 1) := by decide +kernel
theorem dX9_init_167 : decode cX9_init 167 = .ok (.bipush 97, 2) := by decide +kernel
theorem dX9_init_169 : decode cX9_init 169 = .ok (.iastore, 1) := by decide +kernel
theorem dX9_init_170 : decode cX9_init 170 = .ok (.dup, 1) := by decide +kernel
theorem dX9_init_171 : decode cX9_init 171 = .ok (.bipush 6, 2) := by decide +kernel
theorem dX9_init_173 : decode cX9_init 173 = .ok (.bipush 109, 2) := by decide +kernel
theorem dX9_init_175 : decode cX9_init 175 = .ok (.iastore, 1) := by decide +kernel
theorem dX9_init_176 : decode cX9_init 176 = .ok (.putfield 50, 3) := by decide +kernel
theorem dX9_init_179 : decode cX9_init 179 = .ok (.aload_n 0, 1) := by decide +kernel
theorem dX9_init_180 : decode cX9_init 180 = .ok (.iconst 5, 1) := by decide +kernel
theorem dX9_init_181 : decode cX9_init 181 = .ok (.newarray .int, 2) := by decide +kernel
theorem dX9_init_183 : decode cX9_init 183 = .ok (.dup, 1) := by decide +kernel
theorem dX9_init_184 : decode cX9_init 184 = .ok (.iconst 0, 1) := by decide +kernel
theorem dX9_init_185 : decode cX9_init 185 = .ok (.bipush 115, 2) := by decide +kernel
theorem dX9_init_187 : decode cX9_init 187 = .ok (.iastore, 1) := by decide +kernel
theorem dX9_init_188 : decode cX9_init 188 = .ok (.dup, 1) := by decide +kernel
theorem dX9_init_189 : decode cX9_init 189 = .ok (.iconst 1, 1) := by decide +kernel
theorem dX9_init_190 : decode cX9_init 190 = .ok (.bipush 104, 2) := by decide +kernel
theorem dX9_init_192 : decode cX9_init 192 = .ok (.iastore, 1) := by decide +kernel
theorem dX9_init_193 : decode cX9_init 193 = .ok (.dup, 1) := by decide +kernel
theorem dX9_init_194 : decode cX9_init 194 = .ok (.iconst 2, 1) := by decide +kernel
theorem dX9_init_195 : decode cX9_init 195 = .ok (.bipush 97, 2) := by decide +kernel
theorem dX9_init_197 : decode cX9_init 197 = .ok (.iastore, 1) := by decide +kernel
theorem dX9_init_198 : decode cX9_init 198 = .ok (.dup, 1) := by decide +kernel
theorem dX9_init_199 : decode cX9_init 199 = .ok (.iconst 3, 1) := by decide +kernel
theorem dX9_init_200 : decode cX9_init 200 = .ok (.bipush 112, 2) := by decide +kernel
theorem dX9_init_202 : decode cX9_init 202 = .ok (.iastore, 1) := by decide +kernel
theorem dX9_init_203 : decode cX9_init 203 = .ok (.dup, 1) := by decide +kernel
theorem dX9_init_204 : decode cX9_init 204 = .ok (.iconst 4, 1) := by decide +kernel
theorem dX9_init_205 : decode cX9_init 205 = .ok (.bipush 101, 2) := by decide +kernel
theorem dX9_init_207 : decode cX9_init 207 = .ok (.iastore, 1) := by decide +kernel
theorem dX9_init_208 : decode cX9_init 208 = .ok (.putfield 53, 3) := by decide +kernel
theorem dX9_init_211 : decode cX9_init 211 = .ok (.aload_n 0, 1) := by decide +kernel
theorem dX9_init_212 : decode cX9_init 212 = .ok (.iconst 4, 1) := by decide +kernel
theorem dX9_init_213 : decode cX9_init 213 = .ok (.newarray .int, 2) := by decide +kernel
theorem dX9_init_215 : decode cX9_init 215 = .ok (.dup, 1) := by decide +kernel
theorem dX9_init_216 : decode cX9_init 216 = .ok (.iconst 0, 1) := by decide +kernel
theorem dX9_init_217 : decode cX9_init 217 = .ok (.bipush 101, 2) := by decide +kernel
theorem dX9_init_219 : decode cX9_init 219 = .ok (.iastore, 1) := by decide +kernel
theorem dX9_init_220 : decode cX9_init 220 = .ok (.dup, 1) := by decide +kernel
theorem dX9_init_221 : decode cX9_init 221 = .ok (.iconst 1, 1) := by decide +kernel
theorem dX9_init_222 : decode cX9_init 222 = .ok (.bipush 97, 2) := by decide +kernel
theorem dX9_init_224 : decode cX9_init 224 = .ok (.iastore, 1) := by decide +kernel
theorem dX9_init_225 : decode cX9_init 225 = .ok (.dup, 1) := by decide +kernel
theorem dX9_init_226 : decode cX9_init 226 = .ok (.iconst 2, 1) := by decide +kernel
theorem dX9_init_227 : decode cX9_init 227 = .ok (.bipush 99, 2) := by decide +kernel
theorem dX9_init_229 : decode cX9_init 229 = .ok (.iastore, 1) := by decide +kernel
theorem dX9_init_230 : decode cX9_init 230 = .ok (.dup, 1) := by decide +kernel
theorem dX9_init_231 : decode cX9_init 231 = .ok (.iconst 3, 1) := by decide +kernel
theorem dX9_init_232 : decode cX9_init 232 = .ok (.bipush 104, 2) := by decide +kernel
theorem dX9_init_234 : decode cX9_init 234 = .ok (.iastore, 1) := by decide +kernel
theorem dX9_init_235 : decode cX9_init 235 = .ok (.putfield 56, 3) := by decide +kernel
theorem dX9_init_238 : decode cX9_init 238 = .ok (.aload_n 0, 1) := by decide +kernel
theorem dX9_init_239 : decode cX9_init 239 = .ok (.iconst 4, 1) := by decide +kernel
theorem dX9_init_240 : decode cX9_init 240 = .ok (.newarray .int, 2) := by decide +kernel
theorem dX9_init_242 : decode cX9_init 242 = .ok (.dup, 1) := by decide +kernel
theorem dX9_init_243 : decode cX9_init 243 = .ok (.iconst 0, 1) := by decide +kernel
theorem dX9_init_244 : decode cX9_init 244 = .ok (.bipush 106, 2) := by decide +kernel
theorem dX9_init_246 : decode cX9_init 246 = .ok (.iastore, 1) := by decide +kernel
theorem dX9_init_247 : decode cX9_init 247 = .ok (.dup, 1) := by decide +kernel
theorem dX9_init_248 : decode cX9_init 248 = .ok (.iconst 1, 1) := by decide +kernel
theorem dX9_init_249 : decode cX9_init 249 = .ok (.bipush 111, 2) := by decide +kernel
theorem dX9_init_251 : decode cX9_init 251 = .ok (.iastore, 1) := by decide +kernel
theorem dX9_init_252 : decode cX9_init 252 = .ok (.dup, 1) := by decide +kernel
theorem dX9_init_253 : decode cX9_init 253 = .ok (.iconst 2, 1) := by decide +kernel
theorem dX9_init_254 : decode cX9_init 254 = .ok (.bipush 105, 2) := by decide +kernel
theorem dX9_init_256 : decode cX9_init 256 = .ok (.iastore, 1) := by decide +kernel
theorem dX9_init_257 : decode cX9_init 257 = .ok (.dup, 1) := by decide +kernel
theorem dX9_init_258 : decode cX9_init 258 = .ok (.iconst 3, 1) := by decide +kernel
theorem dX9_init_259 : decode cX9_init 259 = .ok (.bipush 110, 2) := by decide +kernel
theorem dX9_init_261 : decode cX9_init 261 = .ok (.iastore, 1) := by decide +kernel
theorem dX9_init_262 : decode cX9_init 262 = .ok (.putfield 59, 3) := by decide +kernel
theorem dX9_init_265 : decode cX9_init 265 = .ok (.aload_n 0, 1) := by decide +kernel
theorem dX9_init_266 : decode cX9_init 266 = .ok (.iconst 4, 1) := by decide +kernel
theorem dX9_init_267 : decode cX9_init 267 = .ok (.newarray .int, 2) := by decide +kernel
theorem dX9_init_269 : decode cX9_init 269 = .ok (.dup, 1) := by decide +kernel
theorem dX9_init_270 : decode cX9_init 270 = .ok (.iconst 0, 1) := by decide +kernel
theorem dX9_init_271 : decode cX9_init 271 = .ok (.bipush 116, 2) := by decide +kernel
theorem dX9_init_273 : decode cX9_init 273 = .ok (.iastore, 1) := by decide +kernel
theorem dX9_init_274 : decode cX9_init 274 = .ok (.dup, 1) := by decide +kernel
theorem dX9_init_275 : decode cX9_init 275 = .ok (.iconst 1, 1) := by decide +kernel
theorem dX9_init_276 : decode cX9_init 276 = .ok (.bipush 117, 2) := by decide +kernel
theorem dX9_init_278 : decode cX9_init 278 = .ok (.iastore, 1) := by decide +kernel
theorem dX9_init_279 : decode cX9_init 279 = .ok (.dup, 1) := by decide +kernel
theorem dX9_init_280 : decode cX9_init 280 = .ok (.iconst 2, 1) := by decide +kernel
theorem dX9_init_281 : decode cX9_init 281 = .ok (.bipush 114, 2) := by decide +kernel
theorem dX9_init_283 : decode cX9_init 283 = .ok (.iastore, 1) := by decide +kernel
theorem dX9_init_284 : decode cX9_init 284 = .ok (.dup, 1) := by decide +kernel
theorem dX9_init_285 : decode cX9_init 285 = .ok (.iconst 3, 1) := by decide +kernel
theorem dX9_init_286 : decode cX9_init 286 = .ok (.bipush 110, 2) := by decide +kernel
theorem dX9_init_288 : decode cX9_init 288 = .ok (.iastore, 1) := by decide +kernel
theorem dX9_init_289 : decode cX9_init 289 = .ok (.putfield 62, 3) := by decide +kernel
theorem dX9_init_292 : decode cX9_init 292 = .ok (.aload_n 0, 1) := by decide +kernel
theorem dX9_init_293 : decode cX9_init 293 = .ok (.iconst 4, 1) := by decide +kernel
theorem dX9_init_294 : decode cX9_init 294 = .ok (.newarray .int, 2) := by decide +kernel
theorem dX9_init_296 : decode cX9_init 296 = .ok (.dup, 1) := by decide +kernel
theorem dX9_init_297 : decode cX9_init 297 = .ok (.iconst 0, 1) := by decide +kernel
theorem dX9_init_298 : decode cX9_init 298 = .ok (.bipush 102, 2) := by decide +kernel
theorem dX9_init_300 : decode cX9_init 300 = .ok (.iastore, 1) := by decide +kernel
theorem dX9_init_301 : decode cX9_init 301 = .ok (.dup, 1) := by decide +kernel
theorem dX9_init_302 : decode cX9_init 302 = .ok (.iconst 1, 1) := by decide +kernel
theorem dX9_init_303 : decode cX9_init 303 = .ok (.bipush 111, 2) := by decide +kernel
theorem dX9_init_305 : decode cX9_init 305 = .ok (.iastore, 1) := by decide +kernel
theorem dX9_init_306 : decode cX9_init 306 = .ok (.dup, 1) := by decide +kernel
theorem dX9_init_307 : decode cX9_init 307 = .ok (.iconst 2, 1) := by decide +kernel
theorem dX9_init_308 : decode cX9_init 308 = .ok (.bipush 108, 2) := by decide +kernel
theorem dX9_init_310 : decode cX9_init 310 = .ok (.iastore, 1) := by decide +kernel
theorem dX9_init_311 : decode cX9_init 311 = .ok (.dup, 1) := by decide +kernel
theorem dX9_init_312 : decode cX9_init 312 = .ok (.iconst 3, 1) := by decide +kernel
theorem dX9_init_313 : decode cX9_init 313 = .ok (.bipush 100, 2) := by decide +kernel
theorem dX9_init_315 : decode cX9_init 315 = .ok (.iastore, 1) := by decide +kernel
theorem dX9_init_316 : decode cX9_init 316 = .ok (.putfield 65, 3) := by decide +kernel
theorem dX9_init_319 : decode cX9_init 319 = .ok (.aload_n 0, 1) := by decide +kernel
theorem dX9_init_320 : decode cX9_init 320 = .ok (.iconst 5, 1) := by decide +kernel
theorem dX9_init_321 : decode cX9_init 321 = .ok (.newarray .int, 2) := by decide +kernel
theorem dX9_init_323 : decode cX9_init 323 = .ok (.dup, 1) := by decide +kernel
theorem dX9_init_324 : decode cX9_init 324 = .ok (.iconst 0, 1) := by decide +kernel
theorem dX9_init_325 : decode cX9_init 325 = .ok (.bipush 114, 2) := by decide +kernel
theorem dX9_init_327 : decode cX9_init 327 = .ok (.iastore, 1) := by decide +kernel
theorem dX9_init_328 : decode cX9_init 328 = .ok (.dup, 1) := by decide +kernel
theorem dX9_init_329 : decode cX9_init 329 = .ok (.iconst 1, 1) := by decide +kernel
theorem dX9_init_330 : decode cX9_init 330 = .ok (.bipush 97, 2) := by decide +kernel
theorem dX9_init_332 : decode cX9_init 332 = .ok (.iastore, 1) := by decide +kernel
theorem dX9_init_333 : decode cX9_init 333 = .ok (.dup, 1) := by decide +kernel
theorem dX9_init_334 : decode cX9_init 334 = .ok (.iconst 2, 1) := by decide +kernel
theorem dX9_init_335 : decode cX9_init 335 = .ok (.bipush 118, 2) := by decide +kernel
theorem dX9_init_337 : decode cX9_init 337 = .ok (.iastore, 1) := by decide +kernel
theorem dX9_init_338 : decode cX9_init 338 = .ok (.dup, 1) := by decide +kernel
theorem dX9_init_339 : decode cX9_init 339 = .ok (.iconst 3, 1) := by decide +kernel
theorem dX9_init_340 : decode cX9_init 340 = .ok (.bipush 101, 2) := by decide +kernel
theorem dX9_init_342 : decode cX9_init 342 = .ok (.iastore, 1) := by decide +kernel
theorem dX9_init_343 : decode cX9_init 343 = .ok (.dup, 1) := by decide +kernel
theorem dX9_init_344 : decode cX9_init 344 = .ok (.iconst 4, 1) := by decide +kernel
theorem dX9_init_345 : decode cX9_init 345 = .ok (.bipush 108, 2) := by decide +kernel
theorem dX9_init_347 : decode cX9_init 347 = .ok (.iastore, 1) := by decide +kernel
theorem dX9_init_348 : decode cX9_init 348 = .ok (.putfield 68, 3) := by decide +kernel
theorem dX9_init_351 : decode cX9_init 351 = .ok (.aload_n 0, 1) := by decide +kernel
theorem dX9_init_352 : decode cX9_init 352 = .ok (.iconst 4, 1) := by decide +kernel
theorem dX9_init_353 : decode cX9_init 353 = .ok (.newarray .int, 2) := by decide +kernel
theorem dX9_init_355 : decode cX9_init 355 = .ok (.dup, 1) := by decide +kernel
theorem dX9_init_356 : decode cX9_init 356 = .ok (.iconst 0, 1) := by decide +kernel
theorem dX9_init_357 : decode cX9_init 357 = .ok (.bipush 102, 2) := by decide +kernel
theorem dX9_init_359 : decode cX9_init 359 = .ok (.iastore, 1) := by decide +kernel
theorem dX9_init_360 : decode cX9_init 360 = .ok (.dup, 1) := by decide +kernel
theorem dX9_init_361 : decode cX9_init 361 = .ok (.iconst 1, 1) := by decide +kernel
theorem dX9_init_362 : decode cX9_init 362 = .ok (.bipush 111, 2) := by decide +kernel
theorem dX9_init_364 : decode cX9_init 364 = .ok (.iastore, 1) := by decide +kernel
theorem dX9_init_365 : decode cX9_init 365 = .ok (.dup, 1) := by decide +kernel
theorem dX9_init_366 : decode cX9_init 366 = .ok (.iconst 2, 1) := by decide +kernel
theorem dX9_init_367 : decode cX9_init 367 = .ok (.bipush 114, 2) := by decide +kernel
theorem dX9_init_369 : decode cX9_init 369 = .ok (.iastore, 1) := by decide +kernel
theorem dX9_init_370 : decode cX9_init 370 = .ok (.dup, 1) := by decide +kernel
theorem dX9_init_371 : decode cX9_init 371 = .ok (.iconst 3, 1) := by decide +kernel
theorem dX9_init_372 : decode cX9_init 372 = .ok (.bipush 109, 2) := by decide +kernel
theorem dX9_init_374 : decode cX9_init 374 = .ok (.iastore, 1) := by decide +kernel
theorem dX9_init_375 : decode cX9_init 375 = .ok (.putfield 71, 3) := by decide +kernel
theorem dX9_init_378 : decode cX9_init 378 = .ok (.aload_n 0, 1) := by decide +kernel
theorem dX9_init_379 : decode cX9_init 379 = .ok (.bipush 14, 2) := by decide +kernel
theorem dX9_init_381 : decode cX9_init 381 = .ok (.newarray .int, 2) := by decide +kernel
theorem dX9_init_383 : decode cX9_init 383 = .ok (.putfield 74, 3) := by decide +kernel
theorem dX9_init_386 : decode cX9_init 386 = .ok (.aload_n 0, 1) := by decide +kernel
theorem dX9_init_387 : decode cX9_init 387 = .ok (.bipush 14, 2) := by decide +kernel
theorem dX9_init_389 : decode cX9_init 389 = .ok (.newarray .int, 2) := by decide +kernel
theorem dX9_init_391 : decode cX9_init 391 = .ok (.putfield 77, 3) := by decide +kernel
theorem dX9_init_394 : decode cX9_init 394 = .ok (.aload_n 0, 1) := by decide +kernel
theorem dX9_init_395 : decode cX9_init 395 = .ok (.iconst 4, 1) := by decide +kernel
theorem dX9_init_396 : decode cX9_init 396 = .ok (.newarray .int, 2) := by decide +kernel
theorem dX9_init_398 : decode cX9_init 398 = .ok (.dup, 1) := by decide +kernel
theorem dX9_init_399 : decode cX9_init 399 = .ok (.iconst 0, 1) := by decide +kernel
theorem dX9_init_400 : decode cX9_init 400 = .ok (.iconst (-1), 1) := by decide +kernel
theorem dX9_init_401 : decode cX9_init 401 = .ok (.iastore, 1) := by decide +kernel
theorem dX9_init_402 : decode cX9_init 402 = .ok (.dup, 1) := by decide +kernel
theorem dX9_init_403 : decode cX9_init 403 = .ok (.iconst 1, 1) := by decide +kernel
theorem dX9_init_404 : decode cX9_init 404 = .ok (.iconst (-1), 1) := by decide +kernel
theorem dX9_init_405 : decode cX9_init 405 = .ok (.iastore, 1) := by decide +kernel
theorem dX9_init_406 : decode cX9_init 406 = .ok (.dup, 1) := by decide +kernel
theorem dX9_init_407 : decode cX9_init 407 = .ok (.iconst 2, 1) := by decide +kernel
theorem dX9_init_408 : decode cX9_init 408 = .ok (.iconst (-1), 1) := by decide +kernel
theorem dX9_init_409 : decode cX9_init 409 = .ok (.iastore, 1) := by decide +kernel
theorem dX9_init_410 : decode cX9_init 410 = .ok (.dup, 1) := by decide +kernel
theorem dX9_init_411 : decode cX9_init 411 = .ok (.iconst 3, 1) := by decide +kernel
theorem dX9_init_412 : decode cX9_init 412 = .ok (.iconst (-1), 1) := by decide +kernel
theorem dX9_init_413 : decode cX9_init 413 = .ok (.iastore, 1) := by decide +kernel
theorem dX9_init_414 : decode cX9_init 414 = .ok (.putfield 80, 3) := by decide +kernel
theorem dX9_init_417 : decode cX9_init 417 = .ok (.aload_n 0, 1) := by decide +kernel
theorem dX9_init_418 : decode cX9_init 418 = .ok (.iconst 5, 1) := by decide +kernel
theorem dX9_init_419 : decode cX9_init 419 = .ok (.newarray .int, 2) := by decide +kernel
theorem dX9_init_421 : decode cX9_init 421 = .ok (.putfield 83, 3) := by decide +kernel
theorem dX9_init_424 : decode cX9_init 424 = .ok (.aload_n 0, 1) := by decide +kernel
theorem dX9_init_425 : decode cX9_init 425 = .ok (.bipush 6, 2) := by decide +kernel
theorem dX9_init_427 : decode cX9_init 427 = .ok (.newarray .int, 2) := by decide +kernel
theorem dX9_init_429 : decode cX9_init 429 = .ok (.putfield 86, 3) := by decide +kernel
theorem dX9_init_432 : decode cX9_init 432 = .ok (.aload_n 0, 1) := by decide +kernel
theorem dX9_init_433 : decode cX9_init 433 = .ok (.bipush 6, 2) := by decide +kernel
theorem dX9_init_435 : decode cX9_init 435 = .ok (.newarray .int, 2) := by decide +kernel
theorem dX9_init_437 : decode cX9_init 437 = .ok (.putfield 89, 3) := by decide +kernel
theorem dX9_init_440 : decode cX9_init 440 = .ok (.aload_n 0, 1) := by decide +kernel
theorem dX9_init_441 : decode cX9_init 441 = .ok (.iconst 4, 1) := by decide +kernel
theorem dX9_init_442 : decode cX9_init 442 = .ok (.newarray .int, 2) := by decide +kernel
theorem dX9_init_444 : decode cX9_init 444 = .ok (.putfield 92, 3) := by decide +kernel
theorem dX9_init_447 : decode cX9_init 447 = .ok (.return_, 1) := by decide +kernel
theorem wkn_1 : Cond.methodLink RX9 1 objectInit ∈ WL_ := wl_in (tj_5 (List.mem_of_getElem? (i := 38) rfl)) rfl
theorem wkn_2 : Cond.instanceMethod objectInit ∈ WL_ := wl_in (tj_1 (List.mem_of_getElem? (i := 25) rfl)) rfl
theorem wkn_3 : Cond.code objectInit ⟨#[0xb1]⟩ 1 none ∈ WL_ := wl_in (tj_1 (List.mem_of_getElem? (i := 26) rfl)) rfl
theorem wkn_4 : Cond.arrayClass .int ∈ WL_ := wl_in (tj_1 (List.mem_of_getElem? (i := 90) rfl)) rfl
theorem wkn_5 : Cond.fieldLink RX9 7 "ShapeFramesModel" "row" "[I" ∈ WL_ := wl_in (tj_5 (List.mem_of_getElem? (i := 39) rfl)) rfl
theorem wkn_6 : Cond.fieldLink RX9 13 "ShapeFramesModel" "read" "[I" ∈ WL_ := wl_in (tj_5 (List.mem_of_getElem? (i := 40) rfl)) rfl
theorem wkn_7 : Cond.fieldLink RX9 16 "ShapeFramesModel" "given" "[I" ∈ WL_ := wl_in (tj_5 (List.mem_of_getElem? (i := 43) rfl)) rfl
theorem wkn_8 : Cond.fieldLink RX9 19 "ShapeFramesModel" "pasts" "[I" ∈ WL_ := wl_in (tj_5 (List.mem_of_getElem? (i := 44) rfl)) rfl
theorem wkn_9 : Cond.fieldLink RX9 22 "ShapeFramesModel" "kept" "[I" ∈ WL_ := wl_in (tj_5 (List.mem_of_getElem? (i := 46) rfl)) rfl
theorem wkn_10 : Cond.arrayClass .boolean ∈ WL_ := wl_in (tj_1 (List.mem_of_getElem? (i := 173) rfl)) rfl
theorem wkn_11 : Cond.fieldLink RX9 25 "ShapeFramesModel" "isKept" "[Z" ∈ WL_ := wl_in (tj_5 (List.mem_of_getElem? (i := 47) rfl)) rfl
theorem wkn_12 : Cond.fieldLink RX9 29 "ShapeFramesModel" "text" "[I" ∈ WL_ := wl_in (tj_5 (List.mem_of_getElem? (i := 48) rfl)) rfl
theorem wkn_13 : Cond.fieldLink RX9 32 "ShapeFramesModel" "seenOf" "[I" ∈ WL_ := wl_in (tj_5 (List.mem_of_getElem? (i := 51) rfl)) rfl
theorem wkn_14 : Cond.fieldLink RX9 35 "ShapeFramesModel" "seenAxes" "[I" ∈ WL_ := wl_in (tj_5 (List.mem_of_getElem? (i := 52) rfl)) rfl
theorem wkn_15 : Cond.fieldLink RX9 38 "ShapeFramesModel" "seenTo" "[I" ∈ WL_ := wl_in (tj_5 (List.mem_of_getElem? (i := 53) rfl)) rfl
theorem wkn_16 : Cond.fieldLink RX9 41 "ShapeFramesModel" "sorts" "[I" ∈ WL_ := wl_in (tj_5 (List.mem_of_getElem? (i := 54) rfl)) rfl
theorem wkn_17 : Cond.fieldLink RX9 44 "ShapeFramesModel" "sizes" "[I" ∈ WL_ := wl_in (tj_5 (List.mem_of_getElem? (i := 55) rfl)) rfl
theorem wkn_18 : Cond.fieldLink RX9 47 "ShapeFramesModel" "values" "[I" ∈ WL_ := wl_in (tj_5 (List.mem_of_getElem? (i := 56) rfl)) rfl
theorem wkn_19 : Cond.fieldLink RX9 50 "ShapeFramesModel" "programWord" "[I" ∈ WL_ := wl_in (tj_5 (List.mem_of_getElem? (i := 61) rfl)) rfl
theorem wkn_20 : Cond.fieldLink RX9 53 "ShapeFramesModel" "shapeWord" "[I" ∈ WL_ := wl_in (tj_5 (List.mem_of_getElem? (i := 62) rfl)) rfl
theorem wkn_21 : Cond.fieldLink RX9 56 "ShapeFramesModel" "eachWord" "[I" ∈ WL_ := wl_in (tj_5 (List.mem_of_getElem? (i := 63) rfl)) rfl
theorem wkn_22 : Cond.fieldLink RX9 59 "ShapeFramesModel" "joinWord" "[I" ∈ WL_ := wl_in (tj_5 (List.mem_of_getElem? (i := 64) rfl)) rfl
theorem wkn_23 : Cond.fieldLink RX9 62 "ShapeFramesModel" "turnWord" "[I" ∈ WL_ := wl_in (tj_5 (List.mem_of_getElem? (i := 65) rfl)) rfl
theorem wkn_24 : Cond.fieldLink RX9 65 "ShapeFramesModel" "foldWord" "[I" ∈ WL_ := wl_in (tj_5 (List.mem_of_getElem? (i := 66) rfl)) rfl
theorem wkn_25 : Cond.fieldLink RX9 68 "ShapeFramesModel" "ravelWord" "[I" ∈ WL_ := wl_in (tj_5 (List.mem_of_getElem? (i := 67) rfl)) rfl
theorem wkn_26 : Cond.fieldLink RX9 71 "ShapeFramesModel" "formWord" "[I" ∈ WL_ := wl_in (tj_5 (List.mem_of_getElem? (i := 68) rfl)) rfl
theorem wkn_27 : Cond.fieldLink RX9 74 "ShapeFramesModel" "alike" "[I" ∈ WL_ := wl_in (tj_5 (List.mem_of_getElem? (i := 70) rfl)) rfl
theorem wkn_28 : Cond.fieldLink RX9 77 "ShapeFramesModel" "is" "[I" ∈ WL_ := wl_in (tj_5 (List.mem_of_getElem? (i := 71) rfl)) rfl
theorem wkn_29 : Cond.fieldLink RX9 80 "ShapeFramesModel" "by" "[I" ∈ WL_ := wl_in (tj_5 (List.mem_of_getElem? (i := 72) rfl)) rfl
theorem wkn_30 : Cond.fieldLink RX9 83 "ShapeFramesModel" "failing" "[I" ∈ WL_ := wl_in (tj_5 (List.mem_of_getElem? (i := 73) rfl)) rfl
theorem wkn_31 : Cond.fieldLink RX9 86 "ShapeFramesModel" "leftSide" "[I" ∈ WL_ := wl_in (tj_5 (List.mem_of_getElem? (i := 76) rfl)) rfl
theorem wkn_32 : Cond.fieldLink RX9 89 "ShapeFramesModel" "rightSide" "[I" ∈ WL_ := wl_in (tj_5 (List.mem_of_getElem? (i := 77) rfl)) rfl
theorem wkn_33 : Cond.fieldLink RX9 92 "ShapeFramesModel" "firstWay" "[I" ∈ WL_ := wl_in (tj_5 (List.mem_of_getElem? (i := 82) rfl)) rfl
def ar9_4 : Nat → Int32 := (upd (upd (upd (upd (fun _ => 0) 0 (-1)) 1 (-1)) 2 (-1)) 3 (-1))
def ar9_16 : Nat → Int32 := (upd (upd (upd (fun _ => 0) 0 (-1)) 1 (-1)) 2 (-1))
def ar9_22 : Nat → Int32 := (upd (upd (upd (upd (upd (upd (upd (fun _ => 0) 0 (112)) 1 (114)) 2 (111)) 3 (103)) 4 (114)) 5 (97)) 6 (109))
def ar9_23 : Nat → Int32 := (upd (upd (upd (upd (upd (fun _ => 0) 0 (115)) 1 (104)) 2 (97)) 3 (112)) 4 (101))
def ar9_24 : Nat → Int32 := (upd (upd (upd (upd (fun _ => 0) 0 (101)) 1 (97)) 2 (99)) 3 (104))
def ar9_25 : Nat → Int32 := (upd (upd (upd (upd (fun _ => 0) 0 (106)) 1 (111)) 2 (105)) 3 (110))
def ar9_26 : Nat → Int32 := (upd (upd (upd (upd (fun _ => 0) 0 (116)) 1 (117)) 2 (114)) 3 (110))
def ar9_27 : Nat → Int32 := (upd (upd (upd (upd (fun _ => 0) 0 (102)) 1 (111)) 2 (108)) 3 (100))
def ar9_28 : Nat → Int32 := (upd (upd (upd (upd (upd (fun _ => 0) 0 (114)) 1 (97)) 2 (118)) 3 (101)) 4 (108))
def ar9_29 : Nat → Int32 := (upd (upd (upd (upd (fun _ => 0) 0 (102)) 1 (111)) 2 (114)) 3 (109))
def ar9_33 : Nat → Int32 := (upd (upd (upd (upd (fun _ => 0) 0 (-1)) 1 (-1)) 2 (-1)) 3 (-1))
section
variable {p : Program} {l : Launch} {e : Env} {s : State} {m : MethodId} {args : Array Value} {below : List Frame} {meth : Method} {c : Code} {H : Heap} {locs : List Loc} {Q : State → Prop} {D : va_G} {aC : Nat → ClassId} {A : Nat → Prop} {ls : Array Slot} {h0 : Nat}
set_option maxHeartbeats 4000000 in
set_option maxRecDepth 100000 in
theorem i9_0 (hX : K_X p s m args meth c cX9_init 1 WL_ RX9 D aC A) (hnm : meth.name = "<init>") (hl : lv_has ls 1 [(0, .ref h0)]) (fs : List Value) (hf : fs.length = 44) (r : va_W) (hZ : K_S D A s ((h0, .inr (9, fs)) :: r) H locs) (kk : ∀ (q1 q2 : Nat) (H : Heap) (locs : List Loc), K_S D A s ((h0, .inr (9, (List.set (List.set fs 0 (.ref q1)) 1 (.ref q2)))) :: ((r ++ [(q1, .inl (aC 0, 150, .inl (fun _ => 0)))]) ++ [(q2, .inl (aC 0, 150, .inl (fun _ => 0)))])) H locs → W p l e (R_i 1 12 28 690) s m args below meth c H locs 2 300 Q (F0 m 22 ls [])) : W p l e (R_i 1 12 28 690) s m args below meth c H locs 0 0 Q (F0 m 4 ls []) := by
  obtain ⟨hx, hb, hml, hown, hts, hK, hA, hlk⟩ := id hX
  refine lv_aload_n hx hb dX9_init_4 rfl (lv_at hl 0 rfl) ?_
  refine lv_sipush (v := 150) hx hb dX9_init_5 (by decide) ?_
  refine k_newa (i := 0) (a0 := (150, .inl (fun _ => 0))) (N' := 150) hX hZ wkn_4 rfl rfl (Or.inl rfl) (fun _ => rfl) (by decide) (by decide) rfl rfl rfl dX9_init_8 (fun q1 H hZ => ?_)
  obtain ⟨r0, er0⟩ : ∃ z : va_W, z = r ++ [(q1, .inl (aC 0, 150, .inl (fun _ => 0)))] := ⟨_, rfl⟩
  have hZ : K_S D A s ((h0, .inr (9, fs)) :: r0) H locs := by rw [er0]; exact hZ
  refine k_putI (ty := tyX9 0) hX hnm hZ (C := RX9) (T := TX9) (N := 44) rfl iw_X9 tyX9 tyX9_ok nmX9 0 rfl (wkn_5) rfl rfl (tyX9_ok 0 (by decide)) rfl rfl (by rw [hf]; rfl) dX9_init_10 (fun H locs hZ => ?_)
  obtain ⟨f0, ef0⟩ : ∃ z : List Value, z = fs.set 0 (.ref q1) := ⟨_, rfl⟩
  have hf0 : f0.length = 44 := by rw [ef0, List.length_set]; exact hf
  have hZ : K_S D A s ((h0, .inr (9, f0)) :: r0) H locs := by rw [ef0]; exact hZ
  refine lv_aload_n hx hb dX9_init_13 rfl (lv_at hl 0 rfl) ?_
  refine lv_sipush (v := 150) hx hb dX9_init_14 (by decide) ?_
  refine k_newa (i := 0) (a0 := (150, .inl (fun _ => 0))) (N' := 150) hX hZ wkn_4 rfl rfl (Or.inl rfl) (fun _ => rfl) (by decide) (by decide) rfl rfl rfl dX9_init_17 (fun q2 H hZ => ?_)
  obtain ⟨r1, er1⟩ : ∃ z : va_W, z = r0 ++ [(q2, .inl (aC 0, 150, .inl (fun _ => 0)))] := ⟨_, rfl⟩
  have hZ : K_S D A s ((h0, .inr (9, f0)) :: r1) H locs := by rw [er1]; exact hZ
  refine k_putI (ty := tyX9 1) hX hnm hZ (C := RX9) (T := TX9) (N := 44) rfl iw_X9 tyX9 tyX9_ok nmX9 1 rfl (wkn_6) rfl rfl (tyX9_ok 1 (by decide)) rfl rfl (by rw [hf0]; rfl) dX9_init_19 (fun H locs hZ => ?_)
  obtain ⟨f1, ef1⟩ : ∃ z : List Value, z = f0.set 1 (.ref q2) := ⟨_, rfl⟩
  have hf1 : f1.length = 44 := by rw [ef1, List.length_set]; exact hf0
  have hZ : K_S D A s ((h0, .inr (9, f1)) :: r1) H locs := by rw [ef1]; exact hZ
  subst ef1 er1 ef0 er0
  exact kk q1 q2 H locs hZ
set_option maxHeartbeats 4000000 in
set_option maxRecDepth 100000 in
theorem i9_1 (hX : K_X p s m args meth c cX9_init 1 WL_ RX9 D aC A) (hnm : meth.name = "<init>") (hl : lv_has ls 1 [(0, .ref h0)]) (fs : List Value) (hf : fs.length = 44) (r : va_W) (hZ : K_S D A s ((h0, .inr (9, fs)) :: r) H locs) (kk : ∀ (q3 q4 : Nat) (H : Heap) (locs : List Loc), K_S D A s ((h0, .inr (9, (List.set (List.set fs 4 (.ref q3)) 5 (.ref q4)))) :: ((r ++ [(q3, .inl (aC 0, 4, .inl ar9_4))]) ++ [(q4, .inl (aC 0, 32, .inl (fun _ => 0)))])) H locs → W p l e (R_i 1 12 28 690) s m args below meth c H locs 4 336 Q (F0 m 53 ls [])) : W p l e (R_i 1 12 28 690) s m args below meth c H locs 2 300 Q (F0 m 22 ls []) := by
  obtain ⟨hx, hb, hml, hown, hts, hK, hA, hlk⟩ := id hX
  refine lv_aload_n hx hb dX9_init_22 rfl (lv_at hl 0 rfl) ?_
  refine lv_iconst (v := 4) hx hb dX9_init_23 (by decide) ?_
  refine k_newa (i := 0) (a0 := (4, .inl (fun _ => 0))) (N' := 4) hX hZ wkn_4 rfl rfl (Or.inl rfl) (fun _ => rfl) (by decide) (by decide) rfl rfl rfl dX9_init_24 (fun q3 H hZ => ?_)
  refine lv_dup hx hb dX9_init_26 rfl ?_
  refine lv_iconst (v := 0) hx hb dX9_init_27 (by decide) ?_
  refine lv_iconst (v := -1) hx hb dX9_init_28 (by decide) ?_
  refine k_istL2 hX hZ 0 (by decide) (by decide) dX9_init_29 (fun H locs hZ => ?_)
  refine lv_dup hx hb dX9_init_30 rfl ?_
  refine lv_iconst (v := 1) hx hb dX9_init_31 (by decide) ?_
  refine lv_iconst (v := -1) hx hb dX9_init_32 (by decide) ?_
  refine k_istL2 hX hZ 1 (by decide) (by decide) dX9_init_33 (fun H locs hZ => ?_)
  refine lv_dup hx hb dX9_init_34 rfl ?_
  refine lv_iconst (v := 2) hx hb dX9_init_35 (by decide) ?_
  refine lv_iconst (v := -1) hx hb dX9_init_36 (by decide) ?_
  refine k_istL2 hX hZ 2 (by decide) (by decide) dX9_init_37 (fun H locs hZ => ?_)
  refine lv_dup hx hb dX9_init_38 rfl ?_
  refine lv_iconst (v := 3) hx hb dX9_init_39 (by decide) ?_
  refine lv_iconst (v := -1) hx hb dX9_init_40 (by decide) ?_
  refine k_istL2 hX hZ 3 (by decide) (by decide) dX9_init_41 (fun H locs hZ => ?_)
  obtain ⟨r2, er2⟩ : ∃ z : va_W, z = r ++ [(q3, .inl (aC 0, 4, .inl ar9_4))] := ⟨_, rfl⟩
  have hZ : K_S D A s ((h0, .inr (9, fs)) :: r2) H locs := by rw [er2]; exact hZ
  refine k_putI (ty := tyX9 4) hX hnm hZ (C := RX9) (T := TX9) (N := 44) rfl iw_X9 tyX9 tyX9_ok nmX9 4 rfl (wkn_7) rfl rfl (tyX9_ok 4 (by decide)) rfl rfl (by rw [hf]; rfl) dX9_init_42 (fun H locs hZ => ?_)
  obtain ⟨f2, ef2⟩ : ∃ z : List Value, z = fs.set 4 (.ref q3) := ⟨_, rfl⟩
  have hf2 : f2.length = 44 := by rw [ef2, List.length_set]; exact hf
  have hZ : K_S D A s ((h0, .inr (9, f2)) :: r2) H locs := by rw [ef2]; exact hZ
  refine lv_aload_n hx hb dX9_init_45 rfl (lv_at hl 0 rfl) ?_
  refine lv_bipush (v := 32) hx hb dX9_init_46 (by decide) ?_
  refine k_newa (i := 0) (a0 := (32, .inl (fun _ => 0))) (N' := 32) hX hZ wkn_4 rfl rfl (Or.inl rfl) (fun _ => rfl) (by decide) (by decide) rfl rfl rfl dX9_init_48 (fun q4 H hZ => ?_)
  obtain ⟨r3, er3⟩ : ∃ z : va_W, z = r2 ++ [(q4, .inl (aC 0, 32, .inl (fun _ => 0)))] := ⟨_, rfl⟩
  have hZ : K_S D A s ((h0, .inr (9, f2)) :: r3) H locs := by rw [er3]; exact hZ
  refine k_putI (ty := tyX9 5) hX hnm hZ (C := RX9) (T := TX9) (N := 44) rfl iw_X9 tyX9 tyX9_ok nmX9 5 rfl (wkn_8) rfl rfl (tyX9_ok 5 (by decide)) rfl rfl (by rw [hf2]; rfl) dX9_init_50 (fun H locs hZ => ?_)
  obtain ⟨f3, ef3⟩ : ∃ z : List Value, z = f2.set 5 (.ref q4) := ⟨_, rfl⟩
  have hf3 : f3.length = 44 := by rw [ef3, List.length_set]; exact hf2
  have hZ : K_S D A s ((h0, .inr (9, f3)) :: r3) H locs := by rw [ef3]; exact hZ
  subst ef3 er3 ef2 er2
  exact kk q3 q4 H locs hZ
set_option maxHeartbeats 4000000 in
set_option maxRecDepth 100000 in
theorem i9_2 (hX : K_X p s m args meth c cX9_init 1 WL_ RX9 D aC A) (hnm : meth.name = "<init>") (hl : lv_has ls 1 [(0, .ref h0)]) (fs : List Value) (hf : fs.length = 44) (r : va_W) (hZ : K_S D A s ((h0, .inr (9, fs)) :: r) H locs) (kk : ∀ (q5 q6 q7 q8 q9 q10 : Nat) (H : Heap) (locs : List Loc), K_S D A s ((h0, .inr (9, (List.set (List.set (List.set (List.set (List.set (List.set fs 7 (.ref q5)) 8 (.ref q6)) 9 (.ref q7)) 12 (.ref q8)) 13 (.ref q9)) 14 (.ref q10)))) :: ((((((r ++ [(q5, .inl (aC 0, 8, .inl (fun _ => 0)))]) ++ [(q6, .inl (aC 1, 2, .inl (fun _ => 0)))]) ++ [(q7, .inl (aC 0, 200, .inl (fun _ => 0)))]) ++ [(q8, .inl (aC 0, 6, .inl (fun _ => 0)))]) ++ [(q9, .inl (aC 0, 6, .inl (fun _ => 0)))]) ++ [(q10, .inl (aC 0, 6, .inl (fun _ => 0)))])) H locs → W p l e (R_i 1 12 28 690) s m args below meth c H locs 10 564 Q (F0 m 101 ls [])) : W p l e (R_i 1 12 28 690) s m args below meth c H locs 4 336 Q (F0 m 53 ls []) := by
  obtain ⟨hx, hb, hml, hown, hts, hK, hA, hlk⟩ := id hX
  refine lv_aload_n hx hb dX9_init_53 rfl (lv_at hl 0 rfl) ?_
  refine lv_bipush (v := 8) hx hb dX9_init_54 (by decide) ?_
  refine k_newa (i := 0) (a0 := (8, .inl (fun _ => 0))) (N' := 8) hX hZ wkn_4 rfl rfl (Or.inl rfl) (fun _ => rfl) (by decide) (by decide) rfl rfl rfl dX9_init_56 (fun q5 H hZ => ?_)
  obtain ⟨r4, er4⟩ : ∃ z : va_W, z = r ++ [(q5, .inl (aC 0, 8, .inl (fun _ => 0)))] := ⟨_, rfl⟩
  have hZ : K_S D A s ((h0, .inr (9, fs)) :: r4) H locs := by rw [er4]; exact hZ
  refine k_putI (ty := tyX9 7) hX hnm hZ (C := RX9) (T := TX9) (N := 44) rfl iw_X9 tyX9 tyX9_ok nmX9 7 rfl (wkn_9) rfl rfl (tyX9_ok 7 (by decide)) rfl rfl (by rw [hf]; rfl) dX9_init_58 (fun H locs hZ => ?_)
  obtain ⟨f4, ef4⟩ : ∃ z : List Value, z = fs.set 7 (.ref q5) := ⟨_, rfl⟩
  have hf4 : f4.length = 44 := by rw [ef4, List.length_set]; exact hf
  have hZ : K_S D A s ((h0, .inr (9, f4)) :: r4) H locs := by rw [ef4]; exact hZ
  refine lv_aload_n hx hb dX9_init_61 rfl (lv_at hl 0 rfl) ?_
  refine lv_iconst (v := 2) hx hb dX9_init_62 (by decide) ?_
  refine k_newa (i := 1) (a0 := (2, .inl (fun _ => 0))) (N' := 2) hX hZ wkn_10 rfl rfl (Or.inr (Or.inl rfl)) (fun _ => rfl) (by decide) (by decide) rfl rfl rfl dX9_init_63 (fun q6 H hZ => ?_)
  obtain ⟨r5, er5⟩ : ∃ z : va_W, z = r4 ++ [(q6, .inl (aC 1, 2, .inl (fun _ => 0)))] := ⟨_, rfl⟩
  have hZ : K_S D A s ((h0, .inr (9, f4)) :: r5) H locs := by rw [er5]; exact hZ
  refine k_putI (ty := tyX9 8) hX hnm hZ (C := RX9) (T := TX9) (N := 44) rfl iw_X9 tyX9 tyX9_ok nmX9 8 rfl (wkn_11) rfl rfl (tyX9_ok 8 (by decide)) rfl rfl (by rw [hf4]; rfl) dX9_init_65 (fun H locs hZ => ?_)
  obtain ⟨f5, ef5⟩ : ∃ z : List Value, z = f4.set 8 (.ref q6) := ⟨_, rfl⟩
  have hf5 : f5.length = 44 := by rw [ef5, List.length_set]; exact hf4
  have hZ : K_S D A s ((h0, .inr (9, f5)) :: r5) H locs := by rw [ef5]; exact hZ
  refine lv_aload_n hx hb dX9_init_68 rfl (lv_at hl 0 rfl) ?_
  refine lv_sipush (v := 200) hx hb dX9_init_69 (by decide) ?_
  refine k_newa (i := 0) (a0 := (200, .inl (fun _ => 0))) (N' := 200) hX hZ wkn_4 rfl rfl (Or.inl rfl) (fun _ => rfl) (by decide) (by decide) rfl rfl rfl dX9_init_72 (fun q7 H hZ => ?_)
  obtain ⟨r6, er6⟩ : ∃ z : va_W, z = r5 ++ [(q7, .inl (aC 0, 200, .inl (fun _ => 0)))] := ⟨_, rfl⟩
  have hZ : K_S D A s ((h0, .inr (9, f5)) :: r6) H locs := by rw [er6]; exact hZ
  refine k_putI (ty := tyX9 9) hX hnm hZ (C := RX9) (T := TX9) (N := 44) rfl iw_X9 tyX9 tyX9_ok nmX9 9 rfl (wkn_12) rfl rfl (tyX9_ok 9 (by decide)) rfl rfl (by rw [hf5]; rfl) dX9_init_74 (fun H locs hZ => ?_)
  obtain ⟨f6, ef6⟩ : ∃ z : List Value, z = f5.set 9 (.ref q7) := ⟨_, rfl⟩
  have hf6 : f6.length = 44 := by rw [ef6, List.length_set]; exact hf5
  have hZ : K_S D A s ((h0, .inr (9, f6)) :: r6) H locs := by rw [ef6]; exact hZ
  refine lv_aload_n hx hb dX9_init_77 rfl (lv_at hl 0 rfl) ?_
  refine lv_bipush (v := 6) hx hb dX9_init_78 (by decide) ?_
  refine k_newa (i := 0) (a0 := (6, .inl (fun _ => 0))) (N' := 6) hX hZ wkn_4 rfl rfl (Or.inl rfl) (fun _ => rfl) (by decide) (by decide) rfl rfl rfl dX9_init_80 (fun q8 H hZ => ?_)
  obtain ⟨r7, er7⟩ : ∃ z : va_W, z = r6 ++ [(q8, .inl (aC 0, 6, .inl (fun _ => 0)))] := ⟨_, rfl⟩
  have hZ : K_S D A s ((h0, .inr (9, f6)) :: r7) H locs := by rw [er7]; exact hZ
  refine k_putI (ty := tyX9 12) hX hnm hZ (C := RX9) (T := TX9) (N := 44) rfl iw_X9 tyX9 tyX9_ok nmX9 12 rfl (wkn_13) rfl rfl (tyX9_ok 12 (by decide)) rfl rfl (by rw [hf6]; rfl) dX9_init_82 (fun H locs hZ => ?_)
  obtain ⟨f7, ef7⟩ : ∃ z : List Value, z = f6.set 12 (.ref q8) := ⟨_, rfl⟩
  have hf7 : f7.length = 44 := by rw [ef7, List.length_set]; exact hf6
  have hZ : K_S D A s ((h0, .inr (9, f7)) :: r7) H locs := by rw [ef7]; exact hZ
  refine lv_aload_n hx hb dX9_init_85 rfl (lv_at hl 0 rfl) ?_
  refine lv_bipush (v := 6) hx hb dX9_init_86 (by decide) ?_
  refine k_newa (i := 0) (a0 := (6, .inl (fun _ => 0))) (N' := 6) hX hZ wkn_4 rfl rfl (Or.inl rfl) (fun _ => rfl) (by decide) (by decide) rfl rfl rfl dX9_init_88 (fun q9 H hZ => ?_)
  obtain ⟨r8, er8⟩ : ∃ z : va_W, z = r7 ++ [(q9, .inl (aC 0, 6, .inl (fun _ => 0)))] := ⟨_, rfl⟩
  have hZ : K_S D A s ((h0, .inr (9, f7)) :: r8) H locs := by rw [er8]; exact hZ
  refine k_putI (ty := tyX9 13) hX hnm hZ (C := RX9) (T := TX9) (N := 44) rfl iw_X9 tyX9 tyX9_ok nmX9 13 rfl (wkn_14) rfl rfl (tyX9_ok 13 (by decide)) rfl rfl (by rw [hf7]; rfl) dX9_init_90 (fun H locs hZ => ?_)
  obtain ⟨f8, ef8⟩ : ∃ z : List Value, z = f7.set 13 (.ref q9) := ⟨_, rfl⟩
  have hf8 : f8.length = 44 := by rw [ef8, List.length_set]; exact hf7
  have hZ : K_S D A s ((h0, .inr (9, f8)) :: r8) H locs := by rw [ef8]; exact hZ
  refine lv_aload_n hx hb dX9_init_93 rfl (lv_at hl 0 rfl) ?_
  refine lv_bipush (v := 6) hx hb dX9_init_94 (by decide) ?_
  refine k_newa (i := 0) (a0 := (6, .inl (fun _ => 0))) (N' := 6) hX hZ wkn_4 rfl rfl (Or.inl rfl) (fun _ => rfl) (by decide) (by decide) rfl rfl rfl dX9_init_96 (fun q10 H hZ => ?_)
  obtain ⟨r9, er9⟩ : ∃ z : va_W, z = r8 ++ [(q10, .inl (aC 0, 6, .inl (fun _ => 0)))] := ⟨_, rfl⟩
  have hZ : K_S D A s ((h0, .inr (9, f8)) :: r9) H locs := by rw [er9]; exact hZ
  refine k_putI (ty := tyX9 14) hX hnm hZ (C := RX9) (T := TX9) (N := 44) rfl iw_X9 tyX9 tyX9_ok nmX9 14 rfl (wkn_15) rfl rfl (tyX9_ok 14 (by decide)) rfl rfl (by rw [hf8]; rfl) dX9_init_98 (fun H locs hZ => ?_)
  obtain ⟨f9, ef9⟩ : ∃ z : List Value, z = f8.set 14 (.ref q10) := ⟨_, rfl⟩
  have hf9 : f9.length = 44 := by rw [ef9, List.length_set]; exact hf8
  have hZ : K_S D A s ((h0, .inr (9, f9)) :: r9) H locs := by rw [ef9]; exact hZ
  subst ef9 er9 ef8 er8 ef7 er7 ef6 er6 ef5 er5 ef4 er4
  exact kk q5 q6 q7 q8 q9 q10 H locs hZ
set_option maxHeartbeats 4000000 in
set_option maxRecDepth 100000 in
theorem i9_3 (hX : K_X p s m args meth c cX9_init 1 WL_ RX9 D aC A) (hnm : meth.name = "<init>") (hl : lv_has ls 1 [(0, .ref h0)]) (fs : List Value) (hf : fs.length = 44) (r : va_W) (hZ : K_S D A s ((h0, .inr (9, fs)) :: r) H locs) (kk : ∀ (q11 q12 q13 : Nat) (H : Heap) (locs : List Loc), K_S D A s ((h0, .inr (9, (List.set (List.set (List.set fs 15 (.ref q11)) 16 (.ref q12)) 17 (.ref q13)))) :: (((r ++ [(q11, .inl (aC 0, 3, .inl (fun _ => 0)))]) ++ [(q12, .inl (aC 0, 3, .inl ar9_16))]) ++ [(q13, .inl (aC 0, 30, .inl (fun _ => 0)))])) H locs → W p l e (R_i 1 12 28 690) s m args below meth c H locs 13 600 Q (F0 m 135 ls [])) : W p l e (R_i 1 12 28 690) s m args below meth c H locs 10 564 Q (F0 m 101 ls []) := by
  obtain ⟨hx, hb, hml, hown, hts, hK, hA, hlk⟩ := id hX
  refine lv_aload_n hx hb dX9_init_101 rfl (lv_at hl 0 rfl) ?_
  refine lv_iconst (v := 3) hx hb dX9_init_102 (by decide) ?_
  refine k_newa (i := 0) (a0 := (3, .inl (fun _ => 0))) (N' := 3) hX hZ wkn_4 rfl rfl (Or.inl rfl) (fun _ => rfl) (by decide) (by decide) rfl rfl rfl dX9_init_103 (fun q11 H hZ => ?_)
  obtain ⟨r10, er10⟩ : ∃ z : va_W, z = r ++ [(q11, .inl (aC 0, 3, .inl (fun _ => 0)))] := ⟨_, rfl⟩
  have hZ : K_S D A s ((h0, .inr (9, fs)) :: r10) H locs := by rw [er10]; exact hZ
  refine k_putI (ty := tyX9 15) hX hnm hZ (C := RX9) (T := TX9) (N := 44) rfl iw_X9 tyX9 tyX9_ok nmX9 15 rfl (wkn_16) rfl rfl (tyX9_ok 15 (by decide)) rfl rfl (by rw [hf]; rfl) dX9_init_105 (fun H locs hZ => ?_)
  obtain ⟨f10, ef10⟩ : ∃ z : List Value, z = fs.set 15 (.ref q11) := ⟨_, rfl⟩
  have hf10 : f10.length = 44 := by rw [ef10, List.length_set]; exact hf
  have hZ : K_S D A s ((h0, .inr (9, f10)) :: r10) H locs := by rw [ef10]; exact hZ
  refine lv_aload_n hx hb dX9_init_108 rfl (lv_at hl 0 rfl) ?_
  refine lv_iconst (v := 3) hx hb dX9_init_109 (by decide) ?_
  refine k_newa (i := 0) (a0 := (3, .inl (fun _ => 0))) (N' := 3) hX hZ wkn_4 rfl rfl (Or.inl rfl) (fun _ => rfl) (by decide) (by decide) rfl rfl rfl dX9_init_110 (fun q12 H hZ => ?_)
  refine lv_dup hx hb dX9_init_112 rfl ?_
  refine lv_iconst (v := 0) hx hb dX9_init_113 (by decide) ?_
  refine lv_iconst (v := -1) hx hb dX9_init_114 (by decide) ?_
  refine k_istL2 hX hZ 0 (by decide) (by decide) dX9_init_115 (fun H locs hZ => ?_)
  refine lv_dup hx hb dX9_init_116 rfl ?_
  refine lv_iconst (v := 1) hx hb dX9_init_117 (by decide) ?_
  refine lv_iconst (v := -1) hx hb dX9_init_118 (by decide) ?_
  refine k_istL2 hX hZ 1 (by decide) (by decide) dX9_init_119 (fun H locs hZ => ?_)
  refine lv_dup hx hb dX9_init_120 rfl ?_
  refine lv_iconst (v := 2) hx hb dX9_init_121 (by decide) ?_
  refine lv_iconst (v := -1) hx hb dX9_init_122 (by decide) ?_
  refine k_istL2 hX hZ 2 (by decide) (by decide) dX9_init_123 (fun H locs hZ => ?_)
  obtain ⟨r11, er11⟩ : ∃ z : va_W, z = r10 ++ [(q12, .inl (aC 0, 3, .inl ar9_16))] := ⟨_, rfl⟩
  have hZ : K_S D A s ((h0, .inr (9, f10)) :: r11) H locs := by rw [er11]; exact hZ
  refine k_putI (ty := tyX9 16) hX hnm hZ (C := RX9) (T := TX9) (N := 44) rfl iw_X9 tyX9 tyX9_ok nmX9 16 rfl (wkn_17) rfl rfl (tyX9_ok 16 (by decide)) rfl rfl (by rw [hf10]; rfl) dX9_init_124 (fun H locs hZ => ?_)
  obtain ⟨f11, ef11⟩ : ∃ z : List Value, z = f10.set 16 (.ref q12) := ⟨_, rfl⟩
  have hf11 : f11.length = 44 := by rw [ef11, List.length_set]; exact hf10
  have hZ : K_S D A s ((h0, .inr (9, f11)) :: r11) H locs := by rw [ef11]; exact hZ
  refine lv_aload_n hx hb dX9_init_127 rfl (lv_at hl 0 rfl) ?_
  refine lv_bipush (v := 30) hx hb dX9_init_128 (by decide) ?_
  refine k_newa (i := 0) (a0 := (30, .inl (fun _ => 0))) (N' := 30) hX hZ wkn_4 rfl rfl (Or.inl rfl) (fun _ => rfl) (by decide) (by decide) rfl rfl rfl dX9_init_130 (fun q13 H hZ => ?_)
  obtain ⟨r12, er12⟩ : ∃ z : va_W, z = r11 ++ [(q13, .inl (aC 0, 30, .inl (fun _ => 0)))] := ⟨_, rfl⟩
  have hZ : K_S D A s ((h0, .inr (9, f11)) :: r12) H locs := by rw [er12]; exact hZ
  refine k_putI (ty := tyX9 17) hX hnm hZ (C := RX9) (T := TX9) (N := 44) rfl iw_X9 tyX9 tyX9_ok nmX9 17 rfl (wkn_18) rfl rfl (tyX9_ok 17 (by decide)) rfl rfl (by rw [hf11]; rfl) dX9_init_132 (fun H locs hZ => ?_)
  obtain ⟨f12, ef12⟩ : ∃ z : List Value, z = f11.set 17 (.ref q13) := ⟨_, rfl⟩
  have hf12 : f12.length = 44 := by rw [ef12, List.length_set]; exact hf11
  have hZ : K_S D A s ((h0, .inr (9, f12)) :: r12) H locs := by rw [ef12]; exact hZ
  subst ef12 er12 ef11 er11 ef10 er10
  exact kk q11 q12 q13 H locs hZ
set_option maxHeartbeats 4000000 in
set_option maxRecDepth 100000 in
theorem i9_4 (hX : K_X p s m args meth c cX9_init 1 WL_ RX9 D aC A) (hnm : meth.name = "<init>") (hl : lv_has ls 1 [(0, .ref h0)]) (fs : List Value) (hf : fs.length = 44) (r : va_W) (hZ : K_S D A s ((h0, .inr (9, fs)) :: r) H locs) (kk : ∀ (q14 : Nat) (H : Heap) (locs : List Loc), K_S D A s ((h0, .inr (9, (List.set fs 22 (.ref q14)))) :: (r ++ [(q14, .inl (aC 0, 7, .inl ar9_22))])) H locs → W p l e (R_i 1 12 28 690) s m args below meth c H locs 14 607 Q (F0 m 179 ls [])) : W p l e (R_i 1 12 28 690) s m args below meth c H locs 13 600 Q (F0 m 135 ls []) := by
  obtain ⟨hx, hb, hml, hown, hts, hK, hA, hlk⟩ := id hX
  refine lv_aload_n hx hb dX9_init_135 rfl (lv_at hl 0 rfl) ?_
  refine lv_bipush (v := 7) hx hb dX9_init_136 (by decide) ?_
  refine k_newa (i := 0) (a0 := (7, .inl (fun _ => 0))) (N' := 7) hX hZ wkn_4 rfl rfl (Or.inl rfl) (fun _ => rfl) (by decide) (by decide) rfl rfl rfl dX9_init_138 (fun q14 H hZ => ?_)
  refine lv_dup hx hb dX9_init_140 rfl ?_
  refine lv_iconst (v := 0) hx hb dX9_init_141 (by decide) ?_
  refine lv_bipush (v := 112) hx hb dX9_init_142 (by decide) ?_
  refine k_istL2 hX hZ 0 (by decide) (by decide) dX9_init_144 (fun H locs hZ => ?_)
  refine lv_dup hx hb dX9_init_145 rfl ?_
  refine lv_iconst (v := 1) hx hb dX9_init_146 (by decide) ?_
  refine lv_bipush (v := 114) hx hb dX9_init_147 (by decide) ?_
  refine k_istL2 hX hZ 1 (by decide) (by decide) dX9_init_149 (fun H locs hZ => ?_)
  refine lv_dup hx hb dX9_init_150 rfl ?_
  refine lv_iconst (v := 2) hx hb dX9_init_151 (by decide) ?_
  refine lv_bipush (v := 111) hx hb dX9_init_152 (by decide) ?_
  refine k_istL2 hX hZ 2 (by decide) (by decide) dX9_init_154 (fun H locs hZ => ?_)
  refine lv_dup hx hb dX9_init_155 rfl ?_
  refine lv_iconst (v := 3) hx hb dX9_init_156 (by decide) ?_
  refine lv_bipush (v := 103) hx hb dX9_init_157 (by decide) ?_
  refine k_istL2 hX hZ 3 (by decide) (by decide) dX9_init_159 (fun H locs hZ => ?_)
  refine lv_dup hx hb dX9_init_160 rfl ?_
  refine lv_iconst (v := 4) hx hb dX9_init_161 (by decide) ?_
  refine lv_bipush (v := 114) hx hb dX9_init_162 (by decide) ?_
  refine k_istL2 hX hZ 4 (by decide) (by decide) dX9_init_164 (fun H locs hZ => ?_)
  refine lv_dup hx hb dX9_init_165 rfl ?_
  refine lv_iconst (v := 5) hx hb dX9_init_166 (by decide) ?_
  refine lv_bipush (v := 97) hx hb dX9_init_167 (by decide) ?_
  refine k_istL2 hX hZ 5 (by decide) (by decide) dX9_init_169 (fun H locs hZ => ?_)
  refine lv_dup hx hb dX9_init_170 rfl ?_
  refine lv_bipush (v := 6) hx hb dX9_init_171 (by decide) ?_
  refine lv_bipush (v := 109) hx hb dX9_init_173 (by decide) ?_
  refine k_istL2 hX hZ 6 (by decide) (by decide) dX9_init_175 (fun H locs hZ => ?_)
  obtain ⟨r13, er13⟩ : ∃ z : va_W, z = r ++ [(q14, .inl (aC 0, 7, .inl ar9_22))] := ⟨_, rfl⟩
  have hZ : K_S D A s ((h0, .inr (9, fs)) :: r13) H locs := by rw [er13]; exact hZ
  refine k_putI (ty := tyX9 22) hX hnm hZ (C := RX9) (T := TX9) (N := 44) rfl iw_X9 tyX9 tyX9_ok nmX9 22 rfl (wkn_19) rfl rfl (tyX9_ok 22 (by decide)) rfl rfl (by rw [hf]; rfl) dX9_init_176 (fun H locs hZ => ?_)
  obtain ⟨f13, ef13⟩ : ∃ z : List Value, z = fs.set 22 (.ref q14) := ⟨_, rfl⟩
  have hf13 : f13.length = 44 := by rw [ef13, List.length_set]; exact hf
  have hZ : K_S D A s ((h0, .inr (9, f13)) :: r13) H locs := by rw [ef13]; exact hZ
  subst ef13 er13
  exact kk q14 H locs hZ
set_option maxHeartbeats 4000000 in
set_option maxRecDepth 100000 in
theorem i9_5 (hX : K_X p s m args meth c cX9_init 1 WL_ RX9 D aC A) (hnm : meth.name = "<init>") (hl : lv_has ls 1 [(0, .ref h0)]) (fs : List Value) (hf : fs.length = 44) (r : va_W) (hZ : K_S D A s ((h0, .inr (9, fs)) :: r) H locs) (kk : ∀ (q15 : Nat) (H : Heap) (locs : List Loc), K_S D A s ((h0, .inr (9, (List.set fs 23 (.ref q15)))) :: (r ++ [(q15, .inl (aC 0, 5, .inl ar9_23))])) H locs → W p l e (R_i 1 12 28 690) s m args below meth c H locs 15 612 Q (F0 m 211 ls [])) : W p l e (R_i 1 12 28 690) s m args below meth c H locs 14 607 Q (F0 m 179 ls []) := by
  obtain ⟨hx, hb, hml, hown, hts, hK, hA, hlk⟩ := id hX
  refine lv_aload_n hx hb dX9_init_179 rfl (lv_at hl 0 rfl) ?_
  refine lv_iconst (v := 5) hx hb dX9_init_180 (by decide) ?_
  refine k_newa (i := 0) (a0 := (5, .inl (fun _ => 0))) (N' := 5) hX hZ wkn_4 rfl rfl (Or.inl rfl) (fun _ => rfl) (by decide) (by decide) rfl rfl rfl dX9_init_181 (fun q15 H hZ => ?_)
  refine lv_dup hx hb dX9_init_183 rfl ?_
  refine lv_iconst (v := 0) hx hb dX9_init_184 (by decide) ?_
  refine lv_bipush (v := 115) hx hb dX9_init_185 (by decide) ?_
  refine k_istL2 hX hZ 0 (by decide) (by decide) dX9_init_187 (fun H locs hZ => ?_)
  refine lv_dup hx hb dX9_init_188 rfl ?_
  refine lv_iconst (v := 1) hx hb dX9_init_189 (by decide) ?_
  refine lv_bipush (v := 104) hx hb dX9_init_190 (by decide) ?_
  refine k_istL2 hX hZ 1 (by decide) (by decide) dX9_init_192 (fun H locs hZ => ?_)
  refine lv_dup hx hb dX9_init_193 rfl ?_
  refine lv_iconst (v := 2) hx hb dX9_init_194 (by decide) ?_
  refine lv_bipush (v := 97) hx hb dX9_init_195 (by decide) ?_
  refine k_istL2 hX hZ 2 (by decide) (by decide) dX9_init_197 (fun H locs hZ => ?_)
  refine lv_dup hx hb dX9_init_198 rfl ?_
  refine lv_iconst (v := 3) hx hb dX9_init_199 (by decide) ?_
  refine lv_bipush (v := 112) hx hb dX9_init_200 (by decide) ?_
  refine k_istL2 hX hZ 3 (by decide) (by decide) dX9_init_202 (fun H locs hZ => ?_)
  refine lv_dup hx hb dX9_init_203 rfl ?_
  refine lv_iconst (v := 4) hx hb dX9_init_204 (by decide) ?_
  refine lv_bipush (v := 101) hx hb dX9_init_205 (by decide) ?_
  refine k_istL2 hX hZ 4 (by decide) (by decide) dX9_init_207 (fun H locs hZ => ?_)
  obtain ⟨r14, er14⟩ : ∃ z : va_W, z = r ++ [(q15, .inl (aC 0, 5, .inl ar9_23))] := ⟨_, rfl⟩
  have hZ : K_S D A s ((h0, .inr (9, fs)) :: r14) H locs := by rw [er14]; exact hZ
  refine k_putI (ty := tyX9 23) hX hnm hZ (C := RX9) (T := TX9) (N := 44) rfl iw_X9 tyX9 tyX9_ok nmX9 23 rfl (wkn_20) rfl rfl (tyX9_ok 23 (by decide)) rfl rfl (by rw [hf]; rfl) dX9_init_208 (fun H locs hZ => ?_)
  obtain ⟨f14, ef14⟩ : ∃ z : List Value, z = fs.set 23 (.ref q15) := ⟨_, rfl⟩
  have hf14 : f14.length = 44 := by rw [ef14, List.length_set]; exact hf
  have hZ : K_S D A s ((h0, .inr (9, f14)) :: r14) H locs := by rw [ef14]; exact hZ
  subst ef14 er14
  exact kk q15 H locs hZ
set_option maxHeartbeats 4000000 in
set_option maxRecDepth 100000 in
theorem i9_6 (hX : K_X p s m args meth c cX9_init 1 WL_ RX9 D aC A) (hnm : meth.name = "<init>") (hl : lv_has ls 1 [(0, .ref h0)]) (fs : List Value) (hf : fs.length = 44) (r : va_W) (hZ : K_S D A s ((h0, .inr (9, fs)) :: r) H locs) (kk : ∀ (q16 : Nat) (H : Heap) (locs : List Loc), K_S D A s ((h0, .inr (9, (List.set fs 24 (.ref q16)))) :: (r ++ [(q16, .inl (aC 0, 4, .inl ar9_24))])) H locs → W p l e (R_i 1 12 28 690) s m args below meth c H locs 16 616 Q (F0 m 238 ls [])) : W p l e (R_i 1 12 28 690) s m args below meth c H locs 15 612 Q (F0 m 211 ls []) := by
  obtain ⟨hx, hb, hml, hown, hts, hK, hA, hlk⟩ := id hX
  refine lv_aload_n hx hb dX9_init_211 rfl (lv_at hl 0 rfl) ?_
  refine lv_iconst (v := 4) hx hb dX9_init_212 (by decide) ?_
  refine k_newa (i := 0) (a0 := (4, .inl (fun _ => 0))) (N' := 4) hX hZ wkn_4 rfl rfl (Or.inl rfl) (fun _ => rfl) (by decide) (by decide) rfl rfl rfl dX9_init_213 (fun q16 H hZ => ?_)
  refine lv_dup hx hb dX9_init_215 rfl ?_
  refine lv_iconst (v := 0) hx hb dX9_init_216 (by decide) ?_
  refine lv_bipush (v := 101) hx hb dX9_init_217 (by decide) ?_
  refine k_istL2 hX hZ 0 (by decide) (by decide) dX9_init_219 (fun H locs hZ => ?_)
  refine lv_dup hx hb dX9_init_220 rfl ?_
  refine lv_iconst (v := 1) hx hb dX9_init_221 (by decide) ?_
  refine lv_bipush (v := 97) hx hb dX9_init_222 (by decide) ?_
  refine k_istL2 hX hZ 1 (by decide) (by decide) dX9_init_224 (fun H locs hZ => ?_)
  refine lv_dup hx hb dX9_init_225 rfl ?_
  refine lv_iconst (v := 2) hx hb dX9_init_226 (by decide) ?_
  refine lv_bipush (v := 99) hx hb dX9_init_227 (by decide) ?_
  refine k_istL2 hX hZ 2 (by decide) (by decide) dX9_init_229 (fun H locs hZ => ?_)
  refine lv_dup hx hb dX9_init_230 rfl ?_
  refine lv_iconst (v := 3) hx hb dX9_init_231 (by decide) ?_
  refine lv_bipush (v := 104) hx hb dX9_init_232 (by decide) ?_
  refine k_istL2 hX hZ 3 (by decide) (by decide) dX9_init_234 (fun H locs hZ => ?_)
  obtain ⟨r15, er15⟩ : ∃ z : va_W, z = r ++ [(q16, .inl (aC 0, 4, .inl ar9_24))] := ⟨_, rfl⟩
  have hZ : K_S D A s ((h0, .inr (9, fs)) :: r15) H locs := by rw [er15]; exact hZ
  refine k_putI (ty := tyX9 24) hX hnm hZ (C := RX9) (T := TX9) (N := 44) rfl iw_X9 tyX9 tyX9_ok nmX9 24 rfl (wkn_21) rfl rfl (tyX9_ok 24 (by decide)) rfl rfl (by rw [hf]; rfl) dX9_init_235 (fun H locs hZ => ?_)
  obtain ⟨f15, ef15⟩ : ∃ z : List Value, z = fs.set 24 (.ref q16) := ⟨_, rfl⟩
  have hf15 : f15.length = 44 := by rw [ef15, List.length_set]; exact hf
  have hZ : K_S D A s ((h0, .inr (9, f15)) :: r15) H locs := by rw [ef15]; exact hZ
  subst ef15 er15
  exact kk q16 H locs hZ
set_option maxHeartbeats 4000000 in
set_option maxRecDepth 100000 in
theorem i9_7 (hX : K_X p s m args meth c cX9_init 1 WL_ RX9 D aC A) (hnm : meth.name = "<init>") (hl : lv_has ls 1 [(0, .ref h0)]) (fs : List Value) (hf : fs.length = 44) (r : va_W) (hZ : K_S D A s ((h0, .inr (9, fs)) :: r) H locs) (kk : ∀ (q17 : Nat) (H : Heap) (locs : List Loc), K_S D A s ((h0, .inr (9, (List.set fs 25 (.ref q17)))) :: (r ++ [(q17, .inl (aC 0, 4, .inl ar9_25))])) H locs → W p l e (R_i 1 12 28 690) s m args below meth c H locs 17 620 Q (F0 m 265 ls [])) : W p l e (R_i 1 12 28 690) s m args below meth c H locs 16 616 Q (F0 m 238 ls []) := by
  obtain ⟨hx, hb, hml, hown, hts, hK, hA, hlk⟩ := id hX
  refine lv_aload_n hx hb dX9_init_238 rfl (lv_at hl 0 rfl) ?_
  refine lv_iconst (v := 4) hx hb dX9_init_239 (by decide) ?_
  refine k_newa (i := 0) (a0 := (4, .inl (fun _ => 0))) (N' := 4) hX hZ wkn_4 rfl rfl (Or.inl rfl) (fun _ => rfl) (by decide) (by decide) rfl rfl rfl dX9_init_240 (fun q17 H hZ => ?_)
  refine lv_dup hx hb dX9_init_242 rfl ?_
  refine lv_iconst (v := 0) hx hb dX9_init_243 (by decide) ?_
  refine lv_bipush (v := 106) hx hb dX9_init_244 (by decide) ?_
  refine k_istL2 hX hZ 0 (by decide) (by decide) dX9_init_246 (fun H locs hZ => ?_)
  refine lv_dup hx hb dX9_init_247 rfl ?_
  refine lv_iconst (v := 1) hx hb dX9_init_248 (by decide) ?_
  refine lv_bipush (v := 111) hx hb dX9_init_249 (by decide) ?_
  refine k_istL2 hX hZ 1 (by decide) (by decide) dX9_init_251 (fun H locs hZ => ?_)
  refine lv_dup hx hb dX9_init_252 rfl ?_
  refine lv_iconst (v := 2) hx hb dX9_init_253 (by decide) ?_
  refine lv_bipush (v := 105) hx hb dX9_init_254 (by decide) ?_
  refine k_istL2 hX hZ 2 (by decide) (by decide) dX9_init_256 (fun H locs hZ => ?_)
  refine lv_dup hx hb dX9_init_257 rfl ?_
  refine lv_iconst (v := 3) hx hb dX9_init_258 (by decide) ?_
  refine lv_bipush (v := 110) hx hb dX9_init_259 (by decide) ?_
  refine k_istL2 hX hZ 3 (by decide) (by decide) dX9_init_261 (fun H locs hZ => ?_)
  obtain ⟨r16, er16⟩ : ∃ z : va_W, z = r ++ [(q17, .inl (aC 0, 4, .inl ar9_25))] := ⟨_, rfl⟩
  have hZ : K_S D A s ((h0, .inr (9, fs)) :: r16) H locs := by rw [er16]; exact hZ
  refine k_putI (ty := tyX9 25) hX hnm hZ (C := RX9) (T := TX9) (N := 44) rfl iw_X9 tyX9 tyX9_ok nmX9 25 rfl (wkn_22) rfl rfl (tyX9_ok 25 (by decide)) rfl rfl (by rw [hf]; rfl) dX9_init_262 (fun H locs hZ => ?_)
  obtain ⟨f16, ef16⟩ : ∃ z : List Value, z = fs.set 25 (.ref q17) := ⟨_, rfl⟩
  have hf16 : f16.length = 44 := by rw [ef16, List.length_set]; exact hf
  have hZ : K_S D A s ((h0, .inr (9, f16)) :: r16) H locs := by rw [ef16]; exact hZ
  subst ef16 er16
  exact kk q17 H locs hZ
set_option maxHeartbeats 4000000 in
set_option maxRecDepth 100000 in
theorem i9_8 (hX : K_X p s m args meth c cX9_init 1 WL_ RX9 D aC A) (hnm : meth.name = "<init>") (hl : lv_has ls 1 [(0, .ref h0)]) (fs : List Value) (hf : fs.length = 44) (r : va_W) (hZ : K_S D A s ((h0, .inr (9, fs)) :: r) H locs) (kk : ∀ (q18 : Nat) (H : Heap) (locs : List Loc), K_S D A s ((h0, .inr (9, (List.set fs 26 (.ref q18)))) :: (r ++ [(q18, .inl (aC 0, 4, .inl ar9_26))])) H locs → W p l e (R_i 1 12 28 690) s m args below meth c H locs 18 624 Q (F0 m 292 ls [])) : W p l e (R_i 1 12 28 690) s m args below meth c H locs 17 620 Q (F0 m 265 ls []) := by
  obtain ⟨hx, hb, hml, hown, hts, hK, hA, hlk⟩ := id hX
  refine lv_aload_n hx hb dX9_init_265 rfl (lv_at hl 0 rfl) ?_
  refine lv_iconst (v := 4) hx hb dX9_init_266 (by decide) ?_
  refine k_newa (i := 0) (a0 := (4, .inl (fun _ => 0))) (N' := 4) hX hZ wkn_4 rfl rfl (Or.inl rfl) (fun _ => rfl) (by decide) (by decide) rfl rfl rfl dX9_init_267 (fun q18 H hZ => ?_)
  refine lv_dup hx hb dX9_init_269 rfl ?_
  refine lv_iconst (v := 0) hx hb dX9_init_270 (by decide) ?_
  refine lv_bipush (v := 116) hx hb dX9_init_271 (by decide) ?_
  refine k_istL2 hX hZ 0 (by decide) (by decide) dX9_init_273 (fun H locs hZ => ?_)
  refine lv_dup hx hb dX9_init_274 rfl ?_
  refine lv_iconst (v := 1) hx hb dX9_init_275 (by decide) ?_
  refine lv_bipush (v := 117) hx hb dX9_init_276 (by decide) ?_
  refine k_istL2 hX hZ 1 (by decide) (by decide) dX9_init_278 (fun H locs hZ => ?_)
  refine lv_dup hx hb dX9_init_279 rfl ?_
  refine lv_iconst (v := 2) hx hb dX9_init_280 (by decide) ?_
  refine lv_bipush (v := 114) hx hb dX9_init_281 (by decide) ?_
  refine k_istL2 hX hZ 2 (by decide) (by decide) dX9_init_283 (fun H locs hZ => ?_)
  refine lv_dup hx hb dX9_init_284 rfl ?_
  refine lv_iconst (v := 3) hx hb dX9_init_285 (by decide) ?_
  refine lv_bipush (v := 110) hx hb dX9_init_286 (by decide) ?_
  refine k_istL2 hX hZ 3 (by decide) (by decide) dX9_init_288 (fun H locs hZ => ?_)
  obtain ⟨r17, er17⟩ : ∃ z : va_W, z = r ++ [(q18, .inl (aC 0, 4, .inl ar9_26))] := ⟨_, rfl⟩
  have hZ : K_S D A s ((h0, .inr (9, fs)) :: r17) H locs := by rw [er17]; exact hZ
  refine k_putI (ty := tyX9 26) hX hnm hZ (C := RX9) (T := TX9) (N := 44) rfl iw_X9 tyX9 tyX9_ok nmX9 26 rfl (wkn_23) rfl rfl (tyX9_ok 26 (by decide)) rfl rfl (by rw [hf]; rfl) dX9_init_289 (fun H locs hZ => ?_)
  obtain ⟨f17, ef17⟩ : ∃ z : List Value, z = fs.set 26 (.ref q18) := ⟨_, rfl⟩
  have hf17 : f17.length = 44 := by rw [ef17, List.length_set]; exact hf
  have hZ : K_S D A s ((h0, .inr (9, f17)) :: r17) H locs := by rw [ef17]; exact hZ
  subst ef17 er17
  exact kk q18 H locs hZ
set_option maxHeartbeats 4000000 in
set_option maxRecDepth 100000 in
theorem i9_9 (hX : K_X p s m args meth c cX9_init 1 WL_ RX9 D aC A) (hnm : meth.name = "<init>") (hl : lv_has ls 1 [(0, .ref h0)]) (fs : List Value) (hf : fs.length = 44) (r : va_W) (hZ : K_S D A s ((h0, .inr (9, fs)) :: r) H locs) (kk : ∀ (q19 : Nat) (H : Heap) (locs : List Loc), K_S D A s ((h0, .inr (9, (List.set fs 27 (.ref q19)))) :: (r ++ [(q19, .inl (aC 0, 4, .inl ar9_27))])) H locs → W p l e (R_i 1 12 28 690) s m args below meth c H locs 19 628 Q (F0 m 319 ls [])) : W p l e (R_i 1 12 28 690) s m args below meth c H locs 18 624 Q (F0 m 292 ls []) := by
  obtain ⟨hx, hb, hml, hown, hts, hK, hA, hlk⟩ := id hX
  refine lv_aload_n hx hb dX9_init_292 rfl (lv_at hl 0 rfl) ?_
  refine lv_iconst (v := 4) hx hb dX9_init_293 (by decide) ?_
  refine k_newa (i := 0) (a0 := (4, .inl (fun _ => 0))) (N' := 4) hX hZ wkn_4 rfl rfl (Or.inl rfl) (fun _ => rfl) (by decide) (by decide) rfl rfl rfl dX9_init_294 (fun q19 H hZ => ?_)
  refine lv_dup hx hb dX9_init_296 rfl ?_
  refine lv_iconst (v := 0) hx hb dX9_init_297 (by decide) ?_
  refine lv_bipush (v := 102) hx hb dX9_init_298 (by decide) ?_
  refine k_istL2 hX hZ 0 (by decide) (by decide) dX9_init_300 (fun H locs hZ => ?_)
  refine lv_dup hx hb dX9_init_301 rfl ?_
  refine lv_iconst (v := 1) hx hb dX9_init_302 (by decide) ?_
  refine lv_bipush (v := 111) hx hb dX9_init_303 (by decide) ?_
  refine k_istL2 hX hZ 1 (by decide) (by decide) dX9_init_305 (fun H locs hZ => ?_)
  refine lv_dup hx hb dX9_init_306 rfl ?_
  refine lv_iconst (v := 2) hx hb dX9_init_307 (by decide) ?_
  refine lv_bipush (v := 108) hx hb dX9_init_308 (by decide) ?_
  refine k_istL2 hX hZ 2 (by decide) (by decide) dX9_init_310 (fun H locs hZ => ?_)
  refine lv_dup hx hb dX9_init_311 rfl ?_
  refine lv_iconst (v := 3) hx hb dX9_init_312 (by decide) ?_
  refine lv_bipush (v := 100) hx hb dX9_init_313 (by decide) ?_
  refine k_istL2 hX hZ 3 (by decide) (by decide) dX9_init_315 (fun H locs hZ => ?_)
  obtain ⟨r18, er18⟩ : ∃ z : va_W, z = r ++ [(q19, .inl (aC 0, 4, .inl ar9_27))] := ⟨_, rfl⟩
  have hZ : K_S D A s ((h0, .inr (9, fs)) :: r18) H locs := by rw [er18]; exact hZ
  refine k_putI (ty := tyX9 27) hX hnm hZ (C := RX9) (T := TX9) (N := 44) rfl iw_X9 tyX9 tyX9_ok nmX9 27 rfl (wkn_24) rfl rfl (tyX9_ok 27 (by decide)) rfl rfl (by rw [hf]; rfl) dX9_init_316 (fun H locs hZ => ?_)
  obtain ⟨f18, ef18⟩ : ∃ z : List Value, z = fs.set 27 (.ref q19) := ⟨_, rfl⟩
  have hf18 : f18.length = 44 := by rw [ef18, List.length_set]; exact hf
  have hZ : K_S D A s ((h0, .inr (9, f18)) :: r18) H locs := by rw [ef18]; exact hZ
  subst ef18 er18
  exact kk q19 H locs hZ
set_option maxHeartbeats 4000000 in
set_option maxRecDepth 100000 in
theorem i9_10 (hX : K_X p s m args meth c cX9_init 1 WL_ RX9 D aC A) (hnm : meth.name = "<init>") (hl : lv_has ls 1 [(0, .ref h0)]) (fs : List Value) (hf : fs.length = 44) (r : va_W) (hZ : K_S D A s ((h0, .inr (9, fs)) :: r) H locs) (kk : ∀ (q20 : Nat) (H : Heap) (locs : List Loc), K_S D A s ((h0, .inr (9, (List.set fs 28 (.ref q20)))) :: (r ++ [(q20, .inl (aC 0, 5, .inl ar9_28))])) H locs → W p l e (R_i 1 12 28 690) s m args below meth c H locs 20 633 Q (F0 m 351 ls [])) : W p l e (R_i 1 12 28 690) s m args below meth c H locs 19 628 Q (F0 m 319 ls []) := by
  obtain ⟨hx, hb, hml, hown, hts, hK, hA, hlk⟩ := id hX
  refine lv_aload_n hx hb dX9_init_319 rfl (lv_at hl 0 rfl) ?_
  refine lv_iconst (v := 5) hx hb dX9_init_320 (by decide) ?_
  refine k_newa (i := 0) (a0 := (5, .inl (fun _ => 0))) (N' := 5) hX hZ wkn_4 rfl rfl (Or.inl rfl) (fun _ => rfl) (by decide) (by decide) rfl rfl rfl dX9_init_321 (fun q20 H hZ => ?_)
  refine lv_dup hx hb dX9_init_323 rfl ?_
  refine lv_iconst (v := 0) hx hb dX9_init_324 (by decide) ?_
  refine lv_bipush (v := 114) hx hb dX9_init_325 (by decide) ?_
  refine k_istL2 hX hZ 0 (by decide) (by decide) dX9_init_327 (fun H locs hZ => ?_)
  refine lv_dup hx hb dX9_init_328 rfl ?_
  refine lv_iconst (v := 1) hx hb dX9_init_329 (by decide) ?_
  refine lv_bipush (v := 97) hx hb dX9_init_330 (by decide) ?_
  refine k_istL2 hX hZ 1 (by decide) (by decide) dX9_init_332 (fun H locs hZ => ?_)
  refine lv_dup hx hb dX9_init_333 rfl ?_
  refine lv_iconst (v := 2) hx hb dX9_init_334 (by decide) ?_
  refine lv_bipush (v := 118) hx hb dX9_init_335 (by decide) ?_
  refine k_istL2 hX hZ 2 (by decide) (by decide) dX9_init_337 (fun H locs hZ => ?_)
  refine lv_dup hx hb dX9_init_338 rfl ?_
  refine lv_iconst (v := 3) hx hb dX9_init_339 (by decide) ?_
  refine lv_bipush (v := 101) hx hb dX9_init_340 (by decide) ?_
  refine k_istL2 hX hZ 3 (by decide) (by decide) dX9_init_342 (fun H locs hZ => ?_)
  refine lv_dup hx hb dX9_init_343 rfl ?_
  refine lv_iconst (v := 4) hx hb dX9_init_344 (by decide) ?_
  refine lv_bipush (v := 108) hx hb dX9_init_345 (by decide) ?_
  refine k_istL2 hX hZ 4 (by decide) (by decide) dX9_init_347 (fun H locs hZ => ?_)
  obtain ⟨r19, er19⟩ : ∃ z : va_W, z = r ++ [(q20, .inl (aC 0, 5, .inl ar9_28))] := ⟨_, rfl⟩
  have hZ : K_S D A s ((h0, .inr (9, fs)) :: r19) H locs := by rw [er19]; exact hZ
  refine k_putI (ty := tyX9 28) hX hnm hZ (C := RX9) (T := TX9) (N := 44) rfl iw_X9 tyX9 tyX9_ok nmX9 28 rfl (wkn_25) rfl rfl (tyX9_ok 28 (by decide)) rfl rfl (by rw [hf]; rfl) dX9_init_348 (fun H locs hZ => ?_)
  obtain ⟨f19, ef19⟩ : ∃ z : List Value, z = fs.set 28 (.ref q20) := ⟨_, rfl⟩
  have hf19 : f19.length = 44 := by rw [ef19, List.length_set]; exact hf
  have hZ : K_S D A s ((h0, .inr (9, f19)) :: r19) H locs := by rw [ef19]; exact hZ
  subst ef19 er19
  exact kk q20 H locs hZ
set_option maxHeartbeats 4000000 in
set_option maxRecDepth 100000 in
theorem i9_11 (hX : K_X p s m args meth c cX9_init 1 WL_ RX9 D aC A) (hnm : meth.name = "<init>") (hl : lv_has ls 1 [(0, .ref h0)]) (fs : List Value) (hf : fs.length = 44) (r : va_W) (hZ : K_S D A s ((h0, .inr (9, fs)) :: r) H locs) (kk : ∀ (q21 q22 : Nat) (H : Heap) (locs : List Loc), K_S D A s ((h0, .inr (9, (List.set (List.set fs 29 (.ref q21)) 31 (.ref q22)))) :: ((r ++ [(q21, .inl (aC 0, 4, .inl ar9_29))]) ++ [(q22, .inl (aC 0, 14, .inl (fun _ => 0)))])) H locs → W p l e (R_i 1 12 28 690) s m args below meth c H locs 22 651 Q (F0 m 386 ls [])) : W p l e (R_i 1 12 28 690) s m args below meth c H locs 20 633 Q (F0 m 351 ls []) := by
  obtain ⟨hx, hb, hml, hown, hts, hK, hA, hlk⟩ := id hX
  refine lv_aload_n hx hb dX9_init_351 rfl (lv_at hl 0 rfl) ?_
  refine lv_iconst (v := 4) hx hb dX9_init_352 (by decide) ?_
  refine k_newa (i := 0) (a0 := (4, .inl (fun _ => 0))) (N' := 4) hX hZ wkn_4 rfl rfl (Or.inl rfl) (fun _ => rfl) (by decide) (by decide) rfl rfl rfl dX9_init_353 (fun q21 H hZ => ?_)
  refine lv_dup hx hb dX9_init_355 rfl ?_
  refine lv_iconst (v := 0) hx hb dX9_init_356 (by decide) ?_
  refine lv_bipush (v := 102) hx hb dX9_init_357 (by decide) ?_
  refine k_istL2 hX hZ 0 (by decide) (by decide) dX9_init_359 (fun H locs hZ => ?_)
  refine lv_dup hx hb dX9_init_360 rfl ?_
  refine lv_iconst (v := 1) hx hb dX9_init_361 (by decide) ?_
  refine lv_bipush (v := 111) hx hb dX9_init_362 (by decide) ?_
  refine k_istL2 hX hZ 1 (by decide) (by decide) dX9_init_364 (fun H locs hZ => ?_)
  refine lv_dup hx hb dX9_init_365 rfl ?_
  refine lv_iconst (v := 2) hx hb dX9_init_366 (by decide) ?_
  refine lv_bipush (v := 114) hx hb dX9_init_367 (by decide) ?_
  refine k_istL2 hX hZ 2 (by decide) (by decide) dX9_init_369 (fun H locs hZ => ?_)
  refine lv_dup hx hb dX9_init_370 rfl ?_
  refine lv_iconst (v := 3) hx hb dX9_init_371 (by decide) ?_
  refine lv_bipush (v := 109) hx hb dX9_init_372 (by decide) ?_
  refine k_istL2 hX hZ 3 (by decide) (by decide) dX9_init_374 (fun H locs hZ => ?_)
  obtain ⟨r20, er20⟩ : ∃ z : va_W, z = r ++ [(q21, .inl (aC 0, 4, .inl ar9_29))] := ⟨_, rfl⟩
  have hZ : K_S D A s ((h0, .inr (9, fs)) :: r20) H locs := by rw [er20]; exact hZ
  refine k_putI (ty := tyX9 29) hX hnm hZ (C := RX9) (T := TX9) (N := 44) rfl iw_X9 tyX9 tyX9_ok nmX9 29 rfl (wkn_26) rfl rfl (tyX9_ok 29 (by decide)) rfl rfl (by rw [hf]; rfl) dX9_init_375 (fun H locs hZ => ?_)
  obtain ⟨f20, ef20⟩ : ∃ z : List Value, z = fs.set 29 (.ref q21) := ⟨_, rfl⟩
  have hf20 : f20.length = 44 := by rw [ef20, List.length_set]; exact hf
  have hZ : K_S D A s ((h0, .inr (9, f20)) :: r20) H locs := by rw [ef20]; exact hZ
  refine lv_aload_n hx hb dX9_init_378 rfl (lv_at hl 0 rfl) ?_
  refine lv_bipush (v := 14) hx hb dX9_init_379 (by decide) ?_
  refine k_newa (i := 0) (a0 := (14, .inl (fun _ => 0))) (N' := 14) hX hZ wkn_4 rfl rfl (Or.inl rfl) (fun _ => rfl) (by decide) (by decide) rfl rfl rfl dX9_init_381 (fun q22 H hZ => ?_)
  obtain ⟨r21, er21⟩ : ∃ z : va_W, z = r20 ++ [(q22, .inl (aC 0, 14, .inl (fun _ => 0)))] := ⟨_, rfl⟩
  have hZ : K_S D A s ((h0, .inr (9, f20)) :: r21) H locs := by rw [er21]; exact hZ
  refine k_putI (ty := tyX9 31) hX hnm hZ (C := RX9) (T := TX9) (N := 44) rfl iw_X9 tyX9 tyX9_ok nmX9 31 rfl (wkn_27) rfl rfl (tyX9_ok 31 (by decide)) rfl rfl (by rw [hf20]; rfl) dX9_init_383 (fun H locs hZ => ?_)
  obtain ⟨f21, ef21⟩ : ∃ z : List Value, z = f20.set 31 (.ref q22) := ⟨_, rfl⟩
  have hf21 : f21.length = 44 := by rw [ef21, List.length_set]; exact hf20
  have hZ : K_S D A s ((h0, .inr (9, f21)) :: r21) H locs := by rw [ef21]; exact hZ
  subst ef21 er21 ef20 er20
  exact kk q21 q22 H locs hZ
set_option maxHeartbeats 4000000 in
set_option maxRecDepth 100000 in
theorem i9_12 (hX : K_X p s m args meth c cX9_init 1 WL_ RX9 D aC A) (hnm : meth.name = "<init>") (hl : lv_has ls 1 [(0, .ref h0)]) (fs : List Value) (hf : fs.length = 44) (r : va_W) (hZ : K_S D A s ((h0, .inr (9, fs)) :: r) H locs) (kk : ∀ (q23 q24 : Nat) (H : Heap) (locs : List Loc), K_S D A s ((h0, .inr (9, (List.set (List.set fs 32 (.ref q23)) 33 (.ref q24)))) :: ((r ++ [(q23, .inl (aC 0, 14, .inl (fun _ => 0)))]) ++ [(q24, .inl (aC 0, 4, .inl ar9_33))])) H locs → W p l e (R_i 1 12 28 690) s m args below meth c H locs 24 669 Q (F0 m 417 ls [])) : W p l e (R_i 1 12 28 690) s m args below meth c H locs 22 651 Q (F0 m 386 ls []) := by
  obtain ⟨hx, hb, hml, hown, hts, hK, hA, hlk⟩ := id hX
  refine lv_aload_n hx hb dX9_init_386 rfl (lv_at hl 0 rfl) ?_
  refine lv_bipush (v := 14) hx hb dX9_init_387 (by decide) ?_
  refine k_newa (i := 0) (a0 := (14, .inl (fun _ => 0))) (N' := 14) hX hZ wkn_4 rfl rfl (Or.inl rfl) (fun _ => rfl) (by decide) (by decide) rfl rfl rfl dX9_init_389 (fun q23 H hZ => ?_)
  obtain ⟨r22, er22⟩ : ∃ z : va_W, z = r ++ [(q23, .inl (aC 0, 14, .inl (fun _ => 0)))] := ⟨_, rfl⟩
  have hZ : K_S D A s ((h0, .inr (9, fs)) :: r22) H locs := by rw [er22]; exact hZ
  refine k_putI (ty := tyX9 32) hX hnm hZ (C := RX9) (T := TX9) (N := 44) rfl iw_X9 tyX9 tyX9_ok nmX9 32 rfl (wkn_28) rfl rfl (tyX9_ok 32 (by decide)) rfl rfl (by rw [hf]; rfl) dX9_init_391 (fun H locs hZ => ?_)
  obtain ⟨f22, ef22⟩ : ∃ z : List Value, z = fs.set 32 (.ref q23) := ⟨_, rfl⟩
  have hf22 : f22.length = 44 := by rw [ef22, List.length_set]; exact hf
  have hZ : K_S D A s ((h0, .inr (9, f22)) :: r22) H locs := by rw [ef22]; exact hZ
  refine lv_aload_n hx hb dX9_init_394 rfl (lv_at hl 0 rfl) ?_
  refine lv_iconst (v := 4) hx hb dX9_init_395 (by decide) ?_
  refine k_newa (i := 0) (a0 := (4, .inl (fun _ => 0))) (N' := 4) hX hZ wkn_4 rfl rfl (Or.inl rfl) (fun _ => rfl) (by decide) (by decide) rfl rfl rfl dX9_init_396 (fun q24 H hZ => ?_)
  refine lv_dup hx hb dX9_init_398 rfl ?_
  refine lv_iconst (v := 0) hx hb dX9_init_399 (by decide) ?_
  refine lv_iconst (v := -1) hx hb dX9_init_400 (by decide) ?_
  refine k_istL2 hX hZ 0 (by decide) (by decide) dX9_init_401 (fun H locs hZ => ?_)
  refine lv_dup hx hb dX9_init_402 rfl ?_
  refine lv_iconst (v := 1) hx hb dX9_init_403 (by decide) ?_
  refine lv_iconst (v := -1) hx hb dX9_init_404 (by decide) ?_
  refine k_istL2 hX hZ 1 (by decide) (by decide) dX9_init_405 (fun H locs hZ => ?_)
  refine lv_dup hx hb dX9_init_406 rfl ?_
  refine lv_iconst (v := 2) hx hb dX9_init_407 (by decide) ?_
  refine lv_iconst (v := -1) hx hb dX9_init_408 (by decide) ?_
  refine k_istL2 hX hZ 2 (by decide) (by decide) dX9_init_409 (fun H locs hZ => ?_)
  refine lv_dup hx hb dX9_init_410 rfl ?_
  refine lv_iconst (v := 3) hx hb dX9_init_411 (by decide) ?_
  refine lv_iconst (v := -1) hx hb dX9_init_412 (by decide) ?_
  refine k_istL2 hX hZ 3 (by decide) (by decide) dX9_init_413 (fun H locs hZ => ?_)
  obtain ⟨r23, er23⟩ : ∃ z : va_W, z = r22 ++ [(q24, .inl (aC 0, 4, .inl ar9_33))] := ⟨_, rfl⟩
  have hZ : K_S D A s ((h0, .inr (9, f22)) :: r23) H locs := by rw [er23]; exact hZ
  refine k_putI (ty := tyX9 33) hX hnm hZ (C := RX9) (T := TX9) (N := 44) rfl iw_X9 tyX9 tyX9_ok nmX9 33 rfl (wkn_29) rfl rfl (tyX9_ok 33 (by decide)) rfl rfl (by rw [hf22]; rfl) dX9_init_414 (fun H locs hZ => ?_)
  obtain ⟨f23, ef23⟩ : ∃ z : List Value, z = f22.set 33 (.ref q24) := ⟨_, rfl⟩
  have hf23 : f23.length = 44 := by rw [ef23, List.length_set]; exact hf22
  have hZ : K_S D A s ((h0, .inr (9, f23)) :: r23) H locs := by rw [ef23]; exact hZ
  subst ef23 er23 ef22 er22
  exact kk q23 q24 H locs hZ
set_option maxHeartbeats 4000000 in
set_option maxRecDepth 100000 in
theorem i9_13 (hX : K_X p s m args meth c cX9_init 1 WL_ RX9 D aC A) (hnm : meth.name = "<init>") (hl : lv_has ls 1 [(0, .ref h0)]) (fs : List Value) (hf : fs.length = 44) (r : va_W) (hZ : K_S D A s ((h0, .inr (9, fs)) :: r) H locs) (kk : ∀ (q25 q26 q27 q28 : Nat) (H : Heap) (locs : List Loc), K_S D A s ((h0, .inr (9, (List.set (List.set (List.set (List.set fs 34 (.ref q25)) 37 (.ref q26)) 38 (.ref q27)) 43 (.ref q28)))) :: ((((r ++ [(q25, .inl (aC 0, 5, .inl (fun _ => 0)))]) ++ [(q26, .inl (aC 0, 6, .inl (fun _ => 0)))]) ++ [(q27, .inl (aC 0, 6, .inl (fun _ => 0)))]) ++ [(q28, .inl (aC 0, 4, .inl (fun _ => 0)))])) H locs → W p l e (R_i 1 12 28 690) s m args below meth c H locs 28 690 Q (F0 m 447 ls [])) : W p l e (R_i 1 12 28 690) s m args below meth c H locs 24 669 Q (F0 m 417 ls []) := by
  obtain ⟨hx, hb, hml, hown, hts, hK, hA, hlk⟩ := id hX
  refine lv_aload_n hx hb dX9_init_417 rfl (lv_at hl 0 rfl) ?_
  refine lv_iconst (v := 5) hx hb dX9_init_418 (by decide) ?_
  refine k_newa (i := 0) (a0 := (5, .inl (fun _ => 0))) (N' := 5) hX hZ wkn_4 rfl rfl (Or.inl rfl) (fun _ => rfl) (by decide) (by decide) rfl rfl rfl dX9_init_419 (fun q25 H hZ => ?_)
  obtain ⟨r24, er24⟩ : ∃ z : va_W, z = r ++ [(q25, .inl (aC 0, 5, .inl (fun _ => 0)))] := ⟨_, rfl⟩
  have hZ : K_S D A s ((h0, .inr (9, fs)) :: r24) H locs := by rw [er24]; exact hZ
  refine k_putI (ty := tyX9 34) hX hnm hZ (C := RX9) (T := TX9) (N := 44) rfl iw_X9 tyX9 tyX9_ok nmX9 34 rfl (wkn_30) rfl rfl (tyX9_ok 34 (by decide)) rfl rfl (by rw [hf]; rfl) dX9_init_421 (fun H locs hZ => ?_)
  obtain ⟨f24, ef24⟩ : ∃ z : List Value, z = fs.set 34 (.ref q25) := ⟨_, rfl⟩
  have hf24 : f24.length = 44 := by rw [ef24, List.length_set]; exact hf
  have hZ : K_S D A s ((h0, .inr (9, f24)) :: r24) H locs := by rw [ef24]; exact hZ
  refine lv_aload_n hx hb dX9_init_424 rfl (lv_at hl 0 rfl) ?_
  refine lv_bipush (v := 6) hx hb dX9_init_425 (by decide) ?_
  refine k_newa (i := 0) (a0 := (6, .inl (fun _ => 0))) (N' := 6) hX hZ wkn_4 rfl rfl (Or.inl rfl) (fun _ => rfl) (by decide) (by decide) rfl rfl rfl dX9_init_427 (fun q26 H hZ => ?_)
  obtain ⟨r25, er25⟩ : ∃ z : va_W, z = r24 ++ [(q26, .inl (aC 0, 6, .inl (fun _ => 0)))] := ⟨_, rfl⟩
  have hZ : K_S D A s ((h0, .inr (9, f24)) :: r25) H locs := by rw [er25]; exact hZ
  refine k_putI (ty := tyX9 37) hX hnm hZ (C := RX9) (T := TX9) (N := 44) rfl iw_X9 tyX9 tyX9_ok nmX9 37 rfl (wkn_31) rfl rfl (tyX9_ok 37 (by decide)) rfl rfl (by rw [hf24]; rfl) dX9_init_429 (fun H locs hZ => ?_)
  obtain ⟨f25, ef25⟩ : ∃ z : List Value, z = f24.set 37 (.ref q26) := ⟨_, rfl⟩
  have hf25 : f25.length = 44 := by rw [ef25, List.length_set]; exact hf24
  have hZ : K_S D A s ((h0, .inr (9, f25)) :: r25) H locs := by rw [ef25]; exact hZ
  refine lv_aload_n hx hb dX9_init_432 rfl (lv_at hl 0 rfl) ?_
  refine lv_bipush (v := 6) hx hb dX9_init_433 (by decide) ?_
  refine k_newa (i := 0) (a0 := (6, .inl (fun _ => 0))) (N' := 6) hX hZ wkn_4 rfl rfl (Or.inl rfl) (fun _ => rfl) (by decide) (by decide) rfl rfl rfl dX9_init_435 (fun q27 H hZ => ?_)
  obtain ⟨r26, er26⟩ : ∃ z : va_W, z = r25 ++ [(q27, .inl (aC 0, 6, .inl (fun _ => 0)))] := ⟨_, rfl⟩
  have hZ : K_S D A s ((h0, .inr (9, f25)) :: r26) H locs := by rw [er26]; exact hZ
  refine k_putI (ty := tyX9 38) hX hnm hZ (C := RX9) (T := TX9) (N := 44) rfl iw_X9 tyX9 tyX9_ok nmX9 38 rfl (wkn_32) rfl rfl (tyX9_ok 38 (by decide)) rfl rfl (by rw [hf25]; rfl) dX9_init_437 (fun H locs hZ => ?_)
  obtain ⟨f26, ef26⟩ : ∃ z : List Value, z = f25.set 38 (.ref q27) := ⟨_, rfl⟩
  have hf26 : f26.length = 44 := by rw [ef26, List.length_set]; exact hf25
  have hZ : K_S D A s ((h0, .inr (9, f26)) :: r26) H locs := by rw [ef26]; exact hZ
  refine lv_aload_n hx hb dX9_init_440 rfl (lv_at hl 0 rfl) ?_
  refine lv_iconst (v := 4) hx hb dX9_init_441 (by decide) ?_
  refine k_newa (i := 0) (a0 := (4, .inl (fun _ => 0))) (N' := 4) hX hZ wkn_4 rfl rfl (Or.inl rfl) (fun _ => rfl) (by decide) (by decide) rfl rfl rfl dX9_init_442 (fun q28 H hZ => ?_)
  obtain ⟨r27, er27⟩ : ∃ z : va_W, z = r26 ++ [(q28, .inl (aC 0, 4, .inl (fun _ => 0)))] := ⟨_, rfl⟩
  have hZ : K_S D A s ((h0, .inr (9, f26)) :: r27) H locs := by rw [er27]; exact hZ
  refine k_putI (ty := tyX9 43) hX hnm hZ (C := RX9) (T := TX9) (N := 44) rfl iw_X9 tyX9 tyX9_ok nmX9 43 rfl (wkn_33) rfl rfl (tyX9_ok 43 (by decide)) rfl rfl (by rw [hf26]; rfl) dX9_init_444 (fun H locs hZ => ?_)
  obtain ⟨f27, ef27⟩ : ∃ z : List Value, z = f26.set 43 (.ref q28) := ⟨_, rfl⟩
  have hf27 : f27.length = 44 := by rw [ef27, List.length_set]; exact hf26
  have hZ : K_S D A s ((h0, .inr (9, f27)) :: r27) H locs := by rw [ef27]; exact hZ
  subst ef27 er27 ef26 er26 ef25 er25 ef24 er24
  exact kk q25 q26 q27 q28 H locs hZ
end
def o9_ : Ob_T := (p_A (p_A (p_A (p_A (p_A (p_A (p_A (p_A (p_A (p_A (p_A ob_0 4 ar9_4) 16 ar9_16) 22 ar9_22) 23 ar9_23) 24 ar9_24) 25 ar9_25) 26 ar9_26) 27 ar9_27) 28 ar9_28) 29 ar9_29) 33 ar9_33)
def wlX9_init : List Cond := .code yX9_init cX9_init 1 none :: WL_
theorem w9_eq (aC : Nat → ClassId) (h0 q1 q2 q3 q4 q5 q6 q7 q8 q9 q10 q11 q12 q13 q14 q15 q16 q17 q18 q19 q20 q21 q22 q23 q24 q25 q26 q27 q28 : Nat) : [(h0, (.inr (9, [.ref q1, .ref q2, .int 0, .int 0, .ref q3, .ref q4, .int 0, .ref q5, .ref q6, .ref q7, .int 0, .int 0, .ref q8, .ref q9, .ref q10, .ref q11, .ref q12, .ref q13, .int 0, .int 0, .int 0, .int 0, .ref q14, .ref q15, .ref q16, .ref q17, .ref q18, .ref q19, .ref q20, .ref q21, .int 0, .ref q22, .ref q23, .ref q24, .ref q25, .int 0, .int 0, .ref q26, .ref q27, .int 0, .int 0, .int 0, .int 0, .ref q28]) : va_E)), (q1, .inl (aC 0, 150, .inl (fun _ => 0))), (q2, .inl (aC 0, 150, .inl (fun _ => 0))), (q3, .inl (aC 0, 4, .inl ar9_4)), (q4, .inl (aC 0, 32, .inl (fun _ => 0))), (q5, .inl (aC 0, 8, .inl (fun _ => 0))), (q6, .inl (aC 1, 2, .inl (fun _ => 0))), (q7, .inl (aC 0, 200, .inl (fun _ => 0))), (q8, .inl (aC 0, 6, .inl (fun _ => 0))), (q9, .inl (aC 0, 6, .inl (fun _ => 0))), (q10, .inl (aC 0, 6, .inl (fun _ => 0))), (q11, .inl (aC 0, 3, .inl (fun _ => 0))), (q12, .inl (aC 0, 3, .inl ar9_16)), (q13, .inl (aC 0, 30, .inl (fun _ => 0))), (q14, .inl (aC 0, 7, .inl ar9_22)), (q15, .inl (aC 0, 5, .inl ar9_23)), (q16, .inl (aC 0, 4, .inl ar9_24)), (q17, .inl (aC 0, 4, .inl ar9_25)), (q18, .inl (aC 0, 4, .inl ar9_26)), (q19, .inl (aC 0, 4, .inl ar9_27)), (q20, .inl (aC 0, 5, .inl ar9_28)), (q21, .inl (aC 0, 4, .inl ar9_29)), (q22, .inl (aC 0, 14, .inl (fun _ => 0))), (q23, .inl (aC 0, 14, .inl (fun _ => 0))), (q24, .inl (aC 0, 4, .inl ar9_33)), (q25, .inl (aC 0, 5, .inl (fun _ => 0))), (q26, .inl (aC 0, 6, .inl (fun _ => 0))), (q27, .inl (aC 0, 6, .inl (fun _ => 0))), (q28, .inl (aC 0, 4, .inl (fun _ => 0)))] = wd_X9 aC (fun k => [h0, q1, q2, q3, q4, q5, q6, q7, q8, q9, q10, q11, q12, q13, q14, q15, q16, q17, q18, q19, q20, q21, q22, q23, q24, q25, q26, q27, q28].getD k 0) o9_ := rfl
