/-! the fresh world keeps the invariant -/
def pzL : List (Nat × Nat) := [(0, 1), (3, 1), (3, 2), (3, 3), (5, 1), (5, 2), (5, 3), (7, 1), (7, 2), (7, 3), (9, 1), (9, 2), (9, 3), (11, 1), (11, 2), (11, 3), (14, 1), (14, 2), (14, 3), (16, 1), (16, 2), (16, 3), (18, 1), (18, 2), (18, 3), (20, 1), (20, 2), (20, 3), (22, 1), (22, 2), (22, 3), (24, 7), (28, 1), (28, 2), (28, 3), (30, 1), (30, 2), (30, 3), (32, 1), (32, 2), (32, 3), (34, 1), (34, 2), (34, 3), (36, 1), (36, 2), (36, 3), (39, 1), (39, 2), (39, 3), (41, 1), (41, 2), (41, 3), (43, 1), (43, 2), (43, 3), (45, 1), (45, 2), (45, 3), (47, 1), (47, 2), (47, 3), (50, 1), (50, 2), (50, 3), (52, 1), (52, 2), (52, 3), (54, 1), (54, 2), (54, 3), (56, 1), (56, 2), (56, 3), (58, 1), (58, 2), (58, 3), (61, 2), (63, 2), (65, 2), (67, 2), (95, 13), (112, 0), (112, 1), (112, 2), (112, 3)]
def Sup (w : XW) : Prop := ∀ c k : Nat, (c, k) ∉ pzL → w.2.2.1 c k = 0
theorem sup_0 : Sup w00 := fun _ _ _ => rfl
theorem sup_R {w : XW} {c k r : Nat} (h : Sup w) : Sup (upR w c k r) := h
theorem sup_n {w : XW} (h : Sup w) : Sup (nwW w) := by
  intro c k hk
  show va_up w.2.2.1 w.1 (fun _ => 0) c k = 0
  by_cases e : c = w.1
  · rw [e]; simp [va_up]
  · rw [va_up_ne _ _ e]; exact h c k hk
theorem sup_I {w : XW} {c k : Nat} {x : Int32} (h : Sup w) (hm : (c, k) ∈ pzL) : Sup (upI w c k x) := by
  intro c2 k2 hk
  by_cases e1 : c2 = c
  · subst e1
    by_cases e2 : k2 = k
    · subst e2; exact absurd hm hk
    · rw [upI_ot e2]; exact h c2 k2 hk
  · rw [upI_ne e1]; exact h c2 k2 hk
theorem sp_1 : Sup wv_1 := sup_n sup_0
theorem sp_2 : Sup wv_2 := sup_n sp_1
theorem sp_3 : Sup wv_3 := sup_R sp_2
theorem sp_4 : Sup wv_4 := sup_I sp_3 (by decide)
theorem sp_5 : Sup wv_5 := sup_n sp_4
theorem sp_6 : Sup wv_6 := sup_n sp_5
theorem sp_7 : Sup wv_7 := sup_I sp_6 (by decide)
theorem sp_8 : Sup wv_8 := sup_I sp_7 (by decide)
theorem sp_9 : Sup wv_9 := sup_n sp_8
theorem sp_10 : Sup wv_10 := sup_R sp_9
theorem sp_11 : Sup wv_11 := sup_I sp_10 (by decide)
theorem sp_12 : Sup wv_12 := sup_R sp_11
theorem sp_13 : Sup wv_13 := sup_n sp_12
theorem sp_14 : Sup wv_14 := sup_I sp_13 (by decide)
theorem sp_15 : Sup wv_15 := sup_I sp_14 (by decide)
theorem sp_16 : Sup wv_16 := sup_n sp_15
theorem sp_17 : Sup wv_17 := sup_R sp_16
theorem sp_18 : Sup wv_18 := sup_I sp_17 (by decide)
theorem sp_19 : Sup wv_19 := sup_R sp_18
theorem sp_20 : Sup wv_20 := sup_n sp_19
theorem sp_21 : Sup wv_21 := sup_I sp_20 (by decide)
theorem sp_22 : Sup wv_22 := sup_I sp_21 (by decide)
theorem sp_23 : Sup wv_23 := sup_n sp_22
theorem sp_24 : Sup wv_24 := sup_R sp_23
theorem sp_25 : Sup wv_25 := sup_I sp_24 (by decide)
theorem sp_26 : Sup wv_26 := sup_R sp_25
theorem sp_27 : Sup wv_27 := sup_n sp_26
theorem sp_28 : Sup wv_28 := sup_I sp_27 (by decide)
theorem sp_29 : Sup wv_29 := sup_I sp_28 (by decide)
theorem sp_30 : Sup wv_30 := sup_n sp_29
theorem sp_31 : Sup wv_31 := sup_R sp_30
theorem sp_32 : Sup wv_32 := sup_I sp_31 (by decide)
theorem sp_33 : Sup wv_33 := sup_R sp_32
theorem sp_34 : Sup wv_34 := sup_n sp_33
theorem sp_35 : Sup wv_35 := sup_I sp_34 (by decide)
theorem sp_36 : Sup wv_36 := sup_I sp_35 (by decide)
theorem sp_37 : Sup wv_37 := sup_n sp_36
theorem sp_38 : Sup wv_38 := sup_R sp_37
theorem sp_39 : Sup wv_39 := sup_I sp_38 (by decide)
theorem sp_40 : Sup wv_40 := sup_R sp_39
theorem sp_41 : Sup wv_41 := sup_R sp_40
theorem sp_42 : Sup wv_42 := sup_n sp_41
theorem sp_43 : Sup wv_43 := sup_n sp_42
theorem sp_44 : Sup wv_44 := sup_I sp_43 (by decide)
theorem sp_45 : Sup wv_45 := sup_I sp_44 (by decide)
theorem sp_46 : Sup wv_46 := sup_n sp_45
theorem sp_47 : Sup wv_47 := sup_R sp_46
theorem sp_48 : Sup wv_48 := sup_I sp_47 (by decide)
theorem sp_49 : Sup wv_49 := sup_R sp_48
theorem sp_50 : Sup wv_50 := sup_n sp_49
theorem sp_51 : Sup wv_51 := sup_I sp_50 (by decide)
theorem sp_52 : Sup wv_52 := sup_I sp_51 (by decide)
theorem sp_53 : Sup wv_53 := sup_n sp_52
theorem sp_54 : Sup wv_54 := sup_R sp_53
theorem sp_55 : Sup wv_55 := sup_I sp_54 (by decide)
theorem sp_56 : Sup wv_56 := sup_R sp_55
theorem sp_57 : Sup wv_57 := sup_n sp_56
theorem sp_58 : Sup wv_58 := sup_I sp_57 (by decide)
theorem sp_59 : Sup wv_59 := sup_I sp_58 (by decide)
theorem sp_60 : Sup wv_60 := sup_n sp_59
theorem sp_61 : Sup wv_61 := sup_R sp_60
theorem sp_62 : Sup wv_62 := sup_I sp_61 (by decide)
theorem sp_63 : Sup wv_63 := sup_R sp_62
theorem sp_64 : Sup wv_64 := sup_n sp_63
theorem sp_65 : Sup wv_65 := sup_I sp_64 (by decide)
theorem sp_66 : Sup wv_66 := sup_I sp_65 (by decide)
theorem sp_67 : Sup wv_67 := sup_n sp_66
theorem sp_68 : Sup wv_68 := sup_R sp_67
theorem sp_69 : Sup wv_69 := sup_I sp_68 (by decide)
theorem sp_70 : Sup wv_70 := sup_R sp_69
theorem sp_71 : Sup wv_71 := sup_n sp_70
theorem sp_72 : Sup wv_72 := sup_I sp_71 (by decide)
theorem sp_73 : Sup wv_73 := sup_I sp_72 (by decide)
theorem sp_74 : Sup wv_74 := sup_n sp_73
theorem sp_75 : Sup wv_75 := sup_R sp_74
theorem sp_76 : Sup wv_76 := sup_I sp_75 (by decide)
theorem sp_77 : Sup wv_77 := sup_R sp_76
theorem sp_78 : Sup wv_78 := sup_R sp_77
theorem sp_79 : Sup wv_79 := sup_n sp_78
theorem sp_80 : Sup wv_80 := sup_R sp_79
theorem sp_81 : Sup wv_81 := sup_R sp_80
theorem sp_82 : Sup wv_82 := sup_I sp_81 (by decide)
theorem sp_83 : Sup wv_83 := sup_R sp_82
theorem sp_84 : Sup wv_84 := sup_n sp_83
theorem sp_85 : Sup wv_85 := sup_R sp_84
theorem sp_86 : Sup wv_86 := sup_n sp_85
theorem sp_87 : Sup wv_87 := sup_R sp_86
theorem sp_88 : Sup wv_88 := sup_n sp_87
theorem sp_89 : Sup wv_89 := sup_n sp_88
theorem sp_90 : Sup wv_90 := sup_I sp_89 (by decide)
theorem sp_91 : Sup wv_91 := sup_I sp_90 (by decide)
theorem sp_92 : Sup wv_92 := sup_n sp_91
theorem sp_93 : Sup wv_93 := sup_R sp_92
theorem sp_94 : Sup wv_94 := sup_I sp_93 (by decide)
theorem sp_95 : Sup wv_95 := sup_R sp_94
theorem sp_96 : Sup wv_96 := sup_n sp_95
theorem sp_97 : Sup wv_97 := sup_I sp_96 (by decide)
theorem sp_98 : Sup wv_98 := sup_I sp_97 (by decide)
theorem sp_99 : Sup wv_99 := sup_n sp_98
theorem sp_100 : Sup wv_100 := sup_R sp_99
theorem sp_101 : Sup wv_101 := sup_I sp_100 (by decide)
theorem sp_102 : Sup wv_102 := sup_R sp_101
theorem sp_103 : Sup wv_103 := sup_n sp_102
theorem sp_104 : Sup wv_104 := sup_I sp_103 (by decide)
theorem sp_105 : Sup wv_105 := sup_I sp_104 (by decide)
theorem sp_106 : Sup wv_106 := sup_n sp_105
theorem sp_107 : Sup wv_107 := sup_R sp_106
theorem sp_108 : Sup wv_108 := sup_I sp_107 (by decide)
theorem sp_109 : Sup wv_109 := sup_R sp_108
theorem sp_110 : Sup wv_110 := sup_n sp_109
theorem sp_111 : Sup wv_111 := sup_I sp_110 (by decide)
theorem sp_112 : Sup wv_112 := sup_I sp_111 (by decide)
theorem sp_113 : Sup wv_113 := sup_n sp_112
theorem sp_114 : Sup wv_114 := sup_R sp_113
theorem sp_115 : Sup wv_115 := sup_I sp_114 (by decide)
theorem sp_116 : Sup wv_116 := sup_R sp_115
theorem sp_117 : Sup wv_117 := sup_n sp_116
theorem sp_118 : Sup wv_118 := sup_I sp_117 (by decide)
theorem sp_119 : Sup wv_119 := sup_I sp_118 (by decide)
theorem sp_120 : Sup wv_120 := sup_n sp_119
theorem sp_121 : Sup wv_121 := sup_R sp_120
theorem sp_122 : Sup wv_122 := sup_I sp_121 (by decide)
theorem sp_123 : Sup wv_123 := sup_R sp_122
theorem sp_124 : Sup wv_124 := sup_R sp_123
theorem sp_125 : Sup wv_125 := sup_n sp_124
theorem sp_126 : Sup wv_126 := sup_n sp_125
theorem sp_127 : Sup wv_127 := sup_I sp_126 (by decide)
theorem sp_128 : Sup wv_128 := sup_I sp_127 (by decide)
theorem sp_129 : Sup wv_129 := sup_n sp_128
theorem sp_130 : Sup wv_130 := sup_R sp_129
theorem sp_131 : Sup wv_131 := sup_I sp_130 (by decide)
theorem sp_132 : Sup wv_132 := sup_R sp_131
theorem sp_133 : Sup wv_133 := sup_n sp_132
theorem sp_134 : Sup wv_134 := sup_I sp_133 (by decide)
theorem sp_135 : Sup wv_135 := sup_I sp_134 (by decide)
theorem sp_136 : Sup wv_136 := sup_n sp_135
theorem sp_137 : Sup wv_137 := sup_R sp_136
theorem sp_138 : Sup wv_138 := sup_I sp_137 (by decide)
theorem sp_139 : Sup wv_139 := sup_R sp_138
theorem sp_140 : Sup wv_140 := sup_n sp_139
theorem sp_141 : Sup wv_141 := sup_I sp_140 (by decide)
theorem sp_142 : Sup wv_142 := sup_I sp_141 (by decide)
theorem sp_143 : Sup wv_143 := sup_n sp_142
theorem sp_144 : Sup wv_144 := sup_R sp_143
theorem sp_145 : Sup wv_145 := sup_I sp_144 (by decide)
theorem sp_146 : Sup wv_146 := sup_R sp_145
theorem sp_147 : Sup wv_147 := sup_n sp_146
theorem sp_148 : Sup wv_148 := sup_I sp_147 (by decide)
theorem sp_149 : Sup wv_149 := sup_I sp_148 (by decide)
theorem sp_150 : Sup wv_150 := sup_n sp_149
theorem sp_151 : Sup wv_151 := sup_R sp_150
theorem sp_152 : Sup wv_152 := sup_I sp_151 (by decide)
theorem sp_153 : Sup wv_153 := sup_R sp_152
theorem sp_154 : Sup wv_154 := sup_n sp_153
theorem sp_155 : Sup wv_155 := sup_I sp_154 (by decide)
theorem sp_156 : Sup wv_156 := sup_I sp_155 (by decide)
theorem sp_157 : Sup wv_157 := sup_n sp_156
theorem sp_158 : Sup wv_158 := sup_R sp_157
theorem sp_159 : Sup wv_159 := sup_I sp_158 (by decide)
theorem sp_160 : Sup wv_160 := sup_R sp_159
theorem sp_161 : Sup wv_161 := sup_R sp_160
theorem sp_162 : Sup wv_162 := sup_n sp_161
theorem sp_163 : Sup wv_163 := sup_n sp_162
theorem sp_164 : Sup wv_164 := sup_I sp_163 (by decide)
theorem sp_165 : Sup wv_165 := sup_I sp_164 (by decide)
theorem sp_166 : Sup wv_166 := sup_n sp_165
theorem sp_167 : Sup wv_167 := sup_R sp_166
theorem sp_168 : Sup wv_168 := sup_I sp_167 (by decide)
theorem sp_169 : Sup wv_169 := sup_R sp_168
theorem sp_170 : Sup wv_170 := sup_n sp_169
theorem sp_171 : Sup wv_171 := sup_I sp_170 (by decide)
theorem sp_172 : Sup wv_172 := sup_I sp_171 (by decide)
theorem sp_173 : Sup wv_173 := sup_n sp_172
theorem sp_174 : Sup wv_174 := sup_R sp_173
theorem sp_175 : Sup wv_175 := sup_I sp_174 (by decide)
theorem sp_176 : Sup wv_176 := sup_R sp_175
theorem sp_177 : Sup wv_177 := sup_n sp_176
theorem sp_178 : Sup wv_178 := sup_I sp_177 (by decide)
theorem sp_179 : Sup wv_179 := sup_I sp_178 (by decide)
theorem sp_180 : Sup wv_180 := sup_n sp_179
theorem sp_181 : Sup wv_181 := sup_R sp_180
theorem sp_182 : Sup wv_182 := sup_I sp_181 (by decide)
theorem sp_183 : Sup wv_183 := sup_R sp_182
theorem sp_184 : Sup wv_184 := sup_n sp_183
theorem sp_185 : Sup wv_185 := sup_I sp_184 (by decide)
theorem sp_186 : Sup wv_186 := sup_I sp_185 (by decide)
theorem sp_187 : Sup wv_187 := sup_n sp_186
theorem sp_188 : Sup wv_188 := sup_R sp_187
theorem sp_189 : Sup wv_189 := sup_I sp_188 (by decide)
theorem sp_190 : Sup wv_190 := sup_R sp_189
theorem sp_191 : Sup wv_191 := sup_n sp_190
theorem sp_192 : Sup wv_192 := sup_I sp_191 (by decide)
theorem sp_193 : Sup wv_193 := sup_I sp_192 (by decide)
theorem sp_194 : Sup wv_194 := sup_n sp_193
theorem sp_195 : Sup wv_195 := sup_R sp_194
theorem sp_196 : Sup wv_196 := sup_I sp_195 (by decide)
theorem sp_197 : Sup wv_197 := sup_R sp_196
theorem sp_198 : Sup wv_198 := sup_R sp_197
theorem sp_199 : Sup wv_199 := sup_n sp_198
theorem sp_200 : Sup wv_200 := sup_R sp_199
theorem sp_201 : Sup wv_201 := sup_n sp_200
theorem sp_202 : Sup wv_202 := sup_n sp_201
theorem sp_203 : Sup wv_203 := sup_R sp_202
theorem sp_204 : Sup wv_204 := sup_I sp_203 (by decide)
theorem sp_205 : Sup wv_205 := sup_R sp_204
theorem sp_206 : Sup wv_206 := sup_n sp_205
theorem sp_207 : Sup wv_207 := sup_n sp_206
theorem sp_208 : Sup wv_208 := sup_R sp_207
theorem sp_209 : Sup wv_209 := sup_I sp_208 (by decide)
theorem sp_210 : Sup wv_210 := sup_R sp_209
theorem sp_211 : Sup wv_211 := sup_n sp_210
theorem sp_212 : Sup wv_212 := sup_n sp_211
theorem sp_213 : Sup wv_213 := sup_R sp_212
theorem sp_214 : Sup wv_214 := sup_I sp_213 (by decide)
theorem sp_215 : Sup wv_215 := sup_R sp_214
theorem sp_216 : Sup wv_216 := sup_n sp_215
theorem sp_217 : Sup wv_217 := sup_n sp_216
theorem sp_218 : Sup wv_218 := sup_R sp_217
theorem sp_219 : Sup wv_219 := sup_I sp_218 (by decide)
theorem sp_220 : Sup wv_220 := sup_R sp_219
theorem sp_221 : Sup wv_221 := sup_n sp_220
theorem sp_222 : Sup wv_222 := sup_n sp_221
theorem sp_223 : Sup wv_223 := sup_R sp_222
theorem sp_224 : Sup wv_224 := sup_n sp_223
theorem sp_225 : Sup wv_225 := sup_R sp_224
theorem sp_226 : Sup wv_226 := sup_n sp_225
theorem sp_227 : Sup wv_227 := sup_R sp_226
theorem sp_228 : Sup wv_228 := sup_n sp_227
theorem sp_229 : Sup wv_229 := sup_R sp_228
theorem sp_230 : Sup wv_230 := sup_n sp_229
theorem sp_231 : Sup wv_231 := sup_R sp_230
theorem sp_232 : Sup wv_232 := sup_R sp_231
theorem sp_233 : Sup wv_233 := sup_n sp_232
theorem sp_234 : Sup wv_234 := sup_n sp_233
theorem sp_235 : Sup wv_235 := sup_R sp_234
theorem sp_236 : Sup wv_236 := sup_n sp_235
theorem sp_237 : Sup wv_237 := sup_R sp_236
theorem sp_238 : Sup wv_238 := sup_n sp_237
theorem sp_239 : Sup wv_239 := sup_R sp_238
theorem sp_240 : Sup wv_240 := sup_n sp_239
theorem sp_241 : Sup wv_241 := sup_R sp_240
theorem sp_242 : Sup wv_242 := sup_n sp_241
theorem sp_243 : Sup wv_243 := sup_R sp_242
theorem sp_244 : Sup wv_244 := sup_R sp_243
theorem sp_245 : Sup wv_245 := sup_n sp_244
theorem sp_246 : Sup wv_246 := sup_n sp_245
theorem sp_247 : Sup wv_247 := sup_R sp_246
theorem sp_248 : Sup wv_248 := sup_n sp_247
theorem sp_249 : Sup wv_249 := sup_R sp_248
theorem sp_250 : Sup wv_250 := sup_n sp_249
theorem sp_251 : Sup wv_251 := sup_R sp_250
theorem sp_252 : Sup wv_252 := sup_R sp_251
theorem sp_253 : Sup wv_253 := sup_n sp_252
theorem sp_254 : Sup wv_254 := sup_n sp_253
theorem sp_255 : Sup wv_255 := sup_R sp_254
theorem sp_256 : Sup wv_256 := sup_n sp_255
theorem sp_257 : Sup wv_257 := sup_R sp_256
theorem sp_258 : Sup wv_258 := sup_n sp_257
theorem sp_259 : Sup wv_259 := sup_R sp_258
theorem sp_260 : Sup wv_260 := sup_R sp_259
theorem sp_261 : Sup wv_261 := sup_n sp_260
theorem sp_262 : Sup wv_262 := sup_n sp_261
theorem sp_263 : Sup wv_263 := sup_R sp_262
theorem sp_264 : Sup wv_264 := sup_R sp_263
theorem sp_265 : Sup wv_265 := sup_n sp_264
theorem sp_266 : Sup wv_266 := sup_n sp_265
theorem sp_267 : Sup wv_267 := sup_R sp_266
theorem sp_268 : Sup wv_268 := sup_n sp_267
theorem sp_269 : Sup wv_269 := sup_R sp_268
theorem sp_270 : Sup wv_270 := sup_R sp_269
theorem sp_271 : Sup wv_271 := sup_n sp_270
theorem sp_272 : Sup wv_272 := sup_R sp_271
theorem sp_273 : Sup wv_273 := sup_n sp_272
theorem sp_274 : Sup wv_274 := sup_n sp_273
theorem sp_275 : Sup wv_275 := sup_R sp_274
theorem sp_276 : Sup wv_276 := sup_n sp_275
theorem sp_277 : Sup wv_277 := sup_R sp_276
theorem sp_278 : Sup wv_278 := sup_n sp_277
theorem sp_279 : Sup wv_279 := sup_R sp_278
theorem sp_280 : Sup wv_280 := sup_n sp_279
theorem sp_281 : Sup wv_281 := sup_R sp_280
theorem sp_282 : Sup wv_282 := sup_n sp_281
theorem sp_283 : Sup wv_283 := sup_R sp_282
theorem sp_284 : Sup wv_284 := sup_I sp_283 (by decide)
theorem sp_285 : Sup wv_285 := sup_n sp_284
theorem sp_286 : Sup wv_286 := sup_R sp_285
theorem sp_287 : Sup wv_287 := sup_n sp_286
theorem sp_288 : Sup wv_288 := sup_R sp_287
theorem sp_289 : Sup wv_289 := sup_n sp_288
theorem sp_290 : Sup wv_290 := sup_R sp_289
theorem sp_291 : Sup wv_291 := sup_n sp_290
theorem sp_292 : Sup wv_292 := sup_R sp_291
theorem sp_293 : Sup wv_293 := sup_n sp_292
theorem sp_294 : Sup wv_294 := sup_R sp_293
theorem sp_295 : Sup wv_295 := sup_n sp_294
theorem sp_296 : Sup wv_296 := sup_R sp_295
theorem sp_297 : Sup wv_297 := sup_n sp_296
theorem sp_298 : Sup wv_298 := sup_R sp_297
theorem sp_299 : Sup wv_299 := sup_n sp_298
theorem sp_300 : Sup wv_300 := sup_R sp_299
theorem sp_301 : Sup wv_301 := sup_n sp_300
theorem sp_302 : Sup wv_302 := sup_R sp_301
theorem sp_303 : Sup wv_303 := sup_n sp_302
theorem sp_304 : Sup wv_304 := sup_R sp_303
theorem sp_305 : Sup wv_305 := sup_n sp_304
theorem sp_306 : Sup wv_306 := sup_R sp_305
theorem sp_307 : Sup wv_307 := sup_n sp_306
theorem sp_308 : Sup wv_308 := sup_I sp_307 (by decide)
theorem sp_309 : Sup wv_309 := sup_I sp_308 (by decide)
theorem sp_310 : Sup wv_310 := sup_I sp_309 (by decide)
theorem sp_311 : Sup wv_311 := sup_I sp_310 (by decide)
theorem sp_312 : Sup wv_312 := sup_R sp_311
theorem sp_313 : Sup wv_313 := sup_n sp_312
theorem sp_314 : Sup wv_314 := sup_R sp_313
theorem sp_315 : Sup wv_315 := sup_n sp_314
theorem sp_316 : Sup wv_316 := sup_R sp_315
theorem sp_317 : Sup wv_317 := sup_n sp_316
theorem sp_318 : Sup wv_318 := sup_R sp_317
theorem in_0 {c k : Nat} (h : (c, k) ∉ pzL) : inR c k 0 := by
  have h0 : (0 : Int32).toInt = 0 := by decide
  have hw : ∀ j : Nat, (wrg j).1 ≤ 0 ∧ 0 ≤ (wrg j).2 := by
    intro j
    unfold wrg
    split
    · rename_i hj
      have hd : ∀ j : Nat, j < 10 → 0 ≤ ((#[8, 14, 3, 10, 12, 6, 8, 10, 30, 2147483647] : Array Int).getD j 0) := by decide
      exact ⟨Int.le_refl 0, hd j hj⟩
    · repeat' split
      all_goals (constructor <;> (try split) <;> (try split) <;> decide)
  have h1 : (rgo c k).1 ≤ 0 ∧ 0 ≤ (rgo c k).2 := by
    unfold rgo
    split
    · exact hw k
    · split
      · exact hw (k % 134)
      · split
        · rename_i q hq
          have hm := List.mem_of_find?_eq_some hq
          have hd : ∀ q ∈ rga, q.2.1 ≤ 0 ∧ 0 ≤ q.2.2 := by decide
          exact hd q hm
        · split
          · rename_i q hq
            have hm := List.mem_of_find?_eq_some hq
            have hp := List.find?_some hq
            have hd : ∀ q ∈ rgf, (q.2.2.1 ≤ 0 ∧ 0 ≤ q.2.2.2) ∨ (q.1, q.2.1) ∈ pzL := by decide +kernel
            rcases hd q hm with g | g
            · exact g
            · simp only [Bool.and_eq_true, beq_iff_eq] at hp
              rw [hp.1, hp.2] at g
              exact absurd g h
          · decide
  refine ⟨by rw [h0]; exact h1.1, by rw [h0]; exact h1.2, fun _ _ => Or.inl ⟨by rw [h0]; decide, by rw [h0]; decide⟩⟩
theorem in_z : ∀ q ∈ pzL, (rgo q.1 q.2).1 ≤ (wv_318.2.2.1 q.1 q.2).toInt ∧ (wv_318.2.2.1 q.1 q.2).toInt ≤ (rgo q.1 q.2).2 ∧ ¬ (q.1 = 96 ∨ q.1 = 97 ∨ q.1 = 101) := by decide +kernel
theorem okl_0 {f : Nat → Int32} {o : Nat} (h5 : f (o + 5) = 0) (h4 : f (o + 4) = 0) : okL f o := by
  have h0 : (0 : Int32).toInt = 0 := by decide
  refine ⟨fun j _ h => ?_, fun j _ h => ?_, fun j _ h => ?_⟩
  · rw [h5, h0] at h; omega
  · rw [h4, h0] at h; omega
  · rw [h5, h0] at h; omega
theorem iv_0 : Iv wv_318 := by
  have hz : ∀ {c k : Nat}, (c, k) ∉ pzL → wv_318.2.2.1 c k = 0 := fun h => sp_318 _ _ h
  refine ⟨⟨by decide +kernel, by decide +kernel, ?_, fun c k => ?_, ?_⟩, fun _ => okl_0 (hz (by decide)) (hz (by decide)), fun _ => by decide +kernel⟩
  · first
      | exact Or.inl ⟨by decide +kernel, by decide +kernel⟩
      | exact Or.inr ⟨by decide +kernel, by decide +kernel⟩
  · by_cases e : (c, k) ∈ pzL
    · have g := in_z _ e
      exact ⟨g.1, g.2.1, fun h => absurd h g.2.2⟩
    · rw [hz e]; exact in_0 e
  · exact ⟨okl_0 (hz (by decide)) (hz (by decide)), okl_0 (hz (by decide)) (hz (by decide)), okl_0 (hz (by decide)) (hz (by decide)), okl_0 (hz (by decide)) (hz (by decide))⟩
