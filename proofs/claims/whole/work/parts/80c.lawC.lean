set_option maxRecDepth 100000 in
theorem it_wsX4_init_r1 : ∀ w ∈ wsX4_init_r1, w ∈ lw_tbl := (mcT tw_24 (mcT tw_23 (mcT tw_22 (mcT tw_21 (mcT tw_20 (mcT tw_19 (mcT tw_18 (mcT tw_17 (mcT tw_16 (mcT tw_15 (mcT tw_14 (mcT tw_13 (mcT tw_12 (mcT tw_11 (mcT tw_10 (mcT tw_9 (mcT tw_8 (mcT tw_7 (mcT tw_6 (mcT tw_5 (mcT tw_4 (mcT tw_3 (mcT tw_2 (mcT tw_1 mnT))))))))))))))))))))))))
set_option maxRecDepth 100000 in
theorem it_wsX4_init_r2 : ∀ w ∈ wsX4_init_r2, w ∈ lw_tbl := (mcT tw_48 (mcT tw_47 (mcT tw_46 (mcT tw_45 (mcT tw_44 (mcT tw_43 (mcT tw_42 (mcT tw_41 (mcT tw_40 (mcT tw_39 (mcT tw_38 (mcT tw_37 (mcT tw_36 (mcT tw_35 (mcT tw_34 (mcT tw_33 (mcT tw_32 (mcT tw_31 (mcT tw_30 (mcT tw_29 (mcT tw_28 (mcT tw_27 (mcT tw_26 (mcT tw_25 mnT))))))))))))))))))))))))
set_option maxRecDepth 100000 in
theorem it_wsX4_init_r3 : ∀ w ∈ wsX4_init_r3, w ∈ lw_tbl := (mcT tw_54 (mcT tw_53 (mcT tw_52 (mcT tw_51 (mcT tw_50 (mcT tw_49 mnT))))))
set_option maxRecDepth 100000 in
theorem it_wsX4_post_r1 : ∀ w ∈ wsX4_post_r1, w ∈ lw_tbl := (mcT tw_18 (mcT tw_73 (mcT tw_84 (mcT tw_83 (mcT tw_63 (mcT tw_82 (mcT tw_66 (mcT tw_65 (mcT tw_64 (mcT tw_62 (mcT tw_14 (mcT tw_10 (mcT tw_61 (mcT tw_60 (mcT tw_59 (mcT tw_58 (mcT tw_15 (mcT tw_57 (mcT tw_56 (mcT tw_81 (mcT tw_80 (mcT tw_79 (mcT tw_19 (mcT tw_78 mnT))))))))))))))))))))))))
set_option maxRecDepth 100000 in
theorem it_wsX4_post_r2 : ∀ w ∈ wsX4_post_r2, w ∈ lw_tbl := (mcT tw_68 (mcT tw_1 (mcT tw_48 mnT)))
set_option maxRecDepth 100000 in
theorem it_wsX4_line_r1 : ∀ w ∈ wsX4_line_r1, w ∈ lw_tbl := (mcT tw_18 (mcT tw_112 (mcT tw_111 (mcT tw_110 (mcT tw_109 (mcT tw_108 (mcT tw_19 (mcT tw_107 (mcT tw_106 (mcT tw_91 (mcT tw_90 (mcT tw_89 (mcT tw_68 (mcT tw_105 (mcT tw_104 (mcT tw_103 (mcT tw_102 (mcT tw_48 (mcT tw_67 (mcT tw_101 (mcT tw_63 (mcT tw_100 (mcT tw_99 (mcT tw_98 mnT))))))))))))))))))))))))
set_option maxRecDepth 100000 in
theorem it_wsX4_line_r2 : ∀ w ∈ wsX4_line_r2, w ∈ lw_tbl := (mcT tw_114 (mcT tw_113 (mcT tw_47 (mcT tw_66 (mcT tw_65 (mcT tw_64 (mcT tw_62 (mcT tw_14 (mcT tw_10 (mcT tw_61 (mcT tw_60 (mcT tw_59 (mcT tw_58 (mcT tw_15 (mcT tw_57 (mcT tw_56 mnT))))))))))))))))
set_option maxRecDepth 100000 in
theorem it_wsX4_lines_r1 : ∀ w ∈ wsX4_lines_r1, w ∈ lw_tbl := (mcT tw_138 (mcT tw_137 (mcT tw_18 (mcT tw_111 (mcT tw_136 (mcT tw_135 (mcT tw_134 (mcT tw_63 (mcT tw_133 (mcT tw_8 (mcT tw_132 (mcT tw_131 (mcT tw_130 (mcT tw_129 (mcT tw_128 (mcT tw_127 (mcT tw_126 (mcT tw_125 (mcT tw_124 (mcT tw_123 (mcT tw_122 (mcT tw_121 (mcT tw_120 (mcT tw_119 mnT))))))))))))))))))))))))
set_option maxRecDepth 100000 in
theorem it_wsX4_lines_r2 : ∀ w ∈ wsX4_lines_r2, w ∈ lw_tbl := (mcT tw_151 (mcT tw_6 (mcT tw_150 (mcT tw_149 (mcT tw_148 (mcT tw_147 (mcT tw_146 (mcT tw_19 (mcT tw_145 (mcT tw_48 (mcT tw_44 (mcT tw_144 (mcT tw_143 (mcT tw_142 (mcT tw_141 (mcT tw_140 (mcT tw_139 (mcT tw_109 (mcT tw_108 (mcT tw_107 (mcT tw_106 (mcT tw_91 (mcT tw_90 (mcT tw_89 mnT))))))))))))))))))))))))
set_option maxRecDepth 100000 in
theorem it_wsX4_lines_r3 : ∀ w ∈ wsX4_lines_r3, w ∈ lw_tbl := (mcT tw_68 (mcT tw_156 (mcT tw_155 (mcT tw_154 (mcT tw_153 (mcT tw_152 (mcT tw_104 (mcT tw_103 (mcT tw_102 (mcT tw_67 (mcT tw_101 (mcT tw_100 (mcT tw_99 (mcT tw_98 (mcT tw_114 (mcT tw_113 (mcT tw_47 (mcT tw_66 (mcT tw_65 (mcT tw_64 (mcT tw_62 (mcT tw_14 (mcT tw_10 (mcT tw_61 mnT))))))))))))))))))))))))
set_option maxRecDepth 100000 in
theorem it_wsX4_lines_r4 : ∀ w ∈ wsX4_lines_r4, w ∈ lw_tbl := (mcT tw_60 (mcT tw_59 (mcT tw_58 (mcT tw_15 (mcT tw_57 (mcT tw_56 mnT))))))
set_option maxRecDepth 100000 in
theorem it_wsX4_swap_r1 : ∀ w ∈ wsX4_swap_r1, w ∈ lw_tbl := (mcT tw_18 (mcT tw_164 (mcT tw_163 (mcT tw_162 (mcT tw_19 (mcT tw_161 (mcT tw_48 (mcT tw_106 (mcT tw_91 (mcT tw_90 (mcT tw_89 (mcT tw_68 (mcT tw_66 (mcT tw_65 (mcT tw_64 (mcT tw_63 (mcT tw_62 (mcT tw_14 (mcT tw_10 (mcT tw_61 (mcT tw_60 (mcT tw_59 (mcT tw_58 (mcT tw_15 mnT))))))))))))))))))))))))
set_option maxRecDepth 100000 in
theorem it_wsX4_swap_r2 : ∀ w ∈ wsX4_swap_r2, w ∈ lw_tbl := (mcT tw_57 (mcT tw_56 (mcT tw_169 (mcT tw_101 (mcT tw_100 (mcT tw_168 (mcT tw_167 (mcT tw_166 (mcT tw_165 (mcT tw_47 (mcT tw_99 (mcT tw_98 (mcT tw_114 (mcT tw_113 mnT))))))))))))))
set_option maxRecDepth 100000 in
theorem it_wsX4_doubled_r1 : ∀ w ∈ wsX4_doubled_r1, w ∈ lw_tbl := (mcT tw_18 (mcT tw_73 (mcT tw_164 (mcT tw_163 (mcT tw_162 (mcT tw_19 (mcT tw_161 (mcT tw_48 (mcT tw_106 (mcT tw_91 (mcT tw_90 (mcT tw_89 (mcT tw_68 (mcT tw_169 (mcT tw_101 (mcT tw_63 (mcT tw_100 (mcT tw_188 (mcT tw_187 (mcT tw_186 (mcT tw_185 (mcT tw_47 (mcT tw_1 (mcT tw_67 mnT))))))))))))))))))))))))
set_option maxRecDepth 100000 in
theorem it_wsX4_doubled_r2 : ∀ w ∈ wsX4_doubled_r2, w ∈ lw_tbl := (mcT tw_99 (mcT tw_98 (mcT tw_114 (mcT tw_113 (mcT tw_66 (mcT tw_65 (mcT tw_64 (mcT tw_62 (mcT tw_14 (mcT tw_10 (mcT tw_61 (mcT tw_60 (mcT tw_59 (mcT tw_58 (mcT tw_15 (mcT tw_57 (mcT tw_56 mnT)))))))))))))))))
set_option maxRecDepth 100000 in
theorem it_wsX4_about_r1 : ∀ w ∈ wsX4_about_r1, w ∈ lw_tbl := (mcT tw_18 (mcT tw_93 (mcT tw_112 (mcT tw_14 (mcT tw_203 (mcT tw_92 (mcT tw_91 (mcT tw_90 (mcT tw_19 (mcT tw_89 (mcT tw_68 (mcT tw_202 (mcT tw_201 (mcT tw_200 (mcT tw_15 (mcT tw_199 (mcT tw_198 (mcT tw_197 (mcT tw_196 (mcT tw_195 (mcT tw_194 (mcT tw_56 (mcT tw_38 (mcT tw_193 mnT))))))))))))))))))))))))
set_option maxRecDepth 100000 in
theorem it_wsX4_about_r2 : ∀ w ∈ wsX4_about_r2, w ∈ lw_tbl := (mcT tw_223 (mcT tw_222 (mcT tw_221 (mcT tw_34 (mcT tw_220 (mcT tw_36 (mcT tw_219 (mcT tw_218 (mcT tw_217 (mcT tw_216 (mcT tw_215 (mcT tw_214 (mcT tw_213 (mcT tw_39 (mcT tw_212 (mcT tw_211 (mcT tw_210 (mcT tw_209 (mcT tw_35 (mcT tw_208 (mcT tw_207 (mcT tw_206 (mcT tw_205 (mcT tw_204 mnT))))))))))))))))))))))))
set_option maxRecDepth 100000 in
theorem it_wsX4_about_r3 : ∀ w ∈ wsX4_about_r3, w ∈ lw_tbl := (mcT tw_239 (mcT tw_238 (mcT tw_237 (mcT tw_236 (mcT tw_101 (mcT tw_63 (mcT tw_100 (mcT tw_175 (mcT tw_174 (mcT tw_178 (mcT tw_177 (mcT tw_235 (mcT tw_234 (mcT tw_233 (mcT tw_232 (mcT tw_231 (mcT tw_230 (mcT tw_229 (mcT tw_228 (mcT tw_227 (mcT tw_226 (mcT tw_225 (mcT tw_224 (mcT tw_46 mnT))))))))))))))))))))))))
set_option maxRecDepth 100000 in
theorem it_wsX4_about_r4 : ∀ w ∈ wsX4_about_r4, w ∈ lw_tbl := (mcT tw_45 (mcT tw_247 (mcT tw_246 (mcT tw_245 (mcT tw_244 (mcT tw_243 (mcT tw_242 (mcT tw_241 (mcT tw_240 (mcT tw_48 (mcT tw_47 mnT)))))))))))
set_option maxRecDepth 100000 in
theorem it_wsX4_together_r1 : ∀ w ∈ wsX4_together_r1, w ∈ lw_tbl := (mcT tw_255 (mcT tw_254 (mcT tw_253 (mcT tw_63 (mcT tw_252 (mcT tw_18 (mcT tw_73 (mcT tw_227 (mcT tw_226 (mcT tw_225 (mcT tw_19 (mcT tw_224 (mcT tw_46 (mcT tw_68 (mcT tw_45 (mcT tw_247 (mcT tw_246 (mcT tw_245 (mcT tw_244 (mcT tw_243 (mcT tw_242 (mcT tw_241 (mcT tw_240 (mcT tw_48 mnT))))))))))))))))))))))))
set_option maxRecDepth 100000 in
theorem it_wsX4_together_r2 : ∀ w ∈ wsX4_together_r2, w ∈ lw_tbl := (mcT tw_47 (mcT tw_101 (mcT tw_100 (mcT tw_178 (mcT tw_177 mnT)))))
set_option maxRecDepth 100000 in
theorem it_wsX4_rank_r1 : ∀ w ∈ wsX4_rank_r1, w ∈ lw_tbl := (mcT tw_18 (mcT tw_14 (mcT tw_92 (mcT tw_91 (mcT tw_90 (mcT tw_19 (mcT tw_89 (mcT tw_68 (mcT tw_270 (mcT tw_269 (mcT tw_63 (mcT tw_268 (mcT tw_267 (mcT tw_266 (mcT tw_265 (mcT tw_15 (mcT tw_264 (mcT tw_198 (mcT tw_263 (mcT tw_262 (mcT tw_261 (mcT tw_260 (mcT tw_197 (mcT tw_196 mnT))))))))))))))))))))))))
set_option maxRecDepth 100000 in
theorem it_wsX4_rank_r2 : ∀ w ∈ wsX4_rank_r2, w ∈ lw_tbl := (mcT tw_195 (mcT tw_194 (mcT tw_56 (mcT tw_38 (mcT tw_193 (mcT tw_223 (mcT tw_222 (mcT tw_221 (mcT tw_34 (mcT tw_220 (mcT tw_36 (mcT tw_219 (mcT tw_218 (mcT tw_217 (mcT tw_216 (mcT tw_215 (mcT tw_214 (mcT tw_213 (mcT tw_39 (mcT tw_212 (mcT tw_211 (mcT tw_210 (mcT tw_209 (mcT tw_35 mnT))))))))))))))))))))))))
set_option maxRecDepth 100000 in
theorem it_wsX4_rank_r3 : ∀ w ∈ wsX4_rank_r3, w ∈ lw_tbl := (mcT tw_208 (mcT tw_207 (mcT tw_206 (mcT tw_205 (mcT tw_204 (mcT tw_239 (mcT tw_238 (mcT tw_237 (mcT tw_236 (mcT tw_101 (mcT tw_100 (mcT tw_175 (mcT tw_174 (mcT tw_178 (mcT tw_177 (mcT tw_235 (mcT tw_234 (mcT tw_233 (mcT tw_232 mnT)))))))))))))))))))
set_option maxRecDepth 100000 in
theorem it_wsX4_rest_r1 : ∀ w ∈ wsX4_rest_r1, w ∈ lw_tbl := (mcT tw_18 (mcT tw_73 (mcT tw_14 (mcT tw_278 (mcT tw_277 (mcT tw_276 (mcT tw_15 (mcT tw_275 (mcT tw_198 (mcT tw_197 (mcT tw_196 (mcT tw_195 (mcT tw_194 (mcT tw_56 (mcT tw_38 (mcT tw_193 (mcT tw_223 (mcT tw_222 (mcT tw_221 (mcT tw_34 (mcT tw_220 (mcT tw_36 (mcT tw_219 (mcT tw_218 mnT))))))))))))))))))))))))
set_option maxRecDepth 100000 in
theorem it_wsX4_rest_r2 : ∀ w ∈ wsX4_rest_r2, w ∈ lw_tbl := (mcT tw_217 (mcT tw_216 (mcT tw_215 (mcT tw_214 (mcT tw_213 (mcT tw_39 (mcT tw_212 (mcT tw_211 (mcT tw_210 (mcT tw_209 (mcT tw_35 (mcT tw_208 (mcT tw_207 (mcT tw_206 (mcT tw_205 (mcT tw_204 (mcT tw_239 (mcT tw_238 (mcT tw_237 (mcT tw_236 (mcT tw_101 (mcT tw_63 (mcT tw_100 (mcT tw_175 mnT))))))))))))))))))))))))
set_option maxRecDepth 100000 in
theorem it_wsX4_rest_r3 : ∀ w ∈ wsX4_rest_r3, w ∈ lw_tbl := (mcT tw_174 (mcT tw_178 (mcT tw_177 mnT)))
set_option maxRecDepth 100000 in
theorem it_wsX4_ranks_r1 : ∀ w ∈ wsX4_ranks_r1, w ∈ lw_tbl := (mcT tw_14 (mcT tw_270 (mcT tw_269 (mcT tw_63 (mcT tw_268 (mcT tw_286 (mcT tw_285 (mcT tw_284 (mcT tw_15 (mcT tw_283 (mcT tw_38 (mcT tw_198 (mcT tw_263 (mcT tw_262 (mcT tw_261 (mcT tw_260 (mcT tw_197 (mcT tw_196 (mcT tw_195 (mcT tw_194 (mcT tw_56 (mcT tw_193 (mcT tw_223 (mcT tw_222 mnT))))))))))))))))))))))))
set_option maxRecDepth 100000 in
theorem it_wsX4_ranks_r2 : ∀ w ∈ wsX4_ranks_r2, w ∈ lw_tbl := (mcT tw_221 (mcT tw_34 (mcT tw_220 (mcT tw_36 (mcT tw_219 (mcT tw_218 (mcT tw_217 (mcT tw_216 (mcT tw_215 (mcT tw_214 (mcT tw_213 (mcT tw_39 (mcT tw_212 (mcT tw_211 (mcT tw_210 (mcT tw_209 (mcT tw_35 (mcT tw_208 (mcT tw_207 (mcT tw_206 (mcT tw_205 (mcT tw_204 (mcT tw_239 (mcT tw_238 mnT))))))))))))))))))))))))
set_option maxRecDepth 100000 in
theorem it_wsX4_ranks_r3 : ∀ w ∈ wsX4_ranks_r3, w ∈ lw_tbl := (mcT tw_237 (mcT tw_236 (mcT tw_101 (mcT tw_100 (mcT tw_175 (mcT tw_174 (mcT tw_178 (mcT tw_177 mnT))))))))
set_option maxRecDepth 100000 in
theorem it_wsX4_apart_r1 : ∀ w ∈ wsX4_apart_r1, w ∈ lw_tbl := (mcT tw_18 (mcT tw_14 (mcT tw_92 (mcT tw_91 (mcT tw_90 (mcT tw_19 (mcT tw_89 (mcT tw_68 (mcT tw_294 (mcT tw_293 (mcT tw_292 (mcT tw_15 (mcT tw_291 (mcT tw_198 (mcT tw_197 (mcT tw_196 (mcT tw_195 (mcT tw_194 (mcT tw_56 (mcT tw_38 (mcT tw_193 (mcT tw_223 (mcT tw_222 (mcT tw_221 mnT))))))))))))))))))))))))
set_option maxRecDepth 100000 in
theorem it_wsX4_apart_r2 : ∀ w ∈ wsX4_apart_r2, w ∈ lw_tbl := (mcT tw_34 (mcT tw_220 (mcT tw_36 (mcT tw_219 (mcT tw_218 (mcT tw_217 (mcT tw_216 (mcT tw_215 (mcT tw_214 (mcT tw_213 (mcT tw_39 (mcT tw_212 (mcT tw_211 (mcT tw_210 (mcT tw_209 (mcT tw_35 (mcT tw_208 (mcT tw_207 (mcT tw_206 (mcT tw_205 (mcT tw_204 (mcT tw_239 (mcT tw_238 (mcT tw_237 mnT))))))))))))))))))))))))
set_option maxRecDepth 100000 in
theorem it_wsX4_apart_r3 : ∀ w ∈ wsX4_apart_r3, w ∈ lw_tbl := (mcT tw_236 (mcT tw_101 (mcT tw_63 (mcT tw_100 (mcT tw_175 (mcT tw_174 (mcT tw_178 (mcT tw_177 (mcT tw_235 (mcT tw_234 (mcT tw_233 (mcT tw_232 mnT))))))))))))
set_option maxRecDepth 100000 in
theorem it_wsX4_chosen_r1 : ∀ w ∈ wsX4_chosen_r1, w ∈ lw_tbl := (mcT tw_18 (mcT tw_73 (mcT tw_14 (mcT tw_255 (mcT tw_254 (mcT tw_253 (mcT tw_63 (mcT tw_252 (mcT tw_227 (mcT tw_226 (mcT tw_225 (mcT tw_19 (mcT tw_224 (mcT tw_46 (mcT tw_68 (mcT tw_45 (mcT tw_247 (mcT tw_246 (mcT tw_245 (mcT tw_244 (mcT tw_243 (mcT tw_242 (mcT tw_241 (mcT tw_240 mnT))))))))))))))))))))))))
set_option maxRecDepth 100000 in
theorem it_wsX4_chosen_r2 : ∀ w ∈ wsX4_chosen_r2, w ∈ lw_tbl := (mcT tw_48 (mcT tw_47 (mcT tw_101 (mcT tw_100 (mcT tw_178 (mcT tw_177 (mcT tw_302 (mcT tw_301 (mcT tw_300 (mcT tw_299 (mcT tw_286 (mcT tw_285 (mcT tw_284 (mcT tw_15 (mcT tw_283 (mcT tw_38 (mcT tw_198 (mcT tw_263 (mcT tw_262 (mcT tw_261 (mcT tw_260 (mcT tw_197 (mcT tw_196 (mcT tw_195 mnT))))))))))))))))))))))))
set_option maxRecDepth 100000 in
theorem it_wsX4_chosen_r3 : ∀ w ∈ wsX4_chosen_r3, w ∈ lw_tbl := (mcT tw_194 (mcT tw_56 (mcT tw_193 (mcT tw_223 (mcT tw_222 (mcT tw_221 (mcT tw_34 (mcT tw_220 (mcT tw_36 (mcT tw_219 (mcT tw_218 (mcT tw_217 (mcT tw_216 (mcT tw_215 (mcT tw_214 (mcT tw_213 (mcT tw_39 (mcT tw_212 (mcT tw_211 (mcT tw_210 (mcT tw_209 (mcT tw_35 (mcT tw_208 (mcT tw_207 mnT))))))))))))))))))))))))
set_option maxRecDepth 100000 in
theorem it_wsX4_chosen_r4 : ∀ w ∈ wsX4_chosen_r4, w ∈ lw_tbl := (mcT tw_206 (mcT tw_205 (mcT tw_204 (mcT tw_239 (mcT tw_238 (mcT tw_237 (mcT tw_236 (mcT tw_175 (mcT tw_174 (mcT tw_306 (mcT tw_305 (mcT tw_304 (mcT tw_303 (mcT tw_235 (mcT tw_234 (mcT tw_233 (mcT tw_232 mnT)))))))))))))))))
set_option maxRecDepth 100000 in
theorem it_wsX4_flood_r1 : ∀ w ∈ wsX4_flood_r1, w ∈ lw_tbl := (mcT tw_18 (mcT tw_10 (mcT tw_320 (mcT tw_92 (mcT tw_91 (mcT tw_90 (mcT tw_19 (mcT tw_89 (mcT tw_68 (mcT tw_319 (mcT tw_318 (mcT tw_317 (mcT tw_11 (mcT tw_316 (mcT tw_28 (mcT tw_27 (mcT tw_26 (mcT tw_315 (mcT tw_314 (mcT tw_313 (mcT tw_312 (mcT tw_311 (mcT tw_246 (mcT tw_245 mnT))))))))))))))))))))))))
set_option maxRecDepth 100000 in
theorem it_wsX4_flood_r2 : ∀ w ∈ wsX4_flood_r2, w ∈ lw_tbl := (mcT tw_244 (mcT tw_338 (mcT tw_337 (mcT tw_336 (mcT tw_335 (mcT tw_53 (mcT tw_334 (mcT tw_54 (mcT tw_101 (mcT tw_63 (mcT tw_100 (mcT tw_333 (mcT tw_332 (mcT tw_331 (mcT tw_330 (mcT tw_329 (mcT tw_328 (mcT tw_327 (mcT tw_326 (mcT tw_325 (mcT tw_324 (mcT tw_323 (mcT tw_322 (mcT tw_321 mnT))))))))))))))))))))))))
set_option maxRecDepth 100000 in
theorem it_wsX4_flood_r3 : ∀ w ∈ wsX4_flood_r3, w ∈ lw_tbl := (mcT tw_342 (mcT tw_341 (mcT tw_340 (mcT tw_339 (mcT tw_29 (mcT tw_178 (mcT tw_177 (mcT tw_175 (mcT tw_174 mnT)))))))))
set_option maxRecDepth 100000 in
theorem it_wsX4_sheet_r1 : ∀ w ∈ wsX4_sheet_r1, w ∈ lw_tbl := (mcT tw_138 (mcT tw_136 (mcT tw_135 (mcT tw_134 (mcT tw_63 (mcT tw_133 (mcT tw_8 (mcT tw_132 (mcT tw_131 (mcT tw_130 (mcT tw_124 (mcT tw_123 (mcT tw_122 (mcT tw_121 (mcT tw_376 (mcT tw_375 (mcT tw_374 (mcT tw_6 (mcT tw_373 (mcT tw_372 (mcT tw_371 (mcT tw_149 (mcT tw_49 (mcT tw_370 mnT))))))))))))))))))))))))
set_option maxRecDepth 100000 in
theorem it_wsX4_sheet_r2 : ∀ w ∈ wsX4_sheet_r2, w ∈ lw_tbl := (mcT tw_246 (mcT tw_245 (mcT tw_244 mnT)))
set_option maxRecDepth 100000 in
theorem it_wsX4_cell_r1 : ∀ w ∈ wsX4_cell_r1, w ∈ lw_tbl := (mcT tw_138 (mcT tw_365 (mcT tw_388 (mcT tw_136 (mcT tw_135 (mcT tw_134 (mcT tw_63 (mcT tw_133 (mcT tw_8 (mcT tw_132 (mcT tw_131 (mcT tw_130 (mcT tw_129 (mcT tw_128 (mcT tw_127 (mcT tw_126 (mcT tw_125 (mcT tw_120 (mcT tw_119 (mcT tw_151 (mcT tw_6 (mcT tw_150 (mcT tw_149 (mcT tw_124 mnT))))))))))))))))))))))))
set_option maxRecDepth 100000 in
theorem it_wsX4_cell_r2 : ∀ w ∈ wsX4_cell_r2, w ∈ lw_tbl := (mcT tw_123 (mcT tw_122 (mcT tw_121 mnT)))
set_option maxRecDepth 100000 in
theorem it_wsX4_tell_r1 : ∀ w ∈ wsX4_tell_r1, w ∈ lw_tbl := (mcT tw_18 (mcT tw_92 (mcT tw_91 (mcT tw_90 (mcT tw_19 (mcT tw_89 (mcT tw_68 (mcT tw_416 (mcT tw_415 (mcT tw_414 (mcT tw_63 (mcT tw_413 (mcT tw_112 (mcT tw_412 (mcT tw_411 (mcT tw_410 (mcT tw_409 (mcT tw_408 (mcT tw_407 (mcT tw_406 (mcT tw_405 (mcT tw_404 (mcT tw_403 (mcT tw_402 mnT))))))))))))))))))))))))
set_option maxRecDepth 100000 in
theorem it_wsX4_tell_r2 : ∀ w ∈ wsX4_tell_r2, w ∈ lw_tbl := (mcT tw_422 (mcT tw_421 (mcT tw_93 (mcT tw_420 (mcT tw_419 (mcT tw_418 (mcT tw_417 mnT)))))))
set_option maxRecDepth 100000 in
theorem it_wsX4_told_r1 : ∀ w ∈ wsX4_told_r1, w ∈ lw_tbl := (mcT tw_18 (mcT tw_73 (mcT tw_111 (mcT tw_302 (mcT tw_301 (mcT tw_300 (mcT tw_63 (mcT tw_299 (mcT tw_14 (mcT tw_286 (mcT tw_285 (mcT tw_284 (mcT tw_15 (mcT tw_283 (mcT tw_38 (mcT tw_198 (mcT tw_263 (mcT tw_262 (mcT tw_261 (mcT tw_260 (mcT tw_197 (mcT tw_196 (mcT tw_195 (mcT tw_194 mnT))))))))))))))))))))))))
set_option maxRecDepth 100000 in
theorem it_wsX4_told_r2 : ∀ w ∈ wsX4_told_r2, w ∈ lw_tbl := (mcT tw_56 (mcT tw_193 (mcT tw_223 (mcT tw_222 (mcT tw_221 (mcT tw_34 (mcT tw_220 (mcT tw_36 (mcT tw_219 (mcT tw_218 (mcT tw_217 (mcT tw_216 (mcT tw_215 (mcT tw_214 (mcT tw_213 (mcT tw_39 (mcT tw_212 (mcT tw_211 (mcT tw_210 (mcT tw_209 (mcT tw_35 (mcT tw_208 (mcT tw_207 (mcT tw_206 mnT))))))))))))))))))))))))
set_option maxRecDepth 100000 in
theorem it_wsX4_told_r3 : ∀ w ∈ wsX4_told_r3, w ∈ lw_tbl := (mcT tw_205 (mcT tw_204 (mcT tw_239 (mcT tw_238 (mcT tw_237 (mcT tw_236 (mcT tw_101 (mcT tw_100 (mcT tw_175 (mcT tw_174 (mcT tw_178 (mcT tw_177 (mcT tw_446 (mcT tw_445 (mcT tw_444 (mcT tw_19 (mcT tw_443 (mcT tw_68 (mcT tw_48 (mcT tw_227 (mcT tw_226 (mcT tw_225 (mcT tw_224 (mcT tw_46 mnT))))))))))))))))))))))))
set_option maxRecDepth 100000 in
theorem it_wsX4_told_r4 : ∀ w ∈ wsX4_told_r4, w ∈ lw_tbl := (mcT tw_45 (mcT tw_247 (mcT tw_246 (mcT tw_245 (mcT tw_244 (mcT tw_243 (mcT tw_242 (mcT tw_241 (mcT tw_240 (mcT tw_47 mnT))))))))))
set_option maxRecDepth 100000 in
theorem it_wsX5_line_r1 : ∀ w ∈ wsX5_line_r1, w ∈ lw_tbl := (mcT tw_478 (mcT tw_515 (mcT tw_514 (mcT tw_513 (mcT tw_474 (mcT tw_512 (mcT tw_467 (mcT tw_499 (mcT tw_498 (mcT tw_497 (mcT tw_496 (mcT tw_479 (mcT tw_490 (mcT tw_489 (mcT tw_488 (mcT tw_511 (mcT tw_510 (mcT tw_509 (mcT tw_508 (mcT tw_507 (mcT tw_506 (mcT tw_505 (mcT tw_504 (mcT tw_466 mnT))))))))))))))))))))))))
set_option maxRecDepth 100000 in
theorem it_wsX5_line_r2 : ∀ w ∈ wsX5_line_r2, w ∈ lw_tbl := (mcT tw_465 (mcT tw_477 (mcT tw_476 (mcT tw_475 (mcT tw_473 (mcT tw_472 (mcT tw_471 mnT)))))))
set_option maxRecDepth 100000 in
theorem it_wsX5_lines_r1 : ∀ w ∈ wsX5_lines_r1, w ∈ lw_tbl := (mcT tw_537 (mcT tw_455 (mcT tw_454 (mcT tw_536 (mcT tw_535 (mcT tw_474 (mcT tw_534 (mcT tw_533 (mcT tw_490 (mcT tw_489 (mcT tw_488 (mcT tw_532 (mcT tw_531 (mcT tw_530 (mcT tw_529 (mcT tw_528 (mcT tw_527 (mcT tw_526 (mcT tw_525 (mcT tw_524 (mcT tw_523 (mcT tw_522 (mcT tw_521 (mcT tw_520 mnT))))))))))))))))))))))))
set_option maxRecDepth 100000 in
theorem it_wsX5_lines_r2 : ∀ w ∈ wsX5_lines_r2, w ∈ lw_tbl := (mcT tw_540 (mcT tw_539 (mcT tw_538 (mcT tw_478 (mcT tw_451 (mcT tw_467 (mcT tw_453 (mcT tw_515 (mcT tw_514 (mcT tw_513 (mcT tw_512 (mcT tw_499 (mcT tw_498 (mcT tw_497 (mcT tw_496 (mcT tw_479 (mcT tw_511 (mcT tw_510 (mcT tw_509 (mcT tw_508 (mcT tw_507 (mcT tw_506 (mcT tw_505 (mcT tw_504 mnT))))))))))))))))))))))))
set_option maxRecDepth 100000 in
theorem it_wsX5_lines_r3 : ∀ w ∈ wsX5_lines_r3, w ∈ lw_tbl := (mcT tw_466 (mcT tw_465 (mcT tw_477 (mcT tw_476 (mcT tw_475 (mcT tw_473 (mcT tw_472 (mcT tw_471 mnT))))))))
set_option maxRecDepth 100000 in
theorem it_wsX5_swap_r1 : ∀ w ∈ wsX5_swap_r1, w ∈ lw_tbl := (mcT tw_466 (mcT tw_465 (mcT tw_548 (mcT tw_547 (mcT tw_546 (mcT tw_474 (mcT tw_545 (mcT tw_467 (mcT tw_499 (mcT tw_498 (mcT tw_497 (mcT tw_496 (mcT tw_479 (mcT tw_490 (mcT tw_489 (mcT tw_488 (mcT tw_507 (mcT tw_506 (mcT tw_505 (mcT tw_504 (mcT tw_477 (mcT tw_476 (mcT tw_475 (mcT tw_473 mnT))))))))))))))))))))))))
set_option maxRecDepth 100000 in
theorem it_wsX5_swap_r2 : ∀ w ∈ wsX5_swap_r2, w ∈ lw_tbl := (mcT tw_472 (mcT tw_471 mnT))
set_option maxRecDepth 100000 in
theorem it_wsX5_doubled_r1 : ∀ w ∈ wsX5_doubled_r1, w ∈ lw_tbl := (mcT tw_479 (mcT tw_468 (mcT tw_467 (mcT tw_466 (mcT tw_465 (mcT tw_478 (mcT tw_548 (mcT tw_547 (mcT tw_546 (mcT tw_474 (mcT tw_545 (mcT tw_499 (mcT tw_498 (mcT tw_497 (mcT tw_496 (mcT tw_490 (mcT tw_489 (mcT tw_488 (mcT tw_487 (mcT tw_486 (mcT tw_485 (mcT tw_484 (mcT tw_507 (mcT tw_506 mnT))))))))))))))))))))))))
set_option maxRecDepth 100000 in
theorem it_wsX5_doubled_r2 : ∀ w ∈ wsX5_doubled_r2, w ∈ lw_tbl := (mcT tw_505 (mcT tw_504 (mcT tw_477 (mcT tw_476 (mcT tw_475 (mcT tw_473 (mcT tw_472 (mcT tw_471 mnT))))))))
set_option maxRecDepth 100000 in
theorem it_wsX5_about_r1 : ∀ w ∈ wsX5_about_r1, w ∈ lw_tbl := (mcT tw_468 (mcT tw_467 (mcT tw_464 (mcT tw_499 (mcT tw_498 (mcT tw_497 (mcT tw_474 (mcT tw_496 (mcT tw_479 (mcT tw_490 (mcT tw_489 (mcT tw_488 (mcT tw_569 (mcT tw_568 (mcT tw_567 (mcT tw_566 (mcT tw_471 (mcT tw_565 (mcT tw_463 (mcT tw_564 (mcT tw_563 (mcT tw_562 (mcT tw_561 (mcT tw_461 mnT))))))))))))))))))))))))
set_option maxRecDepth 100000 in
theorem it_wsX5_about_r2 : ∀ w ∈ wsX5_about_r2, w ∈ lw_tbl := (mcT tw_462 (mcT tw_588 (mcT tw_587 (mcT tw_586 (mcT tw_585 (mcT tw_465 (mcT tw_466 (mcT tw_584 (mcT tw_583 (mcT tw_582 (mcT tw_581 (mcT tw_580 (mcT tw_579 (mcT tw_578 (mcT tw_577 (mcT tw_576 (mcT tw_575 (mcT tw_574 (mcT tw_573 (mcT tw_572 (mcT tw_571 (mcT tw_570 mnT))))))))))))))))))))))
set_option maxRecDepth 100000 in
theorem it_wsX5_rank_r1 : ∀ w ∈ wsX5_rank_r1, w ∈ lw_tbl := (mcT tw_597 (mcT tw_463 (mcT tw_499 (mcT tw_498 (mcT tw_497 (mcT tw_474 (mcT tw_496 (mcT tw_479 (mcT tw_490 (mcT tw_489 (mcT tw_488 (mcT tw_569 (mcT tw_568 (mcT tw_567 (mcT tw_566 (mcT tw_471 (mcT tw_565 (mcT tw_564 (mcT tw_563 (mcT tw_562 (mcT tw_561 (mcT tw_461 (mcT tw_462 (mcT tw_588 mnT))))))))))))))))))))))))
set_option maxRecDepth 100000 in
theorem it_wsX5_rank_r2 : ∀ w ∈ wsX5_rank_r2, w ∈ lw_tbl := (mcT tw_587 (mcT tw_586 (mcT tw_585 (mcT tw_468 (mcT tw_467 (mcT tw_465 (mcT tw_466 (mcT tw_584 (mcT tw_583 (mcT tw_582 mnT))))))))))
set_option maxRecDepth 100000 in
theorem it_wsX5_rest_r1 : ∀ w ∈ wsX5_rest_r1, w ∈ lw_tbl := (mcT tw_479 (mcT tw_565 (mcT tw_569 (mcT tw_568 (mcT tw_567 (mcT tw_474 (mcT tw_566 (mcT tw_471 (mcT tw_463 (mcT tw_564 (mcT tw_563 (mcT tw_562 (mcT tw_561 (mcT tw_461 (mcT tw_462 (mcT tw_588 (mcT tw_587 (mcT tw_586 (mcT tw_585 (mcT tw_468 (mcT tw_467 (mcT tw_465 (mcT tw_466 (mcT tw_584 mnT))))))))))))))))))))))))
set_option maxRecDepth 100000 in
theorem it_wsX5_rest_r2 : ∀ w ∈ wsX5_rest_r2, w ∈ lw_tbl := (mcT tw_583 (mcT tw_582 mnT))
set_option maxRecDepth 100000 in
theorem it_wsX5_ranks_r1 : ∀ w ∈ wsX5_ranks_r1, w ∈ lw_tbl := (mcT tw_597 (mcT tw_462 (mcT tw_490 (mcT tw_489 (mcT tw_474 (mcT tw_488 (mcT tw_569 (mcT tw_568 (mcT tw_567 (mcT tw_566 (mcT tw_471 (mcT tw_565 (mcT tw_479 (mcT tw_463 (mcT tw_564 (mcT tw_563 (mcT tw_562 (mcT tw_561 (mcT tw_461 (mcT tw_588 (mcT tw_587 (mcT tw_586 (mcT tw_585 (mcT tw_468 mnT))))))))))))))))))))))))
set_option maxRecDepth 100000 in
theorem it_wsX5_ranks_r2 : ∀ w ∈ wsX5_ranks_r2, w ∈ lw_tbl := (mcT tw_467 (mcT tw_465 (mcT tw_466 (mcT tw_584 (mcT tw_583 (mcT tw_582 mnT))))))
set_option maxRecDepth 100000 in
theorem it_wsX5_apart_r1 : ∀ w ∈ wsX5_apart_r1, w ∈ lw_tbl := (mcT tw_565 (mcT tw_463 (mcT tw_499 (mcT tw_498 (mcT tw_497 (mcT tw_474 (mcT tw_496 (mcT tw_479 (mcT tw_490 (mcT tw_489 (mcT tw_488 (mcT tw_569 (mcT tw_568 (mcT tw_567 (mcT tw_566 (mcT tw_471 (mcT tw_564 (mcT tw_563 (mcT tw_562 (mcT tw_561 (mcT tw_461 (mcT tw_462 (mcT tw_588 (mcT tw_587 mnT))))))))))))))))))))))))
set_option maxRecDepth 100000 in
theorem it_wsX5_apart_r2 : ∀ w ∈ wsX5_apart_r2, w ∈ lw_tbl := (mcT tw_586 (mcT tw_585 (mcT tw_468 (mcT tw_467 (mcT tw_465 (mcT tw_466 (mcT tw_584 (mcT tw_583 (mcT tw_582 mnT)))))))))
set_option maxRecDepth 100000 in
theorem it_wsX5_chosen_r1 : ∀ w ∈ wsX5_chosen_r1, w ∈ lw_tbl := (mcT tw_462 (mcT tw_565 (mcT tw_479 (mcT tw_614 (mcT tw_594 (mcT tw_593 (mcT tw_474 (mcT tw_592 (mcT tw_573 (mcT tw_572 (mcT tw_571 (mcT tw_570 (mcT tw_464 (mcT tw_467 (mcT tw_466 (mcT tw_569 (mcT tw_568 (mcT tw_567 (mcT tw_566 (mcT tw_471 (mcT tw_463 (mcT tw_564 (mcT tw_563 (mcT tw_562 mnT))))))))))))))))))))))))
set_option maxRecDepth 100000 in
theorem it_wsX5_chosen_r2 : ∀ w ∈ wsX5_chosen_r2, w ∈ lw_tbl := (mcT tw_561 (mcT tw_461 (mcT tw_588 (mcT tw_587 (mcT tw_586 (mcT tw_585 (mcT tw_468 (mcT tw_465 (mcT tw_584 (mcT tw_583 (mcT tw_582 (mcT tw_581 (mcT tw_580 (mcT tw_579 (mcT tw_578 mnT)))))))))))))))
set_option maxRecDepth 100000 in
theorem it_wsX5_flood_r1 : ∀ w ∈ wsX5_flood_r1, w ∈ lw_tbl := (mcT tw_627 (mcT tw_626 (mcT tw_456 (mcT tw_459 (mcT tw_458 (mcT tw_457 (mcT tw_472 (mcT tw_499 (mcT tw_498 (mcT tw_497 (mcT tw_474 (mcT tw_496 (mcT tw_479 (mcT tw_490 (mcT tw_489 (mcT tw_488 (mcT tw_625 (mcT tw_624 (mcT tw_623 (mcT tw_622 (mcT tw_467 (mcT tw_621 (mcT tw_620 (mcT tw_619 mnT))))))))))))))))))))))))
set_option maxRecDepth 100000 in
theorem it_wsX5_flood_r2 : ∀ w ∈ wsX5_flood_r2, w ∈ lw_tbl := (mcT tw_640 (mcT tw_639 (mcT tw_638 (mcT tw_637 (mcT tw_636 (mcT tw_635 (mcT tw_634 (mcT tw_633 (mcT tw_632 (mcT tw_631 (mcT tw_630 (mcT tw_629 (mcT tw_628 (mcT tw_466 (mcT tw_460 (mcT tw_465 mnT))))))))))))))))
set_option maxRecDepth 100000 in
theorem it_wsX5_cell_r1 : ∀ w ∈ wsX5_cell_r1, w ∈ lw_tbl := (mcT tw_528 (mcT tw_537 (mcT tw_455 (mcT tw_454 (mcT tw_453 (mcT tw_536 (mcT tw_535 (mcT tw_474 (mcT tw_534 (mcT tw_533 (mcT tw_490 (mcT tw_489 (mcT tw_488 (mcT tw_659 (mcT tw_658 (mcT tw_657 (mcT tw_656 (mcT tw_684 (mcT tw_683 (mcT tw_682 (mcT tw_681 (mcT tw_676 (mcT tw_675 (mcT tw_674 mnT))))))))))))))))))))))))
set_option maxRecDepth 100000 in
theorem it_wsX5_cell_r2 : ∀ w ∈ wsX5_cell_r2, w ∈ lw_tbl := (mcT tw_673 mnT)
set_option maxRecDepth 100000 in
theorem it_wsX5_told_r1 : ∀ w ∈ wsX5_told_r1, w ∈ lw_tbl := (mcT tw_479 (mcT tw_478 (mcT tw_462 (mcT tw_565 (mcT tw_569 (mcT tw_568 (mcT tw_567 (mcT tw_474 (mcT tw_566 (mcT tw_471 (mcT tw_463 (mcT tw_564 (mcT tw_563 (mcT tw_562 (mcT tw_561 (mcT tw_461 (mcT tw_588 (mcT tw_587 (mcT tw_586 (mcT tw_585 (mcT tw_468 (mcT tw_467 (mcT tw_465 (mcT tw_466 mnT))))))))))))))))))))))))
set_option maxRecDepth 100000 in
theorem it_wsX5_told_r2 : ∀ w ∈ wsX5_told_r2, w ∈ lw_tbl := (mcT tw_584 (mcT tw_583 (mcT tw_582 (mcT tw_725 (mcT tw_724 (mcT tw_723 (mcT tw_722 (mcT tw_701 (mcT tw_700 (mcT tw_699 (mcT tw_698 (mcT tw_573 (mcT tw_572 (mcT tw_571 (mcT tw_570 (mcT tw_464 mnT))))))))))))))))
set_option maxRecDepth 100000 in
theorem it_wsX4_init : ∀ w ∈ wsX4_init, w ∈ lw_tbl := mcT tw_0 (maT (maT (maT (maT (maT (maT it_wsX4_init_r1 (maT it_wsX4_init_r2 it_wsX4_init_r3)) inX1) inX4) inX2) inX0) inX3)
set_option maxRecDepth 100000 in
theorem gw_X4_init : GoodIn lw_tbl wsX4_init := goodIn_sub it_wsX4_init (by decide +kernel)
set_option maxRecDepth 100000 in
theorem it_wsX4_clear : ∀ w ∈ wsX4_clear, w ∈ lw_tbl := mcT tw_55 (maT (maT (maT (maT (mcT tw_18 (mcT tw_73 (mcT tw_72 (mcT tw_71 (mcT tw_70 (mcT tw_19 (mcT tw_69 (mcT tw_68 (mcT tw_67 (mcT tw_66 (mcT tw_65 (mcT tw_64 (mcT tw_63 (mcT tw_62 (mcT tw_14 (mcT tw_10 (mcT tw_61 (mcT tw_60 (mcT tw_59 (mcT tw_58 (mcT tw_15 (mcT tw_57 (mcT tw_56 mnT))))))))))))))))))))))) inX4) inX1) inX0) inX2)
set_option maxRecDepth 100000 in
theorem gw_X4_clear : GoodIn lw_tbl wsX4_clear := goodIn_sub it_wsX4_clear (by decide +kernel)
set_option maxRecDepth 100000 in
theorem gv_X4_clear : GoodIn lw_tbl (wsV RL 13 RX4 yX4_clear wsX4_clear) := goodIn_app (goodIn_sub (mcT tw_76 (mcT tw_75 (mcT tw_74 (mcT tw_63 mnT)))) (by decide +kernel)) gw_X4_clear
set_option maxRecDepth 100000 in
theorem it_wsX4_post : ∀ w ∈ wsX4_post, w ∈ lw_tbl := mcT tw_77 (maT (maT (maT (maT (maT it_wsX4_post_r1 it_wsX4_post_r2) inX4) inX1) inX0) inX2)
set_option maxRecDepth 100000 in
theorem gw_X4_post : GoodIn lw_tbl wsX4_post := goodIn_sub it_wsX4_post (by decide +kernel)
set_option maxRecDepth 100000 in
theorem gv_X4_post : GoodIn lw_tbl (wsV RL 18 RX4 yX4_post wsX4_post) := goodIn_app (goodIn_sub (mcT tw_87 (mcT tw_86 (mcT tw_85 (mcT tw_63 mnT)))) (by decide +kernel)) gw_X4_post
set_option maxRecDepth 100000 in
theorem it_wsX4_mark : ∀ w ∈ wsX4_mark, w ∈ lw_tbl := mcT tw_88 (maT (maT (maT (mcT tw_18 (mcT tw_93 (mcT tw_14 (mcT tw_92 (mcT tw_91 (mcT tw_90 (mcT tw_19 (mcT tw_89 (mcT tw_68 (mcT tw_84 (mcT tw_83 (mcT tw_63 (mcT tw_82 (mcT tw_60 (mcT tw_59 (mcT tw_58 (mcT tw_15 (mcT tw_57 (mcT tw_56 mnT))))))))))))))))))) inX4) inX1) inX2)
set_option maxRecDepth 100000 in
theorem gw_X4_mark : GoodIn lw_tbl wsX4_mark := goodIn_sub it_wsX4_mark (by decide +kernel)
set_option maxRecDepth 100000 in
theorem gv_X4_mark : GoodIn lw_tbl (wsV RL 23 RX4 yX4_mark wsX4_mark) := goodIn_app (goodIn_sub (mcT tw_96 (mcT tw_95 (mcT tw_94 (mcT tw_63 mnT)))) (by decide +kernel)) gw_X4_mark
set_option maxRecDepth 100000 in
theorem it_wsX4_line : ∀ w ∈ wsX4_line, w ∈ lw_tbl := mcT tw_97 (maT (maT (maT (maT (maT it_wsX4_line_r1 it_wsX4_line_r2) inX4) inX1) inX0) inX2)
set_option maxRecDepth 100000 in
theorem gw_X4_line : GoodIn lw_tbl wsX4_line := goodIn_sub it_wsX4_line (by decide +kernel)
set_option maxRecDepth 100000 in
theorem gv_X4_line : GoodIn lw_tbl (wsV RL 28 RX4 yX4_line wsX4_line) := goodIn_app (goodIn_sub (mcT tw_117 (mcT tw_116 (mcT tw_115 (mcT tw_63 mnT)))) (by decide +kernel)) gw_X4_line
set_option maxRecDepth 100000 in
theorem it_wsX4_lines : ∀ w ∈ wsX4_lines, w ∈ lw_tbl := mcT tw_118 (maT (maT (maT (maT (maT (maT it_wsX4_lines_r1 (maT it_wsX4_lines_r2 (maT it_wsX4_lines_r3 it_wsX4_lines_r4))) inX4) inX1) inX3) inX0) inX2)
set_option maxRecDepth 100000 in
theorem gw_X4_lines : GoodIn lw_tbl wsX4_lines := goodIn_sub it_wsX4_lines (by decide +kernel)
set_option maxRecDepth 100000 in
theorem gv_X4_lines : GoodIn lw_tbl (wsV RL 32 RX4 yX4_lines wsX4_lines) := goodIn_app (goodIn_sub (mcT tw_159 (mcT tw_158 (mcT tw_157 (mcT tw_63 mnT)))) (by decide +kernel)) gw_X4_lines
set_option maxRecDepth 100000 in
theorem it_wsX4_swap : ∀ w ∈ wsX4_swap, w ∈ lw_tbl := mcT tw_160 (maT (maT (maT (maT (maT it_wsX4_swap_r1 it_wsX4_swap_r2) inX4) inX1) inX0) inX2)
set_option maxRecDepth 100000 in
theorem gw_X4_swap : GoodIn lw_tbl wsX4_swap := goodIn_sub it_wsX4_swap (by decide +kernel)
set_option maxRecDepth 100000 in
theorem gv_X4_swap : GoodIn lw_tbl (wsV RL 37 RX4 yX4_swap wsX4_swap) := goodIn_app (goodIn_sub (mcT tw_172 (mcT tw_171 (mcT tw_170 (mcT tw_63 mnT)))) (by decide +kernel)) gw_X4_swap
set_option maxRecDepth 100000 in
theorem it_wsX4_end : ∀ w ∈ wsX4_end, w ∈ lw_tbl := mcT tw_173 (maT (maT (mcT tw_18 (mcT tw_180 (mcT tw_164 (mcT tw_163 (mcT tw_162 (mcT tw_19 (mcT tw_161 (mcT tw_48 (mcT tw_106 (mcT tw_91 (mcT tw_90 (mcT tw_89 (mcT tw_68 (mcT tw_169 (mcT tw_101 (mcT tw_63 (mcT tw_100 (mcT tw_179 (mcT tw_178 (mcT tw_177 (mcT tw_176 (mcT tw_175 (mcT tw_174 mnT))))))))))))))))))))))) inX4) inX1)
set_option maxRecDepth 100000 in
theorem gw_X4_end : GoodIn lw_tbl wsX4_end := goodIn_sub it_wsX4_end (by decide +kernel)
set_option maxRecDepth 100000 in
theorem gv_X4_end : GoodIn lw_tbl (wsV RL 42 RX4 yX4_end wsX4_end) := goodIn_app (goodIn_sub (mcT tw_183 (mcT tw_182 (mcT tw_181 (mcT tw_63 mnT)))) (by decide +kernel)) gw_X4_end
set_option maxRecDepth 100000 in
theorem it_wsX4_doubled : ∀ w ∈ wsX4_doubled, w ∈ lw_tbl := mcT tw_184 (maT (maT (maT (maT (maT it_wsX4_doubled_r1 it_wsX4_doubled_r2) inX4) inX1) inX0) inX2)
set_option maxRecDepth 100000 in
theorem gw_X4_doubled : GoodIn lw_tbl wsX4_doubled := goodIn_sub it_wsX4_doubled (by decide +kernel)
set_option maxRecDepth 100000 in
theorem gv_X4_doubled : GoodIn lw_tbl (wsV RL 46 RX4 yX4_doubled wsX4_doubled) := goodIn_app (goodIn_sub (mcT tw_191 (mcT tw_190 (mcT tw_189 (mcT tw_63 mnT)))) (by decide +kernel)) gw_X4_doubled
set_option maxRecDepth 100000 in
theorem it_wsX4_about : ∀ w ∈ wsX4_about, w ∈ lw_tbl := mcT tw_192 (maT (maT (maT (maT it_wsX4_about_r1 (maT it_wsX4_about_r2 (maT it_wsX4_about_r3 it_wsX4_about_r4))) inX4) inX1) inX2)
set_option maxRecDepth 100000 in
theorem gw_X4_about : GoodIn lw_tbl wsX4_about := goodIn_sub it_wsX4_about (by decide +kernel)
set_option maxRecDepth 100000 in
theorem gv_X4_about : GoodIn lw_tbl (wsV RL 50 RX4 yX4_about wsX4_about) := goodIn_app (goodIn_sub (mcT tw_250 (mcT tw_249 (mcT tw_248 (mcT tw_63 mnT)))) (by decide +kernel)) gw_X4_about
set_option maxRecDepth 100000 in
theorem it_wsX4_together : ∀ w ∈ wsX4_together, w ∈ lw_tbl := mcT tw_251 (maT (maT (maT it_wsX4_together_r1 it_wsX4_together_r2) inX4) inX1)
set_option maxRecDepth 100000 in
theorem gw_X4_together : GoodIn lw_tbl wsX4_together := goodIn_sub it_wsX4_together (by decide +kernel)
set_option maxRecDepth 100000 in
theorem gv_X4_together : GoodIn lw_tbl (wsV RL 54 RX4 yX4_together wsX4_together) := goodIn_app (goodIn_sub (mcT tw_258 (mcT tw_257 (mcT tw_256 (mcT tw_63 mnT)))) (by decide +kernel)) gw_X4_together
set_option maxRecDepth 100000 in
theorem it_wsX4_rank : ∀ w ∈ wsX4_rank, w ∈ lw_tbl := mcT tw_259 (maT (maT (maT (maT it_wsX4_rank_r1 (maT it_wsX4_rank_r2 it_wsX4_rank_r3)) inX4) inX1) inX2)
set_option maxRecDepth 100000 in
theorem gw_X4_rank : GoodIn lw_tbl wsX4_rank := goodIn_sub it_wsX4_rank (by decide +kernel)
set_option maxRecDepth 100000 in
theorem gv_X4_rank : GoodIn lw_tbl (wsV RL 58 RX4 yX4_rank wsX4_rank) := goodIn_app (goodIn_sub (mcT tw_273 (mcT tw_272 (mcT tw_271 (mcT tw_63 mnT)))) (by decide +kernel)) gw_X4_rank
set_option maxRecDepth 100000 in
theorem it_wsX4_rest : ∀ w ∈ wsX4_rest, w ∈ lw_tbl := mcT tw_274 (maT (maT (maT (maT it_wsX4_rest_r1 (maT it_wsX4_rest_r2 it_wsX4_rest_r3)) inX4) inX1) inX2)
set_option maxRecDepth 100000 in
theorem gw_X4_rest : GoodIn lw_tbl wsX4_rest := goodIn_sub it_wsX4_rest (by decide +kernel)
set_option maxRecDepth 100000 in
theorem gv_X4_rest : GoodIn lw_tbl (wsV RL 62 RX4 yX4_rest wsX4_rest) := goodIn_app (goodIn_sub (mcT tw_281 (mcT tw_280 (mcT tw_279 (mcT tw_63 mnT)))) (by decide +kernel)) gw_X4_rest
set_option maxRecDepth 100000 in
theorem it_wsX4_ranks : ∀ w ∈ wsX4_ranks, w ∈ lw_tbl := mcT tw_282 (maT (maT (maT (maT it_wsX4_ranks_r1 (maT it_wsX4_ranks_r2 it_wsX4_ranks_r3)) inX4) inX2) inX1)
set_option maxRecDepth 100000 in
theorem gw_X4_ranks : GoodIn lw_tbl wsX4_ranks := goodIn_sub it_wsX4_ranks (by decide +kernel)
set_option maxRecDepth 100000 in
theorem gv_X4_ranks : GoodIn lw_tbl (wsV RL 66 RX4 yX4_ranks wsX4_ranks) := goodIn_app (goodIn_sub (mcT tw_289 (mcT tw_288 (mcT tw_287 (mcT tw_63 mnT)))) (by decide +kernel)) gw_X4_ranks
set_option maxRecDepth 100000 in
theorem it_wsX4_apart : ∀ w ∈ wsX4_apart, w ∈ lw_tbl := mcT tw_290 (maT (maT (maT (maT it_wsX4_apart_r1 (maT it_wsX4_apart_r2 it_wsX4_apart_r3)) inX4) inX1) inX2)
set_option maxRecDepth 100000 in
theorem gw_X4_apart : GoodIn lw_tbl wsX4_apart := goodIn_sub it_wsX4_apart (by decide +kernel)
set_option maxRecDepth 100000 in
theorem gv_X4_apart : GoodIn lw_tbl (wsV RL 70 RX4 yX4_apart wsX4_apart) := goodIn_app (goodIn_sub (mcT tw_297 (mcT tw_296 (mcT tw_295 (mcT tw_63 mnT)))) (by decide +kernel)) gw_X4_apart
set_option maxRecDepth 100000 in
theorem it_wsX4_chosen : ∀ w ∈ wsX4_chosen, w ∈ lw_tbl := mcT tw_298 (maT (maT (maT (maT it_wsX4_chosen_r1 (maT it_wsX4_chosen_r2 (maT it_wsX4_chosen_r3 it_wsX4_chosen_r4))) inX4) inX1) inX2)
set_option maxRecDepth 100000 in
theorem gw_X4_chosen : GoodIn lw_tbl wsX4_chosen := goodIn_sub it_wsX4_chosen (by decide +kernel)
set_option maxRecDepth 100000 in
theorem gv_X4_chosen : GoodIn lw_tbl (wsV RL 74 RX4 yX4_chosen wsX4_chosen) := goodIn_app (goodIn_sub (mcT tw_309 (mcT tw_308 (mcT tw_307 (mcT tw_63 mnT)))) (by decide +kernel)) gw_X4_chosen
set_option maxRecDepth 100000 in
theorem it_wsX4_flood : ∀ w ∈ wsX4_flood, w ∈ lw_tbl := mcT tw_310 (maT (maT (maT (maT it_wsX4_flood_r1 (maT it_wsX4_flood_r2 it_wsX4_flood_r3)) inX4) inX0) inX1)
set_option maxRecDepth 100000 in
theorem gw_X4_flood : GoodIn lw_tbl wsX4_flood := goodIn_sub it_wsX4_flood (by decide +kernel)
set_option maxRecDepth 100000 in
theorem gv_X4_flood : GoodIn lw_tbl (wsV RL 80 RX4 yX4_flood wsX4_flood) := goodIn_app (goodIn_sub (mcT tw_345 (mcT tw_344 (mcT tw_343 (mcT tw_63 mnT)))) (by decide +kernel)) gw_X4_flood
set_option maxRecDepth 100000 in
theorem it_wsX4_flooded : ∀ w ∈ wsX4_flooded, w ∈ lw_tbl := mcT tw_346 (maT (maT (maT (mcT tw_10 (mcT tw_61 (mcT tw_18 (mcT tw_349 (mcT tw_348 (mcT tw_347 (mcT tw_92 (mcT tw_91 (mcT tw_90 (mcT tw_19 (mcT tw_89 (mcT tw_68 mnT)))))))))))) inX4) inX0) inX1)
set_option maxRecDepth 100000 in
theorem gw_X4_flooded : GoodIn lw_tbl wsX4_flooded := goodIn_sub it_wsX4_flooded (by decide +kernel)
set_option maxRecDepth 100000 in
theorem gv_X4_flooded : GoodIn lw_tbl (wsV RL 85 RX4 yX4_flooded wsX4_flooded) := goodIn_app (goodIn_sub (mcT tw_352 (mcT tw_351 (mcT tw_350 (mcT tw_63 mnT)))) (by decide +kernel)) gw_X4_flooded
set_option maxRecDepth 100000 in
theorem it_wsX4_word : ∀ w ∈ wsX4_word, w ∈ lw_tbl := mcT tw_353 (maT (maT (mcT tw_10 (mcT tw_61 (mcT tw_320 (mcT tw_354 mnT)))) inX4) inX0)
set_option maxRecDepth 100000 in
theorem gw_X4_word : GoodIn lw_tbl wsX4_word := goodIn_sub it_wsX4_word (by decide +kernel)
set_option maxRecDepth 100000 in
theorem gv_X4_word : GoodIn lw_tbl (wsV RL 89 RX4 yX4_word wsX4_word) := goodIn_app (goodIn_sub (mcT tw_357 (mcT tw_356 (mcT tw_355 (mcT tw_63 mnT)))) (by decide +kernel)) gw_X4_word
set_option maxRecDepth 100000 in
theorem it_wsX4_lots : ∀ w ∈ wsX4_lots, w ∈ lw_tbl := mcT tw_358 (maT (maT (mcT tw_18 (mcT tw_73 (mcT tw_365 (mcT tw_364 (mcT tw_363 (mcT tw_63 (mcT tw_362 (mcT tw_361 (mcT tw_360 (mcT tw_359 mnT)))))))))) inX4) inX1)
set_option maxRecDepth 100000 in
theorem gw_X4_lots : GoodIn lw_tbl wsX4_lots := goodIn_sub it_wsX4_lots (by decide +kernel)
set_option maxRecDepth 100000 in
theorem gv_X4_lots : GoodIn lw_tbl (wsV RL 93 RX4 yX4_lots wsX4_lots) := goodIn_app (goodIn_sub (mcT tw_368 (mcT tw_367 (mcT tw_366 (mcT tw_63 mnT)))) (by decide +kernel)) gw_X4_lots
set_option maxRecDepth 100000 in
theorem it_wsX4_sheet : ∀ w ∈ wsX4_sheet, w ∈ lw_tbl := mcT tw_369 (maT (maT (maT it_wsX4_sheet_r1 it_wsX4_sheet_r2) inX4) inX3)
set_option maxRecDepth 100000 in
theorem gw_X4_sheet : GoodIn lw_tbl wsX4_sheet := goodIn_sub it_wsX4_sheet (by decide +kernel)
set_option maxRecDepth 100000 in
theorem gv_X4_sheet : GoodIn lw_tbl (wsV RL 98 RX4 yX4_sheet wsX4_sheet) := goodIn_app (goodIn_sub (mcT tw_379 (mcT tw_378 (mcT tw_377 (mcT tw_63 mnT)))) (by decide +kernel)) gw_X4_sheet
set_option maxRecDepth 100000 in
theorem it_wsX4_lose : ∀ w ∈ wsX4_lose, w ∈ lw_tbl := mcT tw_380 (maT (maT (mcT tw_126 (mcT tw_136 (mcT tw_135 (mcT tw_134 (mcT tw_63 (mcT tw_133 (mcT tw_8 mnT))))))) inX3) inX4)
set_option maxRecDepth 100000 in
theorem gw_X4_lose : GoodIn lw_tbl wsX4_lose := goodIn_sub it_wsX4_lose (by decide +kernel)
set_option maxRecDepth 100000 in
theorem gv_X4_lose : GoodIn lw_tbl (wsV RL 102 RX4 yX4_lose wsX4_lose) := goodIn_app (goodIn_sub (mcT tw_383 (mcT tw_382 (mcT tw_381 (mcT tw_63 mnT)))) (by decide +kernel)) gw_X4_lose
set_option maxRecDepth 100000 in
theorem it_wsX4_put : ∀ w ∈ wsX4_put, w ∈ lw_tbl := mcT tw_384 (maT (maT (mcT tw_138 (mcT tw_126 (mcT tw_388 (mcT tw_125 (mcT tw_136 (mcT tw_135 (mcT tw_134 (mcT tw_63 (mcT tw_133 (mcT tw_8 (mcT tw_124 (mcT tw_123 (mcT tw_122 (mcT tw_121 (mcT tw_120 (mcT tw_119 (mcT tw_151 (mcT tw_6 (mcT tw_150 (mcT tw_149 (mcT tw_387 (mcT tw_386 (mcT tw_385 mnT))))))))))))))))))))))) inX4) inX3)
set_option maxRecDepth 100000 in
theorem gw_X4_put : GoodIn lw_tbl wsX4_put := goodIn_sub it_wsX4_put (by decide +kernel)
set_option maxRecDepth 100000 in
theorem gv_X4_put : GoodIn lw_tbl (wsV RL 106 RX4 yX4_put wsX4_put) := goodIn_app (goodIn_sub (mcT tw_391 (mcT tw_390 (mcT tw_389 (mcT tw_63 mnT)))) (by decide +kernel)) gw_X4_put
set_option maxRecDepth 100000 in
theorem it_wsX4_cell : ∀ w ∈ wsX4_cell, w ∈ lw_tbl := mcT tw_392 (maT (maT (maT it_wsX4_cell_r1 it_wsX4_cell_r2) inX4) inX3)
set_option maxRecDepth 100000 in
theorem gw_X4_cell : GoodIn lw_tbl wsX4_cell := goodIn_sub it_wsX4_cell (by decide +kernel)
set_option maxRecDepth 100000 in
theorem gv_X4_cell : GoodIn lw_tbl (wsV RL 110 RX4 yX4_cell wsX4_cell) := goodIn_app (goodIn_sub (mcT tw_395 (mcT tw_394 (mcT tw_393 (mcT tw_63 mnT)))) (by decide +kernel)) gw_X4_cell
set_option maxRecDepth 100000 in
theorem it_wsX4_copy : ∀ w ∈ wsX4_copy, w ∈ lw_tbl := mcT tw_396 (maT (maT (mcT tw_138 (mcT tw_126 (mcT tw_125 (mcT tw_388 (mcT tw_397 (mcT tw_143 (mcT tw_142 (mcT tw_141 (mcT tw_136 (mcT tw_135 (mcT tw_134 (mcT tw_63 (mcT tw_133 (mcT tw_8 (mcT tw_124 (mcT tw_123 (mcT tw_122 (mcT tw_121 (mcT tw_120 (mcT tw_119 (mcT tw_151 (mcT tw_6 (mcT tw_150 (mcT tw_149 mnT)))))))))))))))))))))))) inX4) inX3)
set_option maxRecDepth 100000 in
theorem gw_X4_copy : GoodIn lw_tbl wsX4_copy := goodIn_sub it_wsX4_copy (by decide +kernel)
set_option maxRecDepth 100000 in
theorem gv_X4_copy : GoodIn lw_tbl (wsV RL 115 RX4 yX4_copy wsX4_copy) := goodIn_app (goodIn_sub (mcT tw_400 (mcT tw_399 (mcT tw_398 (mcT tw_63 mnT)))) (by decide +kernel)) gw_X4_copy
set_option maxRecDepth 100000 in
theorem it_wsX4_tell : ∀ w ∈ wsX4_tell, w ∈ lw_tbl := mcT tw_401 (maT (maT (maT it_wsX4_tell_r1 it_wsX4_tell_r2) inX4) inX1)
set_option maxRecDepth 100000 in
theorem gw_X4_tell : GoodIn lw_tbl wsX4_tell := goodIn_sub it_wsX4_tell (by decide +kernel)
set_option maxRecDepth 100000 in
theorem gv_X4_tell : GoodIn lw_tbl (wsV RL 120 RX4 yX4_tell wsX4_tell) := goodIn_app (goodIn_sub (mcT tw_425 (mcT tw_424 (mcT tw_423 (mcT tw_63 mnT)))) (by decide +kernel)) gw_X4_tell
set_option maxRecDepth 100000 in
theorem it_wsX4_hear : ∀ w ∈ wsX4_hear, w ∈ lw_tbl := mcT tw_426 (maT (maT (mcT tw_18 (mcT tw_92 (mcT tw_91 (mcT tw_90 (mcT tw_19 (mcT tw_89 (mcT tw_68 (mcT tw_416 (mcT tw_415 (mcT tw_414 (mcT tw_63 (mcT tw_413 (mcT tw_112 (mcT tw_408 (mcT tw_407 (mcT tw_406 (mcT tw_405 (mcT tw_404 mnT)))))))))))))))))) inX4) inX1)
set_option maxRecDepth 100000 in
theorem gw_X4_hear : GoodIn lw_tbl wsX4_hear := goodIn_sub it_wsX4_hear (by decide +kernel)
set_option maxRecDepth 100000 in
theorem gv_X4_hear : GoodIn lw_tbl (wsV RL 124 RX4 yX4_hear wsX4_hear) := goodIn_app (goodIn_sub (mcT tw_429 (mcT tw_428 (mcT tw_427 (mcT tw_63 mnT)))) (by decide +kernel)) gw_X4_hear
set_option maxRecDepth 100000 in
theorem it_wsX4_as : ∀ w ∈ wsX4_as, w ∈ lw_tbl := mcT tw_430 (maT (maT (mcT tw_138 (mcT tw_18 (mcT tw_92 (mcT tw_91 (mcT tw_90 (mcT tw_19 (mcT tw_89 (mcT tw_68 (mcT tw_416 (mcT tw_415 (mcT tw_414 (mcT tw_63 (mcT tw_413 (mcT tw_112 (mcT tw_124 (mcT tw_123 (mcT tw_122 (mcT tw_121 mnT)))))))))))))))))) inX4) inX1)
set_option maxRecDepth 100000 in
theorem gw_X4_as : GoodIn lw_tbl wsX4_as := goodIn_sub it_wsX4_as (by decide +kernel)
set_option maxRecDepth 100000 in
theorem gv_X4_as : GoodIn lw_tbl (wsV RL 128 RX4 yX4_as wsX4_as) := goodIn_app (goodIn_sub (mcT tw_433 (mcT tw_432 (mcT tw_431 (mcT tw_63 mnT)))) (by decide +kernel)) gw_X4_as
set_option maxRecDepth 100000 in
theorem it_wsX4_trace : ∀ w ∈ wsX4_trace, w ∈ lw_tbl := mcT tw_434 (maT (mcT tw_404 mnT) inX4)
set_option maxRecDepth 100000 in
theorem gw_X4_trace : GoodIn lw_tbl wsX4_trace := goodIn_sub it_wsX4_trace (by decide +kernel)
set_option maxRecDepth 100000 in
theorem gv_X4_trace : GoodIn lw_tbl (wsV RL 132 RX4 yX4_trace wsX4_trace) := goodIn_app (goodIn_sub (mcT tw_437 (mcT tw_436 (mcT tw_435 (mcT tw_63 mnT)))) (by decide +kernel)) gw_X4_trace
set_option maxRecDepth 100000 in
theorem it_wsX4_fault : ∀ w ∈ wsX4_fault, w ∈ lw_tbl := mcT tw_438 (maT (mcT tw_138 mnT) inX4)
set_option maxRecDepth 100000 in
theorem gw_X4_fault : GoodIn lw_tbl wsX4_fault := goodIn_sub it_wsX4_fault (by decide +kernel)
set_option maxRecDepth 100000 in
theorem gv_X4_fault : GoodIn lw_tbl (wsV RL 136 RX4 yX4_fault wsX4_fault) := goodIn_app (goodIn_sub (mcT tw_441 (mcT tw_440 (mcT tw_439 (mcT tw_63 mnT)))) (by decide +kernel)) gw_X4_fault
set_option maxRecDepth 100000 in
theorem it_wsX4_told : ∀ w ∈ wsX4_told, w ∈ lw_tbl := mcT tw_442 (maT (maT (maT (maT it_wsX4_told_r1 (maT it_wsX4_told_r2 (maT it_wsX4_told_r3 it_wsX4_told_r4))) inX4) inX1) inX2)
set_option maxRecDepth 100000 in
theorem gw_X4_told : GoodIn lw_tbl wsX4_told := goodIn_sub it_wsX4_told (by decide +kernel)
set_option maxRecDepth 100000 in
theorem gv_X4_told : GoodIn lw_tbl (wsV RL 140 RX4 yX4_told wsX4_told) := goodIn_app (goodIn_sub (mcT tw_449 (mcT tw_448 (mcT tw_447 (mcT tw_63 mnT)))) (by decide +kernel)) gw_X4_told
set_option maxRecDepth 100000 in
theorem it_wsX5_init : ∀ w ∈ wsX5_init, w ∈ lw_tbl := mcT tw_450 (maT (mcT tw_469 (mcT tw_23 (mcT tw_22 (mcT tw_2 (mcT tw_468 (mcT tw_467 (mcT tw_466 (mcT tw_465 (mcT tw_464 (mcT tw_463 (mcT tw_462 (mcT tw_461 (mcT tw_460 (mcT tw_459 (mcT tw_458 (mcT tw_457 (mcT tw_456 (mcT tw_455 (mcT tw_454 (mcT tw_453 (mcT tw_452 (mcT tw_451 mnT)))))))))))))))))))))) inX5)
set_option maxRecDepth 100000 in
theorem gw_X5_init : GoodIn lw_tbl wsX5_init := goodIn_sub it_wsX5_init (by decide +kernel)
set_option maxRecDepth 100000 in
theorem it_wsX5_clear : ∀ w ∈ wsX5_clear, w ∈ lw_tbl := mcT tw_470 (maT (mcT tw_479 (mcT tw_478 (mcT tw_477 (mcT tw_476 (mcT tw_475 (mcT tw_474 (mcT tw_473 (mcT tw_472 (mcT tw_471 mnT))))))))) inX5)
set_option maxRecDepth 100000 in
theorem gw_X5_clear : GoodIn lw_tbl wsX5_clear := goodIn_sub it_wsX5_clear (by decide +kernel)
set_option maxRecDepth 100000 in
theorem gv_X5_clear : GoodIn lw_tbl (wsV RL 17 RX5 yX5_clear wsX5_clear) := goodIn_app (goodIn_sub (mcT tw_482 (mcT tw_481 (mcT tw_480 (mcT tw_474 mnT)))) (by decide +kernel)) gw_X5_clear
set_option maxRecDepth 100000 in
theorem it_wsX5_post : ∀ w ∈ wsX5_post, w ∈ lw_tbl := mcT tw_483 (maT (mcT tw_491 (mcT tw_479 (mcT tw_490 (mcT tw_489 (mcT tw_474 (mcT tw_488 (mcT tw_487 (mcT tw_486 (mcT tw_485 (mcT tw_484 (mcT tw_468 (mcT tw_467 (mcT tw_477 (mcT tw_476 (mcT tw_475 (mcT tw_473 (mcT tw_472 (mcT tw_471 mnT)))))))))))))))))) inX5)
set_option maxRecDepth 100000 in
theorem gw_X5_post : GoodIn lw_tbl wsX5_post := goodIn_sub it_wsX5_post (by decide +kernel)
set_option maxRecDepth 100000 in
theorem gv_X5_post : GoodIn lw_tbl (wsV RL 22 RX5 yX5_post wsX5_post) := goodIn_app (goodIn_sub (mcT tw_494 (mcT tw_493 (mcT tw_492 (mcT tw_474 mnT)))) (by decide +kernel)) gw_X5_post
set_option maxRecDepth 100000 in
theorem it_wsX5_mark : ∀ w ∈ wsX5_mark, w ∈ lw_tbl := mcT tw_495 (maT (mcT tw_491 (mcT tw_468 (mcT tw_471 (mcT tw_499 (mcT tw_498 (mcT tw_497 (mcT tw_474 (mcT tw_496 (mcT tw_479 (mcT tw_490 (mcT tw_489 (mcT tw_488 mnT)))))))))))) inX5)
set_option maxRecDepth 100000 in
theorem gw_X5_mark : GoodIn lw_tbl wsX5_mark := goodIn_sub it_wsX5_mark (by decide +kernel)
set_option maxRecDepth 100000 in
theorem gv_X5_mark : GoodIn lw_tbl (wsV RL 27 RX5 yX5_mark wsX5_mark) := goodIn_app (goodIn_sub (mcT tw_502 (mcT tw_501 (mcT tw_500 (mcT tw_474 mnT)))) (by decide +kernel)) gw_X5_mark
set_option maxRecDepth 100000 in
theorem it_wsX5_line : ∀ w ∈ wsX5_line, w ∈ lw_tbl := mcT tw_503 (maT (maT it_wsX5_line_r1 it_wsX5_line_r2) inX5)
set_option maxRecDepth 100000 in
theorem gw_X5_line : GoodIn lw_tbl wsX5_line := goodIn_sub it_wsX5_line (by decide +kernel)
set_option maxRecDepth 100000 in
theorem gv_X5_line : GoodIn lw_tbl (wsV RL 31 RX5 yX5_line wsX5_line) := goodIn_app (goodIn_sub (mcT tw_518 (mcT tw_517 (mcT tw_516 (mcT tw_474 mnT)))) (by decide +kernel)) gw_X5_line
set_option maxRecDepth 100000 in
theorem it_wsX5_lines : ∀ w ∈ wsX5_lines, w ∈ lw_tbl := mcT tw_519 (maT (maT it_wsX5_lines_r1 (maT it_wsX5_lines_r2 it_wsX5_lines_r3)) inX5)
set_option maxRecDepth 100000 in
theorem gw_X5_lines : GoodIn lw_tbl wsX5_lines := goodIn_sub it_wsX5_lines (by decide +kernel)
set_option maxRecDepth 100000 in
theorem gv_X5_lines : GoodIn lw_tbl (wsV RL 36 RX5 yX5_lines wsX5_lines) := goodIn_app (goodIn_sub (mcT tw_543 (mcT tw_542 (mcT tw_541 (mcT tw_474 mnT)))) (by decide +kernel)) gw_X5_lines
set_option maxRecDepth 100000 in
theorem it_wsX5_swap : ∀ w ∈ wsX5_swap, w ∈ lw_tbl := mcT tw_544 (maT (maT it_wsX5_swap_r1 it_wsX5_swap_r2) inX5)
set_option maxRecDepth 100000 in
theorem gw_X5_swap : GoodIn lw_tbl wsX5_swap := goodIn_sub it_wsX5_swap (by decide +kernel)
set_option maxRecDepth 100000 in
theorem gv_X5_swap : GoodIn lw_tbl (wsV RL 41 RX5 yX5_swap wsX5_swap) := goodIn_app (goodIn_sub (mcT tw_551 (mcT tw_550 (mcT tw_549 (mcT tw_474 mnT)))) (by decide +kernel)) gw_X5_swap
set_option maxRecDepth 100000 in
theorem it_wsX5_end : ∀ w ∈ wsX5_end, w ∈ lw_tbl := mcT tw_552 (maT (mcT tw_466 (mcT tw_465 (mcT tw_548 (mcT tw_547 (mcT tw_546 (mcT tw_474 (mcT tw_545 (mcT tw_467 (mcT tw_499 (mcT tw_498 (mcT tw_497 (mcT tw_496 (mcT tw_479 (mcT tw_490 (mcT tw_489 (mcT tw_488 mnT)))))))))))))))) inX5)
set_option maxRecDepth 100000 in
theorem gw_X5_end : GoodIn lw_tbl wsX5_end := goodIn_sub it_wsX5_end (by decide +kernel)
set_option maxRecDepth 100000 in
theorem gv_X5_end : GoodIn lw_tbl (wsV RL 45 RX5 yX5_end wsX5_end) := goodIn_app (goodIn_sub (mcT tw_555 (mcT tw_554 (mcT tw_553 (mcT tw_474 mnT)))) (by decide +kernel)) gw_X5_end
set_option maxRecDepth 100000 in
theorem it_wsX5_doubled : ∀ w ∈ wsX5_doubled, w ∈ lw_tbl := mcT tw_556 (maT (maT it_wsX5_doubled_r1 it_wsX5_doubled_r2) inX5)
set_option maxRecDepth 100000 in
theorem gw_X5_doubled : GoodIn lw_tbl wsX5_doubled := goodIn_sub it_wsX5_doubled (by decide +kernel)
set_option maxRecDepth 100000 in
theorem gv_X5_doubled : GoodIn lw_tbl (wsV RL 49 RX5 yX5_doubled wsX5_doubled) := goodIn_app (goodIn_sub (mcT tw_559 (mcT tw_558 (mcT tw_557 (mcT tw_474 mnT)))) (by decide +kernel)) gw_X5_doubled
set_option maxRecDepth 100000 in
theorem it_wsX5_about : ∀ w ∈ wsX5_about, w ∈ lw_tbl := mcT tw_560 (maT (maT it_wsX5_about_r1 it_wsX5_about_r2) inX5)
set_option maxRecDepth 100000 in
theorem gw_X5_about : GoodIn lw_tbl wsX5_about := goodIn_sub it_wsX5_about (by decide +kernel)
set_option maxRecDepth 100000 in
theorem gv_X5_about : GoodIn lw_tbl (wsV RL 53 RX5 yX5_about wsX5_about) := goodIn_app (goodIn_sub (mcT tw_591 (mcT tw_590 (mcT tw_589 (mcT tw_474 mnT)))) (by decide +kernel)) gw_X5_about
set_option maxRecDepth 100000 in
theorem it_wsX5_together : ∀ w ∈ wsX5_together, w ∈ lw_tbl := mcT tw_592 (maT (mcT tw_479 (mcT tw_573 (mcT tw_572 (mcT tw_571 (mcT tw_474 (mcT tw_570 (mcT tw_464 (mcT tw_467 (mcT tw_466 mnT))))))))) inX5)
set_option maxRecDepth 100000 in
theorem gw_X5_together : GoodIn lw_tbl wsX5_together := goodIn_sub it_wsX5_together (by decide +kernel)
set_option maxRecDepth 100000 in
theorem gv_X5_together : GoodIn lw_tbl (wsV RL 57 RX5 yX5_together wsX5_together) := goodIn_app (goodIn_sub (mcT tw_595 (mcT tw_594 (mcT tw_593 (mcT tw_474 mnT)))) (by decide +kernel)) gw_X5_together
set_option maxRecDepth 100000 in
theorem it_wsX5_rank : ∀ w ∈ wsX5_rank, w ∈ lw_tbl := mcT tw_596 (maT (maT it_wsX5_rank_r1 it_wsX5_rank_r2) inX5)
set_option maxRecDepth 100000 in
theorem gw_X5_rank : GoodIn lw_tbl wsX5_rank := goodIn_sub it_wsX5_rank (by decide +kernel)
set_option maxRecDepth 100000 in
theorem gv_X5_rank : GoodIn lw_tbl (wsV RL 61 RX5 yX5_rank wsX5_rank) := goodIn_app (goodIn_sub (mcT tw_600 (mcT tw_599 (mcT tw_598 (mcT tw_474 mnT)))) (by decide +kernel)) gw_X5_rank
set_option maxRecDepth 100000 in
theorem it_wsX5_rest : ∀ w ∈ wsX5_rest, w ∈ lw_tbl := mcT tw_601 (maT (maT it_wsX5_rest_r1 it_wsX5_rest_r2) inX5)
set_option maxRecDepth 100000 in
theorem gw_X5_rest : GoodIn lw_tbl wsX5_rest := goodIn_sub it_wsX5_rest (by decide +kernel)
set_option maxRecDepth 100000 in
theorem gv_X5_rest : GoodIn lw_tbl (wsV RL 65 RX5 yX5_rest wsX5_rest) := goodIn_app (goodIn_sub (mcT tw_604 (mcT tw_603 (mcT tw_602 (mcT tw_474 mnT)))) (by decide +kernel)) gw_X5_rest
set_option maxRecDepth 100000 in
theorem it_wsX5_ranks : ∀ w ∈ wsX5_ranks, w ∈ lw_tbl := mcT tw_605 (maT (maT it_wsX5_ranks_r1 it_wsX5_ranks_r2) inX5)
set_option maxRecDepth 100000 in
theorem gw_X5_ranks : GoodIn lw_tbl wsX5_ranks := goodIn_sub it_wsX5_ranks (by decide +kernel)
set_option maxRecDepth 100000 in
theorem gv_X5_ranks : GoodIn lw_tbl (wsV RL 69 RX5 yX5_ranks wsX5_ranks) := goodIn_app (goodIn_sub (mcT tw_608 (mcT tw_607 (mcT tw_606 (mcT tw_474 mnT)))) (by decide +kernel)) gw_X5_ranks
set_option maxRecDepth 100000 in
theorem it_wsX5_apart : ∀ w ∈ wsX5_apart, w ∈ lw_tbl := mcT tw_609 (maT (maT it_wsX5_apart_r1 it_wsX5_apart_r2) inX5)
set_option maxRecDepth 100000 in
theorem gw_X5_apart : GoodIn lw_tbl wsX5_apart := goodIn_sub it_wsX5_apart (by decide +kernel)
set_option maxRecDepth 100000 in
theorem gv_X5_apart : GoodIn lw_tbl (wsV RL 73 RX5 yX5_apart wsX5_apart) := goodIn_app (goodIn_sub (mcT tw_612 (mcT tw_611 (mcT tw_610 (mcT tw_474 mnT)))) (by decide +kernel)) gw_X5_apart
set_option maxRecDepth 100000 in
theorem it_wsX5_chosen : ∀ w ∈ wsX5_chosen, w ∈ lw_tbl := mcT tw_613 (maT (maT it_wsX5_chosen_r1 it_wsX5_chosen_r2) inX5)
set_option maxRecDepth 100000 in
theorem gw_X5_chosen : GoodIn lw_tbl wsX5_chosen := goodIn_sub it_wsX5_chosen (by decide +kernel)
set_option maxRecDepth 100000 in
theorem gv_X5_chosen : GoodIn lw_tbl (wsV RL 77 RX5 yX5_chosen wsX5_chosen) := goodIn_app (goodIn_sub (mcT tw_617 (mcT tw_616 (mcT tw_615 (mcT tw_474 mnT)))) (by decide +kernel)) gw_X5_chosen
set_option maxRecDepth 100000 in
theorem it_wsX5_flood : ∀ w ∈ wsX5_flood, w ∈ lw_tbl := mcT tw_618 (maT (maT it_wsX5_flood_r1 it_wsX5_flood_r2) inX5)
set_option maxRecDepth 100000 in
theorem gw_X5_flood : GoodIn lw_tbl wsX5_flood := goodIn_sub it_wsX5_flood (by decide +kernel)
set_option maxRecDepth 100000 in
theorem gv_X5_flood : GoodIn lw_tbl (wsV RL 84 RX5 yX5_flood wsX5_flood) := goodIn_app (goodIn_sub (mcT tw_643 (mcT tw_642 (mcT tw_641 (mcT tw_474 mnT)))) (by decide +kernel)) gw_X5_flood
set_option maxRecDepth 100000 in
theorem it_wsX5_flooded : ∀ w ∈ wsX5_flooded, w ∈ lw_tbl := mcT tw_644 (maT (mcT tw_472 (mcT tw_459 (mcT tw_458 (mcT tw_457 (mcT tw_499 (mcT tw_498 (mcT tw_497 (mcT tw_474 (mcT tw_496 (mcT tw_479 (mcT tw_490 (mcT tw_489 (mcT tw_488 mnT))))))))))))) inX5)
set_option maxRecDepth 100000 in
theorem gw_X5_flooded : GoodIn lw_tbl wsX5_flooded := goodIn_sub it_wsX5_flooded (by decide +kernel)
set_option maxRecDepth 100000 in
theorem gv_X5_flooded : GoodIn lw_tbl (wsV RL 88 RX5 yX5_flooded wsX5_flooded) := goodIn_app (goodIn_sub (mcT tw_647 (mcT tw_646 (mcT tw_645 (mcT tw_474 mnT)))) (by decide +kernel)) gw_X5_flooded
set_option maxRecDepth 100000 in
theorem it_wsX5_word : ∀ w ∈ wsX5_word, w ∈ lw_tbl := mcT tw_648 (maT (mcT tw_472 (mcT tw_626 (mcT tw_460 (mcT tw_490 (mcT tw_489 (mcT tw_474 (mcT tw_488 mnT))))))) inX5)
set_option maxRecDepth 100000 in
theorem gw_X5_word : GoodIn lw_tbl wsX5_word := goodIn_sub it_wsX5_word (by decide +kernel)
set_option maxRecDepth 100000 in
theorem gv_X5_word : GoodIn lw_tbl (wsV RL 92 RX5 yX5_word wsX5_word) := goodIn_app (goodIn_sub (mcT tw_651 (mcT tw_650 (mcT tw_649 (mcT tw_474 mnT)))) (by decide +kernel)) gw_X5_word
set_option maxRecDepth 100000 in
theorem it_wsX5_lots : ∀ w ∈ wsX5_lots, w ∈ lw_tbl := mcT tw_652 (maT (mcT tw_660 (mcT tw_537 (mcT tw_479 (mcT tw_490 (mcT tw_489 (mcT tw_474 (mcT tw_488 (mcT tw_659 (mcT tw_658 (mcT tw_657 (mcT tw_656 (mcT tw_655 (mcT tw_654 (mcT tw_653 mnT)))))))))))))) inX5)
set_option maxRecDepth 100000 in
theorem gw_X5_lots : GoodIn lw_tbl wsX5_lots := goodIn_sub it_wsX5_lots (by decide +kernel)
set_option maxRecDepth 100000 in
theorem gv_X5_lots : GoodIn lw_tbl (wsV RL 97 RX5 yX5_lots wsX5_lots) := goodIn_app (goodIn_sub (mcT tw_663 (mcT tw_662 (mcT tw_661 (mcT tw_474 mnT)))) (by decide +kernel)) gw_X5_lots
set_option maxRecDepth 100000 in
theorem it_wsX5_sheet : ∀ w ∈ wsX5_sheet, w ∈ lw_tbl := mcT tw_664 (maT (mcT tw_537 (mcT tw_455 (mcT tw_454 (mcT tw_453 (mcT tw_536 (mcT tw_535 (mcT tw_474 (mcT tw_534 (mcT tw_533 (mcT tw_490 (mcT tw_489 (mcT tw_488 (mcT tw_532 (mcT tw_531 (mcT tw_530 (mcT tw_529 (mcT tw_528 (mcT tw_527 (mcT tw_526 (mcT tw_525 (mcT tw_524 mnT))))))))))))))))))))) inX5)
set_option maxRecDepth 100000 in
theorem gw_X5_sheet : GoodIn lw_tbl wsX5_sheet := goodIn_sub it_wsX5_sheet (by decide +kernel)
set_option maxRecDepth 100000 in
theorem gv_X5_sheet : GoodIn lw_tbl (wsV RL 101 RX5 yX5_sheet wsX5_sheet) := goodIn_app (goodIn_sub (mcT tw_667 (mcT tw_666 (mcT tw_665 (mcT tw_474 mnT)))) (by decide +kernel)) gw_X5_sheet
set_option maxRecDepth 100000 in
theorem it_wsX5_lose : ∀ w ∈ wsX5_lose, w ∈ lw_tbl := mcT tw_668 (maT (mcT tw_455 (mcT tw_536 (mcT tw_535 (mcT tw_474 (mcT tw_534 (mcT tw_533 (mcT tw_490 (mcT tw_489 (mcT tw_488 mnT))))))))) inX5)
set_option maxRecDepth 100000 in
theorem gw_X5_lose : GoodIn lw_tbl wsX5_lose := goodIn_sub it_wsX5_lose (by decide +kernel)
set_option maxRecDepth 100000 in
theorem gv_X5_lose : GoodIn lw_tbl (wsV RL 105 RX5 yX5_lose wsX5_lose) := goodIn_app (goodIn_sub (mcT tw_671 (mcT tw_670 (mcT tw_669 (mcT tw_474 mnT)))) (by decide +kernel)) gw_X5_lose
set_option maxRecDepth 100000 in
theorem it_wsX5_put : ∀ w ∈ wsX5_put, w ∈ lw_tbl := mcT tw_672 (maT (mcT tw_453 (mcT tw_454 (mcT tw_536 (mcT tw_535 (mcT tw_474 (mcT tw_534 (mcT tw_533 (mcT tw_490 (mcT tw_489 (mcT tw_488 (mcT tw_532 (mcT tw_531 (mcT tw_530 (mcT tw_529 (mcT tw_528 (mcT tw_676 (mcT tw_675 (mcT tw_674 (mcT tw_673 (mcT tw_455 (mcT tw_527 (mcT tw_526 (mcT tw_525 (mcT tw_524 mnT)))))))))))))))))))))))) inX5)
set_option maxRecDepth 100000 in
theorem gw_X5_put : GoodIn lw_tbl wsX5_put := goodIn_sub it_wsX5_put (by decide +kernel)
set_option maxRecDepth 100000 in
theorem gv_X5_put : GoodIn lw_tbl (wsV RL 109 RX5 yX5_put wsX5_put) := goodIn_app (goodIn_sub (mcT tw_679 (mcT tw_678 (mcT tw_677 (mcT tw_474 mnT)))) (by decide +kernel)) gw_X5_put
set_option maxRecDepth 100000 in
theorem it_wsX5_cell : ∀ w ∈ wsX5_cell, w ∈ lw_tbl := mcT tw_680 (maT (maT it_wsX5_cell_r1 it_wsX5_cell_r2) inX5)
set_option maxRecDepth 100000 in
theorem gw_X5_cell : GoodIn lw_tbl wsX5_cell := goodIn_sub it_wsX5_cell (by decide +kernel)
set_option maxRecDepth 100000 in
theorem gv_X5_cell : GoodIn lw_tbl (wsV RL 114 RX5 yX5_cell wsX5_cell) := goodIn_app (goodIn_sub (mcT tw_687 (mcT tw_686 (mcT tw_685 (mcT tw_474 mnT)))) (by decide +kernel)) gw_X5_cell
set_option maxRecDepth 100000 in
theorem it_wsX5_copy : ∀ w ∈ wsX5_copy, w ∈ lw_tbl := mcT tw_688 (maT (mcT tw_455 (mcT tw_454 (mcT tw_452 (mcT tw_453 (mcT tw_536 (mcT tw_535 (mcT tw_474 (mcT tw_534 (mcT tw_533 (mcT tw_490 (mcT tw_489 (mcT tw_488 (mcT tw_532 (mcT tw_531 (mcT tw_530 (mcT tw_529 (mcT tw_528 (mcT tw_527 (mcT tw_526 (mcT tw_525 (mcT tw_524 (mcT tw_523 (mcT tw_522 (mcT tw_521 mnT)))))))))))))))))))))))) inX5)
set_option maxRecDepth 100000 in
theorem gw_X5_copy : GoodIn lw_tbl wsX5_copy := goodIn_sub it_wsX5_copy (by decide +kernel)
set_option maxRecDepth 100000 in
theorem gv_X5_copy : GoodIn lw_tbl (wsV RL 119 RX5 yX5_copy wsX5_copy) := goodIn_app (goodIn_sub (mcT tw_691 (mcT tw_690 (mcT tw_689 (mcT tw_474 mnT)))) (by decide +kernel)) gw_X5_copy
set_option maxRecDepth 100000 in
theorem it_wsX5_tell : ∀ w ∈ wsX5_tell, w ∈ lw_tbl := mcT tw_692 (maT (mcT tw_468 (mcT tw_467 (mcT tw_499 (mcT tw_498 (mcT tw_497 (mcT tw_474 (mcT tw_496 (mcT tw_479 (mcT tw_490 (mcT tw_489 (mcT tw_488 (mcT tw_701 (mcT tw_700 (mcT tw_699 (mcT tw_698 (mcT tw_697 (mcT tw_696 (mcT tw_695 (mcT tw_694 (mcT tw_693 mnT)))))))))))))))))))) inX5)
set_option maxRecDepth 100000 in
theorem gw_X5_tell : GoodIn lw_tbl wsX5_tell := goodIn_sub it_wsX5_tell (by decide +kernel)
set_option maxRecDepth 100000 in
theorem gv_X5_tell : GoodIn lw_tbl (wsV RL 123 RX5 yX5_tell wsX5_tell) := goodIn_app (goodIn_sub (mcT tw_704 (mcT tw_703 (mcT tw_702 (mcT tw_474 mnT)))) (by decide +kernel)) gw_X5_tell
set_option maxRecDepth 100000 in
theorem it_wsX5_hear : ∀ w ∈ wsX5_hear, w ∈ lw_tbl := mcT tw_705 (maT (mcT tw_499 (mcT tw_498 (mcT tw_497 (mcT tw_474 (mcT tw_496 (mcT tw_479 (mcT tw_490 (mcT tw_489 (mcT tw_488 (mcT tw_701 (mcT tw_700 (mcT tw_699 (mcT tw_698 (mcT tw_467 (mcT tw_697 (mcT tw_696 (mcT tw_695 (mcT tw_694 (mcT tw_693 mnT))))))))))))))))))) inX5)
set_option maxRecDepth 100000 in
theorem gw_X5_hear : GoodIn lw_tbl wsX5_hear := goodIn_sub it_wsX5_hear (by decide +kernel)
set_option maxRecDepth 100000 in
theorem gv_X5_hear : GoodIn lw_tbl (wsV RL 127 RX5 yX5_hear wsX5_hear) := goodIn_app (goodIn_sub (mcT tw_708 (mcT tw_707 (mcT tw_706 (mcT tw_474 mnT)))) (by decide +kernel)) gw_X5_hear
set_option maxRecDepth 100000 in
theorem it_wsX5_as : ∀ w ∈ wsX5_as, w ∈ lw_tbl := mcT tw_709 (maT (mcT tw_537 (mcT tw_499 (mcT tw_498 (mcT tw_497 (mcT tw_474 (mcT tw_496 (mcT tw_479 (mcT tw_490 (mcT tw_489 (mcT tw_488 (mcT tw_532 (mcT tw_531 (mcT tw_530 (mcT tw_529 (mcT tw_528 (mcT tw_701 (mcT tw_700 (mcT tw_699 (mcT tw_698 (mcT tw_467 (mcT tw_527 (mcT tw_526 (mcT tw_525 (mcT tw_524 mnT)))))))))))))))))))))))) inX5)
set_option maxRecDepth 100000 in
theorem gw_X5_as : GoodIn lw_tbl wsX5_as := goodIn_sub it_wsX5_as (by decide +kernel)
set_option maxRecDepth 100000 in
theorem gv_X5_as : GoodIn lw_tbl (wsV RL 131 RX5 yX5_as wsX5_as) := goodIn_app (goodIn_sub (mcT tw_712 (mcT tw_711 (mcT tw_710 (mcT tw_474 mnT)))) (by decide +kernel)) gw_X5_as
set_option maxRecDepth 100000 in
theorem it_wsX5_trace : ∀ w ∈ wsX5_trace, w ∈ lw_tbl := mcT tw_713 (maT (mcT tw_693 mnT) inX5)
set_option maxRecDepth 100000 in
theorem gw_X5_trace : GoodIn lw_tbl wsX5_trace := goodIn_sub it_wsX5_trace (by decide +kernel)
set_option maxRecDepth 100000 in
theorem gv_X5_trace : GoodIn lw_tbl (wsV RL 135 RX5 yX5_trace wsX5_trace) := goodIn_app (goodIn_sub (mcT tw_716 (mcT tw_715 (mcT tw_714 (mcT tw_474 mnT)))) (by decide +kernel)) gw_X5_trace
set_option maxRecDepth 100000 in
theorem it_wsX5_fault : ∀ w ∈ wsX5_fault, w ∈ lw_tbl := mcT tw_717 (maT (mcT tw_528 mnT) inX5)
set_option maxRecDepth 100000 in
theorem gw_X5_fault : GoodIn lw_tbl wsX5_fault := goodIn_sub it_wsX5_fault (by decide +kernel)
set_option maxRecDepth 100000 in
theorem gv_X5_fault : GoodIn lw_tbl (wsV RL 139 RX5 yX5_fault wsX5_fault) := goodIn_app (goodIn_sub (mcT tw_720 (mcT tw_719 (mcT tw_718 (mcT tw_474 mnT)))) (by decide +kernel)) gw_X5_fault
set_option maxRecDepth 100000 in
theorem it_wsX5_told : ∀ w ∈ wsX5_told, w ∈ lw_tbl := mcT tw_721 (maT (maT it_wsX5_told_r1 it_wsX5_told_r2) inX5)
set_option maxRecDepth 100000 in
theorem gw_X5_told : GoodIn lw_tbl wsX5_told := goodIn_sub it_wsX5_told (by decide +kernel)
set_option maxRecDepth 100000 in
theorem gv_X5_told : GoodIn lw_tbl (wsV RL 143 RX5 yX5_told wsX5_told) := goodIn_app (goodIn_sub (mcT tw_728 (mcT tw_727 (mcT tw_726 (mcT tw_474 mnT)))) (by decide +kernel)) gw_X5_told
