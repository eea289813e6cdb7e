set_option maxRecDepth 20000 in
theorem zdX7_make_159 : dAll cX7_make [(159, .iload 5, 2), (161, .if_icmp .ge 8, 3), (164, .iload 5, 2), (166, .goto 5, 3), (169, .iload 4, 2), (171, .iconst 1, 1), (172, .aload_n 0, 1), (173, .iconst 1, 1), (174, .bipush 100, 2), (176, .iload_n 3, 1), (177, .iadd, 1), (178, .bipush 99, 2), (180, .invokevirtual 69, 3), (183, .iadd, 1), (184, .invokevirtual 65, 3), (187, .iinc 3 1, 3), (190, .goto (-91), 3), (193, .iconst 0, 1), (194, .istore_n 3, 1), (195, .iload_n 3, 1), (196, .aload_n 0, 1), (197, .getfield 59, 3), (200, .if_icmp .ge 39, 3), (203, .aload_n 0, 1), (204, .bipush 30, 2), (206, .iload_n 3, 1), (207, .iadd, 1), (208, .iconst 1, 1), (209, .aload_n 0, 1), (210, .iconst 4, 1)] := dAll_of (by decide +kernel)
theorem dX7_make_159 : decode cX7_make 159 = .ok (.iload 5, 2) := zdX7_make_159.1
theorem dX7_make_161 : decode cX7_make 161 = .ok (.if_icmp .ge 8, 3) := zdX7_make_159.2.1
theorem dX7_make_164 : decode cX7_make 164 = .ok (.iload 5, 2) := zdX7_make_159.2.2.1
theorem dX7_make_166 : decode cX7_make 166 = .ok (.goto 5, 3) := zdX7_make_159.2.2.2.1
theorem dX7_make_169 : decode cX7_make 169 = .ok (.iload 4, 2) := zdX7_make_159.2.2.2.2.1
theorem dX7_make_171 : decode cX7_make 171 = .ok (.iconst 1, 1) := zdX7_make_159.2.2.2.2.2.1
theorem dX7_make_172 : decode cX7_make 172 = .ok (.aload_n 0, 1) := zdX7_make_159.2.2.2.2.2.2.1
theorem dX7_make_173 : decode cX7_make 173 = .ok (.iconst 1, 1) := zdX7_make_159.2.2.2.2.2.2.2.1
theorem dX7_make_174 : decode cX7_make 174 = .ok (.bipush 100, 2) := zdX7_make_159.2.2.2.2.2.2.2.2.1
theorem dX7_make_176 : decode cX7_make 176 = .ok (.iload_n 3, 1) := zdX7_make_159.2.2.2.2.2.2.2.2.2.1
theorem dX7_make_177 : decode cX7_make 177 = .ok (.iadd, 1) := zdX7_make_159.2.2.2.2.2.2.2.2.2.2.1
theorem dX7_make_178 : decode cX7_make 178 = .ok (.bipush 99, 2) := zdX7_make_159.2.2.2.2.2.2.2.2.2.2.2.1
theorem dX7_make_180 : decode cX7_make 180 = .ok (.invokevirtual 69, 3) := zdX7_make_159.2.2.2.2.2.2.2.2.2.2.2.2.1
theorem dX7_make_183 : decode cX7_make 183 = .ok (.iadd, 1) := zdX7_make_159.2.2.2.2.2.2.2.2.2.2.2.2.2.1
theorem dX7_make_184 : decode cX7_make 184 = .ok (.invokevirtual 65, 3) := zdX7_make_159.2.2.2.2.2.2.2.2.2.2.2.2.2.2.1
theorem dX7_make_187 : decode cX7_make 187 = .ok (.iinc 3 1, 3) := zdX7_make_159.2.2.2.2.2.2.2.2.2.2.2.2.2.2.2.1
theorem dX7_make_190 : decode cX7_make 190 = .ok (.goto (-91), 3) := zdX7_make_159.2.2.2.2.2.2.2.2.2.2.2.2.2.2.2.2.1
theorem dX7_make_193 : decode cX7_make 193 = .ok (.iconst 0, 1) := zdX7_make_159.2.2.2.2.2.2.2.2.2.2.2.2.2.2.2.2.2.1
theorem dX7_make_194 : decode cX7_make 194 = .ok (.istore_n 3, 1) := zdX7_make_159.2.2.2.2.2.2.2.2.2.2.2.2.2.2.2.2.2.2.1
theorem dX7_make_195 : decode cX7_make 195 = .ok (.iload_n 3, 1) := zdX7_make_159.2.2.2.2.2.2.2.2.2.2.2.2.2.2.2.2.2.2.2.1
theorem dX7_make_196 : decode cX7_make 196 = .ok (.aload_n 0, 1) := zdX7_make_159.2.2.2.2.2.2.2.2.2.2.2.2.2.2.2.2.2.2.2.2.1
theorem dX7_make_197 : decode cX7_make 197 = .ok (.getfield 59, 3) := zdX7_make_159.2.2.2.2.2.2.2.2.2.2.2.2.2.2.2.2.2.2.2.2.2.1
theorem dX7_make_200 : decode cX7_make 200 = .ok (.if_icmp .ge 39, 3) := zdX7_make_159.2.2.2.2.2.2.2.2.2.2.2.2.2.2.2.2.2.2.2.2.2.2.1
theorem dX7_make_203 : decode cX7_make 203 = .ok (.aload_n 0, 1) := zdX7_make_159.2.2.2.2.2.2.2.2.2.2.2.2.2.2.2.2.2.2.2.2.2.2.2.1
theorem dX7_make_204 : decode cX7_make 204 = .ok (.bipush 30, 2) := zdX7_make_159.2.2.2.2.2.2.2.2.2.2.2.2.2.2.2.2.2.2.2.2.2.2.2.2.1
theorem dX7_make_206 : decode cX7_make 206 = .ok (.iload_n 3, 1) := zdX7_make_159.2.2.2.2.2.2.2.2.2.2.2.2.2.2.2.2.2.2.2.2.2.2.2.2.2.1
theorem dX7_make_207 : decode cX7_make 207 = .ok (.iadd, 1) := zdX7_make_159.2.2.2.2.2.2.2.2.2.2.2.2.2.2.2.2.2.2.2.2.2.2.2.2.2.2.1
theorem dX7_make_208 : decode cX7_make 208 = .ok (.iconst 1, 1) := zdX7_make_159.2.2.2.2.2.2.2.2.2.2.2.2.2.2.2.2.2.2.2.2.2.2.2.2.2.2.2.1
theorem dX7_make_209 : decode cX7_make 209 = .ok (.aload_n 0, 1) := zdX7_make_159.2.2.2.2.2.2.2.2.2.2.2.2.2.2.2.2.2.2.2.2.2.2.2.2.2.2.2.2.1
theorem dX7_make_210 : decode cX7_make 210 = .ok (.iconst 4, 1) := zdX7_make_159.2.2.2.2.2.2.2.2.2.2.2.2.2.2.2.2.2.2.2.2.2.2.2.2.2.2.2.2.2.1
set_option maxRecDepth 20000 in
theorem zdX7_make_211 : dAll cX7_make [(211, .iload_n 3, 1), (212, .aload_n 0, 1), (213, .getfield 56, 3), (216, .invokevirtual 69, 3), (219, .iconst 1, 1), (220, .aload_n 0, 1), (221, .iconst 5, 1), (222, .iload_n 3, 1), (223, .bipush 7, 2), (225, .invokevirtual 69, 3), (228, .iadd, 1), (229, .iconst 0, 1), (230, .invokevirtual 65, 3), (233, .iinc 3 1, 3), (236, .goto (-41), 3), (239, .iconst 0, 1), (240, .istore_n 3, 1), (241, .iload_n 3, 1), (242, .aload_n 0, 1), (243, .getfield 62, 3), (246, .if_icmp .ge 92, 3), (249, .iload_n 3, 1), (250, .ifCond .le 18, 3), (253, .aload_n 0, 1), (254, .bipush 8, 2), (256, .iload_n 3, 1), (257, .iconst 3, 1), (258, .invokevirtual 69, 3), (261, .ifCond .ne 7, 3), (264, .iconst 1, 1)] := dAll_of (by decide +kernel)
theorem dX7_make_211 : decode cX7_make 211 = .ok (.iload_n 3, 1) := zdX7_make_211.1
theorem dX7_make_212 : decode cX7_make 212 = .ok (.aload_n 0, 1) := zdX7_make_211.2.1
theorem dX7_make_213 : decode cX7_make 213 = .ok (.getfield 56, 3) := zdX7_make_211.2.2.1
theorem dX7_make_216 : decode cX7_make 216 = .ok (.invokevirtual 69, 3) := zdX7_make_211.2.2.2.1
theorem dX7_make_219 : decode cX7_make 219 = .ok (.iconst 1, 1) := zdX7_make_211.2.2.2.2.1
theorem dX7_make_220 : decode cX7_make 220 = .ok (.aload_n 0, 1) := zdX7_make_211.2.2.2.2.2.1
theorem dX7_make_221 : decode cX7_make 221 = .ok (.iconst 5, 1) := zdX7_make_211.2.2.2.2.2.2.1
theorem dX7_make_222 : decode cX7_make 222 = .ok (.iload_n 3, 1) := zdX7_make_211.2.2.2.2.2.2.2.1
theorem dX7_make_223 : decode cX7_make 223 = .ok (.bipush 7, 2) := zdX7_make_211.2.2.2.2.2.2.2.2.1
theorem dX7_make_225 : decode cX7_make 225 = .ok (.invokevirtual 69, 3) := zdX7_make_211.2.2.2.2.2.2.2.2.2.1
theorem dX7_make_228 : decode cX7_make 228 = .ok (.iadd, 1) := zdX7_make_211.2.2.2.2.2.2.2.2.2.2.1
theorem dX7_make_229 : decode cX7_make 229 = .ok (.iconst 0, 1) := zdX7_make_211.2.2.2.2.2.2.2.2.2.2.2.1
theorem dX7_make_230 : decode cX7_make 230 = .ok (.invokevirtual 65, 3) := zdX7_make_211.2.2.2.2.2.2.2.2.2.2.2.2.1
theorem dX7_make_233 : decode cX7_make 233 = .ok (.iinc 3 1, 3) := zdX7_make_211.2.2.2.2.2.2.2.2.2.2.2.2.2.1
theorem dX7_make_236 : decode cX7_make 236 = .ok (.goto (-41), 3) := zdX7_make_211.2.2.2.2.2.2.2.2.2.2.2.2.2.2.1
theorem dX7_make_239 : decode cX7_make 239 = .ok (.iconst 0, 1) := zdX7_make_211.2.2.2.2.2.2.2.2.2.2.2.2.2.2.2.1
theorem dX7_make_240 : decode cX7_make 240 = .ok (.istore_n 3, 1) := zdX7_make_211.2.2.2.2.2.2.2.2.2.2.2.2.2.2.2.2.1
theorem dX7_make_241 : decode cX7_make 241 = .ok (.iload_n 3, 1) := zdX7_make_211.2.2.2.2.2.2.2.2.2.2.2.2.2.2.2.2.2.1
theorem dX7_make_242 : decode cX7_make 242 = .ok (.aload_n 0, 1) := zdX7_make_211.2.2.2.2.2.2.2.2.2.2.2.2.2.2.2.2.2.2.1
theorem dX7_make_243 : decode cX7_make 243 = .ok (.getfield 62, 3) := zdX7_make_211.2.2.2.2.2.2.2.2.2.2.2.2.2.2.2.2.2.2.2.1
theorem dX7_make_246 : decode cX7_make 246 = .ok (.if_icmp .ge 92, 3) := zdX7_make_211.2.2.2.2.2.2.2.2.2.2.2.2.2.2.2.2.2.2.2.2.1
theorem dX7_make_249 : decode cX7_make 249 = .ok (.iload_n 3, 1) := zdX7_make_211.2.2.2.2.2.2.2.2.2.2.2.2.2.2.2.2.2.2.2.2.2.1
theorem dX7_make_250 : decode cX7_make 250 = .ok (.ifCond .le 18, 3) := zdX7_make_211.2.2.2.2.2.2.2.2.2.2.2.2.2.2.2.2.2.2.2.2.2.2.1
theorem dX7_make_253 : decode cX7_make 253 = .ok (.aload_n 0, 1) := zdX7_make_211.2.2.2.2.2.2.2.2.2.2.2.2.2.2.2.2.2.2.2.2.2.2.2.1
theorem dX7_make_254 : decode cX7_make 254 = .ok (.bipush 8, 2) := zdX7_make_211.2.2.2.2.2.2.2.2.2.2.2.2.2.2.2.2.2.2.2.2.2.2.2.2.1
theorem dX7_make_256 : decode cX7_make 256 = .ok (.iload_n 3, 1) := zdX7_make_211.2.2.2.2.2.2.2.2.2.2.2.2.2.2.2.2.2.2.2.2.2.2.2.2.2.1
theorem dX7_make_257 : decode cX7_make 257 = .ok (.iconst 3, 1) := zdX7_make_211.2.2.2.2.2.2.2.2.2.2.2.2.2.2.2.2.2.2.2.2.2.2.2.2.2.2.1
theorem dX7_make_258 : decode cX7_make 258 = .ok (.invokevirtual 69, 3) := zdX7_make_211.2.2.2.2.2.2.2.2.2.2.2.2.2.2.2.2.2.2.2.2.2.2.2.2.2.2.2.1
theorem dX7_make_261 : decode cX7_make 261 = .ok (.ifCond .ne 7, 3) := zdX7_make_211.2.2.2.2.2.2.2.2.2.2.2.2.2.2.2.2.2.2.2.2.2.2.2.2.2.2.2.2.1
theorem dX7_make_264 : decode cX7_make 264 = .ok (.iconst 1, 1) := zdX7_make_211.2.2.2.2.2.2.2.2.2.2.2.2.2.2.2.2.2.2.2.2.2.2.2.2.2.2.2.2.2.1
set_option maxRecDepth 20000 in
theorem zdX7_make_265 : dAll cX7_make [(265, .goto 4, 3), (268, .iconst 0, 1), (269, .istore 4, 2), (271, .iload 4, 2), (273, .ifCond .eq 17, 3), (276, .aload_n 0, 1), (277, .getfield 23, 3), (280, .bipush 41, 2), (282, .iload_n 3, 1), (283, .iadd, 1), (284, .iconst 1, 1), (285, .isub, 1), (286, .iaload, 1), (287, .goto 13, 3), (290, .aload_n 0, 1), (291, .bipush 9, 2), (293, .iload_n 3, 1), (294, .sipush 1440, 3), (297, .invokevirtual 69, 3), (300, .istore 5, 2), (302, .aload_n 0, 1), (303, .bipush 41, 2), (305, .iload_n 3, 1), (306, .iadd, 1), (307, .iconst 2, 1), (308, .aload_n 0, 1), (309, .bipush 6, 2), (311, .iload_n 3, 1), (312, .aload_n 0, 1), (313, .getfield 56, 3)] := dAll_of (by decide +kernel)
theorem dX7_make_265 : decode cX7_make 265 = .ok (.goto 4, 3) := zdX7_make_265.1
theorem dX7_make_268 : decode cX7_make 268 = .ok (.iconst 0, 1) := zdX7_make_265.2.1
theorem dX7_make_269 : decode cX7_make 269 = .ok (.istore 4, 2) := zdX7_make_265.2.2.1
theorem dX7_make_271 : decode cX7_make 271 = .ok (.iload 4, 2) := zdX7_make_265.2.2.2.1
theorem dX7_make_273 : decode cX7_make 273 = .ok (.ifCond .eq 17, 3) := zdX7_make_265.2.2.2.2.1
theorem dX7_make_276 : decode cX7_make 276 = .ok (.aload_n 0, 1) := zdX7_make_265.2.2.2.2.2.1
theorem dX7_make_277 : decode cX7_make 277 = .ok (.getfield 23, 3) := zdX7_make_265.2.2.2.2.2.2.1
theorem dX7_make_280 : decode cX7_make 280 = .ok (.bipush 41, 2) := zdX7_make_265.2.2.2.2.2.2.2.1
theorem dX7_make_282 : decode cX7_make 282 = .ok (.iload_n 3, 1) := zdX7_make_265.2.2.2.2.2.2.2.2.1
theorem dX7_make_283 : decode cX7_make 283 = .ok (.iadd, 1) := zdX7_make_265.2.2.2.2.2.2.2.2.2.1
theorem dX7_make_284 : decode cX7_make 284 = .ok (.iconst 1, 1) := zdX7_make_265.2.2.2.2.2.2.2.2.2.2.1
theorem dX7_make_285 : decode cX7_make 285 = .ok (.isub, 1) := zdX7_make_265.2.2.2.2.2.2.2.2.2.2.2.1
theorem dX7_make_286 : decode cX7_make 286 = .ok (.iaload, 1) := zdX7_make_265.2.2.2.2.2.2.2.2.2.2.2.2.1
theorem dX7_make_287 : decode cX7_make 287 = .ok (.goto 13, 3) := zdX7_make_265.2.2.2.2.2.2.2.2.2.2.2.2.2.1
theorem dX7_make_290 : decode cX7_make 290 = .ok (.aload_n 0, 1) := zdX7_make_265.2.2.2.2.2.2.2.2.2.2.2.2.2.2.1
theorem dX7_make_291 : decode cX7_make 291 = .ok (.bipush 9, 2) := zdX7_make_265.2.2.2.2.2.2.2.2.2.2.2.2.2.2.2.1
theorem dX7_make_293 : decode cX7_make 293 = .ok (.iload_n 3, 1) := zdX7_make_265.2.2.2.2.2.2.2.2.2.2.2.2.2.2.2.2.1
theorem dX7_make_294 : decode cX7_make 294 = .ok (.sipush 1440, 3) := zdX7_make_265.2.2.2.2.2.2.2.2.2.2.2.2.2.2.2.2.2.1
theorem dX7_make_297 : decode cX7_make 297 = .ok (.invokevirtual 69, 3) := zdX7_make_265.2.2.2.2.2.2.2.2.2.2.2.2.2.2.2.2.2.2.1
theorem dX7_make_300 : decode cX7_make 300 = .ok (.istore 5, 2) := zdX7_make_265.2.2.2.2.2.2.2.2.2.2.2.2.2.2.2.2.2.2.2.1
theorem dX7_make_302 : decode cX7_make 302 = .ok (.aload_n 0, 1) := zdX7_make_265.2.2.2.2.2.2.2.2.2.2.2.2.2.2.2.2.2.2.2.2.1
theorem dX7_make_303 : decode cX7_make 303 = .ok (.bipush 41, 2) := zdX7_make_265.2.2.2.2.2.2.2.2.2.2.2.2.2.2.2.2.2.2.2.2.2.1
theorem dX7_make_305 : decode cX7_make 305 = .ok (.iload_n 3, 1) := zdX7_make_265.2.2.2.2.2.2.2.2.2.2.2.2.2.2.2.2.2.2.2.2.2.2.1
theorem dX7_make_306 : decode cX7_make 306 = .ok (.iadd, 1) := zdX7_make_265.2.2.2.2.2.2.2.2.2.2.2.2.2.2.2.2.2.2.2.2.2.2.2.1
theorem dX7_make_307 : decode cX7_make 307 = .ok (.iconst 2, 1) := zdX7_make_265.2.2.2.2.2.2.2.2.2.2.2.2.2.2.2.2.2.2.2.2.2.2.2.2.1
theorem dX7_make_308 : decode cX7_make 308 = .ok (.aload_n 0, 1) := zdX7_make_265.2.2.2.2.2.2.2.2.2.2.2.2.2.2.2.2.2.2.2.2.2.2.2.2.2.1
theorem dX7_make_309 : decode cX7_make 309 = .ok (.bipush 6, 2) := zdX7_make_265.2.2.2.2.2.2.2.2.2.2.2.2.2.2.2.2.2.2.2.2.2.2.2.2.2.2.1
theorem dX7_make_311 : decode cX7_make 311 = .ok (.iload_n 3, 1) := zdX7_make_265.2.2.2.2.2.2.2.2.2.2.2.2.2.2.2.2.2.2.2.2.2.2.2.2.2.2.2.1
theorem dX7_make_312 : decode cX7_make 312 = .ok (.aload_n 0, 1) := zdX7_make_265.2.2.2.2.2.2.2.2.2.2.2.2.2.2.2.2.2.2.2.2.2.2.2.2.2.2.2.2.1
theorem dX7_make_313 : decode cX7_make 313 = .ok (.getfield 56, 3) := zdX7_make_265.2.2.2.2.2.2.2.2.2.2.2.2.2.2.2.2.2.2.2.2.2.2.2.2.2.2.2.2.2.1
set_option maxRecDepth 20000 in
theorem zdX7_make_316 : dAll cX7_make [(316, .invokevirtual 69, 3), (319, .aload_n 0, 1), (320, .bipush 7, 2), (322, .iload_n 3, 1), (323, .iconst 3, 1), (324, .invokevirtual 69, 3), (327, .iload 5, 2), (329, .invokevirtual 65, 3), (332, .iinc 3 1, 3), (335, .goto (-94), 3), (338, .return_, 1)] := dAll_of (by decide +kernel)
theorem dX7_make_316 : decode cX7_make 316 = .ok (.invokevirtual 69, 3) := zdX7_make_316.1
theorem dX7_make_319 : decode cX7_make 319 = .ok (.aload_n 0, 1) := zdX7_make_316.2.1
theorem dX7_make_320 : decode cX7_make 320 = .ok (.bipush 7, 2) := zdX7_make_316.2.2.1
theorem dX7_make_322 : decode cX7_make 322 = .ok (.iload_n 3, 1) := zdX7_make_316.2.2.2.1
theorem dX7_make_323 : decode cX7_make 323 = .ok (.iconst 3, 1) := zdX7_make_316.2.2.2.2.1
theorem dX7_make_324 : decode cX7_make 324 = .ok (.invokevirtual 69, 3) := zdX7_make_316.2.2.2.2.2.1
theorem dX7_make_327 : decode cX7_make 327 = .ok (.iload 5, 2) := zdX7_make_316.2.2.2.2.2.2.1
theorem dX7_make_329 : decode cX7_make 329 = .ok (.invokevirtual 65, 3) := zdX7_make_316.2.2.2.2.2.2.2.1
theorem dX7_make_332 : decode cX7_make 332 = .ok (.iinc 3 1, 3) := zdX7_make_316.2.2.2.2.2.2.2.2.1
theorem dX7_make_335 : decode cX7_make 335 = .ok (.goto (-94), 3) := zdX7_make_316.2.2.2.2.2.2.2.2.2.1
theorem dX7_make_338 : decode cX7_make 338 = .ok (.return_, 1) := zdX7_make_316.2.2.2.2.2.2.2.2.2.2.1
set_option maxRecDepth 20000 in
theorem zdX7_many_0 : dAll cX7_many [(0, .iconst 0, 1), (1, .istore_n 2, 1), (2, .iconst 0, 1), (3, .istore_n 3, 1), (4, .iload_n 3, 1), (5, .bipush 62, 2), (7, .if_icmp .ge 36, 3), (10, .iload_n 2, 1), (11, .aload_n 0, 1), (12, .getfield 13, 3), (15, .iload_n 3, 1), (16, .baload, 1), (17, .ifCond .eq 17, 3), (20, .aload_n 0, 1), (21, .getfield 7, 3), (24, .iload_n 3, 1), (25, .iaload, 1), (26, .iload_n 1, 1), (27, .if_icmp .ne 7, 3), (30, .iconst 1, 1), (31, .goto 4, 3), (34, .iconst 0, 1), (35, .iadd, 1), (36, .istore_n 2, 1), (37, .iinc 3 1, 3), (40, .goto (-36), 3), (43, .iload_n 2, 1), (44, .ireturn, 1)] := dAll_of (by decide +kernel)
theorem dX7_many_0 : decode cX7_many 0 = .ok (.iconst 0, 1) := zdX7_many_0.1
theorem dX7_many_1 : decode cX7_many 1 = .ok (.istore_n 2, 1) := zdX7_many_0.2.1
theorem dX7_many_2 : decode cX7_many 2 = .ok (.iconst 0, 1) := zdX7_many_0.2.2.1
theorem dX7_many_3 : decode cX7_many 3 = .ok (.istore_n 3, 1) := zdX7_many_0.2.2.2.1
theorem dX7_many_4 : decode cX7_many 4 = .ok (.iload_n 3, 1) := zdX7_many_0.2.2.2.2.1
theorem dX7_many_5 : decode cX7_many 5 = .ok (.bipush 62, 2) := zdX7_many_0.2.2.2.2.2.1
theorem dX7_many_7 : decode cX7_many 7 = .ok (.if_icmp .ge 36, 3) := zdX7_many_0.2.2.2.2.2.2.1
theorem dX7_many_10 : decode cX7_many 10 = .ok (.iload_n 2, 1) := zdX7_many_0.2.2.2.2.2.2.2.1
theorem dX7_many_11 : decode cX7_many 11 = .ok (.aload_n 0, 1) := zdX7_many_0.2.2.2.2.2.2.2.2.1
theorem dX7_many_12 : decode cX7_many 12 = .ok (.getfield 13, 3) := zdX7_many_0.2.2.2.2.2.2.2.2.2.1
theorem dX7_many_15 : decode cX7_many 15 = .ok (.iload_n 3, 1) := zdX7_many_0.2.2.2.2.2.2.2.2.2.2.1
theorem dX7_many_16 : decode cX7_many 16 = .ok (.baload, 1) := zdX7_many_0.2.2.2.2.2.2.2.2.2.2.2.1
theorem dX7_many_17 : decode cX7_many 17 = .ok (.ifCond .eq 17, 3) := zdX7_many_0.2.2.2.2.2.2.2.2.2.2.2.2.1
theorem dX7_many_20 : decode cX7_many 20 = .ok (.aload_n 0, 1) := zdX7_many_0.2.2.2.2.2.2.2.2.2.2.2.2.2.1
theorem dX7_many_21 : decode cX7_many 21 = .ok (.getfield 7, 3) := zdX7_many_0.2.2.2.2.2.2.2.2.2.2.2.2.2.2.1
theorem dX7_many_24 : decode cX7_many 24 = .ok (.iload_n 3, 1) := zdX7_many_0.2.2.2.2.2.2.2.2.2.2.2.2.2.2.2.1
theorem dX7_many_25 : decode cX7_many 25 = .ok (.iaload, 1) := zdX7_many_0.2.2.2.2.2.2.2.2.2.2.2.2.2.2.2.2.1
theorem dX7_many_26 : decode cX7_many 26 = .ok (.iload_n 1, 1) := zdX7_many_0.2.2.2.2.2.2.2.2.2.2.2.2.2.2.2.2.2.1
theorem dX7_many_27 : decode cX7_many 27 = .ok (.if_icmp .ne 7, 3) := zdX7_many_0.2.2.2.2.2.2.2.2.2.2.2.2.2.2.2.2.2.2.1
theorem dX7_many_30 : decode cX7_many 30 = .ok (.iconst 1, 1) := zdX7_many_0.2.2.2.2.2.2.2.2.2.2.2.2.2.2.2.2.2.2.2.1
theorem dX7_many_31 : decode cX7_many 31 = .ok (.goto 4, 3) := zdX7_many_0.2.2.2.2.2.2.2.2.2.2.2.2.2.2.2.2.2.2.2.2.1
theorem dX7_many_34 : decode cX7_many 34 = .ok (.iconst 0, 1) := zdX7_many_0.2.2.2.2.2.2.2.2.2.2.2.2.2.2.2.2.2.2.2.2.2.1
theorem dX7_many_35 : decode cX7_many 35 = .ok (.iadd, 1) := zdX7_many_0.2.2.2.2.2.2.2.2.2.2.2.2.2.2.2.2.2.2.2.2.2.2.1
theorem dX7_many_36 : decode cX7_many 36 = .ok (.istore_n 2, 1) := zdX7_many_0.2.2.2.2.2.2.2.2.2.2.2.2.2.2.2.2.2.2.2.2.2.2.2.1
theorem dX7_many_37 : decode cX7_many 37 = .ok (.iinc 3 1, 3) := zdX7_many_0.2.2.2.2.2.2.2.2.2.2.2.2.2.2.2.2.2.2.2.2.2.2.2.2.1
theorem dX7_many_40 : decode cX7_many 40 = .ok (.goto (-36), 3) := zdX7_many_0.2.2.2.2.2.2.2.2.2.2.2.2.2.2.2.2.2.2.2.2.2.2.2.2.2.1
theorem dX7_many_43 : decode cX7_many 43 = .ok (.iload_n 2, 1) := zdX7_many_0.2.2.2.2.2.2.2.2.2.2.2.2.2.2.2.2.2.2.2.2.2.2.2.2.2.2.1
theorem dX7_many_44 : decode cX7_many 44 = .ok (.ireturn, 1) := zdX7_many_0.2.2.2.2.2.2.2.2.2.2.2.2.2.2.2.2.2.2.2.2.2.2.2.2.2.2.2.1
set_option maxRecDepth 20000 in
theorem ggX7_all_X7_many : GoodIn wsX7_all wsX7_many := goodIn_r _ [5, 6, 7, 8, 9, 10, 11, 12, 13, 14, 15, 16, 17, 18, 19, 20, 21, 22, 23, 24, 25, 26] rfl (by decide +kernel)
set_option maxRecDepth 20000 in
theorem gX7_all_X7_many : GoodIn wsX7_all (wsV RX7 73 RX7 yX7_many wsX7_many) := goodIn_app (goodIn_of _ (by decide +kernel)) ggX7_all_X7_many
set_option maxRecDepth 20000 in
theorem zdX7_all_0 : dAll cX7_all [(0, .aload_n 0, 1), (1, .iconst 0, 1), (2, .invokevirtual 73, 3), (5, .aload_n 0, 1), (6, .iconst 1, 1), (7, .invokevirtual 73, 3), (10, .iadd, 1), (11, .aload_n 0, 1), (12, .iconst 2, 1), (13, .invokevirtual 73, 3), (16, .iadd, 1), (17, .ireturn, 1)] := dAll_of (by decide +kernel)
theorem dX7_all_0 : decode cX7_all 0 = .ok (.aload_n 0, 1) := zdX7_all_0.1
theorem dX7_all_1 : decode cX7_all 1 = .ok (.iconst 0, 1) := zdX7_all_0.2.1
theorem dX7_all_2 : decode cX7_all 2 = .ok (.invokevirtual 73, 3) := zdX7_all_0.2.2.1
theorem dX7_all_5 : decode cX7_all 5 = .ok (.aload_n 0, 1) := zdX7_all_0.2.2.2.1
theorem dX7_all_6 : decode cX7_all 6 = .ok (.iconst 1, 1) := zdX7_all_0.2.2.2.2.1
theorem dX7_all_7 : decode cX7_all 7 = .ok (.invokevirtual 73, 3) := zdX7_all_0.2.2.2.2.2.1
theorem dX7_all_10 : decode cX7_all 10 = .ok (.iadd, 1) := zdX7_all_0.2.2.2.2.2.2.1
theorem dX7_all_11 : decode cX7_all 11 = .ok (.aload_n 0, 1) := zdX7_all_0.2.2.2.2.2.2.2.1
theorem dX7_all_12 : decode cX7_all 12 = .ok (.iconst 2, 1) := zdX7_all_0.2.2.2.2.2.2.2.2.1
theorem dX7_all_13 : decode cX7_all 13 = .ok (.invokevirtual 73, 3) := zdX7_all_0.2.2.2.2.2.2.2.2.2.1
theorem dX7_all_16 : decode cX7_all 16 = .ok (.iadd, 1) := zdX7_all_0.2.2.2.2.2.2.2.2.2.2.1
theorem dX7_all_17 : decode cX7_all 17 = .ok (.ireturn, 1) := zdX7_all_0.2.2.2.2.2.2.2.2.2.2.2.1
set_option maxRecDepth 20000 in
theorem ggX7_draw_X7_in : GoodIn wsX7_draw wsX7_in := goodIn_r _ [4] rfl (by decide +kernel)
set_option maxRecDepth 20000 in
theorem gX7_draw_X7_in : GoodIn wsX7_draw (va_wsS RX7 76 yX7_in wsX7_in) := goodIn_app (goodIn_of _ (by decide +kernel)) ggX7_draw_X7_in
set_option maxRecDepth 20000 in
theorem ggX7_draw_X7_throwing : GoodIn wsX7_draw wsX7_throwing := goodIn_r _ [8, 9, 45, 46, 47, 48, 49, 50, 51, 52, 53, 54, 55, 56, 57, 58, 59, 60, 61, 62, 63] rfl (by decide +kernel)
set_option maxRecDepth 20000 in
theorem gX7_draw_X7_throwing : GoodIn wsX7_draw (wsV RX7 80 RX7 yX7_throwing wsX7_throwing) := goodIn_app (goodIn_of _ (by decide +kernel)) ggX7_draw_X7_throwing
set_option maxRecDepth 20000 in
theorem ggX7_draw_X7_make : GoodIn wsX7_draw wsX7_make := goodIn_r _ [13, 14, 15, 16, 17, 18, 19, 20, 21, 22, 3, 23, 24, 25, 26, 27, 28, 29, 30, 31, 32, 33, 34, 35, 36, 45, 46, 47, 48, 49, 50, 51, 52, 53, 54, 55, 56, 57, 58, 59, 60, 61, 62, 63] rfl (by decide +kernel)
set_option maxRecDepth 20000 in
theorem gX7_draw_X7_make : GoodIn wsX7_draw (wsV RX7 38 RX7 yX7_make wsX7_make) := goodIn_app (goodIn_of _ (by decide +kernel)) ggX7_draw_X7_make
set_option maxRecDepth 20000 in
theorem ggX7_draw_X7_all : GoodIn wsX7_draw wsX7_all := goodIn_r _ [40, 41, 42, 43, 3, 44, 18, 24, 45, 46, 47, 48, 49, 50, 51, 52, 53, 54, 55, 56, 57, 58, 59, 60, 61, 62, 63] rfl (by decide +kernel)
set_option maxRecDepth 20000 in
theorem gX7_draw_X7_all : GoodIn wsX7_draw (wsV RX7 84 RX7 yX7_all wsX7_all) := goodIn_app (goodIn_of _ (by decide +kernel)) ggX7_draw_X7_all
set_option maxRecDepth 20000 in
theorem zdX7_draw_0 : dAll cX7_draw [(0, .aload_n 0, 1), (1, .iload_n 2, 1), (2, .iconst 0, 1), (3, .bipush 20, 2), (5, .invokestatic 76, 3), (8, .ifCond .ne 7, 3), (11, .iconst 1, 1), (12, .goto 4, 3), (15, .iconst 0, 1), (16, .iconst 0, 1), (17, .invokevirtual 80, 3), (20, .ifCond .eq 5, 3), (23, .iconst 0, 1), (24, .ireturn, 1), (25, .aload_n 0, 1), (26, .iload_n 1, 1), (27, .iload_n 2, 1), (28, .invokevirtual 38, 3), (31, .aload_n 0, 1), (32, .invokevirtual 84, 3), (35, .ireturn, 1)] := dAll_of (by decide +kernel)
theorem dX7_draw_0 : decode cX7_draw 0 = .ok (.aload_n 0, 1) := zdX7_draw_0.1
theorem dX7_draw_1 : decode cX7_draw 1 = .ok (.iload_n 2, 1) := zdX7_draw_0.2.1
theorem dX7_draw_2 : decode cX7_draw 2 = .ok (.iconst 0, 1) := zdX7_draw_0.2.2.1
theorem dX7_draw_3 : decode cX7_draw 3 = .ok (.bipush 20, 2) := zdX7_draw_0.2.2.2.1
theorem dX7_draw_5 : decode cX7_draw 5 = .ok (.invokestatic 76, 3) := zdX7_draw_0.2.2.2.2.1
theorem dX7_draw_8 : decode cX7_draw 8 = .ok (.ifCond .ne 7, 3) := zdX7_draw_0.2.2.2.2.2.1
theorem dX7_draw_11 : decode cX7_draw 11 = .ok (.iconst 1, 1) := zdX7_draw_0.2.2.2.2.2.2.1
theorem dX7_draw_12 : decode cX7_draw 12 = .ok (.goto 4, 3) := zdX7_draw_0.2.2.2.2.2.2.2.1
theorem dX7_draw_15 : decode cX7_draw 15 = .ok (.iconst 0, 1) := zdX7_draw_0.2.2.2.2.2.2.2.2.1
theorem dX7_draw_16 : decode cX7_draw 16 = .ok (.iconst 0, 1) := zdX7_draw_0.2.2.2.2.2.2.2.2.2.1
theorem dX7_draw_17 : decode cX7_draw 17 = .ok (.invokevirtual 80, 3) := zdX7_draw_0.2.2.2.2.2.2.2.2.2.2.1
theorem dX7_draw_20 : decode cX7_draw 20 = .ok (.ifCond .eq 5, 3) := zdX7_draw_0.2.2.2.2.2.2.2.2.2.2.2.1
theorem dX7_draw_23 : decode cX7_draw 23 = .ok (.iconst 0, 1) := zdX7_draw_0.2.2.2.2.2.2.2.2.2.2.2.2.1
theorem dX7_draw_24 : decode cX7_draw 24 = .ok (.ireturn, 1) := zdX7_draw_0.2.2.2.2.2.2.2.2.2.2.2.2.2.1
theorem dX7_draw_25 : decode cX7_draw 25 = .ok (.aload_n 0, 1) := zdX7_draw_0.2.2.2.2.2.2.2.2.2.2.2.2.2.2.1
theorem dX7_draw_26 : decode cX7_draw 26 = .ok (.iload_n 1, 1) := zdX7_draw_0.2.2.2.2.2.2.2.2.2.2.2.2.2.2.2.1
theorem dX7_draw_27 : decode cX7_draw 27 = .ok (.iload_n 2, 1) := zdX7_draw_0.2.2.2.2.2.2.2.2.2.2.2.2.2.2.2.2.1
theorem dX7_draw_28 : decode cX7_draw 28 = .ok (.invokevirtual 38, 3) := zdX7_draw_0.2.2.2.2.2.2.2.2.2.2.2.2.2.2.2.2.2.1
theorem dX7_draw_31 : decode cX7_draw 31 = .ok (.aload_n 0, 1) := zdX7_draw_0.2.2.2.2.2.2.2.2.2.2.2.2.2.2.2.2.2.2.1
theorem dX7_draw_32 : decode cX7_draw 32 = .ok (.invokevirtual 84, 3) := zdX7_draw_0.2.2.2.2.2.2.2.2.2.2.2.2.2.2.2.2.2.2.2.1
theorem dX7_draw_35 : decode cX7_draw 35 = .ok (.ireturn, 1) := zdX7_draw_0.2.2.2.2.2.2.2.2.2.2.2.2.2.2.2.2.2.2.2.2.1
set_option maxRecDepth 20000 in
theorem ggX7_isPart_X7_in : GoodIn wsX7_isPart wsX7_in := goodIn_r _ [4] rfl (by decide +kernel)
set_option maxRecDepth 20000 in
theorem gX7_isPart_X7_in : GoodIn wsX7_isPart (va_wsS RX7 76 yX7_in wsX7_in) := goodIn_app (goodIn_of _ (by decide +kernel)) ggX7_isPart_X7_in
set_option maxRecDepth 20000 in
theorem zdX7_isPart_0 : dAll cX7_isPart [(0, .iload_n 0, 1), (1, .iconst 0, 1), (2, .bipush 61, 2), (4, .invokestatic 76, 3), (7, .ireturn, 1)] := dAll_of (by decide +kernel)
theorem dX7_isPart_0 : decode cX7_isPart 0 = .ok (.iload_n 0, 1) := zdX7_isPart_0.1
theorem dX7_isPart_1 : decode cX7_isPart 1 = .ok (.iconst 0, 1) := zdX7_isPart_0.2.1
theorem dX7_isPart_2 : decode cX7_isPart 2 = .ok (.bipush 61, 2) := zdX7_isPart_0.2.2.1
theorem dX7_isPart_4 : decode cX7_isPart 4 = .ok (.invokestatic 76, 3) := zdX7_isPart_0.2.2.2.1
theorem dX7_isPart_7 : decode cX7_isPart 7 = .ok (.ireturn, 1) := zdX7_isPart_0.2.2.2.2.1
set_option maxRecDepth 20000 in
theorem ggX7_part_X7_isPart : GoodIn wsX7_part wsX7_isPart := goodIn_r _ [9, 10, 11, 8, 12] rfl (by decide +kernel)
set_option maxRecDepth 20000 in
theorem gX7_part_X7_isPart : GoodIn wsX7_part (va_wsS RX7 88 yX7_isPart wsX7_isPart) := goodIn_app (goodIn_of _ (by decide +kernel)) ggX7_part_X7_isPart
set_option maxRecDepth 20000 in
theorem ggX7_part_X7_in : GoodIn wsX7_part wsX7_in := goodIn_r _ [12] rfl (by decide +kernel)
set_option maxRecDepth 20000 in
theorem gX7_part_X7_in : GoodIn wsX7_part (va_wsS RX7 76 yX7_in wsX7_in) := goodIn_app (goodIn_of _ (by decide +kernel)) ggX7_part_X7_in
set_option maxRecDepth 20000 in
theorem ggX7_part_X7_throwing : GoodIn wsX7_part wsX7_throwing := goodIn_r _ [16, 17, 18, 19, 20, 21, 22, 23, 24, 25, 26, 27, 28, 29, 30, 31, 32, 33, 34, 35, 36] rfl (by decide +kernel)
set_option maxRecDepth 20000 in
theorem gX7_part_X7_throwing : GoodIn wsX7_part (wsV RX7 80 RX7 yX7_throwing wsX7_throwing) := goodIn_app (goodIn_of _ (by decide +kernel)) ggX7_part_X7_throwing
set_option maxRecDepth 20000 in
theorem zdX7_part_0 : dAll cX7_part [(0, .aload_n 0, 1), (1, .iload_n 1, 1), (2, .invokestatic 88, 3), (5, .ifCond .eq 12, 3), (8, .iload_n 2, 1), (9, .iconst 0, 1), (10, .iconst 4, 1), (11, .invokestatic 76, 3), (14, .ifCond .ne 7, 3), (17, .iconst 1, 1), (18, .goto 4, 3), (21, .iconst 0, 1), (22, .iconst 0, 1), (23, .invokevirtual 80, 3), (26, .ifCond .eq 5, 3), (29, .iconst 0, 1), (30, .ireturn, 1), (31, .iload_n 2, 1), (32, .ifCond .ne 20, 3), (35, .aload_n 0, 1), (36, .getfield 13, 3), (39, .iload_n 1, 1), (40, .baload, 1), (41, .ifCond .eq 7, 3), (44, .iconst 1, 1), (45, .goto 55, 3), (48, .iconst 0, 1), (49, .goto 51, 3), (52, .iload_n 2, 1), (53, .iconst 1, 1)] := dAll_of (by decide +kernel)
theorem dX7_part_0 : decode cX7_part 0 = .ok (.aload_n 0, 1) := zdX7_part_0.1
theorem dX7_part_1 : decode cX7_part 1 = .ok (.iload_n 1, 1) := zdX7_part_0.2.1
theorem dX7_part_2 : decode cX7_part 2 = .ok (.invokestatic 88, 3) := zdX7_part_0.2.2.1
theorem dX7_part_5 : decode cX7_part 5 = .ok (.ifCond .eq 12, 3) := zdX7_part_0.2.2.2.1
theorem dX7_part_8 : decode cX7_part 8 = .ok (.iload_n 2, 1) := zdX7_part_0.2.2.2.2.1
theorem dX7_part_9 : decode cX7_part 9 = .ok (.iconst 0, 1) := zdX7_part_0.2.2.2.2.2.1
theorem dX7_part_10 : decode cX7_part 10 = .ok (.iconst 4, 1) := zdX7_part_0.2.2.2.2.2.2.1
theorem dX7_part_11 : decode cX7_part 11 = .ok (.invokestatic 76, 3) := zdX7_part_0.2.2.2.2.2.2.2.1
theorem dX7_part_14 : decode cX7_part 14 = .ok (.ifCond .ne 7, 3) := zdX7_part_0.2.2.2.2.2.2.2.2.1
theorem dX7_part_17 : decode cX7_part 17 = .ok (.iconst 1, 1) := zdX7_part_0.2.2.2.2.2.2.2.2.2.1
theorem dX7_part_18 : decode cX7_part 18 = .ok (.goto 4, 3) := zdX7_part_0.2.2.2.2.2.2.2.2.2.2.1
theorem dX7_part_21 : decode cX7_part 21 = .ok (.iconst 0, 1) := zdX7_part_0.2.2.2.2.2.2.2.2.2.2.2.1
theorem dX7_part_22 : decode cX7_part 22 = .ok (.iconst 0, 1) := zdX7_part_0.2.2.2.2.2.2.2.2.2.2.2.2.1
theorem dX7_part_23 : decode cX7_part 23 = .ok (.invokevirtual 80, 3) := zdX7_part_0.2.2.2.2.2.2.2.2.2.2.2.2.2.1
theorem dX7_part_26 : decode cX7_part 26 = .ok (.ifCond .eq 5, 3) := zdX7_part_0.2.2.2.2.2.2.2.2.2.2.2.2.2.2.1
theorem dX7_part_29 : decode cX7_part 29 = .ok (.iconst 0, 1) := zdX7_part_0.2.2.2.2.2.2.2.2.2.2.2.2.2.2.2.1
theorem dX7_part_30 : decode cX7_part 30 = .ok (.ireturn, 1) := zdX7_part_0.2.2.2.2.2.2.2.2.2.2.2.2.2.2.2.2.1
theorem dX7_part_31 : decode cX7_part 31 = .ok (.iload_n 2, 1) := zdX7_part_0.2.2.2.2.2.2.2.2.2.2.2.2.2.2.2.2.2.1
theorem dX7_part_32 : decode cX7_part 32 = .ok (.ifCond .ne 20, 3) := zdX7_part_0.2.2.2.2.2.2.2.2.2.2.2.2.2.2.2.2.2.2.1
theorem dX7_part_35 : decode cX7_part 35 = .ok (.aload_n 0, 1) := zdX7_part_0.2.2.2.2.2.2.2.2.2.2.2.2.2.2.2.2.2.2.2.1
theorem dX7_part_36 : decode cX7_part 36 = .ok (.getfield 13, 3) := zdX7_part_0.2.2.2.2.2.2.2.2.2.2.2.2.2.2.2.2.2.2.2.2.1
theorem dX7_part_39 : decode cX7_part 39 = .ok (.iload_n 1, 1) := zdX7_part_0.2.2.2.2.2.2.2.2.2.2.2.2.2.2.2.2.2.2.2.2.2.1
theorem dX7_part_40 : decode cX7_part 40 = .ok (.baload, 1) := zdX7_part_0.2.2.2.2.2.2.2.2.2.2.2.2.2.2.2.2.2.2.2.2.2.2.1
theorem dX7_part_41 : decode cX7_part 41 = .ok (.ifCond .eq 7, 3) := zdX7_part_0.2.2.2.2.2.2.2.2.2.2.2.2.2.2.2.2.2.2.2.2.2.2.2.1
theorem dX7_part_44 : decode cX7_part 44 = .ok (.iconst 1, 1) := zdX7_part_0.2.2.2.2.2.2.2.2.2.2.2.2.2.2.2.2.2.2.2.2.2.2.2.2.1
theorem dX7_part_45 : decode cX7_part 45 = .ok (.goto 55, 3) := zdX7_part_0.2.2.2.2.2.2.2.2.2.2.2.2.2.2.2.2.2.2.2.2.2.2.2.2.2.1
theorem dX7_part_48 : decode cX7_part 48 = .ok (.iconst 0, 1) := zdX7_part_0.2.2.2.2.2.2.2.2.2.2.2.2.2.2.2.2.2.2.2.2.2.2.2.2.2.2.1
theorem dX7_part_49 : decode cX7_part 49 = .ok (.goto 51, 3) := zdX7_part_0.2.2.2.2.2.2.2.2.2.2.2.2.2.2.2.2.2.2.2.2.2.2.2.2.2.2.2.1
theorem dX7_part_52 : decode cX7_part 52 = .ok (.iload_n 2, 1) := zdX7_part_0.2.2.2.2.2.2.2.2.2.2.2.2.2.2.2.2.2.2.2.2.2.2.2.2.2.2.2.2.1
theorem dX7_part_53 : decode cX7_part 53 = .ok (.iconst 1, 1) := zdX7_part_0.2.2.2.2.2.2.2.2.2.2.2.2.2.2.2.2.2.2.2.2.2.2.2.2.2.2.2.2.2.1
set_option maxRecDepth 20000 in
theorem zdX7_part_54 : dAll cX7_part [(54, .if_icmp .ne 12, 3), (57, .aload_n 0, 1), (58, .getfield 7, 3), (61, .iload_n 1, 1), (62, .iaload, 1), (63, .goto 37, 3), (66, .iload_n 2, 1), (67, .iconst 2, 1), (68, .if_icmp .ne 12, 3), (71, .aload_n 0, 1), (72, .getfield 17, 3), (75, .iload_n 1, 1), (76, .iaload, 1), (77, .goto 23, 3), (80, .iload_n 2, 1), (81, .iconst 3, 1), (82, .if_icmp .ne 12, 3), (85, .aload_n 0, 1), (86, .getfield 20, 3), (89, .iload_n 1, 1), (90, .iaload, 1), (91, .goto 9, 3), (94, .aload_n 0, 1), (95, .getfield 23, 3), (98, .iload_n 1, 1), (99, .iaload, 1), (100, .ireturn, 1)] := dAll_of (by decide +kernel)
theorem dX7_part_54 : decode cX7_part 54 = .ok (.if_icmp .ne 12, 3) := zdX7_part_54.1
theorem dX7_part_57 : decode cX7_part 57 = .ok (.aload_n 0, 1) := zdX7_part_54.2.1
theorem dX7_part_58 : decode cX7_part 58 = .ok (.getfield 7, 3) := zdX7_part_54.2.2.1
theorem dX7_part_61 : decode cX7_part 61 = .ok (.iload_n 1, 1) := zdX7_part_54.2.2.2.1
theorem dX7_part_62 : decode cX7_part 62 = .ok (.iaload, 1) := zdX7_part_54.2.2.2.2.1
theorem dX7_part_63 : decode cX7_part 63 = .ok (.goto 37, 3) := zdX7_part_54.2.2.2.2.2.1
theorem dX7_part_66 : decode cX7_part 66 = .ok (.iload_n 2, 1) := zdX7_part_54.2.2.2.2.2.2.1
theorem dX7_part_67 : decode cX7_part 67 = .ok (.iconst 2, 1) := zdX7_part_54.2.2.2.2.2.2.2.1
theorem dX7_part_68 : decode cX7_part 68 = .ok (.if_icmp .ne 12, 3) := zdX7_part_54.2.2.2.2.2.2.2.2.1
theorem dX7_part_71 : decode cX7_part 71 = .ok (.aload_n 0, 1) := zdX7_part_54.2.2.2.2.2.2.2.2.2.1
theorem dX7_part_72 : decode cX7_part 72 = .ok (.getfield 17, 3) := zdX7_part_54.2.2.2.2.2.2.2.2.2.2.1
theorem dX7_part_75 : decode cX7_part 75 = .ok (.iload_n 1, 1) := zdX7_part_54.2.2.2.2.2.2.2.2.2.2.2.1
theorem dX7_part_76 : decode cX7_part 76 = .ok (.iaload, 1) := zdX7_part_54.2.2.2.2.2.2.2.2.2.2.2.2.1
theorem dX7_part_77 : decode cX7_part 77 = .ok (.goto 23, 3) := zdX7_part_54.2.2.2.2.2.2.2.2.2.2.2.2.2.1
theorem dX7_part_80 : decode cX7_part 80 = .ok (.iload_n 2, 1) := zdX7_part_54.2.2.2.2.2.2.2.2.2.2.2.2.2.2.1
theorem dX7_part_81 : decode cX7_part 81 = .ok (.iconst 3, 1) := zdX7_part_54.2.2.2.2.2.2.2.2.2.2.2.2.2.2.2.1
theorem dX7_part_82 : decode cX7_part 82 = .ok (.if_icmp .ne 12, 3) := zdX7_part_54.2.2.2.2.2.2.2.2.2.2.2.2.2.2.2.2.1
theorem dX7_part_85 : decode cX7_part 85 = .ok (.aload_n 0, 1) := zdX7_part_54.2.2.2.2.2.2.2.2.2.2.2.2.2.2.2.2.2.1
theorem dX7_part_86 : decode cX7_part 86 = .ok (.getfield 20, 3) := zdX7_part_54.2.2.2.2.2.2.2.2.2.2.2.2.2.2.2.2.2.2.1
theorem dX7_part_89 : decode cX7_part 89 = .ok (.iload_n 1, 1) := zdX7_part_54.2.2.2.2.2.2.2.2.2.2.2.2.2.2.2.2.2.2.2.1
theorem dX7_part_90 : decode cX7_part 90 = .ok (.iaload, 1) := zdX7_part_54.2.2.2.2.2.2.2.2.2.2.2.2.2.2.2.2.2.2.2.2.1
theorem dX7_part_91 : decode cX7_part 91 = .ok (.goto 9, 3) := zdX7_part_54.2.2.2.2.2.2.2.2.2.2.2.2.2.2.2.2.2.2.2.2.2.1
theorem dX7_part_94 : decode cX7_part 94 = .ok (.aload_n 0, 1) := zdX7_part_54.2.2.2.2.2.2.2.2.2.2.2.2.2.2.2.2.2.2.2.2.2.2.1
theorem dX7_part_95 : decode cX7_part 95 = .ok (.getfield 23, 3) := zdX7_part_54.2.2.2.2.2.2.2.2.2.2.2.2.2.2.2.2.2.2.2.2.2.2.2.1
theorem dX7_part_98 : decode cX7_part 98 = .ok (.iload_n 1, 1) := zdX7_part_54.2.2.2.2.2.2.2.2.2.2.2.2.2.2.2.2.2.2.2.2.2.2.2.2.1
theorem dX7_part_99 : decode cX7_part 99 = .ok (.iaload, 1) := zdX7_part_54.2.2.2.2.2.2.2.2.2.2.2.2.2.2.2.2.2.2.2.2.2.2.2.2.2.1
theorem dX7_part_100 : decode cX7_part 100 = .ok (.ireturn, 1) := zdX7_part_54.2.2.2.2.2.2.2.2.2.2.2.2.2.2.2.2.2.2.2.2.2.2.2.2.2.2.1
set_option maxRecDepth 20000 in
theorem ggX7_leave_X7_isPart : GoodIn wsX7_leave wsX7_isPart := goodIn_r _ [6, 7, 8, 5, 9] rfl (by decide +kernel)
set_option maxRecDepth 20000 in
theorem gX7_leave_X7_isPart : GoodIn wsX7_leave (va_wsS RX7 88 yX7_isPart wsX7_isPart) := goodIn_app (goodIn_of _ (by decide +kernel)) ggX7_leave_X7_isPart
set_option maxRecDepth 20000 in
theorem ggX7_leave_X7_throwing : GoodIn wsX7_leave wsX7_throwing := goodIn_r _ [13, 14, 15, 16, 17, 18, 19, 20, 21, 22, 23, 24, 25, 26, 27, 28, 29, 30, 31, 32, 33] rfl (by decide +kernel)
set_option maxRecDepth 20000 in
theorem gX7_leave_X7_throwing : GoodIn wsX7_leave (wsV RX7 80 RX7 yX7_throwing wsX7_throwing) := goodIn_app (goodIn_of _ (by decide +kernel)) ggX7_leave_X7_throwing
set_option maxRecDepth 20000 in
theorem zdX7_leave_0 : dAll cX7_leave [(0, .iload_n 1, 1), (1, .invokestatic 88, 3), (4, .ifCond .eq 23, 3), (7, .aload_n 0, 1), (8, .getfield 7, 3), (11, .iload_n 1, 1), (12, .invokestatic 88, 3), (15, .ifCond .eq 7, 3), (18, .iload_n 1, 1), (19, .goto 4, 3), (22, .iconst 0, 1), (23, .iaload, 1), (24, .ifCond .ge 7, 3), (27, .iconst 1, 1), (28, .goto 4, 3), (31, .iconst 0, 1), (32, .istore_n 3, 1), (33, .aload_n 0, 1), (34, .iload_n 3, 1), (35, .iload_n 3, 1), (36, .ifCond .ne 25, 3), (39, .aload_n 0, 1), (40, .getfield 13, 3), (43, .iload_n 3, 1), (44, .ifCond .eq 7, 3), (47, .iconst 0, 1), (48, .goto 4, 3), (51, .iload_n 1, 1), (52, .baload, 1), (53, .iload_n 2, 1)] := dAll_of (by decide +kernel)
theorem dX7_leave_0 : decode cX7_leave 0 = .ok (.iload_n 1, 1) := zdX7_leave_0.1
theorem dX7_leave_1 : decode cX7_leave 1 = .ok (.invokestatic 88, 3) := zdX7_leave_0.2.1
theorem dX7_leave_4 : decode cX7_leave 4 = .ok (.ifCond .eq 23, 3) := zdX7_leave_0.2.2.1
theorem dX7_leave_7 : decode cX7_leave 7 = .ok (.aload_n 0, 1) := zdX7_leave_0.2.2.2.1
theorem dX7_leave_8 : decode cX7_leave 8 = .ok (.getfield 7, 3) := zdX7_leave_0.2.2.2.2.1
theorem dX7_leave_11 : decode cX7_leave 11 = .ok (.iload_n 1, 1) := zdX7_leave_0.2.2.2.2.2.1
theorem dX7_leave_12 : decode cX7_leave 12 = .ok (.invokestatic 88, 3) := zdX7_leave_0.2.2.2.2.2.2.1
theorem dX7_leave_15 : decode cX7_leave 15 = .ok (.ifCond .eq 7, 3) := zdX7_leave_0.2.2.2.2.2.2.2.1
theorem dX7_leave_18 : decode cX7_leave 18 = .ok (.iload_n 1, 1) := zdX7_leave_0.2.2.2.2.2.2.2.2.1
theorem dX7_leave_19 : decode cX7_leave 19 = .ok (.goto 4, 3) := zdX7_leave_0.2.2.2.2.2.2.2.2.2.1
theorem dX7_leave_22 : decode cX7_leave 22 = .ok (.iconst 0, 1) := zdX7_leave_0.2.2.2.2.2.2.2.2.2.2.1
theorem dX7_leave_23 : decode cX7_leave 23 = .ok (.iaload, 1) := zdX7_leave_0.2.2.2.2.2.2.2.2.2.2.2.1
theorem dX7_leave_24 : decode cX7_leave 24 = .ok (.ifCond .ge 7, 3) := zdX7_leave_0.2.2.2.2.2.2.2.2.2.2.2.2.1
theorem dX7_leave_27 : decode cX7_leave 27 = .ok (.iconst 1, 1) := zdX7_leave_0.2.2.2.2.2.2.2.2.2.2.2.2.2.1
theorem dX7_leave_28 : decode cX7_leave 28 = .ok (.goto 4, 3) := zdX7_leave_0.2.2.2.2.2.2.2.2.2.2.2.2.2.2.1
theorem dX7_leave_31 : decode cX7_leave 31 = .ok (.iconst 0, 1) := zdX7_leave_0.2.2.2.2.2.2.2.2.2.2.2.2.2.2.2.1
theorem dX7_leave_32 : decode cX7_leave 32 = .ok (.istore_n 3, 1) := zdX7_leave_0.2.2.2.2.2.2.2.2.2.2.2.2.2.2.2.2.1
theorem dX7_leave_33 : decode cX7_leave 33 = .ok (.aload_n 0, 1) := zdX7_leave_0.2.2.2.2.2.2.2.2.2.2.2.2.2.2.2.2.2.1
theorem dX7_leave_34 : decode cX7_leave 34 = .ok (.iload_n 3, 1) := zdX7_leave_0.2.2.2.2.2.2.2.2.2.2.2.2.2.2.2.2.2.2.1
theorem dX7_leave_35 : decode cX7_leave 35 = .ok (.iload_n 3, 1) := zdX7_leave_0.2.2.2.2.2.2.2.2.2.2.2.2.2.2.2.2.2.2.2.1
theorem dX7_leave_36 : decode cX7_leave 36 = .ok (.ifCond .ne 25, 3) := zdX7_leave_0.2.2.2.2.2.2.2.2.2.2.2.2.2.2.2.2.2.2.2.2.1
theorem dX7_leave_39 : decode cX7_leave 39 = .ok (.aload_n 0, 1) := zdX7_leave_0.2.2.2.2.2.2.2.2.2.2.2.2.2.2.2.2.2.2.2.2.2.1
theorem dX7_leave_40 : decode cX7_leave 40 = .ok (.getfield 13, 3) := zdX7_leave_0.2.2.2.2.2.2.2.2.2.2.2.2.2.2.2.2.2.2.2.2.2.2.1
theorem dX7_leave_43 : decode cX7_leave 43 = .ok (.iload_n 3, 1) := zdX7_leave_0.2.2.2.2.2.2.2.2.2.2.2.2.2.2.2.2.2.2.2.2.2.2.2.1
theorem dX7_leave_44 : decode cX7_leave 44 = .ok (.ifCond .eq 7, 3) := zdX7_leave_0.2.2.2.2.2.2.2.2.2.2.2.2.2.2.2.2.2.2.2.2.2.2.2.2.1
theorem dX7_leave_47 : decode cX7_leave 47 = .ok (.iconst 0, 1) := zdX7_leave_0.2.2.2.2.2.2.2.2.2.2.2.2.2.2.2.2.2.2.2.2.2.2.2.2.2.1
theorem dX7_leave_48 : decode cX7_leave 48 = .ok (.goto 4, 3) := zdX7_leave_0.2.2.2.2.2.2.2.2.2.2.2.2.2.2.2.2.2.2.2.2.2.2.2.2.2.2.1
theorem dX7_leave_51 : decode cX7_leave 51 = .ok (.iload_n 1, 1) := zdX7_leave_0.2.2.2.2.2.2.2.2.2.2.2.2.2.2.2.2.2.2.2.2.2.2.2.2.2.2.2.1
theorem dX7_leave_52 : decode cX7_leave 52 = .ok (.baload, 1) := zdX7_leave_0.2.2.2.2.2.2.2.2.2.2.2.2.2.2.2.2.2.2.2.2.2.2.2.2.2.2.2.2.1
theorem dX7_leave_53 : decode cX7_leave 53 = .ok (.iload_n 2, 1) := zdX7_leave_0.2.2.2.2.2.2.2.2.2.2.2.2.2.2.2.2.2.2.2.2.2.2.2.2.2.2.2.2.2.1
set_option maxRecDepth 20000 in
theorem zdX7_leave_54 : dAll cX7_leave [(54, .if_icmp .eq 7, 3), (57, .iconst 1, 1), (58, .goto 4, 3), (61, .iconst 0, 1), (62, .invokevirtual 80, 3), (65, .ifCond .eq 4, 3), (68, .return_, 1), (69, .aload_n 0, 1), (70, .getfield 13, 3), (73, .iload_n 1, 1), (74, .iload_n 2, 1), (75, .ifCond .ne 7, 3), (78, .iconst 1, 1), (79, .goto 4, 3), (82, .iconst 0, 1), (83, .bastore, 1), (84, .return_, 1)] := dAll_of (by decide +kernel)
theorem dX7_leave_54 : decode cX7_leave 54 = .ok (.if_icmp .eq 7, 3) := zdX7_leave_54.1
theorem dX7_leave_57 : decode cX7_leave 57 = .ok (.iconst 1, 1) := zdX7_leave_54.2.1
theorem dX7_leave_58 : decode cX7_leave 58 = .ok (.goto 4, 3) := zdX7_leave_54.2.2.1
theorem dX7_leave_61 : decode cX7_leave 61 = .ok (.iconst 0, 1) := zdX7_leave_54.2.2.2.1
theorem dX7_leave_62 : decode cX7_leave 62 = .ok (.invokevirtual 80, 3) := zdX7_leave_54.2.2.2.2.1
theorem dX7_leave_65 : decode cX7_leave 65 = .ok (.ifCond .eq 4, 3) := zdX7_leave_54.2.2.2.2.2.1
theorem dX7_leave_68 : decode cX7_leave 68 = .ok (.return_, 1) := zdX7_leave_54.2.2.2.2.2.2.1
theorem dX7_leave_69 : decode cX7_leave 69 = .ok (.aload_n 0, 1) := zdX7_leave_54.2.2.2.2.2.2.2.1
theorem dX7_leave_70 : decode cX7_leave 70 = .ok (.getfield 13, 3) := zdX7_leave_54.2.2.2.2.2.2.2.2.1
theorem dX7_leave_73 : decode cX7_leave 73 = .ok (.iload_n 1, 1) := zdX7_leave_54.2.2.2.2.2.2.2.2.2.1
theorem dX7_leave_74 : decode cX7_leave 74 = .ok (.iload_n 2, 1) := zdX7_leave_54.2.2.2.2.2.2.2.2.2.2.1
theorem dX7_leave_75 : decode cX7_leave 75 = .ok (.ifCond .ne 7, 3) := zdX7_leave_54.2.2.2.2.2.2.2.2.2.2.2.1
theorem dX7_leave_78 : decode cX7_leave 78 = .ok (.iconst 1, 1) := zdX7_leave_54.2.2.2.2.2.2.2.2.2.2.2.2.1
theorem dX7_leave_79 : decode cX7_leave 79 = .ok (.goto 4, 3) := zdX7_leave_54.2.2.2.2.2.2.2.2.2.2.2.2.2.1
theorem dX7_leave_82 : decode cX7_leave 82 = .ok (.iconst 0, 1) := zdX7_leave_54.2.2.2.2.2.2.2.2.2.2.2.2.2.2.1
theorem dX7_leave_83 : decode cX7_leave 83 = .ok (.bastore, 1) := zdX7_leave_54.2.2.2.2.2.2.2.2.2.2.2.2.2.2.2.1
theorem dX7_leave_84 : decode cX7_leave 84 = .ok (.return_, 1) := zdX7_leave_54.2.2.2.2.2.2.2.2.2.2.2.2.2.2.2.2.1
set_option maxRecDepth 20000 in
theorem zdX7_reach_0 : dAll cX7_reach [(0, .iconst 0, 1), (1, .istore_n 2, 1), (2, .iload_n 2, 1), (3, .bipush 21, 2), (5, .if_icmp .ge 26, 3), (8, .aload_n 0, 1), (9, .getfield 29, 3), (12, .iload_n 2, 1), (13, .iload_n 2, 1), (14, .iload_n 1, 1), (15, .if_icmp .ne 7, 3), (18, .iconst 0, 1), (19, .goto 5, 3), (22, .ldc 92, 2), (24, .iastore, 1), (25, .iinc 2 1, 3), (28, .goto (-26), 3), (31, .iconst 1, 1), (32, .istore_n 2, 1), (33, .iload_n 2, 1), (34, .ifCond .eq 175, 3), (37, .iconst 0, 1), (38, .istore_n 2, 1), (39, .iconst 0, 1), (40, .istore_n 3, 1), (41, .iload_n 3, 1), (42, .bipush 30, 2), (44, .if_icmp .ge 162, 3), (47, .aload_n 0, 1), (48, .getfield 13, 3)] := dAll_of (by decide +kernel)
theorem dX7_reach_0 : decode cX7_reach 0 = .ok (.iconst 0, 1) := zdX7_reach_0.1
theorem dX7_reach_1 : decode cX7_reach 1 = .ok (.istore_n 2, 1) := zdX7_reach_0.2.1
theorem dX7_reach_2 : decode cX7_reach 2 = .ok (.iload_n 2, 1) := zdX7_reach_0.2.2.1
theorem dX7_reach_3 : decode cX7_reach 3 = .ok (.bipush 21, 2) := zdX7_reach_0.2.2.2.1
theorem dX7_reach_5 : decode cX7_reach 5 = .ok (.if_icmp .ge 26, 3) := zdX7_reach_0.2.2.2.2.1
theorem dX7_reach_8 : decode cX7_reach 8 = .ok (.aload_n 0, 1) := zdX7_reach_0.2.2.2.2.2.1
theorem dX7_reach_9 : decode cX7_reach 9 = .ok (.getfield 29, 3) := zdX7_reach_0.2.2.2.2.2.2.1
theorem dX7_reach_12 : decode cX7_reach 12 = .ok (.iload_n 2, 1) := zdX7_reach_0.2.2.2.2.2.2.2.1
theorem dX7_reach_13 : decode cX7_reach 13 = .ok (.iload_n 2, 1) := zdX7_reach_0.2.2.2.2.2.2.2.2.1
theorem dX7_reach_14 : decode cX7_reach 14 = .ok (.iload_n 1, 1) := zdX7_reach_0.2.2.2.2.2.2.2.2.2.1
theorem dX7_reach_15 : decode cX7_reach 15 = .ok (.if_icmp .ne 7, 3) := zdX7_reach_0.2.2.2.2.2.2.2.2.2.2.1
theorem dX7_reach_18 : decode cX7_reach 18 = .ok (.iconst 0, 1) := zdX7_reach_0.2.2.2.2.2.2.2.2.2.2.2.1
theorem dX7_reach_19 : decode cX7_reach 19 = .ok (.goto 5, 3) := zdX7_reach_0.2.2.2.2.2.2.2.2.2.2.2.2.1
theorem dX7_reach_22 : decode cX7_reach 22 = .ok (.ldc 92, 2) := zdX7_reach_0.2.2.2.2.2.2.2.2.2.2.2.2.2.1
theorem dX7_reach_24 : decode cX7_reach 24 = .ok (.iastore, 1) := zdX7_reach_0.2.2.2.2.2.2.2.2.2.2.2.2.2.2.1
theorem dX7_reach_25 : decode cX7_reach 25 = .ok (.iinc 2 1, 3) := zdX7_reach_0.2.2.2.2.2.2.2.2.2.2.2.2.2.2.2.1
theorem dX7_reach_28 : decode cX7_reach 28 = .ok (.goto (-26), 3) := zdX7_reach_0.2.2.2.2.2.2.2.2.2.2.2.2.2.2.2.2.1
theorem dX7_reach_31 : decode cX7_reach 31 = .ok (.iconst 1, 1) := zdX7_reach_0.2.2.2.2.2.2.2.2.2.2.2.2.2.2.2.2.2.1
theorem dX7_reach_32 : decode cX7_reach 32 = .ok (.istore_n 2, 1) := zdX7_reach_0.2.2.2.2.2.2.2.2.2.2.2.2.2.2.2.2.2.2.1
theorem dX7_reach_33 : decode cX7_reach 33 = .ok (.iload_n 2, 1) := zdX7_reach_0.2.2.2.2.2.2.2.2.2.2.2.2.2.2.2.2.2.2.2.1
theorem dX7_reach_34 : decode cX7_reach 34 = .ok (.ifCond .eq 175, 3) := zdX7_reach_0.2.2.2.2.2.2.2.2.2.2.2.2.2.2.2.2.2.2.2.2.1
theorem dX7_reach_37 : decode cX7_reach 37 = .ok (.iconst 0, 1) := zdX7_reach_0.2.2.2.2.2.2.2.2.2.2.2.2.2.2.2.2.2.2.2.2.2.1
theorem dX7_reach_38 : decode cX7_reach 38 = .ok (.istore_n 2, 1) := zdX7_reach_0.2.2.2.2.2.2.2.2.2.2.2.2.2.2.2.2.2.2.2.2.2.2.1
theorem dX7_reach_39 : decode cX7_reach 39 = .ok (.iconst 0, 1) := zdX7_reach_0.2.2.2.2.2.2.2.2.2.2.2.2.2.2.2.2.2.2.2.2.2.2.2.1
theorem dX7_reach_40 : decode cX7_reach 40 = .ok (.istore_n 3, 1) := zdX7_reach_0.2.2.2.2.2.2.2.2.2.2.2.2.2.2.2.2.2.2.2.2.2.2.2.2.1
theorem dX7_reach_41 : decode cX7_reach 41 = .ok (.iload_n 3, 1) := zdX7_reach_0.2.2.2.2.2.2.2.2.2.2.2.2.2.2.2.2.2.2.2.2.2.2.2.2.2.1
theorem dX7_reach_42 : decode cX7_reach 42 = .ok (.bipush 30, 2) := zdX7_reach_0.2.2.2.2.2.2.2.2.2.2.2.2.2.2.2.2.2.2.2.2.2.2.2.2.2.2.1
theorem dX7_reach_44 : decode cX7_reach 44 = .ok (.if_icmp .ge 162, 3) := zdX7_reach_0.2.2.2.2.2.2.2.2.2.2.2.2.2.2.2.2.2.2.2.2.2.2.2.2.2.2.2.1
theorem dX7_reach_47 : decode cX7_reach 47 = .ok (.aload_n 0, 1) := zdX7_reach_0.2.2.2.2.2.2.2.2.2.2.2.2.2.2.2.2.2.2.2.2.2.2.2.2.2.2.2.2.1
theorem dX7_reach_48 : decode cX7_reach 48 = .ok (.getfield 13, 3) := zdX7_reach_0.2.2.2.2.2.2.2.2.2.2.2.2.2.2.2.2.2.2.2.2.2.2.2.2.2.2.2.2.2.1
set_option maxRecDepth 20000 in
theorem zdX7_reach_51 : dAll cX7_reach [(51, .iload_n 3, 1), (52, .baload, 1), (53, .ifCond .eq 147, 3), (56, .aload_n 0, 1), (57, .getfield 29, 3), (60, .aload_n 0, 1), (61, .getfield 17, 3), (64, .iload_n 3, 1), (65, .iaload, 1), (66, .iaload, 1), (67, .istore 4, 2), (69, .aload_n 0, 1), (70, .getfield 29, 3), (73, .aload_n 0, 1), (74, .getfield 20, 3), (77, .iload_n 3, 1), (78, .iaload, 1), (79, .iaload, 1), (80, .istore 5, 2), (82, .iload 4, 2), (84, .aload_n 0, 1), (85, .getfield 23, 3), (88, .iload_n 3, 1), (89, .iaload, 1), (90, .iadd, 1), (91, .iload 5, 2), (93, .if_icmp .lt 17, 3), (96, .iload 5, 2), (98, .aload_n 0, 1), (99, .getfield 23, 3)] := dAll_of (by decide +kernel)
theorem dX7_reach_51 : decode cX7_reach 51 = .ok (.iload_n 3, 1) := zdX7_reach_51.1
theorem dX7_reach_52 : decode cX7_reach 52 = .ok (.baload, 1) := zdX7_reach_51.2.1
theorem dX7_reach_53 : decode cX7_reach 53 = .ok (.ifCond .eq 147, 3) := zdX7_reach_51.2.2.1
theorem dX7_reach_56 : decode cX7_reach 56 = .ok (.aload_n 0, 1) := zdX7_reach_51.2.2.2.1
theorem dX7_reach_57 : decode cX7_reach 57 = .ok (.getfield 29, 3) := zdX7_reach_51.2.2.2.2.1
theorem dX7_reach_60 : decode cX7_reach 60 = .ok (.aload_n 0, 1) := zdX7_reach_51.2.2.2.2.2.1
theorem dX7_reach_61 : decode cX7_reach 61 = .ok (.getfield 17, 3) := zdX7_reach_51.2.2.2.2.2.2.1
theorem dX7_reach_64 : decode cX7_reach 64 = .ok (.iload_n 3, 1) := zdX7_reach_51.2.2.2.2.2.2.2.1
theorem dX7_reach_65 : decode cX7_reach 65 = .ok (.iaload, 1) := zdX7_reach_51.2.2.2.2.2.2.2.2.1
theorem dX7_reach_66 : decode cX7_reach 66 = .ok (.iaload, 1) := zdX7_reach_51.2.2.2.2.2.2.2.2.2.1
theorem dX7_reach_67 : decode cX7_reach 67 = .ok (.istore 4, 2) := zdX7_reach_51.2.2.2.2.2.2.2.2.2.2.1
theorem dX7_reach_69 : decode cX7_reach 69 = .ok (.aload_n 0, 1) := zdX7_reach_51.2.2.2.2.2.2.2.2.2.2.2.1
theorem dX7_reach_70 : decode cX7_reach 70 = .ok (.getfield 29, 3) := zdX7_reach_51.2.2.2.2.2.2.2.2.2.2.2.2.1
theorem dX7_reach_73 : decode cX7_reach 73 = .ok (.aload_n 0, 1) := zdX7_reach_51.2.2.2.2.2.2.2.2.2.2.2.2.2.1
theorem dX7_reach_74 : decode cX7_reach 74 = .ok (.getfield 20, 3) := zdX7_reach_51.2.2.2.2.2.2.2.2.2.2.2.2.2.2.1
theorem dX7_reach_77 : decode cX7_reach 77 = .ok (.iload_n 3, 1) := zdX7_reach_51.2.2.2.2.2.2.2.2.2.2.2.2.2.2.2.1
theorem dX7_reach_78 : decode cX7_reach 78 = .ok (.iaload, 1) := zdX7_reach_51.2.2.2.2.2.2.2.2.2.2.2.2.2.2.2.2.1
theorem dX7_reach_79 : decode cX7_reach 79 = .ok (.iaload, 1) := zdX7_reach_51.2.2.2.2.2.2.2.2.2.2.2.2.2.2.2.2.2.1
theorem dX7_reach_80 : decode cX7_reach 80 = .ok (.istore 5, 2) := zdX7_reach_51.2.2.2.2.2.2.2.2.2.2.2.2.2.2.2.2.2.2.1
theorem dX7_reach_82 : decode cX7_reach 82 = .ok (.iload 4, 2) := zdX7_reach_51.2.2.2.2.2.2.2.2.2.2.2.2.2.2.2.2.2.2.2.1
theorem dX7_reach_84 : decode cX7_reach 84 = .ok (.aload_n 0, 1) := zdX7_reach_51.2.2.2.2.2.2.2.2.2.2.2.2.2.2.2.2.2.2.2.2.1
theorem dX7_reach_85 : decode cX7_reach 85 = .ok (.getfield 23, 3) := zdX7_reach_51.2.2.2.2.2.2.2.2.2.2.2.2.2.2.2.2.2.2.2.2.2.1
theorem dX7_reach_88 : decode cX7_reach 88 = .ok (.iload_n 3, 1) := zdX7_reach_51.2.2.2.2.2.2.2.2.2.2.2.2.2.2.2.2.2.2.2.2.2.2.1
theorem dX7_reach_89 : decode cX7_reach 89 = .ok (.iaload, 1) := zdX7_reach_51.2.2.2.2.2.2.2.2.2.2.2.2.2.2.2.2.2.2.2.2.2.2.2.1
theorem dX7_reach_90 : decode cX7_reach 90 = .ok (.iadd, 1) := zdX7_reach_51.2.2.2.2.2.2.2.2.2.2.2.2.2.2.2.2.2.2.2.2.2.2.2.2.1
theorem dX7_reach_91 : decode cX7_reach 91 = .ok (.iload 5, 2) := zdX7_reach_51.2.2.2.2.2.2.2.2.2.2.2.2.2.2.2.2.2.2.2.2.2.2.2.2.2.1
theorem dX7_reach_93 : decode cX7_reach 93 = .ok (.if_icmp .lt 17, 3) := zdX7_reach_51.2.2.2.2.2.2.2.2.2.2.2.2.2.2.2.2.2.2.2.2.2.2.2.2.2.2.1
theorem dX7_reach_96 : decode cX7_reach 96 = .ok (.iload 5, 2) := zdX7_reach_51.2.2.2.2.2.2.2.2.2.2.2.2.2.2.2.2.2.2.2.2.2.2.2.2.2.2.2.1
theorem dX7_reach_98 : decode cX7_reach 98 = .ok (.aload_n 0, 1) := zdX7_reach_51.2.2.2.2.2.2.2.2.2.2.2.2.2.2.2.2.2.2.2.2.2.2.2.2.2.2.2.2.1
theorem dX7_reach_99 : decode cX7_reach 99 = .ok (.getfield 23, 3) := zdX7_reach_51.2.2.2.2.2.2.2.2.2.2.2.2.2.2.2.2.2.2.2.2.2.2.2.2.2.2.2.2.2.1
set_option maxRecDepth 20000 in
theorem zdX7_reach_102 : dAll cX7_reach [(102, .iload_n 3, 1), (103, .iaload, 1), (104, .iadd, 1), (105, .iload 4, 2), (107, .if_icmp .ge 7, 3), (110, .iconst 1, 1), (111, .goto 4, 3), (114, .iconst 0, 1), (115, .istore 6, 2), (117, .iload 4, 2), (119, .aload_n 0, 1), (120, .getfield 23, 3), (123, .iload_n 3, 1), (124, .iaload, 1), (125, .iadd, 1), (126, .iload 5, 2), (128, .if_icmp .ge 23, 3), (131, .aload_n 0, 1), (132, .getfield 29, 3), (135, .aload_n 0, 1), (136, .getfield 20, 3), (139, .iload_n 3, 1), (140, .iaload, 1), (141, .iload 4, 2), (143, .aload_n 0, 1), (144, .getfield 23, 3), (147, .iload_n 3, 1), (148, .iaload, 1), (149, .iadd, 1), (150, .iastore, 1)] := dAll_of (by decide +kernel)
theorem dX7_reach_102 : decode cX7_reach 102 = .ok (.iload_n 3, 1) := zdX7_reach_102.1
theorem dX7_reach_103 : decode cX7_reach 103 = .ok (.iaload, 1) := zdX7_reach_102.2.1
theorem dX7_reach_104 : decode cX7_reach 104 = .ok (.iadd, 1) := zdX7_reach_102.2.2.1
theorem dX7_reach_105 : decode cX7_reach 105 = .ok (.iload 4, 2) := zdX7_reach_102.2.2.2.1
theorem dX7_reach_107 : decode cX7_reach 107 = .ok (.if_icmp .ge 7, 3) := zdX7_reach_102.2.2.2.2.1
theorem dX7_reach_110 : decode cX7_reach 110 = .ok (.iconst 1, 1) := zdX7_reach_102.2.2.2.2.2.1
theorem dX7_reach_111 : decode cX7_reach 111 = .ok (.goto 4, 3) := zdX7_reach_102.2.2.2.2.2.2.1
theorem dX7_reach_114 : decode cX7_reach 114 = .ok (.iconst 0, 1) := zdX7_reach_102.2.2.2.2.2.2.2.1
theorem dX7_reach_115 : decode cX7_reach 115 = .ok (.istore 6, 2) := zdX7_reach_102.2.2.2.2.2.2.2.2.1
theorem dX7_reach_117 : decode cX7_reach 117 = .ok (.iload 4, 2) := zdX7_reach_102.2.2.2.2.2.2.2.2.2.1
theorem dX7_reach_119 : decode cX7_reach 119 = .ok (.aload_n 0, 1) := zdX7_reach_102.2.2.2.2.2.2.2.2.2.2.1
theorem dX7_reach_120 : decode cX7_reach 120 = .ok (.getfield 23, 3) := zdX7_reach_102.2.2.2.2.2.2.2.2.2.2.2.1
theorem dX7_reach_123 : decode cX7_reach 123 = .ok (.iload_n 3, 1) := zdX7_reach_102.2.2.2.2.2.2.2.2.2.2.2.2.1
theorem dX7_reach_124 : decode cX7_reach 124 = .ok (.iaload, 1) := zdX7_reach_102.2.2.2.2.2.2.2.2.2.2.2.2.2.1
theorem dX7_reach_125 : decode cX7_reach 125 = .ok (.iadd, 1) := zdX7_reach_102.2.2.2.2.2.2.2.2.2.2.2.2.2.2.1
theorem dX7_reach_126 : decode cX7_reach 126 = .ok (.iload 5, 2) := zdX7_reach_102.2.2.2.2.2.2.2.2.2.2.2.2.2.2.2.1
theorem dX7_reach_128 : decode cX7_reach 128 = .ok (.if_icmp .ge 23, 3) := zdX7_reach_102.2.2.2.2.2.2.2.2.2.2.2.2.2.2.2.2.1
theorem dX7_reach_131 : decode cX7_reach 131 = .ok (.aload_n 0, 1) := zdX7_reach_102.2.2.2.2.2.2.2.2.2.2.2.2.2.2.2.2.2.1
theorem dX7_reach_132 : decode cX7_reach 132 = .ok (.getfield 29, 3) := zdX7_reach_102.2.2.2.2.2.2.2.2.2.2.2.2.2.2.2.2.2.2.1
theorem dX7_reach_135 : decode cX7_reach 135 = .ok (.aload_n 0, 1) := zdX7_reach_102.2.2.2.2.2.2.2.2.2.2.2.2.2.2.2.2.2.2.2.1
theorem dX7_reach_136 : decode cX7_reach 136 = .ok (.getfield 20, 3) := zdX7_reach_102.2.2.2.2.2.2.2.2.2.2.2.2.2.2.2.2.2.2.2.2.1
theorem dX7_reach_139 : decode cX7_reach 139 = .ok (.iload_n 3, 1) := zdX7_reach_102.2.2.2.2.2.2.2.2.2.2.2.2.2.2.2.2.2.2.2.2.2.1
theorem dX7_reach_140 : decode cX7_reach 140 = .ok (.iaload, 1) := zdX7_reach_102.2.2.2.2.2.2.2.2.2.2.2.2.2.2.2.2.2.2.2.2.2.2.1
theorem dX7_reach_141 : decode cX7_reach 141 = .ok (.iload 4, 2) := zdX7_reach_102.2.2.2.2.2.2.2.2.2.2.2.2.2.2.2.2.2.2.2.2.2.2.2.1
theorem dX7_reach_143 : decode cX7_reach 143 = .ok (.aload_n 0, 1) := zdX7_reach_102.2.2.2.2.2.2.2.2.2.2.2.2.2.2.2.2.2.2.2.2.2.2.2.2.1
theorem dX7_reach_144 : decode cX7_reach 144 = .ok (.getfield 23, 3) := zdX7_reach_102.2.2.2.2.2.2.2.2.2.2.2.2.2.2.2.2.2.2.2.2.2.2.2.2.2.1
theorem dX7_reach_147 : decode cX7_reach 147 = .ok (.iload_n 3, 1) := zdX7_reach_102.2.2.2.2.2.2.2.2.2.2.2.2.2.2.2.2.2.2.2.2.2.2.2.2.2.2.1
theorem dX7_reach_148 : decode cX7_reach 148 = .ok (.iaload, 1) := zdX7_reach_102.2.2.2.2.2.2.2.2.2.2.2.2.2.2.2.2.2.2.2.2.2.2.2.2.2.2.2.1
theorem dX7_reach_149 : decode cX7_reach 149 = .ok (.iadd, 1) := zdX7_reach_102.2.2.2.2.2.2.2.2.2.2.2.2.2.2.2.2.2.2.2.2.2.2.2.2.2.2.2.2.1
theorem dX7_reach_150 : decode cX7_reach 150 = .ok (.iastore, 1) := zdX7_reach_102.2.2.2.2.2.2.2.2.2.2.2.2.2.2.2.2.2.2.2.2.2.2.2.2.2.2.2.2.2.1
set_option maxRecDepth 20000 in
theorem zdX7_reach_151 : dAll cX7_reach [(151, .iload 5, 2), (153, .aload_n 0, 1), (154, .getfield 23, 3), (157, .iload_n 3, 1), (158, .iaload, 1), (159, .iadd, 1), (160, .iload 4, 2), (162, .if_icmp .ge 23, 3), (165, .aload_n 0, 1), (166, .getfield 29, 3), (169, .aload_n 0, 1), (170, .getfield 17, 3), (173, .iload_n 3, 1), (174, .iaload, 1), (175, .iload 5, 2), (177, .aload_n 0, 1), (178, .getfield 23, 3), (181, .iload_n 3, 1), (182, .iaload, 1), (183, .iadd, 1), (184, .iastore, 1), (185, .iload_n 2, 1), (186, .ifCond .ne 8, 3), (189, .iload 6, 2), (191, .ifCond .eq 7, 3), (194, .iconst 1, 1), (195, .goto 4, 3), (198, .iconst 0, 1), (199, .istore_n 2, 1), (200, .iinc 3 1, 3)] := dAll_of (by decide +kernel)
theorem dX7_reach_151 : decode cX7_reach 151 = .ok (.iload 5, 2) := zdX7_reach_151.1
theorem dX7_reach_153 : decode cX7_reach 153 = .ok (.aload_n 0, 1) := zdX7_reach_151.2.1
theorem dX7_reach_154 : decode cX7_reach 154 = .ok (.getfield 23, 3) := zdX7_reach_151.2.2.1
theorem dX7_reach_157 : decode cX7_reach 157 = .ok (.iload_n 3, 1) := zdX7_reach_151.2.2.2.1
theorem dX7_reach_158 : decode cX7_reach 158 = .ok (.iaload, 1) := zdX7_reach_151.2.2.2.2.1
theorem dX7_reach_159 : decode cX7_reach 159 = .ok (.iadd, 1) := zdX7_reach_151.2.2.2.2.2.1
theorem dX7_reach_160 : decode cX7_reach 160 = .ok (.iload 4, 2) := zdX7_reach_151.2.2.2.2.2.2.1
theorem dX7_reach_162 : decode cX7_reach 162 = .ok (.if_icmp .ge 23, 3) := zdX7_reach_151.2.2.2.2.2.2.2.1
theorem dX7_reach_165 : decode cX7_reach 165 = .ok (.aload_n 0, 1) := zdX7_reach_151.2.2.2.2.2.2.2.2.1
theorem dX7_reach_166 : decode cX7_reach 166 = .ok (.getfield 29, 3) := zdX7_reach_151.2.2.2.2.2.2.2.2.2.1
theorem dX7_reach_169 : decode cX7_reach 169 = .ok (.aload_n 0, 1) := zdX7_reach_151.2.2.2.2.2.2.2.2.2.2.1
theorem dX7_reach_170 : decode cX7_reach 170 = .ok (.getfield 17, 3) := zdX7_reach_151.2.2.2.2.2.2.2.2.2.2.2.1
theorem dX7_reach_173 : decode cX7_reach 173 = .ok (.iload_n 3, 1) := zdX7_reach_151.2.2.2.2.2.2.2.2.2.2.2.2.1
theorem dX7_reach_174 : decode cX7_reach 174 = .ok (.iaload, 1) := zdX7_reach_151.2.2.2.2.2.2.2.2.2.2.2.2.2.1
theorem dX7_reach_175 : decode cX7_reach 175 = .ok (.iload 5, 2) := zdX7_reach_151.2.2.2.2.2.2.2.2.2.2.2.2.2.2.1
theorem dX7_reach_177 : decode cX7_reach 177 = .ok (.aload_n 0, 1) := zdX7_reach_151.2.2.2.2.2.2.2.2.2.2.2.2.2.2.2.1
theorem dX7_reach_178 : decode cX7_reach 178 = .ok (.getfield 23, 3) := zdX7_reach_151.2.2.2.2.2.2.2.2.2.2.2.2.2.2.2.2.1
theorem dX7_reach_181 : decode cX7_reach 181 = .ok (.iload_n 3, 1) := zdX7_reach_151.2.2.2.2.2.2.2.2.2.2.2.2.2.2.2.2.2.1
theorem dX7_reach_182 : decode cX7_reach 182 = .ok (.iaload, 1) := zdX7_reach_151.2.2.2.2.2.2.2.2.2.2.2.2.2.2.2.2.2.2.1
theorem dX7_reach_183 : decode cX7_reach 183 = .ok (.iadd, 1) := zdX7_reach_151.2.2.2.2.2.2.2.2.2.2.2.2.2.2.2.2.2.2.2.1
theorem dX7_reach_184 : decode cX7_reach 184 = .ok (.iastore, 1) := zdX7_reach_151.2.2.2.2.2.2.2.2.2.2.2.2.2.2.2.2.2.2.2.2.1
theorem dX7_reach_185 : decode cX7_reach 185 = .ok (.iload_n 2, 1) := zdX7_reach_151.2.2.2.2.2.2.2.2.2.2.2.2.2.2.2.2.2.2.2.2.2.1
theorem dX7_reach_186 : decode cX7_reach 186 = .ok (.ifCond .ne 8, 3) := zdX7_reach_151.2.2.2.2.2.2.2.2.2.2.2.2.2.2.2.2.2.2.2.2.2.2.1
theorem dX7_reach_189 : decode cX7_reach 189 = .ok (.iload 6, 2) := zdX7_reach_151.2.2.2.2.2.2.2.2.2.2.2.2.2.2.2.2.2.2.2.2.2.2.2.1
theorem dX7_reach_191 : decode cX7_reach 191 = .ok (.ifCond .eq 7, 3) := zdX7_reach_151.2.2.2.2.2.2.2.2.2.2.2.2.2.2.2.2.2.2.2.2.2.2.2.2.1
theorem dX7_reach_194 : decode cX7_reach 194 = .ok (.iconst 1, 1) := zdX7_reach_151.2.2.2.2.2.2.2.2.2.2.2.2.2.2.2.2.2.2.2.2.2.2.2.2.2.1
theorem dX7_reach_195 : decode cX7_reach 195 = .ok (.goto 4, 3) := zdX7_reach_151.2.2.2.2.2.2.2.2.2.2.2.2.2.2.2.2.2.2.2.2.2.2.2.2.2.2.1
theorem dX7_reach_198 : decode cX7_reach 198 = .ok (.iconst 0, 1) := zdX7_reach_151.2.2.2.2.2.2.2.2.2.2.2.2.2.2.2.2.2.2.2.2.2.2.2.2.2.2.2.1
theorem dX7_reach_199 : decode cX7_reach 199 = .ok (.istore_n 2, 1) := zdX7_reach_151.2.2.2.2.2.2.2.2.2.2.2.2.2.2.2.2.2.2.2.2.2.2.2.2.2.2.2.2.1
theorem dX7_reach_200 : decode cX7_reach 200 = .ok (.iinc 3 1, 3) := zdX7_reach_151.2.2.2.2.2.2.2.2.2.2.2.2.2.2.2.2.2.2.2.2.2.2.2.2.2.2.2.2.2.1
set_option maxRecDepth 20000 in
theorem zdX7_reach_203 : dAll cX7_reach [(203, .goto (-162), 3), (206, .goto (-173), 3), (209, .return_, 1)] := dAll_of (by decide +kernel)
theorem dX7_reach_203 : decode cX7_reach 203 = .ok (.goto (-162), 3) := zdX7_reach_203.1
theorem dX7_reach_206 : decode cX7_reach 206 = .ok (.goto (-173), 3) := zdX7_reach_203.2.1
theorem dX7_reach_209 : decode cX7_reach 209 = .ok (.return_, 1) := zdX7_reach_203.2.2.1
set_option maxRecDepth 20000 in
theorem ggX7_isServed_X7_reach : GoodIn wsX7_isServed wsX7_reach := goodIn_r _ [10, 4, 5, 1, 2, 3, 11, 12, 13, 14, 15, 16, 17, 18, 19, 20, 21, 22, 23, 24, 25, 26, 27, 28, 29, 30] rfl (by decide +kernel)
set_option maxRecDepth 20000 in
theorem gX7_isServed_X7_reach : GoodIn wsX7_isServed (wsV RX7 93 RX7 yX7_reach wsX7_reach) := goodIn_app (goodIn_of _ (by decide +kernel)) ggX7_isServed_X7_reach
theorem dX7_isServed_0 : decode cX7_isServed 0 = .ok (.aload_n 0, 1) := by decide +kernel
theorem dX7_isServed_1 : decode cX7_isServed 1 = .ok (.getfield 13, 3) := by decide +kernel
