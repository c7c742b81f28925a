theorem zB_dL_law_0 : zDecB code [(0, .new 7, 3), (3, .dup, 1), (4, .invokespecial 9, 3), (7, .astore_n 1, 1), (8, .new 10, 3), (11, .dup, 1), (12, .invokespecial 12, 3), (15, .astore_n 2, 1), (16, .iconst 0, 1), (17, .istore_n 3, 1), (18, .iload_n 3, 1), (19, .aload_n 0, 1), (20, .arraylength, 1), (21, .bipush 7, 2), (23, .isub, 1), (24, .if_icmp .gt 2060, 3), (27, .aload_n 0, 1), (28, .iload_n 3, 1), (29, .iaload, 1), (30, .bipush 63, 2), (32, .iand, 1), (33, .tableswitch 2045 0 45 #[199, 278, 291, 324, 367, 420, 463, 496, 549, 624, 667, 730, 793, 856, 879, 902, 915, 958, 1021, 1084, 1137, 1180, 1223, 1266, 1319, 1362, 1405, 1448, 1471, 1504, 1527, 1550, 1583, 1636, 1679, 1732, 1785, 1828, 1851, 1884, 1907, 1940, 1963, 1986, 2009, 2032], 199), (232, .aload_n 1, 1), (233, .aload_n 0, 1), (234, .iload_n 3, 1), (235, .iconst 1, 1), (236, .iadd, 1), (237, .iaload, 1), (238, .aload_n 0, 1), (239, .iload_n 3, 1), (240, .iconst 2, 1), (241, .iadd, 1), (242, .iaload, 1), (243, .ifCond .eq 7, 3), (246, .iconst 1, 1), (247, .goto 4, 3), (250, .iconst 0, 1), (251, .aload_n 0, 1), (252, .iload_n 3, 1), (253, .iconst 3, 1)] = true := by decide +kernel
theorem dL_law_0 : decode code 0 = .ok (.new 7, 3) := zDec_at zB_dL_law_0 0 rfl
theorem dL_law_3 : decode code 3 = .ok (.dup, 1) := zDec_at zB_dL_law_0 1 rfl
theorem dL_law_4 : decode code 4 = .ok (.invokespecial 9, 3) := zDec_at zB_dL_law_0 2 rfl
theorem dL_law_7 : decode code 7 = .ok (.astore_n 1, 1) := zDec_at zB_dL_law_0 3 rfl
theorem dL_law_8 : decode code 8 = .ok (.new 10, 3) := zDec_at zB_dL_law_0 4 rfl
theorem dL_law_11 : decode code 11 = .ok (.dup, 1) := zDec_at zB_dL_law_0 5 rfl
theorem dL_law_12 : decode code 12 = .ok (.invokespecial 12, 3) := zDec_at zB_dL_law_0 6 rfl
theorem dL_law_15 : decode code 15 = .ok (.astore_n 2, 1) := zDec_at zB_dL_law_0 7 rfl
theorem dL_law_16 : decode code 16 = .ok (.iconst 0, 1) := zDec_at zB_dL_law_0 8 rfl
theorem dL_law_17 : decode code 17 = .ok (.istore_n 3, 1) := zDec_at zB_dL_law_0 9 rfl
theorem dL_law_18 : decode code 18 = .ok (.iload_n 3, 1) := zDec_at zB_dL_law_0 10 rfl
theorem dL_law_19 : decode code 19 = .ok (.aload_n 0, 1) := zDec_at zB_dL_law_0 11 rfl
theorem dL_law_20 : decode code 20 = .ok (.arraylength, 1) := zDec_at zB_dL_law_0 12 rfl
theorem dL_law_21 : decode code 21 = .ok (.bipush 7, 2) := zDec_at zB_dL_law_0 13 rfl
theorem dL_law_23 : decode code 23 = .ok (.isub, 1) := zDec_at zB_dL_law_0 14 rfl
theorem dL_law_24 : decode code 24 = .ok (.if_icmp .gt 2060, 3) := zDec_at zB_dL_law_0 15 rfl
theorem dL_law_27 : decode code 27 = .ok (.aload_n 0, 1) := zDec_at zB_dL_law_0 16 rfl
theorem dL_law_28 : decode code 28 = .ok (.iload_n 3, 1) := zDec_at zB_dL_law_0 17 rfl
theorem dL_law_29 : decode code 29 = .ok (.iaload, 1) := zDec_at zB_dL_law_0 18 rfl
theorem dL_law_30 : decode code 30 = .ok (.bipush 63, 2) := zDec_at zB_dL_law_0 19 rfl
theorem dL_law_32 : decode code 32 = .ok (.iand, 1) := zDec_at zB_dL_law_0 20 rfl
theorem dL_law_33 : decode code 33 = .ok (.tableswitch 2045 0 45 #[199, 278, 291, 324, 367, 420, 463, 496, 549, 624, 667, 730, 793, 856, 879, 902, 915, 958, 1021, 1084, 1137, 1180, 1223, 1266, 1319, 1362, 1405, 1448, 1471, 1504, 1527, 1550, 1583, 1636, 1679, 1732, 1785, 1828, 1851, 1884, 1907, 1940, 1963, 1986, 2009, 2032], 199) := zDec_at zB_dL_law_0 21 rfl
theorem dL_law_232 : decode code 232 = .ok (.aload_n 1, 1) := zDec_at zB_dL_law_0 22 rfl
theorem dL_law_233 : decode code 233 = .ok (.aload_n 0, 1) := zDec_at zB_dL_law_0 23 rfl
theorem dL_law_234 : decode code 234 = .ok (.iload_n 3, 1) := zDec_at zB_dL_law_0 24 rfl
theorem dL_law_235 : decode code 235 = .ok (.iconst 1, 1) := zDec_at zB_dL_law_0 25 rfl
theorem dL_law_236 : decode code 236 = .ok (.iadd, 1) := zDec_at zB_dL_law_0 26 rfl
theorem dL_law_237 : decode code 237 = .ok (.iaload, 1) := zDec_at zB_dL_law_0 27 rfl
theorem dL_law_238 : decode code 238 = .ok (.aload_n 0, 1) := zDec_at zB_dL_law_0 28 rfl
theorem dL_law_239 : decode code 239 = .ok (.iload_n 3, 1) := zDec_at zB_dL_law_0 29 rfl
theorem dL_law_240 : decode code 240 = .ok (.iconst 2, 1) := zDec_at zB_dL_law_0 30 rfl
theorem dL_law_241 : decode code 241 = .ok (.iadd, 1) := zDec_at zB_dL_law_0 31 rfl
theorem dL_law_242 : decode code 242 = .ok (.iaload, 1) := zDec_at zB_dL_law_0 32 rfl
theorem dL_law_243 : decode code 243 = .ok (.ifCond .eq 7, 3) := zDec_at zB_dL_law_0 33 rfl
theorem dL_law_246 : decode code 246 = .ok (.iconst 1, 1) := zDec_at zB_dL_law_0 34 rfl
theorem dL_law_247 : decode code 247 = .ok (.goto 4, 3) := zDec_at zB_dL_law_0 35 rfl
theorem dL_law_250 : decode code 250 = .ok (.iconst 0, 1) := zDec_at zB_dL_law_0 36 rfl
theorem dL_law_251 : decode code 251 = .ok (.aload_n 0, 1) := zDec_at zB_dL_law_0 37 rfl
theorem dL_law_252 : decode code 252 = .ok (.iload_n 3, 1) := zDec_at zB_dL_law_0 38 rfl
theorem dL_law_253 : decode code 253 = .ok (.iconst 3, 1) := zDec_at zB_dL_law_0 39 rfl
theorem zB_dL_law_254 : zDecB code [(254, .iadd, 1), (255, .iaload, 1), (256, .aload_n 0, 1), (257, .iload_n 3, 1), (258, .iconst 4, 1), (259, .iadd, 1), (260, .iaload, 1), (261, .aload_n 0, 1), (262, .iload_n 3, 1), (263, .iconst 5, 1), (264, .iadd, 1), (265, .iaload, 1), (266, .invokevirtual 13, 3), (269, .pop, 1), (270, .aload_n 2, 1), (271, .aload_n 0, 1), (272, .iload_n 3, 1), (273, .iconst 1, 1), (274, .iadd, 1), (275, .iaload, 1), (276, .aload_n 0, 1), (277, .iload_n 3, 1), (278, .iconst 2, 1), (279, .iadd, 1), (280, .iaload, 1), (281, .ifCond .eq 7, 3), (284, .iconst 1, 1), (285, .goto 4, 3), (288, .iconst 0, 1), (289, .aload_n 0, 1), (290, .iload_n 3, 1), (291, .iconst 3, 1), (292, .iadd, 1), (293, .iaload, 1), (294, .aload_n 0, 1), (295, .iload_n 3, 1), (296, .iconst 4, 1), (297, .iadd, 1), (298, .iaload, 1), (299, .aload_n 0, 1)] = true := by decide +kernel
theorem dL_law_254 : decode code 254 = .ok (.iadd, 1) := zDec_at zB_dL_law_254 0 rfl
theorem dL_law_255 : decode code 255 = .ok (.iaload, 1) := zDec_at zB_dL_law_254 1 rfl
theorem dL_law_256 : decode code 256 = .ok (.aload_n 0, 1) := zDec_at zB_dL_law_254 2 rfl
theorem dL_law_257 : decode code 257 = .ok (.iload_n 3, 1) := zDec_at zB_dL_law_254 3 rfl
theorem dL_law_258 : decode code 258 = .ok (.iconst 4, 1) := zDec_at zB_dL_law_254 4 rfl
theorem dL_law_259 : decode code 259 = .ok (.iadd, 1) := zDec_at zB_dL_law_254 5 rfl
theorem dL_law_260 : decode code 260 = .ok (.iaload, 1) := zDec_at zB_dL_law_254 6 rfl
theorem dL_law_261 : decode code 261 = .ok (.aload_n 0, 1) := zDec_at zB_dL_law_254 7 rfl
theorem dL_law_262 : decode code 262 = .ok (.iload_n 3, 1) := zDec_at zB_dL_law_254 8 rfl
theorem dL_law_263 : decode code 263 = .ok (.iconst 5, 1) := zDec_at zB_dL_law_254 9 rfl
theorem dL_law_264 : decode code 264 = .ok (.iadd, 1) := zDec_at zB_dL_law_254 10 rfl
theorem dL_law_265 : decode code 265 = .ok (.iaload, 1) := zDec_at zB_dL_law_254 11 rfl
theorem dL_law_266 : decode code 266 = .ok (.invokevirtual 13, 3) := zDec_at zB_dL_law_254 12 rfl
theorem dL_law_269 : decode code 269 = .ok (.pop, 1) := zDec_at zB_dL_law_254 13 rfl
theorem dL_law_270 : decode code 270 = .ok (.aload_n 2, 1) := zDec_at zB_dL_law_254 14 rfl
theorem dL_law_271 : decode code 271 = .ok (.aload_n 0, 1) := zDec_at zB_dL_law_254 15 rfl
theorem dL_law_272 : decode code 272 = .ok (.iload_n 3, 1) := zDec_at zB_dL_law_254 16 rfl
theorem dL_law_273 : decode code 273 = .ok (.iconst 1, 1) := zDec_at zB_dL_law_254 17 rfl
theorem dL_law_274 : decode code 274 = .ok (.iadd, 1) := zDec_at zB_dL_law_254 18 rfl
theorem dL_law_275 : decode code 275 = .ok (.iaload, 1) := zDec_at zB_dL_law_254 19 rfl
theorem dL_law_276 : decode code 276 = .ok (.aload_n 0, 1) := zDec_at zB_dL_law_254 20 rfl
theorem dL_law_277 : decode code 277 = .ok (.iload_n 3, 1) := zDec_at zB_dL_law_254 21 rfl
theorem dL_law_278 : decode code 278 = .ok (.iconst 2, 1) := zDec_at zB_dL_law_254 22 rfl
theorem dL_law_279 : decode code 279 = .ok (.iadd, 1) := zDec_at zB_dL_law_254 23 rfl
theorem dL_law_280 : decode code 280 = .ok (.iaload, 1) := zDec_at zB_dL_law_254 24 rfl
theorem dL_law_281 : decode code 281 = .ok (.ifCond .eq 7, 3) := zDec_at zB_dL_law_254 25 rfl
theorem dL_law_284 : decode code 284 = .ok (.iconst 1, 1) := zDec_at zB_dL_law_254 26 rfl
theorem dL_law_285 : decode code 285 = .ok (.goto 4, 3) := zDec_at zB_dL_law_254 27 rfl
theorem dL_law_288 : decode code 288 = .ok (.iconst 0, 1) := zDec_at zB_dL_law_254 28 rfl
theorem dL_law_289 : decode code 289 = .ok (.aload_n 0, 1) := zDec_at zB_dL_law_254 29 rfl
theorem dL_law_290 : decode code 290 = .ok (.iload_n 3, 1) := zDec_at zB_dL_law_254 30 rfl
theorem dL_law_291 : decode code 291 = .ok (.iconst 3, 1) := zDec_at zB_dL_law_254 31 rfl
theorem dL_law_292 : decode code 292 = .ok (.iadd, 1) := zDec_at zB_dL_law_254 32 rfl
theorem dL_law_293 : decode code 293 = .ok (.iaload, 1) := zDec_at zB_dL_law_254 33 rfl
theorem dL_law_294 : decode code 294 = .ok (.aload_n 0, 1) := zDec_at zB_dL_law_254 34 rfl
theorem dL_law_295 : decode code 295 = .ok (.iload_n 3, 1) := zDec_at zB_dL_law_254 35 rfl
theorem dL_law_296 : decode code 296 = .ok (.iconst 4, 1) := zDec_at zB_dL_law_254 36 rfl
theorem dL_law_297 : decode code 297 = .ok (.iadd, 1) := zDec_at zB_dL_law_254 37 rfl
theorem dL_law_298 : decode code 298 = .ok (.iaload, 1) := zDec_at zB_dL_law_254 38 rfl
theorem dL_law_299 : decode code 299 = .ok (.aload_n 0, 1) := zDec_at zB_dL_law_254 39 rfl
theorem zB_dL_law_300 : zDecB code [(300, .iload_n 3, 1), (301, .iconst 5, 1), (302, .iadd, 1), (303, .iaload, 1), (304, .invokevirtual 17, 3), (307, .pop, 1), (308, .goto 1770, 3), (311, .aload_n 1, 1), (312, .invokevirtual 18, 3), (315, .pop, 1), (316, .aload_n 2, 1), (317, .invokevirtual 22, 3), (320, .pop, 1), (321, .goto 1757, 3), (324, .aload_n 1, 1), (325, .aload_n 0, 1), (326, .iload_n 3, 1), (327, .iconst 1, 1), (328, .iadd, 1), (329, .iaload, 1), (330, .aload_n 0, 1), (331, .iload_n 3, 1), (332, .iconst 2, 1), (333, .iadd, 1), (334, .iaload, 1), (335, .invokevirtual 23, 3), (338, .pop, 1), (339, .aload_n 2, 1), (340, .aload_n 0, 1), (341, .iload_n 3, 1), (342, .iconst 1, 1), (343, .iadd, 1), (344, .iaload, 1), (345, .aload_n 0, 1), (346, .iload_n 3, 1), (347, .iconst 2, 1), (348, .iadd, 1), (349, .iaload, 1), (350, .invokevirtual 27, 3), (353, .pop, 1)] = true := by decide +kernel
theorem dL_law_300 : decode code 300 = .ok (.iload_n 3, 1) := zDec_at zB_dL_law_300 0 rfl
theorem dL_law_301 : decode code 301 = .ok (.iconst 5, 1) := zDec_at zB_dL_law_300 1 rfl
theorem dL_law_302 : decode code 302 = .ok (.iadd, 1) := zDec_at zB_dL_law_300 2 rfl
theorem dL_law_303 : decode code 303 = .ok (.iaload, 1) := zDec_at zB_dL_law_300 3 rfl
theorem dL_law_304 : decode code 304 = .ok (.invokevirtual 17, 3) := zDec_at zB_dL_law_300 4 rfl
theorem dL_law_307 : decode code 307 = .ok (.pop, 1) := zDec_at zB_dL_law_300 5 rfl
theorem dL_law_308 : decode code 308 = .ok (.goto 1770, 3) := zDec_at zB_dL_law_300 6 rfl
theorem dL_law_311 : decode code 311 = .ok (.aload_n 1, 1) := zDec_at zB_dL_law_300 7 rfl
theorem dL_law_312 : decode code 312 = .ok (.invokevirtual 18, 3) := zDec_at zB_dL_law_300 8 rfl
theorem dL_law_315 : decode code 315 = .ok (.pop, 1) := zDec_at zB_dL_law_300 9 rfl
theorem dL_law_316 : decode code 316 = .ok (.aload_n 2, 1) := zDec_at zB_dL_law_300 10 rfl
theorem dL_law_317 : decode code 317 = .ok (.invokevirtual 22, 3) := zDec_at zB_dL_law_300 11 rfl
theorem dL_law_320 : decode code 320 = .ok (.pop, 1) := zDec_at zB_dL_law_300 12 rfl
theorem dL_law_321 : decode code 321 = .ok (.goto 1757, 3) := zDec_at zB_dL_law_300 13 rfl
theorem dL_law_324 : decode code 324 = .ok (.aload_n 1, 1) := zDec_at zB_dL_law_300 14 rfl
theorem dL_law_325 : decode code 325 = .ok (.aload_n 0, 1) := zDec_at zB_dL_law_300 15 rfl
theorem dL_law_326 : decode code 326 = .ok (.iload_n 3, 1) := zDec_at zB_dL_law_300 16 rfl
theorem dL_law_327 : decode code 327 = .ok (.iconst 1, 1) := zDec_at zB_dL_law_300 17 rfl
theorem dL_law_328 : decode code 328 = .ok (.iadd, 1) := zDec_at zB_dL_law_300 18 rfl
theorem dL_law_329 : decode code 329 = .ok (.iaload, 1) := zDec_at zB_dL_law_300 19 rfl
theorem dL_law_330 : decode code 330 = .ok (.aload_n 0, 1) := zDec_at zB_dL_law_300 20 rfl
theorem dL_law_331 : decode code 331 = .ok (.iload_n 3, 1) := zDec_at zB_dL_law_300 21 rfl
theorem dL_law_332 : decode code 332 = .ok (.iconst 2, 1) := zDec_at zB_dL_law_300 22 rfl
theorem dL_law_333 : decode code 333 = .ok (.iadd, 1) := zDec_at zB_dL_law_300 23 rfl
theorem dL_law_334 : decode code 334 = .ok (.iaload, 1) := zDec_at zB_dL_law_300 24 rfl
theorem dL_law_335 : decode code 335 = .ok (.invokevirtual 23, 3) := zDec_at zB_dL_law_300 25 rfl
theorem dL_law_338 : decode code 338 = .ok (.pop, 1) := zDec_at zB_dL_law_300 26 rfl
theorem dL_law_339 : decode code 339 = .ok (.aload_n 2, 1) := zDec_at zB_dL_law_300 27 rfl
theorem dL_law_340 : decode code 340 = .ok (.aload_n 0, 1) := zDec_at zB_dL_law_300 28 rfl
theorem dL_law_341 : decode code 341 = .ok (.iload_n 3, 1) := zDec_at zB_dL_law_300 29 rfl
theorem dL_law_342 : decode code 342 = .ok (.iconst 1, 1) := zDec_at zB_dL_law_300 30 rfl
theorem dL_law_343 : decode code 343 = .ok (.iadd, 1) := zDec_at zB_dL_law_300 31 rfl
theorem dL_law_344 : decode code 344 = .ok (.iaload, 1) := zDec_at zB_dL_law_300 32 rfl
theorem dL_law_345 : decode code 345 = .ok (.aload_n 0, 1) := zDec_at zB_dL_law_300 33 rfl
theorem dL_law_346 : decode code 346 = .ok (.iload_n 3, 1) := zDec_at zB_dL_law_300 34 rfl
theorem dL_law_347 : decode code 347 = .ok (.iconst 2, 1) := zDec_at zB_dL_law_300 35 rfl
theorem dL_law_348 : decode code 348 = .ok (.iadd, 1) := zDec_at zB_dL_law_300 36 rfl
theorem dL_law_349 : decode code 349 = .ok (.iaload, 1) := zDec_at zB_dL_law_300 37 rfl
theorem dL_law_350 : decode code 350 = .ok (.invokevirtual 27, 3) := zDec_at zB_dL_law_300 38 rfl
theorem dL_law_353 : decode code 353 = .ok (.pop, 1) := zDec_at zB_dL_law_300 39 rfl
theorem zB_dL_law_354 : zDecB code [(354, .goto 1724, 3), (357, .aload_n 1, 1), (358, .aload_n 0, 1), (359, .iload_n 3, 1), (360, .iconst 1, 1), (361, .iadd, 1), (362, .iaload, 1), (363, .aload_n 0, 1), (364, .iload_n 3, 1), (365, .iconst 2, 1), (366, .iadd, 1), (367, .iaload, 1), (368, .aload_n 0, 1), (369, .iload_n 3, 1), (370, .iconst 3, 1), (371, .iadd, 1), (372, .iaload, 1), (373, .invokevirtual 28, 3), (376, .pop, 1), (377, .aload_n 2, 1), (378, .aload_n 0, 1), (379, .iload_n 3, 1), (380, .iconst 1, 1), (381, .iadd, 1), (382, .iaload, 1), (383, .aload_n 0, 1), (384, .iload_n 3, 1), (385, .iconst 2, 1), (386, .iadd, 1), (387, .iaload, 1), (388, .aload_n 0, 1), (389, .iload_n 3, 1), (390, .iconst 3, 1), (391, .iadd, 1), (392, .iaload, 1), (393, .invokevirtual 32, 3), (396, .pop, 1), (397, .goto 1681, 3), (400, .aload_n 1, 1), (401, .aload_n 0, 1)] = true := by decide +kernel
theorem dL_law_354 : decode code 354 = .ok (.goto 1724, 3) := zDec_at zB_dL_law_354 0 rfl
theorem dL_law_357 : decode code 357 = .ok (.aload_n 1, 1) := zDec_at zB_dL_law_354 1 rfl
theorem dL_law_358 : decode code 358 = .ok (.aload_n 0, 1) := zDec_at zB_dL_law_354 2 rfl
theorem dL_law_359 : decode code 359 = .ok (.iload_n 3, 1) := zDec_at zB_dL_law_354 3 rfl
theorem dL_law_360 : decode code 360 = .ok (.iconst 1, 1) := zDec_at zB_dL_law_354 4 rfl
theorem dL_law_361 : decode code 361 = .ok (.iadd, 1) := zDec_at zB_dL_law_354 5 rfl
theorem dL_law_362 : decode code 362 = .ok (.iaload, 1) := zDec_at zB_dL_law_354 6 rfl
theorem dL_law_363 : decode code 363 = .ok (.aload_n 0, 1) := zDec_at zB_dL_law_354 7 rfl
theorem dL_law_364 : decode code 364 = .ok (.iload_n 3, 1) := zDec_at zB_dL_law_354 8 rfl
theorem dL_law_365 : decode code 365 = .ok (.iconst 2, 1) := zDec_at zB_dL_law_354 9 rfl
theorem dL_law_366 : decode code 366 = .ok (.iadd, 1) := zDec_at zB_dL_law_354 10 rfl
theorem dL_law_367 : decode code 367 = .ok (.iaload, 1) := zDec_at zB_dL_law_354 11 rfl
theorem dL_law_368 : decode code 368 = .ok (.aload_n 0, 1) := zDec_at zB_dL_law_354 12 rfl
theorem dL_law_369 : decode code 369 = .ok (.iload_n 3, 1) := zDec_at zB_dL_law_354 13 rfl
theorem dL_law_370 : decode code 370 = .ok (.iconst 3, 1) := zDec_at zB_dL_law_354 14 rfl
theorem dL_law_371 : decode code 371 = .ok (.iadd, 1) := zDec_at zB_dL_law_354 15 rfl
theorem dL_law_372 : decode code 372 = .ok (.iaload, 1) := zDec_at zB_dL_law_354 16 rfl
theorem dL_law_373 : decode code 373 = .ok (.invokevirtual 28, 3) := zDec_at zB_dL_law_354 17 rfl
theorem dL_law_376 : decode code 376 = .ok (.pop, 1) := zDec_at zB_dL_law_354 18 rfl
theorem dL_law_377 : decode code 377 = .ok (.aload_n 2, 1) := zDec_at zB_dL_law_354 19 rfl
theorem dL_law_378 : decode code 378 = .ok (.aload_n 0, 1) := zDec_at zB_dL_law_354 20 rfl
theorem dL_law_379 : decode code 379 = .ok (.iload_n 3, 1) := zDec_at zB_dL_law_354 21 rfl
theorem dL_law_380 : decode code 380 = .ok (.iconst 1, 1) := zDec_at zB_dL_law_354 22 rfl
theorem dL_law_381 : decode code 381 = .ok (.iadd, 1) := zDec_at zB_dL_law_354 23 rfl
theorem dL_law_382 : decode code 382 = .ok (.iaload, 1) := zDec_at zB_dL_law_354 24 rfl
theorem dL_law_383 : decode code 383 = .ok (.aload_n 0, 1) := zDec_at zB_dL_law_354 25 rfl
theorem dL_law_384 : decode code 384 = .ok (.iload_n 3, 1) := zDec_at zB_dL_law_354 26 rfl
theorem dL_law_385 : decode code 385 = .ok (.iconst 2, 1) := zDec_at zB_dL_law_354 27 rfl
theorem dL_law_386 : decode code 386 = .ok (.iadd, 1) := zDec_at zB_dL_law_354 28 rfl
theorem dL_law_387 : decode code 387 = .ok (.iaload, 1) := zDec_at zB_dL_law_354 29 rfl
theorem dL_law_388 : decode code 388 = .ok (.aload_n 0, 1) := zDec_at zB_dL_law_354 30 rfl
theorem dL_law_389 : decode code 389 = .ok (.iload_n 3, 1) := zDec_at zB_dL_law_354 31 rfl
theorem dL_law_390 : decode code 390 = .ok (.iconst 3, 1) := zDec_at zB_dL_law_354 32 rfl
theorem dL_law_391 : decode code 391 = .ok (.iadd, 1) := zDec_at zB_dL_law_354 33 rfl
theorem dL_law_392 : decode code 392 = .ok (.iaload, 1) := zDec_at zB_dL_law_354 34 rfl
theorem dL_law_393 : decode code 393 = .ok (.invokevirtual 32, 3) := zDec_at zB_dL_law_354 35 rfl
theorem dL_law_396 : decode code 396 = .ok (.pop, 1) := zDec_at zB_dL_law_354 36 rfl
theorem dL_law_397 : decode code 397 = .ok (.goto 1681, 3) := zDec_at zB_dL_law_354 37 rfl
theorem dL_law_400 : decode code 400 = .ok (.aload_n 1, 1) := zDec_at zB_dL_law_354 38 rfl
theorem dL_law_401 : decode code 401 = .ok (.aload_n 0, 1) := zDec_at zB_dL_law_354 39 rfl
theorem zB_dL_law_402 : zDecB code [(402, .iload_n 3, 1), (403, .iconst 1, 1), (404, .iadd, 1), (405, .iaload, 1), (406, .aload_n 0, 1), (407, .iload_n 3, 1), (408, .iconst 2, 1), (409, .iadd, 1), (410, .iaload, 1), (411, .aload_n 0, 1), (412, .iload_n 3, 1), (413, .iconst 3, 1), (414, .iadd, 1), (415, .iaload, 1), (416, .aload_n 0, 1), (417, .iload_n 3, 1), (418, .iconst 4, 1), (419, .iadd, 1), (420, .iaload, 1), (421, .invokevirtual 33, 3), (424, .pop, 1), (425, .aload_n 2, 1), (426, .aload_n 0, 1), (427, .iload_n 3, 1), (428, .iconst 1, 1), (429, .iadd, 1), (430, .iaload, 1), (431, .aload_n 0, 1), (432, .iload_n 3, 1), (433, .iconst 2, 1), (434, .iadd, 1), (435, .iaload, 1), (436, .aload_n 0, 1), (437, .iload_n 3, 1), (438, .iconst 3, 1), (439, .iadd, 1), (440, .iaload, 1), (441, .aload_n 0, 1), (442, .iload_n 3, 1), (443, .iconst 4, 1)] = true := by decide +kernel
theorem dL_law_402 : decode code 402 = .ok (.iload_n 3, 1) := zDec_at zB_dL_law_402 0 rfl
theorem dL_law_403 : decode code 403 = .ok (.iconst 1, 1) := zDec_at zB_dL_law_402 1 rfl
theorem dL_law_404 : decode code 404 = .ok (.iadd, 1) := zDec_at zB_dL_law_402 2 rfl
theorem dL_law_405 : decode code 405 = .ok (.iaload, 1) := zDec_at zB_dL_law_402 3 rfl
theorem dL_law_406 : decode code 406 = .ok (.aload_n 0, 1) := zDec_at zB_dL_law_402 4 rfl
theorem dL_law_407 : decode code 407 = .ok (.iload_n 3, 1) := zDec_at zB_dL_law_402 5 rfl
theorem dL_law_408 : decode code 408 = .ok (.iconst 2, 1) := zDec_at zB_dL_law_402 6 rfl
theorem dL_law_409 : decode code 409 = .ok (.iadd, 1) := zDec_at zB_dL_law_402 7 rfl
theorem dL_law_410 : decode code 410 = .ok (.iaload, 1) := zDec_at zB_dL_law_402 8 rfl
theorem dL_law_411 : decode code 411 = .ok (.aload_n 0, 1) := zDec_at zB_dL_law_402 9 rfl
theorem dL_law_412 : decode code 412 = .ok (.iload_n 3, 1) := zDec_at zB_dL_law_402 10 rfl
theorem dL_law_413 : decode code 413 = .ok (.iconst 3, 1) := zDec_at zB_dL_law_402 11 rfl
theorem dL_law_414 : decode code 414 = .ok (.iadd, 1) := zDec_at zB_dL_law_402 12 rfl
theorem dL_law_415 : decode code 415 = .ok (.iaload, 1) := zDec_at zB_dL_law_402 13 rfl
theorem dL_law_416 : decode code 416 = .ok (.aload_n 0, 1) := zDec_at zB_dL_law_402 14 rfl
theorem dL_law_417 : decode code 417 = .ok (.iload_n 3, 1) := zDec_at zB_dL_law_402 15 rfl
theorem dL_law_418 : decode code 418 = .ok (.iconst 4, 1) := zDec_at zB_dL_law_402 16 rfl
theorem dL_law_419 : decode code 419 = .ok (.iadd, 1) := zDec_at zB_dL_law_402 17 rfl
theorem dL_law_420 : decode code 420 = .ok (.iaload, 1) := zDec_at zB_dL_law_402 18 rfl
theorem dL_law_421 : decode code 421 = .ok (.invokevirtual 33, 3) := zDec_at zB_dL_law_402 19 rfl
theorem dL_law_424 : decode code 424 = .ok (.pop, 1) := zDec_at zB_dL_law_402 20 rfl
theorem dL_law_425 : decode code 425 = .ok (.aload_n 2, 1) := zDec_at zB_dL_law_402 21 rfl
theorem dL_law_426 : decode code 426 = .ok (.aload_n 0, 1) := zDec_at zB_dL_law_402 22 rfl
theorem dL_law_427 : decode code 427 = .ok (.iload_n 3, 1) := zDec_at zB_dL_law_402 23 rfl
theorem dL_law_428 : decode code 428 = .ok (.iconst 1, 1) := zDec_at zB_dL_law_402 24 rfl
theorem dL_law_429 : decode code 429 = .ok (.iadd, 1) := zDec_at zB_dL_law_402 25 rfl
theorem dL_law_430 : decode code 430 = .ok (.iaload, 1) := zDec_at zB_dL_law_402 26 rfl
theorem dL_law_431 : decode code 431 = .ok (.aload_n 0, 1) := zDec_at zB_dL_law_402 27 rfl
theorem dL_law_432 : decode code 432 = .ok (.iload_n 3, 1) := zDec_at zB_dL_law_402 28 rfl
theorem dL_law_433 : decode code 433 = .ok (.iconst 2, 1) := zDec_at zB_dL_law_402 29 rfl
theorem dL_law_434 : decode code 434 = .ok (.iadd, 1) := zDec_at zB_dL_law_402 30 rfl
theorem dL_law_435 : decode code 435 = .ok (.iaload, 1) := zDec_at zB_dL_law_402 31 rfl
theorem dL_law_436 : decode code 436 = .ok (.aload_n 0, 1) := zDec_at zB_dL_law_402 32 rfl
theorem dL_law_437 : decode code 437 = .ok (.iload_n 3, 1) := zDec_at zB_dL_law_402 33 rfl
theorem dL_law_438 : decode code 438 = .ok (.iconst 3, 1) := zDec_at zB_dL_law_402 34 rfl
theorem dL_law_439 : decode code 439 = .ok (.iadd, 1) := zDec_at zB_dL_law_402 35 rfl
theorem dL_law_440 : decode code 440 = .ok (.iaload, 1) := zDec_at zB_dL_law_402 36 rfl
theorem dL_law_441 : decode code 441 = .ok (.aload_n 0, 1) := zDec_at zB_dL_law_402 37 rfl
theorem dL_law_442 : decode code 442 = .ok (.iload_n 3, 1) := zDec_at zB_dL_law_402 38 rfl
theorem dL_law_443 : decode code 443 = .ok (.iconst 4, 1) := zDec_at zB_dL_law_402 39 rfl
theorem zB_dL_law_444 : zDecB code [(444, .iadd, 1), (445, .iaload, 1), (446, .invokevirtual 37, 3), (449, .pop, 1), (450, .goto 1628, 3), (453, .aload_n 1, 1), (454, .aload_n 0, 1), (455, .iload_n 3, 1), (456, .iconst 1, 1), (457, .iadd, 1), (458, .iaload, 1), (459, .aload_n 0, 1), (460, .iload_n 3, 1), (461, .iconst 2, 1), (462, .iadd, 1), (463, .iaload, 1), (464, .aload_n 0, 1), (465, .iload_n 3, 1), (466, .iconst 3, 1), (467, .iadd, 1), (468, .iaload, 1), (469, .invokevirtual 38, 3), (472, .pop, 1), (473, .aload_n 2, 1), (474, .aload_n 0, 1), (475, .iload_n 3, 1), (476, .iconst 1, 1), (477, .iadd, 1), (478, .iaload, 1), (479, .aload_n 0, 1), (480, .iload_n 3, 1), (481, .iconst 2, 1), (482, .iadd, 1), (483, .iaload, 1), (484, .aload_n 0, 1), (485, .iload_n 3, 1), (486, .iconst 3, 1), (487, .iadd, 1), (488, .iaload, 1), (489, .invokevirtual 41, 3)] = true := by decide +kernel
theorem dL_law_444 : decode code 444 = .ok (.iadd, 1) := zDec_at zB_dL_law_444 0 rfl
theorem dL_law_445 : decode code 445 = .ok (.iaload, 1) := zDec_at zB_dL_law_444 1 rfl
theorem dL_law_446 : decode code 446 = .ok (.invokevirtual 37, 3) := zDec_at zB_dL_law_444 2 rfl
theorem dL_law_449 : decode code 449 = .ok (.pop, 1) := zDec_at zB_dL_law_444 3 rfl
theorem dL_law_450 : decode code 450 = .ok (.goto 1628, 3) := zDec_at zB_dL_law_444 4 rfl
theorem dL_law_453 : decode code 453 = .ok (.aload_n 1, 1) := zDec_at zB_dL_law_444 5 rfl
theorem dL_law_454 : decode code 454 = .ok (.aload_n 0, 1) := zDec_at zB_dL_law_444 6 rfl
theorem dL_law_455 : decode code 455 = .ok (.iload_n 3, 1) := zDec_at zB_dL_law_444 7 rfl
theorem dL_law_456 : decode code 456 = .ok (.iconst 1, 1) := zDec_at zB_dL_law_444 8 rfl
theorem dL_law_457 : decode code 457 = .ok (.iadd, 1) := zDec_at zB_dL_law_444 9 rfl
theorem dL_law_458 : decode code 458 = .ok (.iaload, 1) := zDec_at zB_dL_law_444 10 rfl
theorem dL_law_459 : decode code 459 = .ok (.aload_n 0, 1) := zDec_at zB_dL_law_444 11 rfl
theorem dL_law_460 : decode code 460 = .ok (.iload_n 3, 1) := zDec_at zB_dL_law_444 12 rfl
theorem dL_law_461 : decode code 461 = .ok (.iconst 2, 1) := zDec_at zB_dL_law_444 13 rfl
theorem dL_law_462 : decode code 462 = .ok (.iadd, 1) := zDec_at zB_dL_law_444 14 rfl
theorem dL_law_463 : decode code 463 = .ok (.iaload, 1) := zDec_at zB_dL_law_444 15 rfl
theorem dL_law_464 : decode code 464 = .ok (.aload_n 0, 1) := zDec_at zB_dL_law_444 16 rfl
theorem dL_law_465 : decode code 465 = .ok (.iload_n 3, 1) := zDec_at zB_dL_law_444 17 rfl
theorem dL_law_466 : decode code 466 = .ok (.iconst 3, 1) := zDec_at zB_dL_law_444 18 rfl
theorem dL_law_467 : decode code 467 = .ok (.iadd, 1) := zDec_at zB_dL_law_444 19 rfl
theorem dL_law_468 : decode code 468 = .ok (.iaload, 1) := zDec_at zB_dL_law_444 20 rfl
theorem dL_law_469 : decode code 469 = .ok (.invokevirtual 38, 3) := zDec_at zB_dL_law_444 21 rfl
theorem dL_law_472 : decode code 472 = .ok (.pop, 1) := zDec_at zB_dL_law_444 22 rfl
theorem dL_law_473 : decode code 473 = .ok (.aload_n 2, 1) := zDec_at zB_dL_law_444 23 rfl
theorem dL_law_474 : decode code 474 = .ok (.aload_n 0, 1) := zDec_at zB_dL_law_444 24 rfl
theorem dL_law_475 : decode code 475 = .ok (.iload_n 3, 1) := zDec_at zB_dL_law_444 25 rfl
theorem dL_law_476 : decode code 476 = .ok (.iconst 1, 1) := zDec_at zB_dL_law_444 26 rfl
theorem dL_law_477 : decode code 477 = .ok (.iadd, 1) := zDec_at zB_dL_law_444 27 rfl
theorem dL_law_478 : decode code 478 = .ok (.iaload, 1) := zDec_at zB_dL_law_444 28 rfl
theorem dL_law_479 : decode code 479 = .ok (.aload_n 0, 1) := zDec_at zB_dL_law_444 29 rfl
theorem dL_law_480 : decode code 480 = .ok (.iload_n 3, 1) := zDec_at zB_dL_law_444 30 rfl
theorem dL_law_481 : decode code 481 = .ok (.iconst 2, 1) := zDec_at zB_dL_law_444 31 rfl
theorem dL_law_482 : decode code 482 = .ok (.iadd, 1) := zDec_at zB_dL_law_444 32 rfl
theorem dL_law_483 : decode code 483 = .ok (.iaload, 1) := zDec_at zB_dL_law_444 33 rfl
theorem dL_law_484 : decode code 484 = .ok (.aload_n 0, 1) := zDec_at zB_dL_law_444 34 rfl
theorem dL_law_485 : decode code 485 = .ok (.iload_n 3, 1) := zDec_at zB_dL_law_444 35 rfl
theorem dL_law_486 : decode code 486 = .ok (.iconst 3, 1) := zDec_at zB_dL_law_444 36 rfl
theorem dL_law_487 : decode code 487 = .ok (.iadd, 1) := zDec_at zB_dL_law_444 37 rfl
theorem dL_law_488 : decode code 488 = .ok (.iaload, 1) := zDec_at zB_dL_law_444 38 rfl
theorem dL_law_489 : decode code 489 = .ok (.invokevirtual 41, 3) := zDec_at zB_dL_law_444 39 rfl
theorem zB_dL_law_492 : zDecB code [(492, .pop, 1), (493, .goto 1585, 3), (496, .aload_n 1, 1), (497, .aload_n 0, 1), (498, .iload_n 3, 1), (499, .iconst 1, 1), (500, .iadd, 1), (501, .iaload, 1), (502, .aload_n 0, 1), (503, .iload_n 3, 1), (504, .iconst 2, 1), (505, .iadd, 1), (506, .iaload, 1), (507, .invokevirtual 42, 3), (510, .pop, 1), (511, .aload_n 2, 1), (512, .aload_n 0, 1), (513, .iload_n 3, 1), (514, .iconst 1, 1), (515, .iadd, 1), (516, .iaload, 1), (517, .aload_n 0, 1), (518, .iload_n 3, 1), (519, .iconst 2, 1), (520, .iadd, 1), (521, .iaload, 1), (522, .invokevirtual 45, 3), (525, .pop, 1), (526, .goto 1552, 3), (529, .aload_n 1, 1), (530, .aload_n 0, 1), (531, .iload_n 3, 1), (532, .iconst 1, 1), (533, .iadd, 1), (534, .iaload, 1), (535, .aload_n 0, 1), (536, .iload_n 3, 1), (537, .iconst 2, 1), (538, .iadd, 1), (539, .iaload, 1)] = true := by decide +kernel
theorem dL_law_492 : decode code 492 = .ok (.pop, 1) := zDec_at zB_dL_law_492 0 rfl
theorem dL_law_493 : decode code 493 = .ok (.goto 1585, 3) := zDec_at zB_dL_law_492 1 rfl
theorem dL_law_496 : decode code 496 = .ok (.aload_n 1, 1) := zDec_at zB_dL_law_492 2 rfl
theorem dL_law_497 : decode code 497 = .ok (.aload_n 0, 1) := zDec_at zB_dL_law_492 3 rfl
theorem dL_law_498 : decode code 498 = .ok (.iload_n 3, 1) := zDec_at zB_dL_law_492 4 rfl
theorem dL_law_499 : decode code 499 = .ok (.iconst 1, 1) := zDec_at zB_dL_law_492 5 rfl
theorem dL_law_500 : decode code 500 = .ok (.iadd, 1) := zDec_at zB_dL_law_492 6 rfl
theorem dL_law_501 : decode code 501 = .ok (.iaload, 1) := zDec_at zB_dL_law_492 7 rfl
theorem dL_law_502 : decode code 502 = .ok (.aload_n 0, 1) := zDec_at zB_dL_law_492 8 rfl
theorem dL_law_503 : decode code 503 = .ok (.iload_n 3, 1) := zDec_at zB_dL_law_492 9 rfl
theorem dL_law_504 : decode code 504 = .ok (.iconst 2, 1) := zDec_at zB_dL_law_492 10 rfl
theorem dL_law_505 : decode code 505 = .ok (.iadd, 1) := zDec_at zB_dL_law_492 11 rfl
theorem dL_law_506 : decode code 506 = .ok (.iaload, 1) := zDec_at zB_dL_law_492 12 rfl
theorem dL_law_507 : decode code 507 = .ok (.invokevirtual 42, 3) := zDec_at zB_dL_law_492 13 rfl
theorem dL_law_510 : decode code 510 = .ok (.pop, 1) := zDec_at zB_dL_law_492 14 rfl
theorem dL_law_511 : decode code 511 = .ok (.aload_n 2, 1) := zDec_at zB_dL_law_492 15 rfl
theorem dL_law_512 : decode code 512 = .ok (.aload_n 0, 1) := zDec_at zB_dL_law_492 16 rfl
theorem dL_law_513 : decode code 513 = .ok (.iload_n 3, 1) := zDec_at zB_dL_law_492 17 rfl
theorem dL_law_514 : decode code 514 = .ok (.iconst 1, 1) := zDec_at zB_dL_law_492 18 rfl
theorem dL_law_515 : decode code 515 = .ok (.iadd, 1) := zDec_at zB_dL_law_492 19 rfl
theorem dL_law_516 : decode code 516 = .ok (.iaload, 1) := zDec_at zB_dL_law_492 20 rfl
theorem dL_law_517 : decode code 517 = .ok (.aload_n 0, 1) := zDec_at zB_dL_law_492 21 rfl
theorem dL_law_518 : decode code 518 = .ok (.iload_n 3, 1) := zDec_at zB_dL_law_492 22 rfl
theorem dL_law_519 : decode code 519 = .ok (.iconst 2, 1) := zDec_at zB_dL_law_492 23 rfl
theorem dL_law_520 : decode code 520 = .ok (.iadd, 1) := zDec_at zB_dL_law_492 24 rfl
theorem dL_law_521 : decode code 521 = .ok (.iaload, 1) := zDec_at zB_dL_law_492 25 rfl
theorem dL_law_522 : decode code 522 = .ok (.invokevirtual 45, 3) := zDec_at zB_dL_law_492 26 rfl
theorem dL_law_525 : decode code 525 = .ok (.pop, 1) := zDec_at zB_dL_law_492 27 rfl
theorem dL_law_526 : decode code 526 = .ok (.goto 1552, 3) := zDec_at zB_dL_law_492 28 rfl
theorem dL_law_529 : decode code 529 = .ok (.aload_n 1, 1) := zDec_at zB_dL_law_492 29 rfl
theorem dL_law_530 : decode code 530 = .ok (.aload_n 0, 1) := zDec_at zB_dL_law_492 30 rfl
theorem dL_law_531 : decode code 531 = .ok (.iload_n 3, 1) := zDec_at zB_dL_law_492 31 rfl
theorem dL_law_532 : decode code 532 = .ok (.iconst 1, 1) := zDec_at zB_dL_law_492 32 rfl
theorem dL_law_533 : decode code 533 = .ok (.iadd, 1) := zDec_at zB_dL_law_492 33 rfl
theorem dL_law_534 : decode code 534 = .ok (.iaload, 1) := zDec_at zB_dL_law_492 34 rfl
theorem dL_law_535 : decode code 535 = .ok (.aload_n 0, 1) := zDec_at zB_dL_law_492 35 rfl
theorem dL_law_536 : decode code 536 = .ok (.iload_n 3, 1) := zDec_at zB_dL_law_492 36 rfl
theorem dL_law_537 : decode code 537 = .ok (.iconst 2, 1) := zDec_at zB_dL_law_492 37 rfl
theorem dL_law_538 : decode code 538 = .ok (.iadd, 1) := zDec_at zB_dL_law_492 38 rfl
theorem dL_law_539 : decode code 539 = .ok (.iaload, 1) := zDec_at zB_dL_law_492 39 rfl
theorem zB_dL_law_540 : zDecB code [(540, .aload_n 0, 1), (541, .iload_n 3, 1), (542, .iconst 3, 1), (543, .iadd, 1), (544, .iaload, 1), (545, .aload_n 0, 1), (546, .iload_n 3, 1), (547, .iconst 4, 1), (548, .iadd, 1), (549, .iaload, 1), (550, .invokevirtual 46, 3), (553, .pop, 1), (554, .aload_n 2, 1), (555, .aload_n 0, 1), (556, .iload_n 3, 1), (557, .iconst 1, 1), (558, .iadd, 1), (559, .iaload, 1), (560, .aload_n 0, 1), (561, .iload_n 3, 1), (562, .iconst 2, 1), (563, .iadd, 1), (564, .iaload, 1), (565, .aload_n 0, 1), (566, .iload_n 3, 1), (567, .iconst 3, 1), (568, .iadd, 1), (569, .iaload, 1), (570, .aload_n 0, 1), (571, .iload_n 3, 1), (572, .iconst 4, 1), (573, .iadd, 1), (574, .iaload, 1), (575, .invokevirtual 49, 3), (578, .pop, 1), (579, .goto 1499, 3), (582, .aload_n 1, 1), (583, .aload_n 0, 1), (584, .iload_n 3, 1), (585, .iconst 1, 1)] = true := by decide +kernel
theorem dL_law_540 : decode code 540 = .ok (.aload_n 0, 1) := zDec_at zB_dL_law_540 0 rfl
theorem dL_law_541 : decode code 541 = .ok (.iload_n 3, 1) := zDec_at zB_dL_law_540 1 rfl
theorem dL_law_542 : decode code 542 = .ok (.iconst 3, 1) := zDec_at zB_dL_law_540 2 rfl
theorem dL_law_543 : decode code 543 = .ok (.iadd, 1) := zDec_at zB_dL_law_540 3 rfl
theorem dL_law_544 : decode code 544 = .ok (.iaload, 1) := zDec_at zB_dL_law_540 4 rfl
theorem dL_law_545 : decode code 545 = .ok (.aload_n 0, 1) := zDec_at zB_dL_law_540 5 rfl
theorem dL_law_546 : decode code 546 = .ok (.iload_n 3, 1) := zDec_at zB_dL_law_540 6 rfl
theorem dL_law_547 : decode code 547 = .ok (.iconst 4, 1) := zDec_at zB_dL_law_540 7 rfl
theorem dL_law_548 : decode code 548 = .ok (.iadd, 1) := zDec_at zB_dL_law_540 8 rfl
theorem dL_law_549 : decode code 549 = .ok (.iaload, 1) := zDec_at zB_dL_law_540 9 rfl
theorem dL_law_550 : decode code 550 = .ok (.invokevirtual 46, 3) := zDec_at zB_dL_law_540 10 rfl
theorem dL_law_553 : decode code 553 = .ok (.pop, 1) := zDec_at zB_dL_law_540 11 rfl
theorem dL_law_554 : decode code 554 = .ok (.aload_n 2, 1) := zDec_at zB_dL_law_540 12 rfl
theorem dL_law_555 : decode code 555 = .ok (.aload_n 0, 1) := zDec_at zB_dL_law_540 13 rfl
theorem dL_law_556 : decode code 556 = .ok (.iload_n 3, 1) := zDec_at zB_dL_law_540 14 rfl
theorem dL_law_557 : decode code 557 = .ok (.iconst 1, 1) := zDec_at zB_dL_law_540 15 rfl
theorem dL_law_558 : decode code 558 = .ok (.iadd, 1) := zDec_at zB_dL_law_540 16 rfl
theorem dL_law_559 : decode code 559 = .ok (.iaload, 1) := zDec_at zB_dL_law_540 17 rfl
theorem dL_law_560 : decode code 560 = .ok (.aload_n 0, 1) := zDec_at zB_dL_law_540 18 rfl
theorem dL_law_561 : decode code 561 = .ok (.iload_n 3, 1) := zDec_at zB_dL_law_540 19 rfl
theorem dL_law_562 : decode code 562 = .ok (.iconst 2, 1) := zDec_at zB_dL_law_540 20 rfl
theorem dL_law_563 : decode code 563 = .ok (.iadd, 1) := zDec_at zB_dL_law_540 21 rfl
theorem dL_law_564 : decode code 564 = .ok (.iaload, 1) := zDec_at zB_dL_law_540 22 rfl
theorem dL_law_565 : decode code 565 = .ok (.aload_n 0, 1) := zDec_at zB_dL_law_540 23 rfl
theorem dL_law_566 : decode code 566 = .ok (.iload_n 3, 1) := zDec_at zB_dL_law_540 24 rfl
theorem dL_law_567 : decode code 567 = .ok (.iconst 3, 1) := zDec_at zB_dL_law_540 25 rfl
theorem dL_law_568 : decode code 568 = .ok (.iadd, 1) := zDec_at zB_dL_law_540 26 rfl
theorem dL_law_569 : decode code 569 = .ok (.iaload, 1) := zDec_at zB_dL_law_540 27 rfl
theorem dL_law_570 : decode code 570 = .ok (.aload_n 0, 1) := zDec_at zB_dL_law_540 28 rfl
theorem dL_law_571 : decode code 571 = .ok (.iload_n 3, 1) := zDec_at zB_dL_law_540 29 rfl
theorem dL_law_572 : decode code 572 = .ok (.iconst 4, 1) := zDec_at zB_dL_law_540 30 rfl
theorem dL_law_573 : decode code 573 = .ok (.iadd, 1) := zDec_at zB_dL_law_540 31 rfl
theorem dL_law_574 : decode code 574 = .ok (.iaload, 1) := zDec_at zB_dL_law_540 32 rfl
theorem dL_law_575 : decode code 575 = .ok (.invokevirtual 49, 3) := zDec_at zB_dL_law_540 33 rfl
theorem dL_law_578 : decode code 578 = .ok (.pop, 1) := zDec_at zB_dL_law_540 34 rfl
theorem dL_law_579 : decode code 579 = .ok (.goto 1499, 3) := zDec_at zB_dL_law_540 35 rfl
theorem dL_law_582 : decode code 582 = .ok (.aload_n 1, 1) := zDec_at zB_dL_law_540 36 rfl
theorem dL_law_583 : decode code 583 = .ok (.aload_n 0, 1) := zDec_at zB_dL_law_540 37 rfl
theorem dL_law_584 : decode code 584 = .ok (.iload_n 3, 1) := zDec_at zB_dL_law_540 38 rfl
theorem dL_law_585 : decode code 585 = .ok (.iconst 1, 1) := zDec_at zB_dL_law_540 39 rfl
theorem zB_dL_law_586 : zDecB code [(586, .iadd, 1), (587, .iaload, 1), (588, .aload_n 0, 1), (589, .iload_n 3, 1), (590, .iconst 2, 1), (591, .iadd, 1), (592, .iaload, 1), (593, .aload_n 0, 1), (594, .iload_n 3, 1), (595, .iconst 3, 1), (596, .iadd, 1), (597, .iaload, 1), (598, .aload_n 0, 1), (599, .iload_n 3, 1), (600, .iconst 4, 1), (601, .iadd, 1), (602, .iaload, 1), (603, .aload_n 0, 1), (604, .iload_n 3, 1), (605, .iconst 5, 1), (606, .iadd, 1), (607, .iaload, 1), (608, .aload_n 0, 1), (609, .iload_n 3, 1), (610, .bipush 6, 2), (612, .iadd, 1), (613, .iaload, 1), (614, .invokevirtual 50, 3), (617, .pop, 1), (618, .aload_n 2, 1), (619, .aload_n 0, 1), (620, .iload_n 3, 1), (621, .iconst 1, 1), (622, .iadd, 1), (623, .iaload, 1), (624, .aload_n 0, 1), (625, .iload_n 3, 1), (626, .iconst 2, 1), (627, .iadd, 1), (628, .iaload, 1)] = true := by decide +kernel
theorem dL_law_586 : decode code 586 = .ok (.iadd, 1) := zDec_at zB_dL_law_586 0 rfl
theorem dL_law_587 : decode code 587 = .ok (.iaload, 1) := zDec_at zB_dL_law_586 1 rfl
theorem dL_law_588 : decode code 588 = .ok (.aload_n 0, 1) := zDec_at zB_dL_law_586 2 rfl
theorem dL_law_589 : decode code 589 = .ok (.iload_n 3, 1) := zDec_at zB_dL_law_586 3 rfl
theorem dL_law_590 : decode code 590 = .ok (.iconst 2, 1) := zDec_at zB_dL_law_586 4 rfl
theorem dL_law_591 : decode code 591 = .ok (.iadd, 1) := zDec_at zB_dL_law_586 5 rfl
theorem dL_law_592 : decode code 592 = .ok (.iaload, 1) := zDec_at zB_dL_law_586 6 rfl
theorem dL_law_593 : decode code 593 = .ok (.aload_n 0, 1) := zDec_at zB_dL_law_586 7 rfl
theorem dL_law_594 : decode code 594 = .ok (.iload_n 3, 1) := zDec_at zB_dL_law_586 8 rfl
theorem dL_law_595 : decode code 595 = .ok (.iconst 3, 1) := zDec_at zB_dL_law_586 9 rfl
theorem dL_law_596 : decode code 596 = .ok (.iadd, 1) := zDec_at zB_dL_law_586 10 rfl
theorem dL_law_597 : decode code 597 = .ok (.iaload, 1) := zDec_at zB_dL_law_586 11 rfl
theorem dL_law_598 : decode code 598 = .ok (.aload_n 0, 1) := zDec_at zB_dL_law_586 12 rfl
theorem dL_law_599 : decode code 599 = .ok (.iload_n 3, 1) := zDec_at zB_dL_law_586 13 rfl
theorem dL_law_600 : decode code 600 = .ok (.iconst 4, 1) := zDec_at zB_dL_law_586 14 rfl
theorem dL_law_601 : decode code 601 = .ok (.iadd, 1) := zDec_at zB_dL_law_586 15 rfl
theorem dL_law_602 : decode code 602 = .ok (.iaload, 1) := zDec_at zB_dL_law_586 16 rfl
theorem dL_law_603 : decode code 603 = .ok (.aload_n 0, 1) := zDec_at zB_dL_law_586 17 rfl
theorem dL_law_604 : decode code 604 = .ok (.iload_n 3, 1) := zDec_at zB_dL_law_586 18 rfl
theorem dL_law_605 : decode code 605 = .ok (.iconst 5, 1) := zDec_at zB_dL_law_586 19 rfl
theorem dL_law_606 : decode code 606 = .ok (.iadd, 1) := zDec_at zB_dL_law_586 20 rfl
theorem dL_law_607 : decode code 607 = .ok (.iaload, 1) := zDec_at zB_dL_law_586 21 rfl
theorem dL_law_608 : decode code 608 = .ok (.aload_n 0, 1) := zDec_at zB_dL_law_586 22 rfl
theorem dL_law_609 : decode code 609 = .ok (.iload_n 3, 1) := zDec_at zB_dL_law_586 23 rfl
theorem dL_law_610 : decode code 610 = .ok (.bipush 6, 2) := zDec_at zB_dL_law_586 24 rfl
theorem dL_law_612 : decode code 612 = .ok (.iadd, 1) := zDec_at zB_dL_law_586 25 rfl
theorem dL_law_613 : decode code 613 = .ok (.iaload, 1) := zDec_at zB_dL_law_586 26 rfl
theorem dL_law_614 : decode code 614 = .ok (.invokevirtual 50, 3) := zDec_at zB_dL_law_586 27 rfl
theorem dL_law_617 : decode code 617 = .ok (.pop, 1) := zDec_at zB_dL_law_586 28 rfl
theorem dL_law_618 : decode code 618 = .ok (.aload_n 2, 1) := zDec_at zB_dL_law_586 29 rfl
theorem dL_law_619 : decode code 619 = .ok (.aload_n 0, 1) := zDec_at zB_dL_law_586 30 rfl
theorem dL_law_620 : decode code 620 = .ok (.iload_n 3, 1) := zDec_at zB_dL_law_586 31 rfl
theorem dL_law_621 : decode code 621 = .ok (.iconst 1, 1) := zDec_at zB_dL_law_586 32 rfl
theorem dL_law_622 : decode code 622 = .ok (.iadd, 1) := zDec_at zB_dL_law_586 33 rfl
theorem dL_law_623 : decode code 623 = .ok (.iaload, 1) := zDec_at zB_dL_law_586 34 rfl
theorem dL_law_624 : decode code 624 = .ok (.aload_n 0, 1) := zDec_at zB_dL_law_586 35 rfl
theorem dL_law_625 : decode code 625 = .ok (.iload_n 3, 1) := zDec_at zB_dL_law_586 36 rfl
theorem dL_law_626 : decode code 626 = .ok (.iconst 2, 1) := zDec_at zB_dL_law_586 37 rfl
theorem dL_law_627 : decode code 627 = .ok (.iadd, 1) := zDec_at zB_dL_law_586 38 rfl
theorem dL_law_628 : decode code 628 = .ok (.iaload, 1) := zDec_at zB_dL_law_586 39 rfl
theorem zB_dL_law_629 : zDecB code [(629, .aload_n 0, 1), (630, .iload_n 3, 1), (631, .iconst 3, 1), (632, .iadd, 1), (633, .iaload, 1), (634, .aload_n 0, 1), (635, .iload_n 3, 1), (636, .iconst 4, 1), (637, .iadd, 1), (638, .iaload, 1), (639, .aload_n 0, 1), (640, .iload_n 3, 1), (641, .iconst 5, 1), (642, .iadd, 1), (643, .iaload, 1), (644, .aload_n 0, 1), (645, .iload_n 3, 1), (646, .bipush 6, 2), (648, .iadd, 1), (649, .iaload, 1), (650, .invokevirtual 54, 3), (653, .pop, 1), (654, .goto 1424, 3), (657, .aload_n 1, 1), (658, .aload_n 0, 1), (659, .iload_n 3, 1), (660, .iconst 1, 1), (661, .iadd, 1), (662, .iaload, 1), (663, .aload_n 0, 1), (664, .iload_n 3, 1), (665, .iconst 2, 1), (666, .iadd, 1), (667, .iaload, 1), (668, .aload_n 0, 1), (669, .iload_n 3, 1), (670, .iconst 3, 1), (671, .iadd, 1), (672, .iaload, 1), (673, .invokevirtual 55, 3)] = true := by decide +kernel
theorem dL_law_629 : decode code 629 = .ok (.aload_n 0, 1) := zDec_at zB_dL_law_629 0 rfl
theorem dL_law_630 : decode code 630 = .ok (.iload_n 3, 1) := zDec_at zB_dL_law_629 1 rfl
theorem dL_law_631 : decode code 631 = .ok (.iconst 3, 1) := zDec_at zB_dL_law_629 2 rfl
theorem dL_law_632 : decode code 632 = .ok (.iadd, 1) := zDec_at zB_dL_law_629 3 rfl
theorem dL_law_633 : decode code 633 = .ok (.iaload, 1) := zDec_at zB_dL_law_629 4 rfl
theorem dL_law_634 : decode code 634 = .ok (.aload_n 0, 1) := zDec_at zB_dL_law_629 5 rfl
theorem dL_law_635 : decode code 635 = .ok (.iload_n 3, 1) := zDec_at zB_dL_law_629 6 rfl
theorem dL_law_636 : decode code 636 = .ok (.iconst 4, 1) := zDec_at zB_dL_law_629 7 rfl
theorem dL_law_637 : decode code 637 = .ok (.iadd, 1) := zDec_at zB_dL_law_629 8 rfl
theorem dL_law_638 : decode code 638 = .ok (.iaload, 1) := zDec_at zB_dL_law_629 9 rfl
theorem dL_law_639 : decode code 639 = .ok (.aload_n 0, 1) := zDec_at zB_dL_law_629 10 rfl
theorem dL_law_640 : decode code 640 = .ok (.iload_n 3, 1) := zDec_at zB_dL_law_629 11 rfl
theorem dL_law_641 : decode code 641 = .ok (.iconst 5, 1) := zDec_at zB_dL_law_629 12 rfl
theorem dL_law_642 : decode code 642 = .ok (.iadd, 1) := zDec_at zB_dL_law_629 13 rfl
theorem dL_law_643 : decode code 643 = .ok (.iaload, 1) := zDec_at zB_dL_law_629 14 rfl
theorem dL_law_644 : decode code 644 = .ok (.aload_n 0, 1) := zDec_at zB_dL_law_629 15 rfl
theorem dL_law_645 : decode code 645 = .ok (.iload_n 3, 1) := zDec_at zB_dL_law_629 16 rfl
theorem dL_law_646 : decode code 646 = .ok (.bipush 6, 2) := zDec_at zB_dL_law_629 17 rfl
theorem dL_law_648 : decode code 648 = .ok (.iadd, 1) := zDec_at zB_dL_law_629 18 rfl
theorem dL_law_649 : decode code 649 = .ok (.iaload, 1) := zDec_at zB_dL_law_629 19 rfl
theorem dL_law_650 : decode code 650 = .ok (.invokevirtual 54, 3) := zDec_at zB_dL_law_629 20 rfl
theorem dL_law_653 : decode code 653 = .ok (.pop, 1) := zDec_at zB_dL_law_629 21 rfl
theorem dL_law_654 : decode code 654 = .ok (.goto 1424, 3) := zDec_at zB_dL_law_629 22 rfl
theorem dL_law_657 : decode code 657 = .ok (.aload_n 1, 1) := zDec_at zB_dL_law_629 23 rfl
theorem dL_law_658 : decode code 658 = .ok (.aload_n 0, 1) := zDec_at zB_dL_law_629 24 rfl
theorem dL_law_659 : decode code 659 = .ok (.iload_n 3, 1) := zDec_at zB_dL_law_629 25 rfl
theorem dL_law_660 : decode code 660 = .ok (.iconst 1, 1) := zDec_at zB_dL_law_629 26 rfl
theorem dL_law_661 : decode code 661 = .ok (.iadd, 1) := zDec_at zB_dL_law_629 27 rfl
theorem dL_law_662 : decode code 662 = .ok (.iaload, 1) := zDec_at zB_dL_law_629 28 rfl
theorem dL_law_663 : decode code 663 = .ok (.aload_n 0, 1) := zDec_at zB_dL_law_629 29 rfl
theorem dL_law_664 : decode code 664 = .ok (.iload_n 3, 1) := zDec_at zB_dL_law_629 30 rfl
theorem dL_law_665 : decode code 665 = .ok (.iconst 2, 1) := zDec_at zB_dL_law_629 31 rfl
theorem dL_law_666 : decode code 666 = .ok (.iadd, 1) := zDec_at zB_dL_law_629 32 rfl
theorem dL_law_667 : decode code 667 = .ok (.iaload, 1) := zDec_at zB_dL_law_629 33 rfl
theorem dL_law_668 : decode code 668 = .ok (.aload_n 0, 1) := zDec_at zB_dL_law_629 34 rfl
theorem dL_law_669 : decode code 669 = .ok (.iload_n 3, 1) := zDec_at zB_dL_law_629 35 rfl
theorem dL_law_670 : decode code 670 = .ok (.iconst 3, 1) := zDec_at zB_dL_law_629 36 rfl
theorem dL_law_671 : decode code 671 = .ok (.iadd, 1) := zDec_at zB_dL_law_629 37 rfl
theorem dL_law_672 : decode code 672 = .ok (.iaload, 1) := zDec_at zB_dL_law_629 38 rfl
theorem dL_law_673 : decode code 673 = .ok (.invokevirtual 55, 3) := zDec_at zB_dL_law_629 39 rfl
theorem zB_dL_law_676 : zDecB code [(676, .pop, 1), (677, .aload_n 2, 1), (678, .aload_n 0, 1), (679, .iload_n 3, 1), (680, .iconst 1, 1), (681, .iadd, 1), (682, .iaload, 1), (683, .aload_n 0, 1), (684, .iload_n 3, 1), (685, .iconst 2, 1), (686, .iadd, 1), (687, .iaload, 1), (688, .aload_n 0, 1), (689, .iload_n 3, 1), (690, .iconst 3, 1), (691, .iadd, 1), (692, .iaload, 1), (693, .invokevirtual 58, 3), (696, .pop, 1), (697, .goto 1381, 3), (700, .aload_n 1, 1), (701, .aload_n 0, 1), (702, .iload_n 3, 1), (703, .iconst 1, 1), (704, .iadd, 1), (705, .iaload, 1), (706, .aload_n 0, 1), (707, .iload_n 3, 1), (708, .iconst 2, 1), (709, .iadd, 1), (710, .iaload, 1), (711, .aload_n 0, 1), (712, .iload_n 3, 1), (713, .iconst 3, 1), (714, .iadd, 1), (715, .iaload, 1), (716, .aload_n 0, 1), (717, .iload_n 3, 1), (718, .iconst 4, 1), (719, .iadd, 1)] = true := by decide +kernel
theorem dL_law_676 : decode code 676 = .ok (.pop, 1) := zDec_at zB_dL_law_676 0 rfl
theorem dL_law_677 : decode code 677 = .ok (.aload_n 2, 1) := zDec_at zB_dL_law_676 1 rfl
theorem dL_law_678 : decode code 678 = .ok (.aload_n 0, 1) := zDec_at zB_dL_law_676 2 rfl
theorem dL_law_679 : decode code 679 = .ok (.iload_n 3, 1) := zDec_at zB_dL_law_676 3 rfl
theorem dL_law_680 : decode code 680 = .ok (.iconst 1, 1) := zDec_at zB_dL_law_676 4 rfl
theorem dL_law_681 : decode code 681 = .ok (.iadd, 1) := zDec_at zB_dL_law_676 5 rfl
theorem dL_law_682 : decode code 682 = .ok (.iaload, 1) := zDec_at zB_dL_law_676 6 rfl
theorem dL_law_683 : decode code 683 = .ok (.aload_n 0, 1) := zDec_at zB_dL_law_676 7 rfl
theorem dL_law_684 : decode code 684 = .ok (.iload_n 3, 1) := zDec_at zB_dL_law_676 8 rfl
theorem dL_law_685 : decode code 685 = .ok (.iconst 2, 1) := zDec_at zB_dL_law_676 9 rfl
theorem dL_law_686 : decode code 686 = .ok (.iadd, 1) := zDec_at zB_dL_law_676 10 rfl
theorem dL_law_687 : decode code 687 = .ok (.iaload, 1) := zDec_at zB_dL_law_676 11 rfl
theorem dL_law_688 : decode code 688 = .ok (.aload_n 0, 1) := zDec_at zB_dL_law_676 12 rfl
theorem dL_law_689 : decode code 689 = .ok (.iload_n 3, 1) := zDec_at zB_dL_law_676 13 rfl
theorem dL_law_690 : decode code 690 = .ok (.iconst 3, 1) := zDec_at zB_dL_law_676 14 rfl
theorem dL_law_691 : decode code 691 = .ok (.iadd, 1) := zDec_at zB_dL_law_676 15 rfl
theorem dL_law_692 : decode code 692 = .ok (.iaload, 1) := zDec_at zB_dL_law_676 16 rfl
theorem dL_law_693 : decode code 693 = .ok (.invokevirtual 58, 3) := zDec_at zB_dL_law_676 17 rfl
theorem dL_law_696 : decode code 696 = .ok (.pop, 1) := zDec_at zB_dL_law_676 18 rfl
theorem dL_law_697 : decode code 697 = .ok (.goto 1381, 3) := zDec_at zB_dL_law_676 19 rfl
theorem dL_law_700 : decode code 700 = .ok (.aload_n 1, 1) := zDec_at zB_dL_law_676 20 rfl
theorem dL_law_701 : decode code 701 = .ok (.aload_n 0, 1) := zDec_at zB_dL_law_676 21 rfl
theorem dL_law_702 : decode code 702 = .ok (.iload_n 3, 1) := zDec_at zB_dL_law_676 22 rfl
theorem dL_law_703 : decode code 703 = .ok (.iconst 1, 1) := zDec_at zB_dL_law_676 23 rfl
theorem dL_law_704 : decode code 704 = .ok (.iadd, 1) := zDec_at zB_dL_law_676 24 rfl
theorem dL_law_705 : decode code 705 = .ok (.iaload, 1) := zDec_at zB_dL_law_676 25 rfl
theorem dL_law_706 : decode code 706 = .ok (.aload_n 0, 1) := zDec_at zB_dL_law_676 26 rfl
theorem dL_law_707 : decode code 707 = .ok (.iload_n 3, 1) := zDec_at zB_dL_law_676 27 rfl
theorem dL_law_708 : decode code 708 = .ok (.iconst 2, 1) := zDec_at zB_dL_law_676 28 rfl
theorem dL_law_709 : decode code 709 = .ok (.iadd, 1) := zDec_at zB_dL_law_676 29 rfl
theorem dL_law_710 : decode code 710 = .ok (.iaload, 1) := zDec_at zB_dL_law_676 30 rfl
theorem dL_law_711 : decode code 711 = .ok (.aload_n 0, 1) := zDec_at zB_dL_law_676 31 rfl
theorem dL_law_712 : decode code 712 = .ok (.iload_n 3, 1) := zDec_at zB_dL_law_676 32 rfl
theorem dL_law_713 : decode code 713 = .ok (.iconst 3, 1) := zDec_at zB_dL_law_676 33 rfl
theorem dL_law_714 : decode code 714 = .ok (.iadd, 1) := zDec_at zB_dL_law_676 34 rfl
theorem dL_law_715 : decode code 715 = .ok (.iaload, 1) := zDec_at zB_dL_law_676 35 rfl
theorem dL_law_716 : decode code 716 = .ok (.aload_n 0, 1) := zDec_at zB_dL_law_676 36 rfl
theorem dL_law_717 : decode code 717 = .ok (.iload_n 3, 1) := zDec_at zB_dL_law_676 37 rfl
theorem dL_law_718 : decode code 718 = .ok (.iconst 4, 1) := zDec_at zB_dL_law_676 38 rfl
theorem dL_law_719 : decode code 719 = .ok (.iadd, 1) := zDec_at zB_dL_law_676 39 rfl
theorem zB_dL_law_720 : zDecB code [(720, .iaload, 1), (721, .aload_n 0, 1), (722, .iload_n 3, 1), (723, .iconst 5, 1), (724, .iadd, 1), (725, .iaload, 1), (726, .invokevirtual 59, 3), (729, .pop, 1), (730, .aload_n 2, 1), (731, .aload_n 0, 1), (732, .iload_n 3, 1), (733, .iconst 1, 1), (734, .iadd, 1), (735, .iaload, 1), (736, .aload_n 0, 1), (737, .iload_n 3, 1), (738, .iconst 2, 1), (739, .iadd, 1), (740, .iaload, 1), (741, .aload_n 0, 1), (742, .iload_n 3, 1), (743, .iconst 3, 1), (744, .iadd, 1), (745, .iaload, 1), (746, .aload_n 0, 1), (747, .iload_n 3, 1), (748, .iconst 4, 1), (749, .iadd, 1), (750, .iaload, 1), (751, .aload_n 0, 1), (752, .iload_n 3, 1), (753, .iconst 5, 1), (754, .iadd, 1), (755, .iaload, 1), (756, .invokevirtual 63, 3), (759, .pop, 1), (760, .goto 1318, 3), (763, .aload_n 1, 1), (764, .aload_n 0, 1), (765, .iload_n 3, 1)] = true := by decide +kernel
theorem dL_law_720 : decode code 720 = .ok (.iaload, 1) := zDec_at zB_dL_law_720 0 rfl
theorem dL_law_721 : decode code 721 = .ok (.aload_n 0, 1) := zDec_at zB_dL_law_720 1 rfl
theorem dL_law_722 : decode code 722 = .ok (.iload_n 3, 1) := zDec_at zB_dL_law_720 2 rfl
theorem dL_law_723 : decode code 723 = .ok (.iconst 5, 1) := zDec_at zB_dL_law_720 3 rfl
theorem dL_law_724 : decode code 724 = .ok (.iadd, 1) := zDec_at zB_dL_law_720 4 rfl
theorem dL_law_725 : decode code 725 = .ok (.iaload, 1) := zDec_at zB_dL_law_720 5 rfl
theorem dL_law_726 : decode code 726 = .ok (.invokevirtual 59, 3) := zDec_at zB_dL_law_720 6 rfl
theorem dL_law_729 : decode code 729 = .ok (.pop, 1) := zDec_at zB_dL_law_720 7 rfl
theorem dL_law_730 : decode code 730 = .ok (.aload_n 2, 1) := zDec_at zB_dL_law_720 8 rfl
theorem dL_law_731 : decode code 731 = .ok (.aload_n 0, 1) := zDec_at zB_dL_law_720 9 rfl
theorem dL_law_732 : decode code 732 = .ok (.iload_n 3, 1) := zDec_at zB_dL_law_720 10 rfl
theorem dL_law_733 : decode code 733 = .ok (.iconst 1, 1) := zDec_at zB_dL_law_720 11 rfl
theorem dL_law_734 : decode code 734 = .ok (.iadd, 1) := zDec_at zB_dL_law_720 12 rfl
theorem dL_law_735 : decode code 735 = .ok (.iaload, 1) := zDec_at zB_dL_law_720 13 rfl
theorem dL_law_736 : decode code 736 = .ok (.aload_n 0, 1) := zDec_at zB_dL_law_720 14 rfl
theorem dL_law_737 : decode code 737 = .ok (.iload_n 3, 1) := zDec_at zB_dL_law_720 15 rfl
theorem dL_law_738 : decode code 738 = .ok (.iconst 2, 1) := zDec_at zB_dL_law_720 16 rfl
theorem dL_law_739 : decode code 739 = .ok (.iadd, 1) := zDec_at zB_dL_law_720 17 rfl
theorem dL_law_740 : decode code 740 = .ok (.iaload, 1) := zDec_at zB_dL_law_720 18 rfl
theorem dL_law_741 : decode code 741 = .ok (.aload_n 0, 1) := zDec_at zB_dL_law_720 19 rfl
theorem dL_law_742 : decode code 742 = .ok (.iload_n 3, 1) := zDec_at zB_dL_law_720 20 rfl
theorem dL_law_743 : decode code 743 = .ok (.iconst 3, 1) := zDec_at zB_dL_law_720 21 rfl
theorem dL_law_744 : decode code 744 = .ok (.iadd, 1) := zDec_at zB_dL_law_720 22 rfl
theorem dL_law_745 : decode code 745 = .ok (.iaload, 1) := zDec_at zB_dL_law_720 23 rfl
theorem dL_law_746 : decode code 746 = .ok (.aload_n 0, 1) := zDec_at zB_dL_law_720 24 rfl
theorem dL_law_747 : decode code 747 = .ok (.iload_n 3, 1) := zDec_at zB_dL_law_720 25 rfl
theorem dL_law_748 : decode code 748 = .ok (.iconst 4, 1) := zDec_at zB_dL_law_720 26 rfl
theorem dL_law_749 : decode code 749 = .ok (.iadd, 1) := zDec_at zB_dL_law_720 27 rfl
theorem dL_law_750 : decode code 750 = .ok (.iaload, 1) := zDec_at zB_dL_law_720 28 rfl
theorem dL_law_751 : decode code 751 = .ok (.aload_n 0, 1) := zDec_at zB_dL_law_720 29 rfl
theorem dL_law_752 : decode code 752 = .ok (.iload_n 3, 1) := zDec_at zB_dL_law_720 30 rfl
theorem dL_law_753 : decode code 753 = .ok (.iconst 5, 1) := zDec_at zB_dL_law_720 31 rfl
theorem dL_law_754 : decode code 754 = .ok (.iadd, 1) := zDec_at zB_dL_law_720 32 rfl
theorem dL_law_755 : decode code 755 = .ok (.iaload, 1) := zDec_at zB_dL_law_720 33 rfl
theorem dL_law_756 : decode code 756 = .ok (.invokevirtual 63, 3) := zDec_at zB_dL_law_720 34 rfl
theorem dL_law_759 : decode code 759 = .ok (.pop, 1) := zDec_at zB_dL_law_720 35 rfl
theorem dL_law_760 : decode code 760 = .ok (.goto 1318, 3) := zDec_at zB_dL_law_720 36 rfl
theorem dL_law_763 : decode code 763 = .ok (.aload_n 1, 1) := zDec_at zB_dL_law_720 37 rfl
theorem dL_law_764 : decode code 764 = .ok (.aload_n 0, 1) := zDec_at zB_dL_law_720 38 rfl
theorem dL_law_765 : decode code 765 = .ok (.iload_n 3, 1) := zDec_at zB_dL_law_720 39 rfl
theorem zB_dL_law_766 : zDecB code [(766, .iconst 1, 1), (767, .iadd, 1), (768, .iaload, 1), (769, .aload_n 0, 1), (770, .iload_n 3, 1), (771, .iconst 2, 1), (772, .iadd, 1), (773, .iaload, 1), (774, .aload_n 0, 1), (775, .iload_n 3, 1), (776, .iconst 3, 1), (777, .iadd, 1), (778, .iaload, 1), (779, .aload_n 0, 1), (780, .iload_n 3, 1), (781, .iconst 4, 1), (782, .iadd, 1), (783, .iaload, 1), (784, .aload_n 0, 1), (785, .iload_n 3, 1)] = true := by decide +kernel
theorem dL_law_766 : decode code 766 = .ok (.iconst 1, 1) := zDec_at zB_dL_law_766 0 rfl
theorem dL_law_767 : decode code 767 = .ok (.iadd, 1) := zDec_at zB_dL_law_766 1 rfl
theorem dL_law_768 : decode code 768 = .ok (.iaload, 1) := zDec_at zB_dL_law_766 2 rfl
theorem dL_law_769 : decode code 769 = .ok (.aload_n 0, 1) := zDec_at zB_dL_law_766 3 rfl
theorem dL_law_770 : decode code 770 = .ok (.iload_n 3, 1) := zDec_at zB_dL_law_766 4 rfl
theorem dL_law_771 : decode code 771 = .ok (.iconst 2, 1) := zDec_at zB_dL_law_766 5 rfl
theorem dL_law_772 : decode code 772 = .ok (.iadd, 1) := zDec_at zB_dL_law_766 6 rfl
theorem dL_law_773 : decode code 773 = .ok (.iaload, 1) := zDec_at zB_dL_law_766 7 rfl
theorem dL_law_774 : decode code 774 = .ok (.aload_n 0, 1) := zDec_at zB_dL_law_766 8 rfl
theorem dL_law_775 : decode code 775 = .ok (.iload_n 3, 1) := zDec_at zB_dL_law_766 9 rfl
theorem dL_law_776 : decode code 776 = .ok (.iconst 3, 1) := zDec_at zB_dL_law_766 10 rfl
theorem dL_law_777 : decode code 777 = .ok (.iadd, 1) := zDec_at zB_dL_law_766 11 rfl
theorem dL_law_778 : decode code 778 = .ok (.iaload, 1) := zDec_at zB_dL_law_766 12 rfl
theorem dL_law_779 : decode code 779 = .ok (.aload_n 0, 1) := zDec_at zB_dL_law_766 13 rfl
theorem dL_law_780 : decode code 780 = .ok (.iload_n 3, 1) := zDec_at zB_dL_law_766 14 rfl
theorem dL_law_781 : decode code 781 = .ok (.iconst 4, 1) := zDec_at zB_dL_law_766 15 rfl
theorem dL_law_782 : decode code 782 = .ok (.iadd, 1) := zDec_at zB_dL_law_766 16 rfl
theorem dL_law_783 : decode code 783 = .ok (.iaload, 1) := zDec_at zB_dL_law_766 17 rfl
theorem dL_law_784 : decode code 784 = .ok (.aload_n 0, 1) := zDec_at zB_dL_law_766 18 rfl
theorem dL_law_785 : decode code 785 = .ok (.iload_n 3, 1) := zDec_at zB_dL_law_766 19 rfl
