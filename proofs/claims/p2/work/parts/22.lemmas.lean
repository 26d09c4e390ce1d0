theorem fm_c {x : Cond} {l : List Cond} (h1 : x ∈ wA) (h2 : ∀ w ∈ l, w ∈ wA) : ∀ w ∈ x :: l, w ∈ wA := List.forall_mem_cons.mpr ⟨h1, h2⟩
theorem fm_n : ∀ w ∈ ([] : List Cond), w ∈ wA := fun _ h => nomatch h
set_option maxRecDepth 100000 in
theorem in_X0 : ∀ w ∈ u_ws RX0 TX0 10, w ∈ wA := fm_c wd_106 (fm_c wd_108 (fm_c wd_110 (fm_c wd_112 (fm_c wd_114 (fm_c wd_116 (fm_c wd_118 (fm_c wd_120 (fm_c wd_122 (fm_c wd_124 (fm_n))))))))))
theorem dv_X0 : ∀ j, j < 10 → defaultValue (tyX0 j) = vp_V [.int 0, .int 0, .int 0, .int 0, .int 0, .null, .null, .null, .null, .null] j := by
  intro j hj
  rcases (show j = 0 ∨ j = 1 ∨ j = 2 ∨ j = 3 ∨ j = 4 ∨ j = 5 ∨ j = 6 ∨ j = 7 ∨ j = 8 ∨ j = 9 by omega) with rfl | rfl | rfl | rfl | rfl | rfl | rfl | rfl | rfl | rfl <;> rfl
set_option maxRecDepth 100000 in
theorem in_X1 : ∀ w ∈ u_ws RX1 TX1 5, w ∈ wA := fm_c wd_279 (fm_c wd_281 (fm_c wd_283 (fm_c wd_285 (fm_c wd_287 (fm_n)))))
theorem dv_X1 : ∀ j, j < 5 → defaultValue (tyX1 j) = vp_V [.null, .int 0, .int 0, .null, .null] j := by
  intro j hj
  rcases (show j = 0 ∨ j = 1 ∨ j = 2 ∨ j = 3 ∨ j = 4 by omega) with rfl | rfl | rfl | rfl | rfl <;> rfl
set_option maxRecDepth 100000 in
theorem in_X2 : ∀ w ∈ u_ws RX2 TX2 3, w ∈ wA := fm_c wd_252 (fm_c wd_254 (fm_c wd_256 (fm_n)))
theorem dv_X2 : ∀ j, j < 3 → defaultValue (tyX2 j) = vp_V [.null, .int 0, .int 0] j := by
  intro j hj
  rcases (show j = 0 ∨ j = 1 ∨ j = 2 by omega) with rfl | rfl | rfl <;> rfl
set_option maxRecDepth 100000 in
theorem in_X3 : ∀ w ∈ u_ws RX3 TX3 2, w ∈ wA := fm_c wd_1331 (fm_c wd_1333 (fm_n))
theorem dv_X3 : ∀ j, j < 2 → defaultValue (tyX3 j) = vp_V [.null, .null] j := by
  intro j hj
  rcases (show j = 0 ∨ j = 1 by omega) with rfl | rfl <;> rfl
set_option maxRecDepth 100000 in
theorem in_X4 : ∀ w ∈ u_ws RX4 TX4 3, w ∈ wA := fm_c wd_826 (fm_c wd_828 (fm_c wd_830 (fm_n)))
theorem dv_X4 : ∀ j, j < 3 → defaultValue (tyX4 j) = vp_V [.null, .null, .null] j := by
  intro j hj
  rcases (show j = 0 ∨ j = 1 ∨ j = 2 by omega) with rfl | rfl | rfl <;> rfl
set_option maxRecDepth 100000 in
theorem in_X5 : ∀ w ∈ u_ws RX5 TX5 8, w ∈ wA := fm_c wd_220 (fm_c wd_222 (fm_c wd_224 (fm_c wd_226 (fm_c wd_228 (fm_c wd_230 (fm_c wd_232 (fm_c wd_234 (fm_n))))))))
theorem dv_X5 : ∀ j, j < 8 → defaultValue (tyX5 j) = vp_V [.null, .int 0, .int 0, .null, .null, .null, .int 0, .int 0] j := by
  intro j hj
  rcases (show j = 0 ∨ j = 1 ∨ j = 2 ∨ j = 3 ∨ j = 4 ∨ j = 5 ∨ j = 6 ∨ j = 7 by omega) with rfl | rfl | rfl | rfl | rfl | rfl | rfl | rfl <;> rfl
set_option maxRecDepth 100000 in
theorem in_X6 : ∀ w ∈ u_ws RX6 TX6 8, w ∈ wA := fm_c wd_192 (fm_c wd_194 (fm_c wd_196 (fm_c wd_198 (fm_c wd_200 (fm_c wd_202 (fm_c wd_204 (fm_c wd_206 (fm_n))))))))
theorem dv_X6 : ∀ j, j < 8 → defaultValue (tyX6 j) = vp_V [.null, .int 0, .null, .null, .null, .null, .null, .int 0] j := by
  intro j hj
  rcases (show j = 0 ∨ j = 1 ∨ j = 2 ∨ j = 3 ∨ j = 4 ∨ j = 5 ∨ j = 6 ∨ j = 7 by omega) with rfl | rfl | rfl | rfl | rfl | rfl | rfl | rfl <;> rfl
set_option maxRecDepth 100000 in
theorem in_X7 : ∀ w ∈ u_ws RX7 TX7 6, w ∈ wA := fm_c wd_147 (fm_c wd_149 (fm_c wd_151 (fm_c wd_153 (fm_c wd_155 (fm_c wd_157 (fm_n))))))
theorem dv_X7 : ∀ j, j < 6 → defaultValue (tyX7 j) = vp_V [.null, .null, .int 0, .int 0, .int 0, .int 0] j := by
  intro j hj
  rcases (show j = 0 ∨ j = 1 ∨ j = 2 ∨ j = 3 ∨ j = 4 ∨ j = 5 by omega) with rfl | rfl | rfl | rfl | rfl | rfl <;> rfl
set_option maxRecDepth 100000 in
theorem in_X8 : ∀ w ∈ u_ws RX8 TX8 3, w ∈ wA := fm_c wd_301 (fm_c wd_303 (fm_c wd_305 (fm_n)))
theorem dv_X8 : ∀ j, j < 3 → defaultValue (tyX8 j) = vp_V [.int 0, .int 0, .null] j := by
  intro j hj
  rcases (show j = 0 ∨ j = 1 ∨ j = 2 by omega) with rfl | rfl | rfl <;> rfl
set_option maxRecDepth 100000 in
theorem in_X9 : ∀ w ∈ u_ws RX9 TX9 6, w ∈ wA := fm_c wd_49 (fm_c wd_51 (fm_c wd_53 (fm_c wd_55 (fm_c wd_57 (fm_c wd_59 (fm_n))))))
theorem dv_X9 : ∀ j, j < 6 → defaultValue (tyX9 j) = vp_V [.int 0, .null, .null, .null, .null, .null] j := by
  intro j hj
  rcases (show j = 0 ∨ j = 1 ∨ j = 2 ∨ j = 3 ∨ j = 4 ∨ j = 5 by omega) with rfl | rfl | rfl | rfl | rfl | rfl <;> rfl
set_option maxRecDepth 100000 in
theorem in_X10 : ∀ w ∈ u_ws RX10 TX10 13, w ∈ wA := fm_c wd_321 (fm_c wd_323 (fm_c wd_325 (fm_c wd_327 (fm_c wd_329 (fm_c wd_331 (fm_c wd_333 (fm_c wd_335 (fm_c wd_337 (fm_c wd_339 (fm_c wd_341 (fm_c wd_343 (fm_c wd_345 (fm_n)))))))))))))
theorem dv_X10 : ∀ j, j < 13 → defaultValue (tyX10 j) = vp_V [.null, .int 0, .int 0, .int 0, .null, .null, .null, .null, .null, .null, .null, .null, .int 0] j := by
  intro j hj
  rcases (show j = 0 ∨ j = 1 ∨ j = 2 ∨ j = 3 ∨ j = 4 ∨ j = 5 ∨ j = 6 ∨ j = 7 ∨ j = 8 ∨ j = 9 ∨ j = 10 ∨ j = 11 ∨ j = 12 by omega) with rfl | rfl | rfl | rfl | rfl | rfl | rfl | rfl | rfl | rfl | rfl | rfl | rfl <;> rfl
set_option maxRecDepth 100000 in
theorem in_X11 : ∀ w ∈ u_ws RX11 TX11 39, w ∈ wA := fm_c wd_1393 (fm_c wd_1395 (fm_c wd_1397 (fm_c wd_1399 (fm_c wd_1401 (fm_c wd_1403 (fm_c wd_1405 (fm_c wd_1407 (fm_c wd_1409 (fm_c wd_1411 (fm_c wd_1413 (fm_c wd_1415 (fm_c wd_1417 (fm_c wd_1419 (fm_c wd_1421 (fm_c wd_1423 (fm_c wd_1425 (fm_c wd_1427 (fm_c wd_1429 (fm_c wd_1431 (fm_c wd_1433 (fm_c wd_1435 (fm_c wd_1437 (fm_c wd_1439 (fm_c wd_1441 (fm_c wd_1443 (fm_c wd_1445 (fm_c wd_1447 (fm_c wd_1449 (fm_c wd_1451 (fm_c wd_1453 (fm_c wd_1455 (fm_c wd_1457 (fm_c wd_1459 (fm_c wd_1461 (fm_c wd_1463 (fm_c wd_1465 (fm_c wd_1467 (fm_c wd_1469 (fm_n)))))))))))))))))))))))))))))))))))))))
theorem dv_X11 : ∀ j, j < 39 → defaultValue (tyX11 j) = vp_V [.null, .null, .null, .null, .int 0, .null, .int 0, .int 0, .int 0, .int 0, .int 0, .int 0, .int 0, .int 0, .int 0, .int 0, .int 0, .int 0, .int 0, .null, .null, .int 0, .int 0, .null, .int 0, .int 0, .int 0, .int 0, .null, .null, .null, .null, .null, .null, .null, .int 0, .null, .null, .null] j := by
  intro j hj
  rcases (show j = 0 ∨ j = 1 ∨ j = 2 ∨ j = 3 ∨ j = 4 ∨ j = 5 ∨ j = 6 ∨ j = 7 ∨ j = 8 ∨ j = 9 ∨ j = 10 ∨ j = 11 ∨ j = 12 ∨ j = 13 ∨ j = 14 ∨ j = 15 ∨ j = 16 ∨ j = 17 ∨ j = 18 ∨ j = 19 ∨ j = 20 ∨ j = 21 ∨ j = 22 ∨ j = 23 ∨ j = 24 ∨ j = 25 ∨ j = 26 ∨ j = 27 ∨ j = 28 ∨ j = 29 ∨ j = 30 ∨ j = 31 ∨ j = 32 ∨ j = 33 ∨ j = 34 ∨ j = 35 ∨ j = 36 ∨ j = 37 ∨ j = 38 by omega) with rfl | rfl | rfl | rfl | rfl | rfl | rfl | rfl | rfl | rfl | rfl | rfl | rfl | rfl | rfl | rfl | rfl | rfl | rfl | rfl | rfl | rfl | rfl | rfl | rfl | rfl | rfl | rfl | rfl | rfl | rfl | rfl | rfl | rfl | rfl | rfl | rfl | rfl | rfl <;> rfl
theorem wd_objinit : (Cond.code objectInit ⟨#[0xb1]⟩ 1 none) ∈ wA := wd_35
theorem rx_0 : decode prog_32_method_4_code 0 = .ok (.aload_n 0, 1) := by decide +kernel
theorem rx_1 : decode prog_32_method_4_code 1 = .ok (.aload_n 1, 1) := by decide +kernel
theorem rx_2 : decode prog_32_method_4_code 2 = .ok (.invokespecial 13, 3) := by decide +kernel
theorem rx_5 : decode prog_32_method_4_code 5 = .ok (.return_, 1) := by decide +kernel
set_option maxRecDepth 100000 in
theorem at_X10_87 {args : Array Value} {s : State} (ht : ∀ w ∈ wA, w.before args s = true) (h : xS s) : ∀ w ∈ vx_atS RX10 87 "java/lang/IllegalArgumentException" ["java/lang/RuntimeException", "java/lang/Exception"], w.before args s = true := at_of ht h (by decide +kernel)
set_option maxRecDepth 100000 in
theorem ot_X10_83_87 : ∀ w ∈ Cond.classLink RX10 83 "java/lang/IllegalArgumentException" :: Cond.initialized "java/lang/IllegalArgumentException" :: vx_atS RX10 87 "java/lang/IllegalArgumentException" ["java/lang/RuntimeException", "java/lang/Exception"], vx_ot w = true := by decide +kernel
set_option maxRecDepth 100000 in
theorem at_X10_185 {args : Array Value} {s : State} (ht : ∀ w ∈ wA, w.before args s = true) (h : xS s) : ∀ w ∈ vn_at RX10 185 "java/util/NoSuchElementException" 13 prog_32_method_4_code ["java/lang/RuntimeException", "java/lang/Exception"], w.before args s = true := at_of ht h (by decide +kernel)
set_option maxRecDepth 100000 in
theorem ot_X10_181_185 : ∀ w ∈ Cond.classLink RX10 181 "java/util/NoSuchElementException" :: Cond.initialized "java/util/NoSuchElementException" :: vn_at RX10 185 "java/util/NoSuchElementException" 13 prog_32_method_4_code ["java/lang/RuntimeException", "java/lang/Exception"], vx_ot w = true := by decide +kernel
set_option maxRecDepth 100000 in
theorem at_X10_311 {args : Array Value} {s : State} (ht : ∀ w ∈ wA, w.before args s = true) (h : xS s) : ∀ w ∈ vx_atS RX10 311 "java/lang/IllegalStateException" ["java/lang/RuntimeException", "java/lang/Exception"], w.before args s = true := at_of ht h (by decide +kernel)
set_option maxRecDepth 100000 in
theorem ot_X10_307_311 : ∀ w ∈ Cond.classLink RX10 307 "java/lang/IllegalStateException" :: Cond.initialized "java/lang/IllegalStateException" :: vx_atS RX10 311 "java/lang/IllegalStateException" ["java/lang/RuntimeException", "java/lang/Exception"], vx_ot w = true := by decide +kernel
set_option maxRecDepth 100000 in
theorem at_X10_383 {args : Array Value} {s : State} (ht : ∀ w ∈ wA, w.before args s = true) (h : xS s) : ∀ w ∈ vx_atS RX10 383 "java/lang/IndexOutOfBoundsException" ["java/lang/RuntimeException", "java/lang/Exception"], w.before args s = true := at_of ht h (by decide +kernel)
set_option maxRecDepth 100000 in
theorem ot_X10_381_383 : ∀ w ∈ Cond.classLink RX10 381 "java/lang/IndexOutOfBoundsException" :: Cond.initialized "java/lang/IndexOutOfBoundsException" :: vx_atS RX10 383 "java/lang/IndexOutOfBoundsException" ["java/lang/RuntimeException", "java/lang/Exception"], vx_ot w = true := by decide +kernel
