section MM
variable {p : Program} {l : Launch} {e : Env} {s : State} {m : MethodId} {args : Array Value} {below : List Frame} {meth : Method} {c : Code} {A : Nat → Prop} {D : va_G} {cy : Nat → ClassId}
/-! TrueOutlinesModel.mapBy(IJII)J -/
def m_X12_mapBy_328 (n : Nat) (S : q_S) : Option (Int64 × q_S) := some ((0 : Int64), S)
set_option maxHeartbeats 4000000 in
set_option maxRecDepth 100000 in
theorem w_X12_mapBy_328 (X : q_X p s m args c cX12_mapBy 16 RX12 q_T D cy A) (hr : meth.sig.returnType = (some .long)) (hl : meth.locks = false)  {n : Nat} {Sv : q_S} {rv : Int64}  (S : q_S) (h : m_X12_mapBy_328 n S = some (rv, Sv)) : q_W p l e ({ frames := 2, cells := 0, slots := 0, locals := 50 } : Room) s m args below meth c (MQ below (va_Ql (fun (r : Int64) (u : q_S) => r = rv ∧ u = Sv) (q_B D cy A) A) args s 0 0 A) A D cy 16 0 0 S 328 [] [] := by
  unfold m_X12_mapBy_328 at h
  refine q_lconst X (0) (by decide) dX12_mapBy_328 ?_
  obtain ⟨ev, eS⟩ := q_end h
  exact q_lret X hr hl ev eS dX12_mapBy_329
def m_X12_mapBy_419 (n : Nat) (S : q_S) : Option (Int64 × q_S) := some ((0 : Int64), S)
set_option maxHeartbeats 4000000 in
set_option maxRecDepth 100000 in
theorem w_X12_mapBy_419 (X : q_X p s m args c cX12_mapBy 16 RX12 q_T D cy A) (hr : meth.sig.returnType = (some .long)) (hl : meth.locks = false)  {n : Nat} {Sv : q_S} {rv : Int64}  (S : q_S) (h : m_X12_mapBy_419 n S = some (rv, Sv)) : q_W p l e ({ frames := 2, cells := 0, slots := 0, locals := 50 } : Room) s m args below meth c (MQ below (va_Ql (fun (r : Int64) (u : q_S) => r = rv ∧ u = Sv) (q_B D cy A) A) args s 0 0 A) A D cy 16 0 0 S 419 [] [] := by
  unfold m_X12_mapBy_419 at h
  refine q_lconst X (0) (by decide) dX12_mapBy_419 ?_
  obtain ⟨ev, eS⟩ := q_end h
  exact q_lret X hr hl ev eS dX12_mapBy_420
def m_X12_mapBy_489 (n : Nat) (S : q_S) (s0 : Int64) : Option (Int64 × q_S) := some (s0, S)
set_option maxHeartbeats 4000000 in
set_option maxRecDepth 100000 in
theorem w_X12_mapBy_489 (X : q_X p s m args c cX12_mapBy 16 RX12 q_T D cy A) (hr : meth.sig.returnType = (some .long)) (hl : meth.locks = false)  {n : Nat} {Sv : q_S} {rv : Int64}  (S : q_S) (s0 : Int64) (h : m_X12_mapBy_489 n S s0 = some (rv, Sv)) : q_W p l e ({ frames := 2, cells := 0, slots := 0, locals := 50 } : Room) s m args below meth c (MQ below (va_Ql (fun (r : Int64) (u : q_S) => r = rv ∧ u = Sv) (q_B D cy A) A) args s 0 0 A) A D cy 16 0 0 S 489 [] [.long (s0)] := by
  unfold m_X12_mapBy_489 at h
  obtain ⟨ev, eS⟩ := q_end h
  exact q_lret X hr hl ev eS dX12_mapBy_489
def m_X12_mapBy_312 (n : Nat) (S : q_S) (l0 : Option Nat) (l1 : Int32) (l2 : Int64) (l5 : Int32) (l6 : Int32) (l7 : Int32) : Option (Int64 × q_S) := q_at (S) (l0) 13 (fun a1 => (if (q_I (S) a1 8) = 0 then q_if (¬ (2 : Int32) = 0) ((if l7 < (l6 / (2 : Int32)) then q_b (m_X12_two n (S) a1 (l1) (((l2 + (16 : Int64)) + (l6.toInt64)) + ((2 : Int64) * (l7.toInt64)))) (fun r5 S6 => q_at (S6) (l0) 13 (fun a8 => q_b (m_X12_two n (S6) a8 (l1) (((l2 + (16 : Int64)) + ((2 : Int64) * (l6.toInt64))) + ((2 : Int64) * (l7.toInt64)))) (fun r9 S10 => q_at (S10) (l0) 13 (fun a12 => (if (q_I (S10) a12 8) = 0 then (if r5 ≤ l5 then q_b (m_X12_two n (S10) a12 (l1) (((l2 + (16 : Int64)) + ((3 : Int64) * (l6.toInt64))) + ((2 : Int64) * (l7.toInt64)))) (fun r15 S16 => (if r15 = 0 then some (((l5 + r9) &&& (65535 : Int32)).toInt64, S16) else q_at (S16) (l0) 13 (fun a19 => q_b (m_X12_two n (S16) a19 (l1) (((((l2 + (16 : Int64)) + ((3 : Int64) * (l6.toInt64))) + ((2 : Int64) * (l7.toInt64))) + (r15.toInt64)) + ((2 : Int64) * ((l5 - r5).toInt64)))) (fun r20 S21 => (if r20 = 0 then m_X12_mapBy_489 n (S21) ((0 : Int64)) else m_X12_mapBy_489 n (S21) (((r20 + r9) &&& (65535 : Int32)).toInt64)))))) else m_X12_mapBy_419 n (S10)) else m_X12_mapBy_419 n (S10)))))) else m_X12_mapBy_328 n (S))) else m_X12_mapBy_328 n (S)))
set_option maxHeartbeats 4000000 in
set_option maxRecDepth 100000 in
theorem w_X12_mapBy_312 (X : q_X p s m args c cX12_mapBy 16 RX12 q_T D cy A) (hr : meth.sig.returnType = (some .long)) (hl : meth.locks = false)  {n : Nat} {Sv : q_S} {rv : Int64}  (S : q_S) (l0 : Option Nat) (l1 : Int32) (l2 : Int64) (l5 : Int32) (l6 : Int32) (l7 : Int32) (h : m_X12_mapBy_312 n S l0 l1 l2 l5 l6 l7 = some (rv, Sv)) : q_W p l e ({ frames := 2, cells := 0, slots := 0, locals := 50 } : Room) s m args below meth c (MQ below (va_Ql (fun (r : Int64) (u : q_S) => r = rv ∧ u = Sv) (q_B D cy A) A) args s 0 0 A) A D cy 16 0 0 S 312 [(0, va_rf (l0)), (1, .int (l1)), (2, .long (l2)), (5, .int (l5)), (6, .int (l6)), (7, .int (l7))] [] := by
  unfold m_X12_mapBy_312 at h
  refine q_aload_n X 0 rfl dX12_mapBy_312 ?_
  obtain ⟨a1, ea1, ma1, ka1, h⟩ := q_atE h
  refine q_getI X 8 ea1 ma1 ka1 rfl tW_X12 (by decide) (by decide) tF_X12_114 rfl dX12_mapBy_313 ?_
  refine q_if_ne X 328 (by decide) dX12_mapBy_316 (fun g2 => ?_) (fun g2 => ?_)
  · rw [if_neg g2] at h
    refine q_lv [] rfl ?_
    exact w_X12_mapBy_328 X hr hl _ h
  · rw [if_pos g2] at h
    refine q_iload X 5 rfl dX12_mapBy_319 ?_
    refine q_iload X 4 rfl dX12_mapBy_321 ?_
    refine q_iconst X (2) (by decide) dX12_mapBy_323 ?_
    obtain ⟨g3, h⟩ := q_ifE h
    refine q_idiv X g3 dX12_mapBy_324 ?_
    refine q_icmp_lt X 330 (by decide) dX12_mapBy_325 (fun g4 => ?_) (fun g4 => ?_)
    · rw [if_pos g4] at h
      refine q_aload_n X 0 rfl dX12_mapBy_330 ?_
      refine q_iload_n X 1 rfl dX12_mapBy_331 ?_
      refine q_lload_n X 2 rfl dX12_mapBy_332 ?_
      refine q_ldc2_w X (16) tC_X12_267 dX12_mapBy_333 ?_
      refine q_ladd X dX12_mapBy_336 ?_
      refine q_iload X 4 rfl dX12_mapBy_337 ?_
      refine q_i2l X dX12_mapBy_339 ?_
      refine q_ladd X dX12_mapBy_340 ?_
      refine q_ldc2_w X (2) tC_X12_181 dX12_mapBy_341 ?_
      refine q_iload X 5 rfl dX12_mapBy_344 ?_
      refine q_i2l X dX12_mapBy_346 ?_
      refine q_lmul X dX12_mapBy_347 ?_
      refine q_ladd X dX12_mapBy_348 ?_
      obtain ⟨r5, S6, c7, h⟩ := q_bE h
      refine q_cVI X (As := [.int (l1), .long (((l2 + (16 : Int64)) + (l6.toInt64)) + ((2 : Int64) * (l7.toInt64)))]) ea1 ma1 ka1 rfl (by decide) (c_X12_two c7) (q_cwV X tK_X12_two tM_X12_169 tI_X12_two tV_X12_two tN_X12 rfl rfl tD_X12_two ⟨Nat.le_of_ble_eq_true rfl, Nat.le_of_ble_eq_true rfl⟩) rfl rfl (by first | exact Nat.le_of_ble_eq_true rfl | (simp only [List.map, q_catR]; exact Nat.le_of_ble_eq_true rfl)) ⟨Nat.zero_le _, Nat.zero_le _⟩ dX12_mapBy_349 ?_
      refine q_istore X 8 [(8, .int (r5)), (0, va_rf (l0)), (1, .int (l1)), (2, .long (l2)), (5, .int (l5)), (6, .int (l6)), (7, .int (l7))] (by decide) (by first | rfl | simp [List.filter, q_catR]) dX12_mapBy_352 ?_
      refine q_aload_n X 1 rfl dX12_mapBy_354 ?_
      refine q_iload_n X 2 rfl dX12_mapBy_355 ?_
      refine q_lload_n X 3 rfl dX12_mapBy_356 ?_
      refine q_ldc2_w X (16) tC_X12_267 dX12_mapBy_357 ?_
      refine q_ladd X dX12_mapBy_360 ?_
      refine q_ldc2_w X (2) tC_X12_181 dX12_mapBy_361 ?_
      refine q_iload X 5 rfl dX12_mapBy_364 ?_
      refine q_i2l X dX12_mapBy_366 ?_
      refine q_lmul X dX12_mapBy_367 ?_
      refine q_ladd X dX12_mapBy_368 ?_
      refine q_ldc2_w X (2) tC_X12_181 dX12_mapBy_369 ?_
      refine q_iload X 6 rfl dX12_mapBy_372 ?_
      refine q_i2l X dX12_mapBy_374 ?_
      refine q_lmul X dX12_mapBy_375 ?_
      refine q_ladd X dX12_mapBy_376 ?_
      obtain ⟨a8, ea8, ma8, ka8, h⟩ := q_atE h
      obtain ⟨r9, S10, c11, h⟩ := q_bE h
      refine q_cVI X (As := [.int (l1), .long (((l2 + (16 : Int64)) + ((2 : Int64) * (l6.toInt64))) + ((2 : Int64) * (l7.toInt64)))]) ea8 ma8 ka8 rfl (by decide) (c_X12_two c11) (q_cwV X tK_X12_two tM_X12_169 tI_X12_two tV_X12_two tN_X12 rfl rfl tD_X12_two ⟨Nat.le_of_ble_eq_true rfl, Nat.le_of_ble_eq_true rfl⟩) rfl rfl (by first | exact Nat.le_of_ble_eq_true rfl | (simp only [List.map, q_catR]; exact Nat.le_of_ble_eq_true rfl)) ⟨Nat.zero_le _, Nat.zero_le _⟩ dX12_mapBy_377 ?_
      refine q_istore X 9 [(9, .int (r9)), (8, .int (r5)), (0, va_rf (l0)), (1, .int (l1)), (2, .long (l2)), (5, .int (l5)), (6, .int (l6)), (7, .int (l7))] (by decide) (by first | rfl | simp [List.filter, q_catR]) dX12_mapBy_380 ?_
      refine q_lload_n X 4 rfl dX12_mapBy_382 ?_
      refine q_ldc2_w X (16) tC_X12_267 dX12_mapBy_383 ?_
      refine q_ladd X dX12_mapBy_386 ?_
      refine q_ldc2_w X (3) tC_X12_275 dX12_mapBy_387 ?_
      refine q_iload X 6 rfl dX12_mapBy_390 ?_
      refine q_i2l X dX12_mapBy_392 ?_
      refine q_lmul X dX12_mapBy_393 ?_
      refine q_ladd X dX12_mapBy_394 ?_
      refine q_ldc2_w X (2) tC_X12_181 dX12_mapBy_395 ?_
      refine q_iload X 7 rfl dX12_mapBy_398 ?_
      refine q_i2l X dX12_mapBy_400 ?_
      refine q_lmul X dX12_mapBy_401 ?_
      refine q_ladd X dX12_mapBy_402 ?_
      refine q_lstore X 10 [(10, .long (((l2 + (16 : Int64)) + ((3 : Int64) * (l6.toInt64))) + ((2 : Int64) * (l7.toInt64)))), (9, .int (r9)), (8, .int (r5)), (0, va_rf (l0)), (1, .int (l1)), (2, .long (l2)), (5, .int (l5)), (6, .int (l6)), (7, .int (l7))] (by decide) (by first | rfl | simp [List.filter, q_catR]) dX12_mapBy_403 ?_
      refine q_aload_n X 3 rfl dX12_mapBy_405 ?_
      obtain ⟨a12, ea12, ma12, ka12, h⟩ := q_atE h
      refine q_getI X 8 ea12 ma12 ka12 rfl tW_X12 (by decide) (by decide) tF_X12_114 rfl dX12_mapBy_406 ?_
      refine q_if_ne X 419 (by decide) dX12_mapBy_409 (fun g13 => ?_) (fun g13 => ?_)
      · rw [if_neg g13] at h
        refine q_lv [] rfl ?_
        exact w_X12_mapBy_419 X hr hl _ h
      · rw [if_pos g13] at h
        refine q_iload X 2 rfl dX12_mapBy_412 ?_
        refine q_iload X 6 rfl dX12_mapBy_414 ?_
        refine q_icmp_le X 421 (by decide) dX12_mapBy_416 (fun g14 => ?_) (fun g14 => ?_)
        · rw [if_pos g14] at h
          refine q_aload_n X 3 rfl dX12_mapBy_421 ?_
          refine q_iload_n X 4 rfl dX12_mapBy_422 ?_
          refine q_lload X 0 rfl dX12_mapBy_423 ?_
          obtain ⟨r15, S16, c17, h⟩ := q_bE h
          refine q_cVI X (As := [.int (l1), .long (((l2 + (16 : Int64)) + ((3 : Int64) * (l6.toInt64))) + ((2 : Int64) * (l7.toInt64)))]) ea12 ma12 ka12 rfl (by decide) (c_X12_two c17) (q_cwV X tK_X12_two tM_X12_169 tI_X12_two tV_X12_two tN_X12 rfl rfl tD_X12_two ⟨Nat.le_of_ble_eq_true rfl, Nat.le_of_ble_eq_true rfl⟩) rfl rfl (by first | exact Nat.le_of_ble_eq_true rfl | (simp only [List.map, q_catR]; exact Nat.le_of_ble_eq_true rfl)) ⟨Nat.zero_le _, Nat.zero_le _⟩ dX12_mapBy_425 ?_
          refine q_istore X 12 [(12, .int (r15)), (10, .long (((l2 + (16 : Int64)) + ((3 : Int64) * (l6.toInt64))) + ((2 : Int64) * (l7.toInt64)))), (9, .int (r9)), (8, .int (r5)), (0, va_rf (l0)), (1, .int (l1)), (2, .long (l2)), (5, .int (l5)), (6, .int (l6)), (7, .int (l7))] (by decide) (by first | rfl | simp [List.filter, q_catR]) dX12_mapBy_428 ?_
          refine q_iload X 0 rfl dX12_mapBy_430 ?_
          refine q_if_ne X 446 (by decide) dX12_mapBy_432 (fun g18 => ?_) (fun g18 => ?_)
          · rw [if_neg g18] at h
            refine q_aload_n X 4 rfl dX12_mapBy_446 ?_
            refine q_iload_n X 5 rfl dX12_mapBy_447 ?_
            refine q_lload X 1 rfl dX12_mapBy_448 ?_
            refine q_iload X 0 rfl dX12_mapBy_450 ?_
            refine q_i2l X dX12_mapBy_452 ?_
            refine q_ladd X dX12_mapBy_453 ?_
            refine q_ldc2_w X (2) tC_X12_181 dX12_mapBy_454 ?_
            refine q_iload X 7 rfl dX12_mapBy_457 ?_
            refine q_iload X 3 rfl dX12_mapBy_459 ?_
            refine q_isub X dX12_mapBy_461 ?_
            refine q_i2l X dX12_mapBy_462 ?_
            refine q_lmul X dX12_mapBy_463 ?_
            refine q_ladd X dX12_mapBy_464 ?_
            obtain ⟨a19, ea19, ma19, ka19, h⟩ := q_atE h
            obtain ⟨r20, S21, c22, h⟩ := q_bE h
            refine q_cVI X (As := [.int (l1), .long (((((l2 + (16 : Int64)) + ((3 : Int64) * (l6.toInt64))) + ((2 : Int64) * (l7.toInt64))) + (r15.toInt64)) + ((2 : Int64) * ((l5 - r5).toInt64)))]) ea19 ma19 ka19 rfl (by decide) (c_X12_two c22) (q_cwV X tK_X12_two tM_X12_169 tI_X12_two tV_X12_two tN_X12 rfl rfl tD_X12_two ⟨Nat.le_of_ble_eq_true rfl, Nat.le_of_ble_eq_true rfl⟩) rfl rfl (by first | exact Nat.le_of_ble_eq_true rfl | (simp only [List.map, q_catR]; exact Nat.le_of_ble_eq_true rfl)) ⟨Nat.zero_le _, Nat.zero_le _⟩ dX12_mapBy_465 ?_
            refine q_istore X 13 [(13, .int (r20)), (12, .int (r15)), (10, .long (((l2 + (16 : Int64)) + ((3 : Int64) * (l6.toInt64))) + ((2 : Int64) * (l7.toInt64)))), (9, .int (r9)), (8, .int (r5)), (0, va_rf (l0)), (1, .int (l1)), (2, .long (l2)), (5, .int (l5)), (6, .int (l6)), (7, .int (l7))] (by decide) (by first | rfl | simp [List.filter, q_catR]) dX12_mapBy_468 ?_
            refine q_iload X 0 rfl dX12_mapBy_470 ?_
            refine q_if_ne X 479 (by decide) dX12_mapBy_472 (fun g23 => ?_) (fun g23 => ?_)
            · rw [if_neg g23] at h
              refine q_iload X 0 rfl dX12_mapBy_479 ?_
              refine q_iload X 3 rfl dX12_mapBy_481 ?_
              refine q_iadd X dX12_mapBy_483 ?_
              refine q_ldc_w X (65535) tC_X12_277 dX12_mapBy_484 ?_
              refine q_iand X dX12_mapBy_487 ?_
              refine q_i2l X dX12_mapBy_488 ?_
              refine q_lv [] rfl ?_
              exact w_X12_mapBy_489 X hr hl _ _ h
            · rw [if_pos g23] at h
              refine q_lconst X (0) (by decide) dX12_mapBy_475 ?_
              refine q_goto X 489 (by decide) dX12_mapBy_476 ?_
              refine q_lv [] rfl ?_
              exact w_X12_mapBy_489 X hr hl _ _ h
          · rw [if_pos g18] at h
            refine q_iload X 7 rfl dX12_mapBy_435 ?_
            refine q_iload X 2 rfl dX12_mapBy_437 ?_
            refine q_iadd X dX12_mapBy_439 ?_
            refine q_ldc_w X (65535) tC_X12_277 dX12_mapBy_440 ?_
            refine q_iand X dX12_mapBy_443 ?_
            refine q_i2l X dX12_mapBy_444 ?_
            obtain ⟨ev, eS⟩ := q_end h
            exact q_lret X hr hl ev eS dX12_mapBy_445
        · rw [if_neg g14] at h
          refine q_lv [] rfl ?_
          exact w_X12_mapBy_419 X hr hl _ h
    · rw [if_neg g4] at h
      refine q_lv [] rfl ?_
      exact w_X12_mapBy_328 X hr hl _ h
def m_X12_mapBy_267 (n : Nat) : Nat → q_S → Option Nat → Int32 → Int64 → Int32 → Int32 → Int32 → Option (Int64 × q_S)
  | 0, _, _, _, _, _, _, _ => none
  | k + 1, S, l0, l1, l2, l5, l6, l7 => q_if (¬ (2 : Int32) = 0) ((if (l6 / (2 : Int32)) ≤ l7 then m_X12_mapBy_312 n (S) (l0) (l1) (l2) (l5) (l6) (l7) else q_at (S) (l0) 13 (fun a3 => (if (q_I (S) a3 8) = 0 then q_b (m_X12_two n (S) a3 (l1) ((l2 + (14 : Int64)) + ((2 : Int64) * (l7.toInt64)))) (fun r5 S6 => (if l5 ≤ r5 then m_X12_mapBy_312 n (S6) (l0) (l1) (l2) (l5) (l6) (l7) else m_X12_mapBy_267 n k (S6) (l0) (l1) (l2) (l5) (l6) (l7 + (1)))) else m_X12_mapBy_312 n (S) (l0) (l1) (l2) (l5) (l6) (l7)))))
set_option maxHeartbeats 4000000 in
set_option maxRecDepth 100000 in
theorem w_X12_mapBy_267 (X : q_X p s m args c cX12_mapBy 16 RX12 q_T D cy A) (hr : meth.sig.returnType = (some .long)) (hl : meth.locks = false)  {n : Nat} {Sv : q_S} {rv : Int64}  : ∀ (k : Nat) (S : q_S) (l0 : Option Nat) (l1 : Int32) (l2 : Int64) (l5 : Int32) (l6 : Int32) (l7 : Int32), m_X12_mapBy_267 n k S l0 l1 l2 l5 l6 l7 = some (rv, Sv) → q_W p l e ({ frames := 2, cells := 0, slots := 0, locals := 50 } : Room) s m args below meth c (MQ below (va_Ql (fun (r : Int64) (u : q_S) => r = rv ∧ u = Sv) (q_B D cy A) A) args s 0 0 A) A D cy 16 0 0 S 267 [(0, va_rf (l0)), (1, .int (l1)), (2, .long (l2)), (5, .int (l5)), (6, .int (l6)), (7, .int (l7))] [] := by
  intro k
  induction k with
  | zero => intro S l0 l1 l2 l5 l6 l7 h; rw [m_X12_mapBy_267] at h; cases h
  | succ k ih =>
    intro S l0 l1 l2 l5 l6 l7 h
    rw [m_X12_mapBy_267] at h
    refine q_iload X 5 rfl dX12_mapBy_267 ?_
    refine q_iload X 4 rfl dX12_mapBy_269 ?_
    refine q_iconst X (2) (by decide) dX12_mapBy_271 ?_
    obtain ⟨g1, h⟩ := q_ifE h
    refine q_idiv X g1 dX12_mapBy_272 ?_
    refine q_icmp_ge X 312 (by decide) dX12_mapBy_273 (fun g2 => ?_) (fun g2 => ?_)
    · rw [if_pos g2] at h
      exact w_X12_mapBy_312 X hr hl _ _ _ _ _ _ _ h
    · rw [if_neg g2] at h
      refine q_aload_n X 0 rfl dX12_mapBy_276 ?_
      obtain ⟨a3, ea3, ma3, ka3, h⟩ := q_atE h
      refine q_getI X 8 ea3 ma3 ka3 rfl tW_X12 (by decide) (by decide) tF_X12_114 rfl dX12_mapBy_277 ?_
      refine q_if_ne X 312 (by decide) dX12_mapBy_280 (fun g4 => ?_) (fun g4 => ?_)
      · rw [if_neg g4] at h
        exact w_X12_mapBy_312 X hr hl _ _ _ _ _ _ _ h
      · rw [if_pos g4] at h
        refine q_aload_n X 0 rfl dX12_mapBy_283 ?_
        refine q_iload_n X 1 rfl dX12_mapBy_284 ?_
        refine q_lload_n X 2 rfl dX12_mapBy_285 ?_
        refine q_ldc2_w X (14) tC_X12_273 dX12_mapBy_286 ?_
        refine q_ladd X dX12_mapBy_289 ?_
        refine q_ldc2_w X (2) tC_X12_181 dX12_mapBy_290 ?_
        refine q_iload X 5 rfl dX12_mapBy_293 ?_
        refine q_i2l X dX12_mapBy_295 ?_
        refine q_lmul X dX12_mapBy_296 ?_
        refine q_ladd X dX12_mapBy_297 ?_
        obtain ⟨r5, S6, c7, h⟩ := q_bE h
        refine q_cVI X (As := [.int (l1), .long ((l2 + (14 : Int64)) + ((2 : Int64) * (l7.toInt64)))]) ea3 ma3 ka3 rfl (by decide) (c_X12_two c7) (q_cwV X tK_X12_two tM_X12_169 tI_X12_two tV_X12_two tN_X12 rfl rfl tD_X12_two ⟨Nat.le_of_ble_eq_true rfl, Nat.le_of_ble_eq_true rfl⟩) rfl rfl (by first | exact Nat.le_of_ble_eq_true rfl | (simp only [List.map, q_catR]; exact Nat.le_of_ble_eq_true rfl)) ⟨Nat.zero_le _, Nat.zero_le _⟩ dX12_mapBy_298 ?_
        refine q_iload X 3 rfl dX12_mapBy_301 ?_
        refine q_icmp_ge X 312 (by decide) dX12_mapBy_303 (fun g8 => ?_) (fun g8 => ?_)
        · rw [if_pos g8] at h
          exact w_X12_mapBy_312 X hr hl _ _ _ _ _ _ _ h
        · rw [if_neg g8] at h
          refine q_iinc X 7 5 (l7 + (1)) [(7, .int (l7 + (1))), (0, va_rf (l0)), (1, .int (l1)), (2, .long (l2)), (5, .int (l5)), (6, .int (l6))] rfl (congrArg (fun z => l7 + z) (show Int32.ofInt (1) = (1) by decide)) (by decide) (by first | rfl | simp [List.filter, q_catR]) dX12_mapBy_306 ?_
          refine q_goto X 267 (by decide) dX12_mapBy_309 ?_
          refine q_lv [1, 2, 3, 4, 5, 0] rfl ?_
          exact ih _ _ _ _ _ _ _ h
def m_X12_mapBy_250 (n : Nat) (S : q_S) : Option (Int64 × q_S) := some ((0 : Int64), S)
set_option maxHeartbeats 4000000 in
set_option maxRecDepth 100000 in
theorem w_X12_mapBy_250 (X : q_X p s m args c cX12_mapBy 16 RX12 q_T D cy A) (hr : meth.sig.returnType = (some .long)) (hl : meth.locks = false)  {n : Nat} {Sv : q_S} {rv : Int64}  (S : q_S) (h : m_X12_mapBy_250 n S = some (rv, Sv)) : q_W p l e ({ frames := 2, cells := 0, slots := 0, locals := 50 } : Room) s m args below meth c (MQ below (va_Ql (fun (r : Int64) (u : q_S) => r = rv ∧ u = Sv) (q_B D cy A) A) args s 0 0 A) A D cy 16 0 0 S 250 [] [] := by
  unfold m_X12_mapBy_250 at h
  refine q_lconst X (0) (by decide) dX12_mapBy_250 ?_
  obtain ⟨ev, eS⟩ := q_end h
  exact q_lret X hr hl ev eS dX12_mapBy_251
def m_X12_mapBy_241 (n : Nat) (k131 : q_S → Option Nat → Int32 → Int64 → Int32 → Int64 → Int64 → Option (Int64 × q_S)) (S : q_S) (l0 : Option Nat) (l1 : Int32) (l2 : Int64) (l5 : Int32) (l6 : Int64) (l8 : Int64) : Option (Int64 × q_S) := k131 (S) (l0) (l1) (l2) (l5) (l6) (l8 + (1 : Int64))
set_option maxHeartbeats 4000000 in
set_option maxRecDepth 100000 in
theorem w_X12_mapBy_241 (X : q_X p s m args c cX12_mapBy 16 RX12 q_T D cy A) (hr : meth.sig.returnType = (some .long)) (hl : meth.locks = false)  {n : Nat} {Sv : q_S} {rv : Int64}  {k131 : q_S → Option Nat → Int32 → Int64 → Int32 → Int64 → Int64 → Option (Int64 × q_S)} (hk131 : ∀ (S : q_S) (z0 : Option Nat) (z1 : Int32) (z2 : Int64) (z3 : Int32) (z4 : Int64) (z5 : Int64), k131 S z0 z1 z2 z3 z4 z5 = some (rv, Sv) → q_W p l e ({ frames := 2, cells := 0, slots := 0, locals := 50 } : Room) s m args below meth c (MQ below (va_Ql (fun (r : Int64) (u : q_S) => r = rv ∧ u = Sv) (q_B D cy A) A) args s 0 0 A) A D cy 16 0 0 S 131 [(0, va_rf (z0)), (1, .int (z1)), (2, .long (z2)), (5, .int (z3)), (6, .long (z4)), (8, .long (z5))] []) (S : q_S) (l0 : Option Nat) (l1 : Int32) (l2 : Int64) (l5 : Int32) (l6 : Int64) (l8 : Int64) (h : m_X12_mapBy_241 n k131 S l0 l1 l2 l5 l6 l8 = some (rv, Sv)) : q_W p l e ({ frames := 2, cells := 0, slots := 0, locals := 50 } : Room) s m args below meth c (MQ below (va_Ql (fun (r : Int64) (u : q_S) => r = rv ∧ u = Sv) (q_B D cy A) A) args s 0 0 A) A D cy 16 0 0 S 241 [(0, va_rf (l0)), (1, .int (l1)), (2, .long (l2)), (5, .int (l5)), (6, .long (l6)), (8, .long (l8))] [] := by
  unfold m_X12_mapBy_241 at h
  refine q_lload X 5 rfl dX12_mapBy_241 ?_
  refine q_lconst X (1) (by decide) dX12_mapBy_243 ?_
  refine q_ladd X dX12_mapBy_244 ?_
  refine q_lstore X 8 [(8, .long (l8 + (1 : Int64))), (0, va_rf (l0)), (1, .int (l1)), (2, .long (l2)), (5, .int (l5)), (6, .long (l6))] (by decide) (by first | rfl | simp [List.filter, q_catR]) dX12_mapBy_245 ?_
  refine q_goto X 131 (by decide) dX12_mapBy_247 ?_
  refine q_lv [1, 2, 3, 4, 5, 0] rfl ?_
  exact hk131 _ _ _ _ _ _ _ h
def m_X12_mapBy_131 (n : Nat) : Nat → q_S → Option Nat → Int32 → Int64 → Int32 → Int64 → Int64 → Option (Int64 × q_S)
  | 0, _, _, _, _, _, _, _ => none
  | k + 1, S, l0, l1, l2, l5, l6, l8 => (if 0 ≤ (lg_cmp (l8) (l6)) then m_X12_mapBy_250 n (S) else q_at (S) (l0) 13 (fun a2 => (if (q_I (S) a2 8) = 0 then q_b (m_X12_number n (S) a2 (l1) ((l2 + (16 : Int64)) + ((12 : Int64) * l8)) ((4 : Int32))) (fun r4 S5 => q_at (S5) (l0) 13 (fun a7 => q_b (m_X12_number n (S5) a7 (l1) ((l2 + (20 : Int64)) + ((12 : Int64) * l8)) ((4 : Int32))) (fun r8 S9 => q_at (S9) (l0) 13 (fun a11 => q_b (m_X12_number n (S9) a11 (l1) ((l2 + (24 : Int64)) + ((12 : Int64) * l8)) ((4 : Int32))) (fun r12 S13 => q_at (S13) (l0) 13 (fun a15 => (if (q_I (S13) a15 8) = 0 then (if (lg_cmp ((l5.toInt64)) (r4)) < 0 then m_X12_mapBy_241 n (m_X12_mapBy_131 n k) (S13) (l0) (l1) (l2) (l5) (l6) (l8) else (if 0 < (lg_cmp ((l5.toInt64)) (r8)) then m_X12_mapBy_241 n (m_X12_mapBy_131 n k) (S13) (l0) (l1) (l2) (l5) (l6) (l8) else some ((r12 + (l5.toInt64)) - r4, S13))) else m_X12_mapBy_241 n (m_X12_mapBy_131 n k) (S13) (l0) (l1) (l2) (l5) (l6) (l8)))))))) else m_X12_mapBy_250 n (S))))
set_option maxHeartbeats 4000000 in
set_option maxRecDepth 100000 in
theorem w_X12_mapBy_131 (X : q_X p s m args c cX12_mapBy 16 RX12 q_T D cy A) (hr : meth.sig.returnType = (some .long)) (hl : meth.locks = false)  {n : Nat} {Sv : q_S} {rv : Int64}  : ∀ (k : Nat) (S : q_S) (l0 : Option Nat) (l1 : Int32) (l2 : Int64) (l5 : Int32) (l6 : Int64) (l8 : Int64), m_X12_mapBy_131 n k S l0 l1 l2 l5 l6 l8 = some (rv, Sv) → q_W p l e ({ frames := 2, cells := 0, slots := 0, locals := 50 } : Room) s m args below meth c (MQ below (va_Ql (fun (r : Int64) (u : q_S) => r = rv ∧ u = Sv) (q_B D cy A) A) args s 0 0 A) A D cy 16 0 0 S 131 [(0, va_rf (l0)), (1, .int (l1)), (2, .long (l2)), (5, .int (l5)), (6, .long (l6)), (8, .long (l8))] [] := by
  intro k
  induction k with
  | zero => intro S l0 l1 l2 l5 l6 l8 h; rw [m_X12_mapBy_131] at h; cases h
  | succ k ih =>
    intro S l0 l1 l2 l5 l6 l8 h
    rw [m_X12_mapBy_131] at h
    refine q_lload X 5 rfl dX12_mapBy_131 ?_
    refine q_lload X 4 rfl dX12_mapBy_133 ?_
    refine q_lcmp X dX12_mapBy_135 ?_
    refine q_if_ge X 250 (by decide) dX12_mapBy_136 (fun g1 => ?_) (fun g1 => ?_)
    · rw [if_pos g1] at h
      refine q_lv [] rfl ?_
      exact w_X12_mapBy_250 X hr hl _ h
    · rw [if_neg g1] at h
      refine q_aload_n X 0 rfl dX12_mapBy_139 ?_
      obtain ⟨a2, ea2, ma2, ka2, h⟩ := q_atE h
      refine q_getI X 8 ea2 ma2 ka2 rfl tW_X12 (by decide) (by decide) tF_X12_114 rfl dX12_mapBy_140 ?_
      refine q_if_ne X 250 (by decide) dX12_mapBy_143 (fun g3 => ?_) (fun g3 => ?_)
      · rw [if_neg g3] at h
        refine q_lv [] rfl ?_
        exact w_X12_mapBy_250 X hr hl _ h
      · rw [if_pos g3] at h
        refine q_aload_n X 0 rfl dX12_mapBy_146 ?_
        refine q_iload_n X 1 rfl dX12_mapBy_147 ?_
        refine q_lload_n X 2 rfl dX12_mapBy_148 ?_
        refine q_ldc2_w X (16) tC_X12_267 dX12_mapBy_149 ?_
        refine q_ladd X dX12_mapBy_152 ?_
        refine q_ldc2_w X (12) tC_X12_265 dX12_mapBy_153 ?_
        refine q_lload X 5 rfl dX12_mapBy_156 ?_
        refine q_lmul X dX12_mapBy_158 ?_
        refine q_ladd X dX12_mapBy_159 ?_
        refine q_iconst X (4) (by decide) dX12_mapBy_160 ?_
        obtain ⟨r4, S5, c6, h⟩ := q_bE h
        refine q_cVJ X (As := [.int (l1), .long ((l2 + (16 : Int64)) + ((12 : Int64) * l8)), .int ((4 : Int32))]) ea2 ma2 ka2 rfl (by decide) (c_X12_number c6) (q_cwV X tK_X12_number tM_X12_120 tI_X12_number tV_X12_number tN_X12 rfl rfl tD_X12_number ⟨Nat.le_of_ble_eq_true rfl, Nat.le_of_ble_eq_true rfl⟩) rfl rfl (by first | exact Nat.le_of_ble_eq_true rfl | (simp only [List.map, q_catR]; exact Nat.le_of_ble_eq_true rfl)) ⟨Nat.zero_le _, Nat.zero_le _⟩ dX12_mapBy_161 ?_
        refine q_lstore X 10 [(10, .long (r4)), (0, va_rf (l0)), (1, .int (l1)), (2, .long (l2)), (5, .int (l5)), (6, .long (l6)), (8, .long (l8))] (by decide) (by first | rfl | simp [List.filter, q_catR]) dX12_mapBy_164 ?_
        refine q_aload_n X 1 rfl dX12_mapBy_166 ?_
        refine q_iload_n X 2 rfl dX12_mapBy_167 ?_
        refine q_lload_n X 3 rfl dX12_mapBy_168 ?_
        refine q_ldc2_w X (20) tC_X12_269 dX12_mapBy_169 ?_
        refine q_ladd X dX12_mapBy_172 ?_
        refine q_ldc2_w X (12) tC_X12_265 dX12_mapBy_173 ?_
        refine q_lload X 6 rfl dX12_mapBy_176 ?_
        refine q_lmul X dX12_mapBy_178 ?_
        refine q_ladd X dX12_mapBy_179 ?_
        refine q_iconst X (4) (by decide) dX12_mapBy_180 ?_
        obtain ⟨a7, ea7, ma7, ka7, h⟩ := q_atE h
        obtain ⟨r8, S9, c10, h⟩ := q_bE h
        refine q_cVJ X (As := [.int (l1), .long ((l2 + (20 : Int64)) + ((12 : Int64) * l8)), .int ((4 : Int32))]) ea7 ma7 ka7 rfl (by decide) (c_X12_number c10) (q_cwV X tK_X12_number tM_X12_120 tI_X12_number tV_X12_number tN_X12 rfl rfl tD_X12_number ⟨Nat.le_of_ble_eq_true rfl, Nat.le_of_ble_eq_true rfl⟩) rfl rfl (by first | exact Nat.le_of_ble_eq_true rfl | (simp only [List.map, q_catR]; exact Nat.le_of_ble_eq_true rfl)) ⟨Nat.zero_le _, Nat.zero_le _⟩ dX12_mapBy_181 ?_
        refine q_lstore X 12 [(12, .long (r8)), (10, .long (r4)), (0, va_rf (l0)), (1, .int (l1)), (2, .long (l2)), (5, .int (l5)), (6, .long (l6)), (8, .long (l8))] (by decide) (by first | rfl | simp [List.filter, q_catR]) dX12_mapBy_184 ?_
        refine q_aload_n X 2 rfl dX12_mapBy_186 ?_
        refine q_iload_n X 3 rfl dX12_mapBy_187 ?_
        refine q_lload_n X 4 rfl dX12_mapBy_188 ?_
        refine q_ldc2_w X (24) tC_X12_271 dX12_mapBy_189 ?_
        refine q_ladd X dX12_mapBy_192 ?_
        refine q_ldc2_w X (12) tC_X12_265 dX12_mapBy_193 ?_
        refine q_lload X 7 rfl dX12_mapBy_196 ?_
        refine q_lmul X dX12_mapBy_198 ?_
        refine q_ladd X dX12_mapBy_199 ?_
        refine q_iconst X (4) (by decide) dX12_mapBy_200 ?_
        obtain ⟨a11, ea11, ma11, ka11, h⟩ := q_atE h
        obtain ⟨r12, S13, c14, h⟩ := q_bE h
        refine q_cVJ X (As := [.int (l1), .long ((l2 + (24 : Int64)) + ((12 : Int64) * l8)), .int ((4 : Int32))]) ea11 ma11 ka11 rfl (by decide) (c_X12_number c14) (q_cwV X tK_X12_number tM_X12_120 tI_X12_number tV_X12_number tN_X12 rfl rfl tD_X12_number ⟨Nat.le_of_ble_eq_true rfl, Nat.le_of_ble_eq_true rfl⟩) rfl rfl (by first | exact Nat.le_of_ble_eq_true rfl | (simp only [List.map, q_catR]; exact Nat.le_of_ble_eq_true rfl)) ⟨Nat.zero_le _, Nat.zero_le _⟩ dX12_mapBy_201 ?_
        refine q_lstore X 14 [(14, .long (r12)), (12, .long (r8)), (10, .long (r4)), (0, va_rf (l0)), (1, .int (l1)), (2, .long (l2)), (5, .int (l5)), (6, .long (l6)), (8, .long (l8))] (by decide) (by first | rfl | simp [List.filter, q_catR]) dX12_mapBy_204 ?_
        refine q_aload_n X 3 rfl dX12_mapBy_206 ?_
        obtain ⟨a15, ea15, ma15, ka15, h⟩ := q_atE h
        refine q_getI X 8 ea15 ma15 ka15 rfl tW_X12 (by decide) (by decide) tF_X12_114 rfl dX12_mapBy_207 ?_
        refine q_if_ne X 241 (by decide) dX12_mapBy_210 (fun g16 => ?_) (fun g16 => ?_)
        · rw [if_neg g16] at h
          refine q_lv [3, 4, 5, 6, 7, 8] rfl ?_
          exact w_X12_mapBy_241 X hr hl ih _ _ _ _ _ _ _ h
        · rw [if_pos g16] at h
          refine q_iload X 6 rfl dX12_mapBy_213 ?_
          refine q_i2l X dX12_mapBy_215 ?_
          refine q_lload X 2 rfl dX12_mapBy_216 ?_
          refine q_lcmp X dX12_mapBy_218 ?_
          refine q_if_lt X 241 (by decide) dX12_mapBy_219 (fun g17 => ?_) (fun g17 => ?_)
          · rw [if_pos g17] at h
            refine q_lv [3, 4, 5, 6, 7, 8] rfl ?_
            exact w_X12_mapBy_241 X hr hl ih _ _ _ _ _ _ _ h
          · rw [if_neg g17] at h
            refine q_iload X 6 rfl dX12_mapBy_222 ?_
            refine q_i2l X dX12_mapBy_224 ?_
            refine q_lload X 1 rfl dX12_mapBy_225 ?_
            refine q_lcmp X dX12_mapBy_227 ?_
            refine q_if_gt X 241 (by decide) dX12_mapBy_228 (fun g18 => ?_) (fun g18 => ?_)
            · rw [if_pos g18] at h
              refine q_lv [3, 4, 5, 6, 7, 8] rfl ?_
              exact w_X12_mapBy_241 X hr hl ih _ _ _ _ _ _ _ h
            · rw [if_neg g18] at h
              refine q_lload X 0 rfl dX12_mapBy_231 ?_
              refine q_iload X 6 rfl dX12_mapBy_233 ?_
              refine q_i2l X dX12_mapBy_235 ?_
              refine q_ladd X dX12_mapBy_236 ?_
              refine q_lload X 2 rfl dX12_mapBy_237 ?_
              refine q_lsub X dX12_mapBy_239 ?_
              obtain ⟨ev, eS⟩ := q_end h
              exact q_lret X hr hl ev eS dX12_mapBy_240
def m_X12_mapBy_107 (n : Nat) (S : q_S) (s0 : Int64) : Option (Int64 × q_S) := some (s0, S)
set_option maxHeartbeats 4000000 in
set_option maxRecDepth 100000 in
theorem w_X12_mapBy_107 (X : q_X p s m args c cX12_mapBy 16 RX12 q_T D cy A) (hr : meth.sig.returnType = (some .long)) (hl : meth.locks = false)  {n : Nat} {Sv : q_S} {rv : Int64}  (S : q_S) (s0 : Int64) (h : m_X12_mapBy_107 n S s0 = some (rv, Sv)) : q_W p l e ({ frames := 2, cells := 0, slots := 0, locals := 50 } : Room) s m args below meth c (MQ below (va_Ql (fun (r : Int64) (u : q_S) => r = rv ∧ u = Sv) (q_B D cy A) A) args s 0 0 A) A D cy 16 0 0 S 107 [] [.long (s0)] := by
  unfold m_X12_mapBy_107 at h
  obtain ⟨ev, eS⟩ := q_end h
  exact q_lret X hr hl ev eS dX12_mapBy_107
def m_X12_mapBy_106 (n : Nat) (S : q_S) : Option (Int64 × q_S) := m_X12_mapBy_107 n (S) ((0 : Int64))
set_option maxHeartbeats 4000000 in
set_option maxRecDepth 100000 in
theorem w_X12_mapBy_106 (X : q_X p s m args c cX12_mapBy 16 RX12 q_T D cy A) (hr : meth.sig.returnType = (some .long)) (hl : meth.locks = false)  {n : Nat} {Sv : q_S} {rv : Int64}  (S : q_S) (h : m_X12_mapBy_106 n S = some (rv, Sv)) : q_W p l e ({ frames := 2, cells := 0, slots := 0, locals := 50 } : Room) s m args below meth c (MQ below (va_Ql (fun (r : Int64) (u : q_S) => r = rv ∧ u = Sv) (q_B D cy A) A) args s 0 0 A) A D cy 16 0 0 S 106 [] [] := by
  unfold m_X12_mapBy_106 at h
  refine q_lconst X (0) (by decide) dX12_mapBy_106 ?_
  exact w_X12_mapBy_107 X hr hl _ _ h
def m_X12_mapBy_32 (n : Nat) (S : q_S) (s0 : Int64) : Option (Int64 × q_S) := some (s0, S)
set_option maxHeartbeats 4000000 in
set_option maxRecDepth 100000 in
theorem w_X12_mapBy_32 (X : q_X p s m args c cX12_mapBy 16 RX12 q_T D cy A) (hr : meth.sig.returnType = (some .long)) (hl : meth.locks = false)  {n : Nat} {Sv : q_S} {rv : Int64}  (S : q_S) (s0 : Int64) (h : m_X12_mapBy_32 n S s0 = some (rv, Sv)) : q_W p l e ({ frames := 2, cells := 0, slots := 0, locals := 50 } : Room) s m args below meth c (MQ below (va_Ql (fun (r : Int64) (u : q_S) => r = rv ∧ u = Sv) (q_B D cy A) A) args s 0 0 A) A D cy 16 0 0 S 32 [] [.long (s0)] := by
  unfold m_X12_mapBy_32 at h
  obtain ⟨ev, eS⟩ := q_end h
  exact q_lret X hr hl ev eS dX12_mapBy_32
def m_X12_mapBy (n : Nat) (S : q_S) (o : Nat) (p0 : Int32) (p1 : Int64) (p2 : Int32) (p3 : Int32) : Option (Int64 × q_S) := (if p2 = 0 then (if (256 : Int32) ≤ p3 then m_X12_mapBy_32 n (S) ((0 : Int64)) else q_at (S) (some o) 13 (fun a27 => q_b (m_X12_number n (S) a27 (p0) ((p1 + (6 : Int64)) + (p3.toInt64)) ((1 : Int32))) (fun r28 S29 => m_X12_mapBy_32 n (S29) (r28)))) else (if p2 = (6 : Int32) then q_at (S) (some o) 13 (fun a12 => q_b (m_X12_two n (S) a12 (p0) (p1 + (6 : Int64))) (fun r13 S14 => q_at (S14) (some o) 13 (fun a16 => q_b (m_X12_two n (S14) a16 (p0) (p1 + (8 : Int64))) (fun r17 S18 => (if p3 < r13 then m_X12_mapBy_106 n (S18) else (if (r13 + r17) ≤ p3 then m_X12_mapBy_106 n (S18) else q_at (S18) (some o) 13 (fun a22 => q_b (m_X12_two n (S18) a22 (p0) ((p1 + (10 : Int64)) + ((2 : Int64) * ((p3 - r13).toInt64)))) (fun r23 S24 => m_X12_mapBy_107 n (S24) (r23.toInt64))))))))) else (if p2 = (12 : Int32) then q_at (S) (some o) 13 (fun a8 => q_b (m_X12_number n (S) a8 (p0) (p1 + (12 : Int64)) ((4 : Int32))) (fun r9 S10 => m_X12_mapBy_131 n n (S10) (some o) (p0) (p1) (p3) (r9) ((0 : Int64)))) else q_at (S) (some o) 13 (fun a4 => q_b (m_X12_two n (S) a4 (p0) (p1 + (6 : Int64))) (fun r5 S6 => m_X12_mapBy_267 n n (S6) (some o) (p0) (p1) (p3) (r5) ((0 : Int32)))))))
set_option maxHeartbeats 4000000 in
set_option maxRecDepth 100000 in
theorem w_X12_mapBy (X : q_X p s m args c cX12_mapBy 16 RX12 q_T D cy A) (hr : meth.sig.returnType = (some .long)) (hl : meth.locks = false)  {n : Nat} {S Sv : q_S} {rv : Int64} {o : Nat} {p0 : Int32} {p1 : Int64} {p2 : Int32} {p3 : Int32} (h : m_X12_mapBy n S o p0 p1 p2 p3 = some (rv, Sv)) : q_W p l e ({ frames := 2, cells := 0, slots := 0, locals := 50 } : Room) s m args below meth c (MQ below (va_Ql (fun (r : Int64) (u : q_S) => r = rv ∧ u = Sv) (q_B D cy A) A) args s 0 0 A) A D cy 16 0 0 S 0 [(0, va_rf (some o)), (1, .int (p0)), (2, .long (p1)), (4, .int (p2)), (5, .int (p3))] [] := by
  unfold m_X12_mapBy at h
  refine q_iload X 3 rfl dX12_mapBy_0 ?_
  refine q_if_ne X 33 (by decide) dX12_mapBy_2 (fun g1 => ?_) (fun g1 => ?_)
  · rw [if_neg g1] at h
    refine q_iload X 3 rfl dX12_mapBy_33 ?_
    refine q_bipush X (6) (by decide) dX12_mapBy_35 ?_
    refine q_icmp_ne X 108 (by decide) dX12_mapBy_37 (fun g2 => ?_) (fun g2 => ?_)
    · rw [if_neg g2] at h
      refine q_iload X 3 rfl dX12_mapBy_108 ?_
      refine q_bipush X (12) (by decide) dX12_mapBy_110 ?_
      refine q_icmp_ne X 252 (by decide) dX12_mapBy_112 (fun g3 => ?_) (fun g3 => ?_)
      · rw [if_neg g3] at h
        refine q_aload_n X 0 rfl dX12_mapBy_252 ?_
        refine q_iload_n X 1 rfl dX12_mapBy_253 ?_
        refine q_lload_n X 2 rfl dX12_mapBy_254 ?_
        refine q_ldc2_w X (6) tC_X12_261 dX12_mapBy_255 ?_
        refine q_ladd X dX12_mapBy_258 ?_
        obtain ⟨a4, ea4, ma4, ka4, h⟩ := q_atE h
        obtain ⟨r5, S6, c7, h⟩ := q_bE h
        refine q_cVI X (As := [.int (p0), .long (p1 + (6 : Int64))]) ea4 ma4 ka4 rfl (by decide) (c_X12_two c7) (q_cwV X tK_X12_two tM_X12_169 tI_X12_two tV_X12_two tN_X12 rfl rfl tD_X12_two ⟨Nat.le_of_ble_eq_true rfl, Nat.le_of_ble_eq_true rfl⟩) rfl rfl (by first | exact Nat.le_of_ble_eq_true rfl | (simp only [List.map, q_catR]; exact Nat.le_of_ble_eq_true rfl)) ⟨Nat.zero_le _, Nat.zero_le _⟩ dX12_mapBy_259 ?_
        refine q_istore X 6 [(6, .int (r5)), (0, va_rf (some o)), (1, .int (p0)), (2, .long (p1)), (4, .int (p2)), (5, .int (p3))] (by decide) (by first | rfl | simp [List.filter, q_catR]) dX12_mapBy_262 ?_
        refine q_iconst X (0) (by decide) dX12_mapBy_264 ?_
        refine q_istore X 7 [(7, .int ((0 : Int32))), (6, .int (r5)), (0, va_rf (some o)), (1, .int (p0)), (2, .long (p1)), (4, .int (p2)), (5, .int (p3))] (by decide) (by first | rfl | simp [List.filter, q_catR]) dX12_mapBy_265 ?_
        refine q_lv [2, 3, 4, 6, 1, 0] rfl ?_
        exact w_X12_mapBy_267 X hr hl n _ _ _ _ _ _ _ h
      · rw [if_pos g3] at h
        refine q_aload_n X 0 rfl dX12_mapBy_115 ?_
        refine q_iload_n X 1 rfl dX12_mapBy_116 ?_
        refine q_lload_n X 2 rfl dX12_mapBy_117 ?_
        refine q_ldc2_w X (12) tC_X12_265 dX12_mapBy_118 ?_
        refine q_ladd X dX12_mapBy_121 ?_
        refine q_iconst X (4) (by decide) dX12_mapBy_122 ?_
        obtain ⟨a8, ea8, ma8, ka8, h⟩ := q_atE h
        obtain ⟨r9, S10, c11, h⟩ := q_bE h
        refine q_cVJ X (As := [.int (p0), .long (p1 + (12 : Int64)), .int ((4 : Int32))]) ea8 ma8 ka8 rfl (by decide) (c_X12_number c11) (q_cwV X tK_X12_number tM_X12_120 tI_X12_number tV_X12_number tN_X12 rfl rfl tD_X12_number ⟨Nat.le_of_ble_eq_true rfl, Nat.le_of_ble_eq_true rfl⟩) rfl rfl (by first | exact Nat.le_of_ble_eq_true rfl | (simp only [List.map, q_catR]; exact Nat.le_of_ble_eq_true rfl)) ⟨Nat.zero_le _, Nat.zero_le _⟩ dX12_mapBy_123 ?_
        refine q_lstore X 6 [(6, .long (r9)), (0, va_rf (some o)), (1, .int (p0)), (2, .long (p1)), (4, .int (p2)), (5, .int (p3))] (by decide) (by first | rfl | simp [List.filter, q_catR]) dX12_mapBy_126 ?_
        refine q_lconst X (0) (by decide) dX12_mapBy_128 ?_
        refine q_lstore X 8 [(8, .long ((0 : Int64))), (6, .long (r9)), (0, va_rf (some o)), (1, .int (p0)), (2, .long (p1)), (4, .int (p2)), (5, .int (p3))] (by decide) (by first | rfl | simp [List.filter, q_catR]) dX12_mapBy_129 ?_
        refine q_lv [2, 3, 4, 6, 1, 0] rfl ?_
        exact w_X12_mapBy_131 X hr hl n _ _ _ _ _ _ _ h
    · rw [if_pos g2] at h
      refine q_aload_n X 0 rfl dX12_mapBy_40 ?_
      refine q_iload_n X 1 rfl dX12_mapBy_41 ?_
      refine q_lload_n X 2 rfl dX12_mapBy_42 ?_
      refine q_ldc2_w X (6) tC_X12_261 dX12_mapBy_43 ?_
      refine q_ladd X dX12_mapBy_46 ?_
      obtain ⟨a12, ea12, ma12, ka12, h⟩ := q_atE h
      obtain ⟨r13, S14, c15, h⟩ := q_bE h
      refine q_cVI X (As := [.int (p0), .long (p1 + (6 : Int64))]) ea12 ma12 ka12 rfl (by decide) (c_X12_two c15) (q_cwV X tK_X12_two tM_X12_169 tI_X12_two tV_X12_two tN_X12 rfl rfl tD_X12_two ⟨Nat.le_of_ble_eq_true rfl, Nat.le_of_ble_eq_true rfl⟩) rfl rfl (by first | exact Nat.le_of_ble_eq_true rfl | (simp only [List.map, q_catR]; exact Nat.le_of_ble_eq_true rfl)) ⟨Nat.zero_le _, Nat.zero_le _⟩ dX12_mapBy_47 ?_
      refine q_istore X 6 [(6, .int (r13)), (0, va_rf (some o)), (1, .int (p0)), (2, .long (p1)), (4, .int (p2)), (5, .int (p3))] (by decide) (by first | rfl | simp [List.filter, q_catR]) dX12_mapBy_50 ?_
      refine q_aload_n X 1 rfl dX12_mapBy_52 ?_
      refine q_iload_n X 2 rfl dX12_mapBy_53 ?_
      refine q_lload_n X 3 rfl dX12_mapBy_54 ?_
      refine q_ldc2_w X (8) tC_X12_100 dX12_mapBy_55 ?_
      refine q_ladd X dX12_mapBy_58 ?_
      obtain ⟨a16, ea16, ma16, ka16, h⟩ := q_atE h
      obtain ⟨r17, S18, c19, h⟩ := q_bE h
      refine q_cVI X (As := [.int (p0), .long (p1 + (8 : Int64))]) ea16 ma16 ka16 rfl (by decide) (c_X12_two c19) (q_cwV X tK_X12_two tM_X12_169 tI_X12_two tV_X12_two tN_X12 rfl rfl tD_X12_two ⟨Nat.le_of_ble_eq_true rfl, Nat.le_of_ble_eq_true rfl⟩) rfl rfl (by first | exact Nat.le_of_ble_eq_true rfl | (simp only [List.map, q_catR]; exact Nat.le_of_ble_eq_true rfl)) ⟨Nat.zero_le _, Nat.zero_le _⟩ dX12_mapBy_59 ?_
      refine q_istore X 7 [(7, .int (r17)), (6, .int (r13)), (0, va_rf (some o)), (1, .int (p0)), (2, .long (p1)), (4, .int (p2)), (5, .int (p3))] (by decide) (by first | rfl | simp [List.filter, q_catR]) dX12_mapBy_62 ?_
      refine q_iload X 6 rfl dX12_mapBy_64 ?_
      refine q_iload X 1 rfl dX12_mapBy_66 ?_
      refine q_icmp_lt X 106 (by decide) dX12_mapBy_68 (fun g20 => ?_) (fun g20 => ?_)
      · rw [if_pos g20] at h
        refine q_lv [] rfl ?_
        exact w_X12_mapBy_106 X hr hl _ h
      · rw [if_neg g20] at h
        refine q_iload X 6 rfl dX12_mapBy_71 ?_
        refine q_iload X 1 rfl dX12_mapBy_73 ?_
        refine q_iload X 0 rfl dX12_mapBy_75 ?_
        refine q_iadd X dX12_mapBy_77 ?_
        refine q_icmp_ge X 106 (by decide) dX12_mapBy_78 (fun g21 => ?_) (fun g21 => ?_)
        · rw [if_pos g21] at h
          refine q_lv [] rfl ?_
          exact w_X12_mapBy_106 X hr hl _ h
        · rw [if_neg g21] at h
          refine q_aload_n X 2 rfl dX12_mapBy_81 ?_
          refine q_iload_n X 3 rfl dX12_mapBy_82 ?_
          refine q_lload_n X 4 rfl dX12_mapBy_83 ?_
          refine q_ldc2_w X (10) tC_X12_263 dX12_mapBy_84 ?_
          refine q_ladd X dX12_mapBy_87 ?_
          refine q_ldc2_w X (2) tC_X12_181 dX12_mapBy_88 ?_
          refine q_iload X 6 rfl dX12_mapBy_91 ?_
          refine q_iload X 1 rfl dX12_mapBy_93 ?_
          refine q_isub X dX12_mapBy_95 ?_
          refine q_i2l X dX12_mapBy_96 ?_
          refine q_lmul X dX12_mapBy_97 ?_
          refine q_ladd X dX12_mapBy_98 ?_
          obtain ⟨a22, ea22, ma22, ka22, h⟩ := q_atE h
          obtain ⟨r23, S24, c25, h⟩ := q_bE h
          refine q_cVI X (As := [.int (p0), .long ((p1 + (10 : Int64)) + ((2 : Int64) * ((p3 - r13).toInt64)))]) ea22 ma22 ka22 rfl (by decide) (c_X12_two c25) (q_cwV X tK_X12_two tM_X12_169 tI_X12_two tV_X12_two tN_X12 rfl rfl tD_X12_two ⟨Nat.le_of_ble_eq_true rfl, Nat.le_of_ble_eq_true rfl⟩) rfl rfl (by first | exact Nat.le_of_ble_eq_true rfl | (simp only [List.map, q_catR]; exact Nat.le_of_ble_eq_true rfl)) ⟨Nat.zero_le _, Nat.zero_le _⟩ dX12_mapBy_99 ?_
          refine q_i2l X dX12_mapBy_102 ?_
          refine q_goto X 107 (by decide) dX12_mapBy_103 ?_
          refine q_lv [] rfl ?_
          exact w_X12_mapBy_107 X hr hl _ _ h
  · rw [if_pos g1] at h
    refine q_iload X 4 rfl dX12_mapBy_5 ?_
    refine q_sipush X (256) (by decide) dX12_mapBy_7 ?_
    refine q_icmp_ge X 31 (by decide) dX12_mapBy_10 (fun g26 => ?_) (fun g26 => ?_)
    · rw [if_pos g26] at h
      refine q_lconst X (0) (by decide) dX12_mapBy_31 ?_
      refine q_lv [] rfl ?_
      exact w_X12_mapBy_32 X hr hl _ _ h
    · rw [if_neg g26] at h
      refine q_aload_n X 0 rfl dX12_mapBy_13 ?_
      refine q_iload_n X 1 rfl dX12_mapBy_14 ?_
      refine q_lload_n X 2 rfl dX12_mapBy_15 ?_
      refine q_ldc2_w X (6) tC_X12_261 dX12_mapBy_16 ?_
      refine q_ladd X dX12_mapBy_19 ?_
      refine q_iload X 4 rfl dX12_mapBy_20 ?_
      refine q_i2l X dX12_mapBy_22 ?_
      refine q_ladd X dX12_mapBy_23 ?_
      refine q_iconst X (1) (by decide) dX12_mapBy_24 ?_
      obtain ⟨a27, ea27, ma27, ka27, h⟩ := q_atE h
      obtain ⟨r28, S29, c30, h⟩ := q_bE h
      refine q_cVJ X (As := [.int (p0), .long ((p1 + (6 : Int64)) + (p3.toInt64)), .int ((1 : Int32))]) ea27 ma27 ka27 rfl (by decide) (c_X12_number c30) (q_cwV X tK_X12_number tM_X12_120 tI_X12_number tV_X12_number tN_X12 rfl rfl tD_X12_number ⟨Nat.le_of_ble_eq_true rfl, Nat.le_of_ble_eq_true rfl⟩) rfl rfl (by first | exact Nat.le_of_ble_eq_true rfl | (simp only [List.map, q_catR]; exact Nat.le_of_ble_eq_true rfl)) ⟨Nat.zero_le _, Nat.zero_le _⟩ dX12_mapBy_25 ?_
      refine q_goto X 32 (by decide) dX12_mapBy_28 ?_
      refine q_lv [] rfl ?_
      exact w_X12_mapBy_32 X hr hl _ _ h
theorem tD_X12_mapBy : yX12_mapBy.cls ≠ "java/lang/invoke/MethodHandle" ∧ yX12_mapBy.cls ≠ "java/lang/invoke/VarHandle" ∧ (parseMethodDescriptor yX12_mapBy.desc).map (fun d => d.parameters.length) = some 4 := by decide +kernel
theorem c_X12_mapBy {l : Launch} {D : va_G} {cy : Nat → ClassId} {n : Nat} {S Sv : q_S} {rv : Int64} {o : Nat} {p0 : Int32} {p1 : Int64} {p2 : Int32} {p3 : Int32} (h : m_X12_mapBy n S o p0 p1 p2 p3 = some (rv, Sv)) : q_MJ l yX12_mapBy (q_ws yX12_mapBy cX12_mapBy 16 ((some .long))) ({ frames := 2, cells := 0, slots := 0, locals := 50 } : Room) D cy [.ref o, .int (p0), .long (p1), .int (p2), .int (p3)] S rv Sv := by
  exact q_MJ_of (by decide +kernel) (Nat.le_of_ble_eq_true rfl) (fun p e s m args below meth c A X hr hl => w_X12_mapBy X hr hl h)
/-! TrueOutlinesModel.map(I)I -/
def m_X12_map_166 (n : Nat) (S : q_S) : Option (Int32 × q_S) := some ((0 : Int32), S)
set_option maxHeartbeats 4000000 in
set_option maxRecDepth 100000 in
theorem w_X12_map_166 (X : q_X p s m args c cX12_map 10 RX12 q_T D cy A) (hr : meth.sig.returnType = (some .int)) (hl : meth.locks = false)  {n : Nat} {Sv : q_S} {rv : Int32}  (S : q_S) (h : m_X12_map_166 n S = some (rv, Sv)) : q_W p l e ({ frames := 3, cells := 0, slots := 0, locals := 85 } : Room) s m args below meth c (MQ below (va_Qi (fun (r : Int32) (u : q_S) => r = rv ∧ u = Sv) (q_B D cy A) A) args s 0 0 A) A D cy 10 0 0 S 166 [] [] := by
  unfold m_X12_map_166 at h
  refine q_iconst X (0) (by decide) dX12_map_166 ?_
  obtain ⟨ev, eS⟩ := q_end h
  exact q_iret X hr hl rfl ev eS dX12_map_167
def m_X12_map_160 (n : Nat) (k30 : q_S → Option Nat → Int32 → Int32 → Int32 → Int32 → Option (Int32 × q_S)) (S : q_S) (l0 : Option Nat) (l1 : Int32) (l2 : Int32) (l3 : Int32) (l4 : Int32) : Option (Int32 × q_S) := k30 (S) (l0) (l1) (l2) (l3) (l4 + (1))
set_option maxHeartbeats 4000000 in
set_option maxRecDepth 100000 in
theorem w_X12_map_160 (X : q_X p s m args c cX12_map 10 RX12 q_T D cy A) (hr : meth.sig.returnType = (some .int)) (hl : meth.locks = false)  {n : Nat} {Sv : q_S} {rv : Int32}  {k30 : q_S → Option Nat → Int32 → Int32 → Int32 → Int32 → Option (Int32 × q_S)} (hk30 : ∀ (S : q_S) (z0 : Option Nat) (z1 : Int32) (z2 : Int32) (z3 : Int32) (z4 : Int32), k30 S z0 z1 z2 z3 z4 = some (rv, Sv) → q_W p l e ({ frames := 3, cells := 0, slots := 0, locals := 85 } : Room) s m args below meth c (MQ below (va_Qi (fun (r : Int32) (u : q_S) => r = rv ∧ u = Sv) (q_B D cy A) A) args s 0 0 A) A D cy 10 0 0 S 30 [(0, va_rf (z0)), (1, .int (z1)), (2, .int (z2)), (3, .int (z3)), (4, .int (z4))] []) (S : q_S) (l0 : Option Nat) (l1 : Int32) (l2 : Int32) (l3 : Int32) (l4 : Int32) (h : m_X12_map_160 n k30 S l0 l1 l2 l3 l4 = some (rv, Sv)) : q_W p l e ({ frames := 3, cells := 0, slots := 0, locals := 85 } : Room) s m args below meth c (MQ below (va_Qi (fun (r : Int32) (u : q_S) => r = rv ∧ u = Sv) (q_B D cy A) A) args s 0 0 A) A D cy 10 0 0 S 160 [(0, va_rf (l0)), (1, .int (l1)), (2, .int (l2)), (3, .int (l3)), (4, .int (l4))] [] := by
  unfold m_X12_map_160 at h
  refine q_iinc X 4 4 (l4 + (1)) [(4, .int (l4 + (1))), (0, va_rf (l0)), (1, .int (l1)), (2, .int (l2)), (3, .int (l3))] rfl (congrArg (fun z => l4 + z) (show Int32.ofInt (1) = (1) by decide)) (by decide) (by first | rfl | simp [List.filter, q_catR]) dX12_map_160 ?_
  refine q_goto X 30 (by decide) dX12_map_163 ?_
  refine q_lv [1, 2, 3, 4, 0] rfl ?_
  exact hk30 _ _ _ _ _ _ h
def m_X12_map_159 (n : Nat) (S : q_S) (s0 : Int32) : Option (Int32 × q_S) := some (s0, S)
set_option maxHeartbeats 4000000 in
set_option maxRecDepth 100000 in
theorem w_X12_map_159 (X : q_X p s m args c cX12_map 10 RX12 q_T D cy A) (hr : meth.sig.returnType = (some .int)) (hl : meth.locks = false)  {n : Nat} {Sv : q_S} {rv : Int32}  (S : q_S) (s0 : Int32) (h : m_X12_map_159 n S s0 = some (rv, Sv)) : q_W p l e ({ frames := 3, cells := 0, slots := 0, locals := 85 } : Room) s m args below meth c (MQ below (va_Qi (fun (r : Int32) (u : q_S) => r = rv ∧ u = Sv) (q_B D cy A) A) args s 0 0 A) A D cy 10 0 0 S 159 [] [.int (s0)] := by
  unfold m_X12_map_159 at h
  obtain ⟨ev, eS⟩ := q_end h
  exact q_iret X hr hl rfl ev eS dX12_map_159
def m_X12_map_158 (n : Nat) (S : q_S) : Option (Int32 × q_S) := m_X12_map_159 n (S) ((0 : Int32))
set_option maxHeartbeats 4000000 in
set_option maxRecDepth 100000 in
theorem w_X12_map_158 (X : q_X p s m args c cX12_map 10 RX12 q_T D cy A) (hr : meth.sig.returnType = (some .int)) (hl : meth.locks = false)  {n : Nat} {Sv : q_S} {rv : Int32}  (S : q_S) (h : m_X12_map_158 n S = some (rv, Sv)) : q_W p l e ({ frames := 3, cells := 0, slots := 0, locals := 85 } : Room) s m args below meth c (MQ below (va_Qi (fun (r : Int32) (u : q_S) => r = rv ∧ u = Sv) (q_B D cy A) A) args s 0 0 A) A D cy 10 0 0 S 158 [] [] := by
  unfold m_X12_map_158 at h
  refine q_iconst X (0) (by decide) dX12_map_158 ?_
  exact w_X12_map_159 X hr hl _ _ h
def m_X12_map_122 (n : Nat) (S : q_S) (l0 : Option Nat) (l1 : Int32) (l2 : Int32) (l5 : Int64) (l7 : Int32) : Option (Int32 × q_S) := q_at (S) (l0) 13 (fun a1 => q_b (m_X12_mapBy n (S) a1 (l2) (l5) (l7) (l1)) (fun r2 S3 => q_at (S3) (l0) 13 (fun a5 => (if (q_I (S3) a5 8) = 0 then q_b (m_X12_signs n (S3) a5) (fun r7 S8 => (if 0 ≤ (lg_cmp (r2) ((r7.toInt64))) then m_X12_map_158 n (S8) else m_X12_map_159 n (S8) (r2.toInt32))) else m_X12_map_158 n (S3)))))
set_option maxHeartbeats 4000000 in
set_option maxRecDepth 100000 in
theorem w_X12_map_122 (X : q_X p s m args c cX12_map 10 RX12 q_T D cy A) (hr : meth.sig.returnType = (some .int)) (hl : meth.locks = false)  {n : Nat} {Sv : q_S} {rv : Int32}  (S : q_S) (l0 : Option Nat) (l1 : Int32) (l2 : Int32) (l5 : Int64) (l7 : Int32) (h : m_X12_map_122 n S l0 l1 l2 l5 l7 = some (rv, Sv)) : q_W p l e ({ frames := 3, cells := 0, slots := 0, locals := 85 } : Room) s m args below meth c (MQ below (va_Qi (fun (r : Int32) (u : q_S) => r = rv ∧ u = Sv) (q_B D cy A) A) args s 0 0 A) A D cy 10 0 0 S 122 [(0, va_rf (l0)), (1, .int (l1)), (2, .int (l2)), (5, .long (l5)), (7, .int (l7))] [] := by
  unfold m_X12_map_122 at h
  refine q_aload_n X 0 rfl dX12_map_122 ?_
  refine q_iload_n X 2 rfl dX12_map_123 ?_
  refine q_lload X 3 rfl dX12_map_124 ?_
  refine q_iload X 4 rfl dX12_map_126 ?_
  refine q_iload_n X 1 rfl dX12_map_128 ?_
  obtain ⟨a1, ea1, ma1, ka1, h⟩ := q_atE h
  obtain ⟨r2, S3, c4, h⟩ := q_bE h
  refine q_cVJ X (As := [.int (l2), .long (l5), .int (l7), .int (l1)]) ea1 ma1 ka1 rfl (by decide) (c_X12_mapBy c4) (q_cwV X tK_X12_mapBy tM_X12_280 tI_X12_mapBy tV_X12_mapBy tN_X12 rfl rfl tD_X12_mapBy ⟨Nat.le_of_ble_eq_true rfl, Nat.le_of_ble_eq_true rfl⟩) rfl rfl (by first | exact Nat.le_of_ble_eq_true rfl | (simp only [List.map, q_catR]; exact Nat.le_of_ble_eq_true rfl)) ⟨Nat.zero_le _, Nat.zero_le _⟩ dX12_map_129 ?_
  refine q_lstore X 8 [(8, .long (r2)), (0, va_rf (l0)), (1, .int (l1)), (2, .int (l2)), (5, .long (l5)), (7, .int (l7))] (by decide) (by first | rfl | simp [List.filter, q_catR]) dX12_map_132 ?_
  refine q_aload_n X 1 rfl dX12_map_134 ?_
  obtain ⟨a5, ea5, ma5, ka5, h⟩ := q_atE h
  refine q_getI X 8 ea5 ma5 ka5 rfl tW_X12 (by decide) (by decide) tF_X12_114 rfl dX12_map_135 ?_
  refine q_if_ne X 158 (by decide) dX12_map_138 (fun g6 => ?_) (fun g6 => ?_)
  · rw [if_neg g6] at h
    refine q_lv [] rfl ?_
    exact w_X12_map_158 X hr hl _ h
  · rw [if_pos g6] at h
    refine q_lload X 0 rfl dX12_map_141 ?_
    refine q_aload_n X 1 rfl dX12_map_143 ?_
    obtain ⟨r7, S8, c9, h⟩ := q_bE h
    refine q_cVI X (As := []) ea5 ma5 ka5 rfl (by decide) (c_X12_signs c9) (q_cwV X tK_X12_signs tM_X12_173 tI_X12_signs tV_X12_signs tN_X12 rfl rfl tD_X12_signs ⟨Nat.le_of_ble_eq_true rfl, Nat.le_of_ble_eq_true rfl⟩) rfl rfl (by first | exact Nat.le_of_ble_eq_true rfl | (simp only [List.map, q_catR]; exact Nat.le_of_ble_eq_true rfl)) ⟨Nat.zero_le _, Nat.zero_le _⟩ dX12_map_144 ?_
    refine q_i2l X dX12_map_147 ?_
    refine q_lcmp X dX12_map_148 ?_
    refine q_if_ge X 158 (by decide) dX12_map_149 (fun g10 => ?_) (fun g10 => ?_)
    · rw [if_pos g10] at h
      refine q_lv [] rfl ?_
      exact w_X12_map_158 X hr hl _ h
    · rw [if_neg g10] at h
      refine q_lload X 0 rfl dX12_map_152 ?_
      refine q_l2i X dX12_map_154 ?_
      refine q_goto X 159 (by decide) dX12_map_155 ?_
      refine q_lv [] rfl ?_
      exact w_X12_map_159 X hr hl _ _ h
def m_X12_map_88 (n : Nat) (k30 : q_S → Option Nat → Int32 → Int32 → Int32 → Int32 → Option (Int32 × q_S)) (S : q_S) (l0 : Option Nat) (l1 : Int32) (l2 : Int32) (l3 : Int32) (l4 : Int32) (l5 : Int64) (s0 : Int32) : Option (Int32 × q_S) := q_at (S) (l0) 13 (fun a1 => (if (q_I (S) a1 8) = 0 then (if s0 = 0 then m_X12_map_122 n (S) (l0) (l1) (l2) (l5) (s0) else (if s0 = (4 : Int32) then m_X12_map_122 n (S) (l0) (l1) (l2) (l5) (s0) else (if s0 = (6 : Int32) then m_X12_map_122 n (S) (l0) (l1) (l2) (l5) (s0) else (if s0 = (12 : Int32) then m_X12_map_122 n (S) (l0) (l1) (l2) (l5) (s0) else m_X12_map_160 n k30 (S) (l0) (l1) (l2) (l3) (l4))))) else m_X12_map_160 n k30 (S) (l0) (l1) (l2) (l3) (l4)))
set_option maxHeartbeats 4000000 in
set_option maxRecDepth 100000 in
theorem w_X12_map_88 (X : q_X p s m args c cX12_map 10 RX12 q_T D cy A) (hr : meth.sig.returnType = (some .int)) (hl : meth.locks = false)  {n : Nat} {Sv : q_S} {rv : Int32}  {k30 : q_S → Option Nat → Int32 → Int32 → Int32 → Int32 → Option (Int32 × q_S)} (hk30 : ∀ (S : q_S) (z0 : Option Nat) (z1 : Int32) (z2 : Int32) (z3 : Int32) (z4 : Int32), k30 S z0 z1 z2 z3 z4 = some (rv, Sv) → q_W p l e ({ frames := 3, cells := 0, slots := 0, locals := 85 } : Room) s m args below meth c (MQ below (va_Qi (fun (r : Int32) (u : q_S) => r = rv ∧ u = Sv) (q_B D cy A) A) args s 0 0 A) A D cy 10 0 0 S 30 [(0, va_rf (z0)), (1, .int (z1)), (2, .int (z2)), (3, .int (z3)), (4, .int (z4))] []) (S : q_S) (l0 : Option Nat) (l1 : Int32) (l2 : Int32) (l3 : Int32) (l4 : Int32) (l5 : Int64) (s0 : Int32) (h : m_X12_map_88 n k30 S l0 l1 l2 l3 l4 l5 s0 = some (rv, Sv)) : q_W p l e ({ frames := 3, cells := 0, slots := 0, locals := 85 } : Room) s m args below meth c (MQ below (va_Qi (fun (r : Int32) (u : q_S) => r = rv ∧ u = Sv) (q_B D cy A) A) args s 0 0 A) A D cy 10 0 0 S 88 [(0, va_rf (l0)), (1, .int (l1)), (2, .int (l2)), (3, .int (l3)), (4, .int (l4)), (5, .long (l5))] [.int (s0)] := by
  unfold m_X12_map_88 at h
  refine q_istore X 7 [(7, .int (s0)), (0, va_rf (l0)), (1, .int (l1)), (2, .int (l2)), (3, .int (l3)), (4, .int (l4)), (5, .long (l5))] (by decide) (by first | rfl | simp [List.filter, q_catR]) dX12_map_88 ?_
  refine q_aload_n X 1 rfl dX12_map_90 ?_
  obtain ⟨a1, ea1, ma1, ka1, h⟩ := q_atE h
  refine q_getI X 8 ea1 ma1 ka1 rfl tW_X12 (by decide) (by decide) tF_X12_114 rfl dX12_map_91 ?_
  refine q_if_ne X 160 (by decide) dX12_map_94 (fun g2 => ?_) (fun g2 => ?_)
  · rw [if_neg g2] at h
    refine q_lv [1, 2, 3, 4, 5] rfl ?_
    exact w_X12_map_160 X hr hl hk30 _ _ _ _ _ _ h
  · rw [if_pos g2] at h
    refine q_iload X 0 rfl dX12_map_97 ?_
    refine q_if_eq X 122 (by decide) dX12_map_99 (fun g3 => ?_) (fun g3 => ?_)
    · rw [if_pos g3] at h
      refine q_lv [1, 2, 3, 6, 0] rfl ?_
      exact w_X12_map_122 X hr hl _ _ _ _ _ _ h
    · rw [if_neg g3] at h
      refine q_iload X 0 rfl dX12_map_102 ?_
      refine q_iconst X (4) (by decide) dX12_map_104 ?_
      refine q_icmp_eq X 122 (by decide) dX12_map_105 (fun g4 => ?_) (fun g4 => ?_)
      · rw [if_pos g4] at h
        refine q_lv [1, 2, 3, 6, 0] rfl ?_
        exact w_X12_map_122 X hr hl _ _ _ _ _ _ h
      · rw [if_neg g4] at h
        refine q_iload X 0 rfl dX12_map_108 ?_
        refine q_bipush X (6) (by decide) dX12_map_110 ?_
        refine q_icmp_eq X 122 (by decide) dX12_map_112 (fun g5 => ?_) (fun g5 => ?_)
        · rw [if_pos g5] at h
          refine q_lv [1, 2, 3, 6, 0] rfl ?_
          exact w_X12_map_122 X hr hl _ _ _ _ _ _ h
        · rw [if_neg g5] at h
          refine q_iload X 0 rfl dX12_map_115 ?_
          refine q_bipush X (12) (by decide) dX12_map_117 ?_
          refine q_icmp_ne X 160 (by decide) dX12_map_119 (fun g6 => ?_) (fun g6 => ?_)
          · rw [if_neg g6] at h
            refine q_lv [1, 2, 3, 4, 5] rfl ?_
            exact w_X12_map_160 X hr hl hk30 _ _ _ _ _ _ h
          · rw [if_pos g6] at h
            refine q_lv [1, 2, 3, 6, 0] rfl ?_
            exact w_X12_map_122 X hr hl _ _ _ _ _ _ h
def m_X12_map_30 (n : Nat) : Nat → q_S → Option Nat → Int32 → Int32 → Int32 → Int32 → Option (Int32 × q_S)
  | 0, _, _, _, _, _, _ => none
  | k + 1, S, l0, l1, l2, l3, l4 => (if l3 ≤ l4 then m_X12_map_166 n (S) else q_at (S) (l0) 13 (fun a2 => (if (q_I (S) a2 8) = 0 then (if l1 < 0 then m_X12_map_166 n (S) else q_b (m_X12_number n (S) a2 (l2) (((4 : Int64) + ((8 : Int64) * (l4.toInt64))) + (4 : Int64)) ((4 : Int32))) (fun r5 S6 => q_at (S6) (l0) 13 (fun a8 => (if (q_I (S6) a8 8) = 0 then q_b (m_X12_two n (S6) a8 (l2) (r5)) (fun r10 S11 => m_X12_map_88 n (m_X12_map_30 n k) (S11) (l0) (l1) (l2) (l3) (l4) (r5) (r10)) else m_X12_map_88 n (m_X12_map_30 n k) (S6) (l0) (l1) (l2) (l3) (l4) (r5) ((0 : Int32)))))) else m_X12_map_166 n (S))))
set_option maxHeartbeats 4000000 in
set_option maxRecDepth 100000 in
theorem w_X12_map_30 (X : q_X p s m args c cX12_map 10 RX12 q_T D cy A) (hr : meth.sig.returnType = (some .int)) (hl : meth.locks = false)  {n : Nat} {Sv : q_S} {rv : Int32}  : ∀ (k : Nat) (S : q_S) (l0 : Option Nat) (l1 : Int32) (l2 : Int32) (l3 : Int32) (l4 : Int32), m_X12_map_30 n k S l0 l1 l2 l3 l4 = some (rv, Sv) → q_W p l e ({ frames := 3, cells := 0, slots := 0, locals := 85 } : Room) s m args below meth c (MQ below (va_Qi (fun (r : Int32) (u : q_S) => r = rv ∧ u = Sv) (q_B D cy A) A) args s 0 0 A) A D cy 10 0 0 S 30 [(0, va_rf (l0)), (1, .int (l1)), (2, .int (l2)), (3, .int (l3)), (4, .int (l4))] [] := by
  intro k
  induction k with
  | zero => intro S l0 l1 l2 l3 l4 h; rw [m_X12_map_30] at h; cases h
  | succ k ih =>
    intro S l0 l1 l2 l3 l4 h
    rw [m_X12_map_30] at h
    refine q_iload X 4 rfl dX12_map_30 ?_
    refine q_iload_n X 3 rfl dX12_map_32 ?_
    refine q_icmp_ge X 166 (by decide) dX12_map_33 (fun g1 => ?_) (fun g1 => ?_)
    · rw [if_pos g1] at h
      refine q_lv [] rfl ?_
      exact w_X12_map_166 X hr hl _ h
    · rw [if_neg g1] at h
      refine q_aload_n X 0 rfl dX12_map_36 ?_
      obtain ⟨a2, ea2, ma2, ka2, h⟩ := q_atE h
      refine q_getI X 8 ea2 ma2 ka2 rfl tW_X12 (by decide) (by decide) tF_X12_114 rfl dX12_map_37 ?_
      refine q_if_ne X 166 (by decide) dX12_map_40 (fun g3 => ?_) (fun g3 => ?_)
      · rw [if_neg g3] at h
        refine q_lv [] rfl ?_
        exact w_X12_map_166 X hr hl _ h
      · rw [if_pos g3] at h
        refine q_iload_n X 1 rfl dX12_map_43 ?_
        refine q_if_lt X 166 (by decide) dX12_map_44 (fun g4 => ?_) (fun g4 => ?_)
        · rw [if_pos g4] at h
          refine q_lv [] rfl ?_
          exact w_X12_map_166 X hr hl _ h
        · rw [if_neg g4] at h
          refine q_aload_n X 0 rfl dX12_map_47 ?_
          refine q_iload_n X 2 rfl dX12_map_48 ?_
          refine q_ldc2_w X (4) tC_X12_167 dX12_map_49 ?_
          refine q_ldc2_w X (8) tC_X12_100 dX12_map_52 ?_
          refine q_iload X 4 rfl dX12_map_55 ?_
          refine q_i2l X dX12_map_57 ?_
          refine q_lmul X dX12_map_58 ?_
          refine q_ladd X dX12_map_59 ?_
          refine q_ldc2_w X (4) tC_X12_167 dX12_map_60 ?_
          refine q_ladd X dX12_map_63 ?_
          refine q_iconst X (4) (by decide) dX12_map_64 ?_
          obtain ⟨r5, S6, c7, h⟩ := q_bE h
          refine q_cVJ X (As := [.int (l2), .long (((4 : Int64) + ((8 : Int64) * (l4.toInt64))) + (4 : Int64)), .int ((4 : Int32))]) ea2 ma2 ka2 rfl (by decide) (c_X12_number c7) (q_cwV X tK_X12_number tM_X12_120 tI_X12_number tV_X12_number tN_X12 rfl rfl tD_X12_number ⟨Nat.le_of_ble_eq_true rfl, Nat.le_of_ble_eq_true rfl⟩) rfl rfl (by first | exact Nat.le_of_ble_eq_true rfl | (simp only [List.map, q_catR]; exact Nat.le_of_ble_eq_true rfl)) ⟨Nat.zero_le _, Nat.zero_le _⟩ dX12_map_65 ?_
          refine q_lstore X 5 [(5, .long (r5)), (0, va_rf (l0)), (1, .int (l1)), (2, .int (l2)), (3, .int (l3)), (4, .int (l4))] (by decide) (by first | rfl | simp [List.filter, q_catR]) dX12_map_68 ?_
          refine q_aload_n X 1 rfl dX12_map_70 ?_
          obtain ⟨a8, ea8, ma8, ka8, h⟩ := q_atE h
          refine q_getI X 8 ea8 ma8 ka8 rfl tW_X12 (by decide) (by decide) tF_X12_114 rfl dX12_map_71 ?_
          refine q_if_eq X 81 (by decide) dX12_map_74 (fun g9 => ?_) (fun g9 => ?_)
          · rw [if_pos g9] at h
            refine q_aload_n X 1 rfl dX12_map_81 ?_
            refine q_iload_n X 3 rfl dX12_map_82 ?_
            refine q_lload X 0 rfl dX12_map_83 ?_
            obtain ⟨r10, S11, c12, h⟩ := q_bE h
            refine q_cVI X (As := [.int (l2), .long (r5)]) ea8 ma8 ka8 rfl (by decide) (c_X12_two c12) (q_cwV X tK_X12_two tM_X12_169 tI_X12_two tV_X12_two tN_X12 rfl rfl tD_X12_two ⟨Nat.le_of_ble_eq_true rfl, Nat.le_of_ble_eq_true rfl⟩) rfl rfl (by first | exact Nat.le_of_ble_eq_true rfl | (simp only [List.map, q_catR]; exact Nat.le_of_ble_eq_true rfl)) ⟨Nat.zero_le _, Nat.zero_le _⟩ dX12_map_85 ?_
            refine q_lv [1, 2, 3, 4, 5, 0] rfl ?_
            exact w_X12_map_88 X hr hl ih _ _ _ _ _ _ _ _ h
          · rw [if_neg g9] at h
            refine q_iconst X (0) (by decide) dX12_map_77 ?_
            refine q_goto X 88 (by decide) dX12_map_78 ?_
            refine q_lv [1, 2, 3, 4, 5, 0] rfl ?_
            exact w_X12_map_88 X hr hl ih _ _ _ _ _ _ _ _ h
def m_X12_map (n : Nat) (S : q_S) (o : Nat) (p0 : Int32) : Option (Int32 × q_S) := q_at (S) (some o) 13 (fun a1 => q_if ((0 : Int32) = 0 ∨ (0 : Int32) = 1) (q_let (q_sI (q_sI (S) a1 0 ((0 : Int32))) a1 8 ((0 : Int32))) (fun S3 => q_b (m_X12_find n (S3) a1 ((1668112752 : Int64))) (fun r4 S5 => q_at (S5) (some o) 13 (fun a7 => q_b (m_X12_two n (S5) a7 (r4) ((2 : Int64))) (fun r8 S9 => m_X12_map_30 n n (S9) (some o) (p0) (r4) (r8) ((0 : Int32))))))))
set_option maxHeartbeats 4000000 in
set_option maxRecDepth 100000 in
theorem w_X12_map (X : q_X p s m args c cX12_map 10 RX12 q_T D cy A) (hr : meth.sig.returnType = (some .int)) (hl : meth.locks = false)  {n : Nat} {S Sv : q_S} {rv : Int32} {o : Nat} {p0 : Int32} (h : m_X12_map n S o p0 = some (rv, Sv)) : q_W p l e ({ frames := 3, cells := 0, slots := 0, locals := 85 } : Room) s m args below meth c (MQ below (va_Qi (fun (r : Int32) (u : q_S) => r = rv ∧ u = Sv) (q_B D cy A) A) args s 0 0 A) A D cy 10 0 0 S 0 [(0, va_rf (some o)), (1, .int (p0))] [] := by
  unfold m_X12_map at h
  refine q_aload_n X 0 rfl dX12_map_0 ?_
  refine q_iconst X (0) (by decide) dX12_map_1 ?_
  obtain ⟨a1, ea1, ma1, ka1, h⟩ := q_atE h
  refine q_putI X 0 ea1 ma1 ka1 rfl tW_X12 (by decide) (by decide) tF_X12_96 tyX12 tyX12_ok nmX12 rfl (tyX12_ok 0 (by decide)) rfl rfl rfl dX12_map_2 ?_
  have ma1 : a1 ∈ q_L (q_sI (S) a1 0 ((0 : Int32))) := q_LsI ma1
  have ka1 : q_K (q_sI (S) a1 0 ((0 : Int32))) a1 = 13 := q_KsI ka1
  refine q_aload_n X 0 rfl dX12_map_5 ?_
  refine q_iconst X (0) (by decide) dX12_map_6 ?_
  obtain ⟨g2, h⟩ := q_ifE h
  refine q_putI X 8 ea1 ma1 ka1 rfl tW_X12 (by decide) (by decide) tF_X12_114 tyX12 tyX12_ok nmX12 rfl (tyX12_ok 8 (by decide)) (q_bool g2) (q_boolF g2) rfl dX12_map_7 ?_
  have ma1 : a1 ∈ q_L (q_sI (q_sI (S) a1 0 ((0 : Int32))) a1 8 ((0 : Int32))) := q_LsI ma1
  have ka1 : q_K (q_sI (q_sI (S) a1 0 ((0 : Int32))) a1 8 ((0 : Int32))) a1 = 13 := q_KsI ka1
  obtain ⟨S3, eS3, h⟩ := q_letE h
  refine q_sub eS3 ?_
  have ma1 : a1 ∈ q_L S3 := by rw [eS3]; exact ma1
  have ka1 : q_K S3 a1 = 13 := by rw [eS3]; exact ka1
  refine q_aload_n X 0 rfl dX12_map_10 ?_
  refine q_ldc2_w X (1668112752) tC_X12_278 dX12_map_11 ?_
  obtain ⟨r4, S5, c6, h⟩ := q_bE h
  refine q_cVI X (As := [.long ((1668112752 : Int64))]) ea1 ma1 ka1 rfl (by decide) (c_X12_find c6) (q_cwV X tK_X12_find tM_X12_127 tI_X12_find tV_X12_find tN_X12 rfl rfl tD_X12_find ⟨Nat.le_of_ble_eq_true rfl, Nat.le_of_ble_eq_true rfl⟩) rfl rfl (by first | exact Nat.le_of_ble_eq_true rfl | (simp only [List.map, q_catR]; exact Nat.le_of_ble_eq_true rfl)) ⟨Nat.zero_le _, Nat.zero_le _⟩ dX12_map_14 ?_
  refine q_istore_n X 2 [(2, .int (r4)), (0, va_rf (some o)), (1, .int (p0))] rfl (by decide) (by first | rfl | simp [List.filter, q_catR]) dX12_map_17 ?_
  refine q_aload_n X 1 rfl dX12_map_18 ?_
  refine q_iload_n X 0 rfl dX12_map_19 ?_
  refine q_ldc2_w X (2) tC_X12_181 dX12_map_20 ?_
  obtain ⟨a7, ea7, ma7, ka7, h⟩ := q_atE h
  obtain ⟨r8, S9, c10, h⟩ := q_bE h
  refine q_cVI X (As := [.int (r4), .long ((2 : Int64))]) ea7 ma7 ka7 rfl (by decide) (c_X12_two c10) (q_cwV X tK_X12_two tM_X12_169 tI_X12_two tV_X12_two tN_X12 rfl rfl tD_X12_two ⟨Nat.le_of_ble_eq_true rfl, Nat.le_of_ble_eq_true rfl⟩) rfl rfl (by first | exact Nat.le_of_ble_eq_true rfl | (simp only [List.map, q_catR]; exact Nat.le_of_ble_eq_true rfl)) ⟨Nat.zero_le _, Nat.zero_le _⟩ dX12_map_23 ?_
  refine q_istore_n X 3 [(3, .int (r8)), (2, .int (r4)), (0, va_rf (some o)), (1, .int (p0))] rfl (by decide) (by first | rfl | simp [List.filter, q_catR]) dX12_map_26 ?_
  refine q_iconst X (0) (by decide) dX12_map_27 ?_
  refine q_istore X 4 [(4, .int ((0 : Int32))), (3, .int (r8)), (2, .int (r4)), (0, va_rf (some o)), (1, .int (p0))] (by decide) (by first | rfl | simp [List.filter, q_catR]) dX12_map_28 ?_
  refine q_lv [3, 4, 2, 1, 0] rfl ?_
  exact w_X12_map_30 X hr hl n _ _ _ _ _ _ h
theorem tD_X12_map : yX12_map.cls ≠ "java/lang/invoke/MethodHandle" ∧ yX12_map.cls ≠ "java/lang/invoke/VarHandle" ∧ (parseMethodDescriptor yX12_map.desc).map (fun d => d.parameters.length) = some 1 := by decide +kernel
theorem c_X12_map {l : Launch} {D : va_G} {cy : Nat → ClassId} {n : Nat} {S Sv : q_S} {rv : Int32} {o : Nat} {p0 : Int32} (h : m_X12_map n S o p0 = some (rv, Sv)) : q_MI l yX12_map (q_ws yX12_map cX12_map 10 ((some .int))) ({ frames := 3, cells := 0, slots := 0, locals := 85 } : Room) D cy [.ref o, .int (p0)] S rv Sv := by
  exact q_MI_of (by decide +kernel) (Nat.le_of_ble_eq_true rfl) (fun p e s m args below meth c A X hr hl => w_X12_map X hr hl h)
/-! TrueOutlinesModel.octet(II)I -/
def m_X12_octet_67 (n : Nat) (S : q_S) (s0 : Int32) : Option (Int32 × q_S) := some (s0, S)
set_option maxHeartbeats 4000000 in
set_option maxRecDepth 100000 in
theorem w_X12_octet_67 (X : q_X p s m args c cX12_octet 3 RX12 q_T D cy A) (hr : meth.sig.returnType = (some .int)) (hl : meth.locks = false)  {n : Nat} {Sv : q_S} {rv : Int32}  (S : q_S) (s0 : Int32) (h : m_X12_octet_67 n S s0 = some (rv, Sv)) : q_W p l e ({ frames := 1, cells := 0, slots := 0, locals := 25 } : Room) s m args below meth c (MQ below (va_Qi (fun (r : Int32) (u : q_S) => r = rv ∧ u = Sv) (q_B D cy A) A) args s 0 0 A) A D cy 3 0 0 S 67 [] [.int (s0)] := by
  unfold m_X12_octet_67 at h
  obtain ⟨ev, eS⟩ := q_end h
  exact q_iret X hr hl rfl ev eS dX12_octet_67
def m_X12_octet_40 (n : Nat) (S : q_S) (l0 : Option Nat) (l1 : Int32) (l2 : Int32) (s0 : Int32) (s1 : Option Nat) : Option (Int32 × q_S) := q_at (S) (s1) 13 (fun a1 => q_at (q_sI (S) a1 0 (s0)) (l0) 13 (fun a2 => (if (q_I (q_sI (S) a1 0 (s0)) a2 0) ≤ 0 then q_at (q_sI (S) a1 0 (s0)) (q_R (q_sI (S) a1 0 (s0)) a2 6) 100 (fun a4 => q_if (q_in (l1) (q_N (q_sI (S) a1 0 (s0)) a4) = true) (q_at (q_sI (S) a1 0 (s0)) (q_R (q_sI (S) a1 0 (s0)) a2 1) 100 (fun a6 => q_if (q_in ((q_I (q_sI (S) a1 0 (s0)) a4 (l1).toNatClampNeg) + l2) (q_N (q_sI (S) a1 0 (s0)) a6) = true) (m_X12_octet_67 n (q_sI (S) a1 0 (s0)) (q_I (q_sI (S) a1 0 (s0)) a6 ((q_I (q_sI (S) a1 0 (s0)) a4 (l1).toNatClampNeg) + l2).toNatClampNeg))))) else m_X12_octet_67 n (q_sI (S) a1 0 (s0)) ((0 : Int32)))))
set_option maxHeartbeats 4000000 in
set_option maxRecDepth 100000 in
theorem w_X12_octet_40 (X : q_X p s m args c cX12_octet 3 RX12 q_T D cy A) (hr : meth.sig.returnType = (some .int)) (hl : meth.locks = false)  {n : Nat} {Sv : q_S} {rv : Int32}  (S : q_S) (l0 : Option Nat) (l1 : Int32) (l2 : Int32) (s0 : Int32) (s1 : Option Nat) (h : m_X12_octet_40 n S l0 l1 l2 s0 s1 = some (rv, Sv)) : q_W p l e ({ frames := 1, cells := 0, slots := 0, locals := 25 } : Room) s m args below meth c (MQ below (va_Qi (fun (r : Int32) (u : q_S) => r = rv ∧ u = Sv) (q_B D cy A) A) args s 0 0 A) A D cy 3 0 0 S 40 [(0, va_rf (l0)), (1, .int (l1)), (2, .int (l2))] [.int (s0), va_rf (s1)] := by
  unfold m_X12_octet_40 at h
  obtain ⟨a1, ea1, ma1, ka1, h⟩ := q_atE h
  refine q_putI X 0 ea1 ma1 ka1 rfl tW_X12 (by decide) (by decide) tF_X12_96 tyX12 tyX12_ok nmX12 rfl (tyX12_ok 0 (by decide)) rfl rfl rfl dX12_octet_40 ?_
  have ma1 : a1 ∈ q_L (q_sI (S) a1 0 (s0)) := q_LsI ma1
  have ka1 : q_K (q_sI (S) a1 0 (s0)) a1 = 13 := q_KsI ka1
  refine q_aload_n X 0 rfl dX12_octet_43 ?_
  obtain ⟨a2, ea2, ma2, ka2, h⟩ := q_atE h
  refine q_getI X 0 ea2 ma2 ka2 rfl tW_X12 (by decide) (by decide) tF_X12_96 rfl dX12_octet_44 ?_
  refine q_if_le X 54 (by decide) dX12_octet_47 (fun g3 => ?_) (fun g3 => ?_)
  · rw [if_pos g3] at h
    refine q_aload_n X 0 rfl dX12_octet_54 ?_
    refine q_getR X 1 ea2 ma2 ka2 rfl tW_X12 (by decide) (by decide) tF_X12_7 rfl dX12_octet_55 ?_
    refine q_aload_n X 0 rfl dX12_octet_58 ?_
    refine q_getR X 6 ea2 ma2 ka2 rfl tW_X12 (by decide) (by decide) tF_X12_20 rfl dX12_octet_59 ?_
    refine q_iload_n X 1 rfl dX12_octet_62 ?_
    obtain ⟨a4, ea4, ma4, ka4, h⟩ := q_atE h
    obtain ⟨g5, h⟩ := q_ifE h
    refine q_iaload X ea4 ma4 ka4 (q_inE g5) dX12_octet_63 ?_
    refine q_iload_n X 2 rfl dX12_octet_64 ?_
    refine q_iadd X dX12_octet_65 ?_
    obtain ⟨a6, ea6, ma6, ka6, h⟩ := q_atE h
    obtain ⟨g7, h⟩ := q_ifE h
    refine q_iaload X ea6 ma6 ka6 (q_inE g7) dX12_octet_66 ?_
    refine q_lv [] rfl ?_
    exact w_X12_octet_67 X hr hl _ _ h
  · rw [if_neg g3] at h
    refine q_iconst X (0) (by decide) dX12_octet_50 ?_
    refine q_goto X 67 (by decide) dX12_octet_51 ?_
    refine q_lv [] rfl ?_
    exact w_X12_octet_67 X hr hl _ _ h
def m_X12_octet_39 (n : Nat) (S : q_S) (l0 : Option Nat) (l1 : Int32) (l2 : Int32) (s0 : Option Nat) : Option (Int32 × q_S) := m_X12_octet_40 n (S) (l0) (l1) (l2) ((1 : Int32)) (s0)
set_option maxHeartbeats 4000000 in
set_option maxRecDepth 100000 in
theorem w_X12_octet_39 (X : q_X p s m args c cX12_octet 3 RX12 q_T D cy A) (hr : meth.sig.returnType = (some .int)) (hl : meth.locks = false)  {n : Nat} {Sv : q_S} {rv : Int32}  (S : q_S) (l0 : Option Nat) (l1 : Int32) (l2 : Int32) (s0 : Option Nat) (h : m_X12_octet_39 n S l0 l1 l2 s0 = some (rv, Sv)) : q_W p l e ({ frames := 1, cells := 0, slots := 0, locals := 25 } : Room) s m args below meth c (MQ below (va_Qi (fun (r : Int32) (u : q_S) => r = rv ∧ u = Sv) (q_B D cy A) A) args s 0 0 A) A D cy 3 0 0 S 39 [(0, va_rf (l0)), (1, .int (l1)), (2, .int (l2))] [va_rf (s0)] := by
  unfold m_X12_octet_39 at h
  refine q_iconst X (1) (by decide) dX12_octet_39 ?_
  exact w_X12_octet_40 X hr hl _ _ _ _ _ _ h
def m_X12_octet (n : Nat) (S : q_S) (o : Nat) (p0 : Int32) (p1 : Int32) : Option (Int32 × q_S) := q_at (S) (some o) 13 (fun a1 => q_b (m_X12_in n (S) (p0.toInt64) ((0 : Int64)) (((q_I (S) a1 3) - (1 : Int32)).toInt64)) (fun r2 S3 => (if r2 = 0 then m_X12_octet_39 n (S3) (some o) (p0) (p1) (some o) else q_at (S3) (some o) 13 (fun a6 => q_at (S3) (q_R (S3) a6 7) 100 (fun a7 => q_if (q_in (p0) (q_N (S3) a7) = true) (q_b (m_X12_in n (S3) (p1.toInt64) ((0 : Int64)) (((q_I (S3) a7 (p0).toNatClampNeg) - (1 : Int32)).toInt64)) (fun r9 S10 => (if r9 = 0 then m_X12_octet_39 n (S10) (some o) (p0) (p1) (some o) else m_X12_octet_40 n (S10) (some o) (p0) (p1) ((0 : Int32)) (some o)))))))))
set_option maxHeartbeats 4000000 in
set_option maxRecDepth 100000 in
theorem w_X12_octet (X : q_X p s m args c cX12_octet 3 RX12 q_T D cy A) (hr : meth.sig.returnType = (some .int)) (hl : meth.locks = false)  {n : Nat} {S Sv : q_S} {rv : Int32} {o : Nat} {p0 : Int32} {p1 : Int32} (h : m_X12_octet n S o p0 p1 = some (rv, Sv)) : q_W p l e ({ frames := 1, cells := 0, slots := 0, locals := 25 } : Room) s m args below meth c (MQ below (va_Qi (fun (r : Int32) (u : q_S) => r = rv ∧ u = Sv) (q_B D cy A) A) args s 0 0 A) A D cy 3 0 0 S 0 [(0, va_rf (some o)), (1, .int (p0)), (2, .int (p1))] [] := by
  unfold m_X12_octet at h
  refine q_aload_n X 0 rfl dX12_octet_0 ?_
  refine q_iload_n X 1 rfl dX12_octet_1 ?_
  refine q_i2l X dX12_octet_2 ?_
  refine q_lconst X (0) (by decide) dX12_octet_3 ?_
  refine q_aload_n X 0 rfl dX12_octet_4 ?_
  obtain ⟨a1, ea1, ma1, ka1, h⟩ := q_atE h
  refine q_getI X 3 ea1 ma1 ka1 rfl tW_X12 (by decide) (by decide) tF_X12_111 rfl dX12_octet_5 ?_
  refine q_iconst X (1) (by decide) dX12_octet_8 ?_
  refine q_isub X dX12_octet_9 ?_
  refine q_i2l X dX12_octet_10 ?_
  obtain ⟨r2, S3, c4, h⟩ := q_bE h
  refine q_cSI X (As := [.long (p0.toInt64), .long ((0 : Int64)), .long (((q_I (S) a1 3) - (1 : Int32)).toInt64)]) (c_X12_in c4) (q_cwS X tK_X12_in tM_X12_102 tS_X12_in tN_X12 rfl rfl tD_X12_in ⟨Nat.le_of_ble_eq_true rfl, Nat.le_of_ble_eq_true rfl⟩) rfl rfl (by first | exact Nat.le_of_ble_eq_true rfl | (simp only [List.map, q_catR]; exact Nat.le_of_ble_eq_true rfl)) ⟨Nat.zero_le _, Nat.zero_le _⟩ dX12_octet_11 ?_
  refine q_if_eq X 39 (by decide) dX12_octet_14 (fun g5 => ?_) (fun g5 => ?_)
  · rw [if_pos g5] at h
    exact w_X12_octet_39 X hr hl _ _ _ _ _ h
  · rw [if_neg g5] at h
    refine q_iload_n X 2 rfl dX12_octet_17 ?_
    refine q_i2l X dX12_octet_18 ?_
    refine q_lconst X (0) (by decide) dX12_octet_19 ?_
    refine q_aload_n X 0 rfl dX12_octet_20 ?_
    obtain ⟨a6, ea6, ma6, ka6, h⟩ := q_atE h
    refine q_getR X 7 ea6 ma6 ka6 rfl tW_X12 (by decide) (by decide) tF_X12_23 rfl dX12_octet_21 ?_
    refine q_iload_n X 1 rfl dX12_octet_24 ?_
    obtain ⟨a7, ea7, ma7, ka7, h⟩ := q_atE h
    obtain ⟨g8, h⟩ := q_ifE h
    refine q_iaload X ea7 ma7 ka7 (q_inE g8) dX12_octet_25 ?_
    refine q_iconst X (1) (by decide) dX12_octet_26 ?_
    refine q_isub X dX12_octet_27 ?_
    refine q_i2l X dX12_octet_28 ?_
    obtain ⟨r9, S10, c11, h⟩ := q_bE h
    refine q_cSI X (As := [.long (p1.toInt64), .long ((0 : Int64)), .long (((q_I (S3) a7 (p0).toNatClampNeg) - (1 : Int32)).toInt64)]) (c_X12_in c11) (q_cwS X tK_X12_in tM_X12_102 tS_X12_in tN_X12 rfl rfl tD_X12_in ⟨Nat.le_of_ble_eq_true rfl, Nat.le_of_ble_eq_true rfl⟩) rfl rfl (by first | exact Nat.le_of_ble_eq_true rfl | (simp only [List.map, q_catR]; exact Nat.le_of_ble_eq_true rfl)) ⟨Nat.zero_le _, Nat.zero_le _⟩ dX12_octet_29 ?_
    refine q_if_eq X 39 (by decide) dX12_octet_32 (fun g12 => ?_) (fun g12 => ?_)
    · rw [if_pos g12] at h
      exact w_X12_octet_39 X hr hl _ _ _ _ _ h
    · rw [if_neg g12] at h
      refine q_iconst X (0) (by decide) dX12_octet_35 ?_
      refine q_goto X 40 (by decide) dX12_octet_36 ?_
      exact w_X12_octet_40 X hr hl _ _ _ _ _ _ h
theorem tD_X12_octet : yX12_octet.cls ≠ "java/lang/invoke/MethodHandle" ∧ yX12_octet.cls ≠ "java/lang/invoke/VarHandle" ∧ (parseMethodDescriptor yX12_octet.desc).map (fun d => d.parameters.length) = some 2 := by decide +kernel
theorem c_X12_octet {l : Launch} {D : va_G} {cy : Nat → ClassId} {n : Nat} {S Sv : q_S} {rv : Int32} {o : Nat} {p0 : Int32} {p1 : Int32} (h : m_X12_octet n S o p0 p1 = some (rv, Sv)) : q_MI l yX12_octet (q_ws yX12_octet cX12_octet 3 ((some .int))) ({ frames := 1, cells := 0, slots := 0, locals := 25 } : Room) D cy [.ref o, .int (p0), .int (p1)] S rv Sv := by
  exact q_MI_of (by decide +kernel) (Nat.le_of_ble_eq_true rfl) (fun p e s m args below meth c A X hr hl => w_X12_octet X hr hl h)
/-! TrueOutlinesModel.piece(II)I -/
def m_X12_piece__59 (n : Nat) (S : q_S) (s0 : Int32) : Option (Int32 × q_S) := some (s0, S)
set_option maxHeartbeats 4000000 in
set_option maxRecDepth 100000 in
theorem w_X12_piece__59 (X : q_X p s m args c cX12_piece_ 3 RX12 q_T D cy A) (hr : meth.sig.returnType = (some .int)) (hl : meth.locks = false)  {n : Nat} {Sv : q_S} {rv : Int32}  (S : q_S) (s0 : Int32) (h : m_X12_piece__59 n S s0 = some (rv, Sv)) : q_W p l e ({ frames := 1, cells := 0, slots := 0, locals := 25 } : Room) s m args below meth c (MQ below (va_Qi (fun (r : Int32) (u : q_S) => r = rv ∧ u = Sv) (q_B D cy A) A) args s 0 0 A) A D cy 3 0 0 S 59 [] [.int (s0)] := by
  unfold m_X12_piece__59 at h
  obtain ⟨ev, eS⟩ := q_end h
  exact q_iret X hr hl rfl ev eS dX12_piece__59
def m_X12_piece__34 (n : Nat) (S : q_S) (l0 : Option Nat) (l1 : Int32) (l2 : Int32) (s0 : Int32) (s1 : Option Nat) : Option (Int32 × q_S) := q_at (S) (s1) 13 (fun a1 => q_at (q_sI (S) a1 0 (s0)) (l0) 13 (fun a2 => (if (q_I (q_sI (S) a1 0 (s0)) a2 0) ≤ 0 then q_at (q_sI (S) a1 0 (s0)) (q_R (q_sI (S) a1 0 (s0)) a2 37) 100 (fun a4 => q_if (q_in (((8 : Int32) * l1) + l2) (q_N (q_sI (S) a1 0 (s0)) a4) = true) (m_X12_piece__59 n (q_sI (S) a1 0 (s0)) (q_I (q_sI (S) a1 0 (s0)) a4 (((8 : Int32) * l1) + l2).toNatClampNeg))) else m_X12_piece__59 n (q_sI (S) a1 0 (s0)) ((0 : Int32)))))
set_option maxHeartbeats 4000000 in
set_option maxRecDepth 100000 in
theorem w_X12_piece__34 (X : q_X p s m args c cX12_piece_ 3 RX12 q_T D cy A) (hr : meth.sig.returnType = (some .int)) (hl : meth.locks = false)  {n : Nat} {Sv : q_S} {rv : Int32}  (S : q_S) (l0 : Option Nat) (l1 : Int32) (l2 : Int32) (s0 : Int32) (s1 : Option Nat) (h : m_X12_piece__34 n S l0 l1 l2 s0 s1 = some (rv, Sv)) : q_W p l e ({ frames := 1, cells := 0, slots := 0, locals := 25 } : Room) s m args below meth c (MQ below (va_Qi (fun (r : Int32) (u : q_S) => r = rv ∧ u = Sv) (q_B D cy A) A) args s 0 0 A) A D cy 3 0 0 S 34 [(0, va_rf (l0)), (1, .int (l1)), (2, .int (l2))] [.int (s0), va_rf (s1)] := by
  unfold m_X12_piece__34 at h
  obtain ⟨a1, ea1, ma1, ka1, h⟩ := q_atE h
  refine q_putI X 0 ea1 ma1 ka1 rfl tW_X12 (by decide) (by decide) tF_X12_96 tyX12 tyX12_ok nmX12 rfl (tyX12_ok 0 (by decide)) rfl rfl rfl dX12_piece__34 ?_
  have ma1 : a1 ∈ q_L (q_sI (S) a1 0 (s0)) := q_LsI ma1
  have ka1 : q_K (q_sI (S) a1 0 (s0)) a1 = 13 := q_KsI ka1
  refine q_aload_n X 0 rfl dX12_piece__37 ?_
  obtain ⟨a2, ea2, ma2, ka2, h⟩ := q_atE h
  refine q_getI X 0 ea2 ma2 ka2 rfl tW_X12 (by decide) (by decide) tF_X12_96 rfl dX12_piece__38 ?_
  refine q_if_le X 48 (by decide) dX12_piece__41 (fun g3 => ?_) (fun g3 => ?_)
  · rw [if_pos g3] at h
    refine q_aload_n X 0 rfl dX12_piece__48 ?_
    refine q_getR X 37 ea2 ma2 ka2 rfl tW_X12 (by decide) (by decide) tF_X12_87 rfl dX12_piece__49 ?_
    refine q_bipush X (8) (by decide) dX12_piece__52 ?_
    refine q_iload_n X 1 rfl dX12_piece__54 ?_
    refine q_imul X dX12_piece__55 ?_
    refine q_iload_n X 2 rfl dX12_piece__56 ?_
    refine q_iadd X dX12_piece__57 ?_
    obtain ⟨a4, ea4, ma4, ka4, h⟩ := q_atE h
    obtain ⟨g5, h⟩ := q_ifE h
    refine q_iaload X ea4 ma4 ka4 (q_inE g5) dX12_piece__58 ?_
    refine q_lv [] rfl ?_
    exact w_X12_piece__59 X hr hl _ _ h
  · rw [if_neg g3] at h
    refine q_iconst X (0) (by decide) dX12_piece__44 ?_
    refine q_goto X 59 (by decide) dX12_piece__45 ?_
    refine q_lv [] rfl ?_
    exact w_X12_piece__59 X hr hl _ _ h
def m_X12_piece__33 (n : Nat) (S : q_S) (l0 : Option Nat) (l1 : Int32) (l2 : Int32) (s0 : Option Nat) : Option (Int32 × q_S) := m_X12_piece__34 n (S) (l0) (l1) (l2) ((1 : Int32)) (s0)
set_option maxHeartbeats 4000000 in
set_option maxRecDepth 100000 in
theorem w_X12_piece__33 (X : q_X p s m args c cX12_piece_ 3 RX12 q_T D cy A) (hr : meth.sig.returnType = (some .int)) (hl : meth.locks = false)  {n : Nat} {Sv : q_S} {rv : Int32}  (S : q_S) (l0 : Option Nat) (l1 : Int32) (l2 : Int32) (s0 : Option Nat) (h : m_X12_piece__33 n S l0 l1 l2 s0 = some (rv, Sv)) : q_W p l e ({ frames := 1, cells := 0, slots := 0, locals := 25 } : Room) s m args below meth c (MQ below (va_Qi (fun (r : Int32) (u : q_S) => r = rv ∧ u = Sv) (q_B D cy A) A) args s 0 0 A) A D cy 3 0 0 S 33 [(0, va_rf (l0)), (1, .int (l1)), (2, .int (l2))] [va_rf (s0)] := by
  unfold m_X12_piece__33 at h
  refine q_iconst X (1) (by decide) dX12_piece__33 ?_
  exact w_X12_piece__34 X hr hl _ _ _ _ _ _ h
def m_X12_piece_ (n : Nat) (S : q_S) (o : Nat) (p0 : Int32) (p1 : Int32) : Option (Int32 × q_S) := q_at (S) (some o) 13 (fun a1 => q_b (m_X12_in n (S) (p0.toInt64) ((0 : Int64)) (((q_I (S) a1 36) - (1 : Int32)).toInt64)) (fun r2 S3 => (if r2 = 0 then m_X12_piece__33 n (S3) (some o) (p0) (p1) (some o) else q_b (m_X12_in n (S3) (p1.toInt64) ((0 : Int64)) ((7 : Int64))) (fun r6 S7 => (if r6 = 0 then m_X12_piece__33 n (S7) (some o) (p0) (p1) (some o) else m_X12_piece__34 n (S7) (some o) (p0) (p1) ((0 : Int32)) (some o))))))
set_option maxHeartbeats 4000000 in
set_option maxRecDepth 100000 in
theorem w_X12_piece_ (X : q_X p s m args c cX12_piece_ 3 RX12 q_T D cy A) (hr : meth.sig.returnType = (some .int)) (hl : meth.locks = false)  {n : Nat} {S Sv : q_S} {rv : Int32} {o : Nat} {p0 : Int32} {p1 : Int32} (h : m_X12_piece_ n S o p0 p1 = some (rv, Sv)) : q_W p l e ({ frames := 1, cells := 0, slots := 0, locals := 25 } : Room) s m args below meth c (MQ below (va_Qi (fun (r : Int32) (u : q_S) => r = rv ∧ u = Sv) (q_B D cy A) A) args s 0 0 A) A D cy 3 0 0 S 0 [(0, va_rf (some o)), (1, .int (p0)), (2, .int (p1))] [] := by
  unfold m_X12_piece_ at h
  refine q_aload_n X 0 rfl dX12_piece__0 ?_
  refine q_iload_n X 1 rfl dX12_piece__1 ?_
  refine q_i2l X dX12_piece__2 ?_
  refine q_lconst X (0) (by decide) dX12_piece__3 ?_
  refine q_aload_n X 0 rfl dX12_piece__4 ?_
  obtain ⟨a1, ea1, ma1, ka1, h⟩ := q_atE h
  refine q_getI X 36 ea1 ma1 ka1 rfl tW_X12 (by decide) (by decide) tF_X12_142 rfl dX12_piece__5 ?_
  refine q_iconst X (1) (by decide) dX12_piece__8 ?_
  refine q_isub X dX12_piece__9 ?_
  refine q_i2l X dX12_piece__10 ?_
  obtain ⟨r2, S3, c4, h⟩ := q_bE h
  refine q_cSI X (As := [.long (p0.toInt64), .long ((0 : Int64)), .long (((q_I (S) a1 36) - (1 : Int32)).toInt64)]) (c_X12_in c4) (q_cwS X tK_X12_in tM_X12_102 tS_X12_in tN_X12 rfl rfl tD_X12_in ⟨Nat.le_of_ble_eq_true rfl, Nat.le_of_ble_eq_true rfl⟩) rfl rfl (by first | exact Nat.le_of_ble_eq_true rfl | (simp only [List.map, q_catR]; exact Nat.le_of_ble_eq_true rfl)) ⟨Nat.zero_le _, Nat.zero_le _⟩ dX12_piece__11 ?_
  refine q_if_eq X 33 (by decide) dX12_piece__14 (fun g5 => ?_) (fun g5 => ?_)
  · rw [if_pos g5] at h
    exact w_X12_piece__33 X hr hl _ _ _ _ _ h
  · rw [if_neg g5] at h
    refine q_iload_n X 2 rfl dX12_piece__17 ?_
    refine q_i2l X dX12_piece__18 ?_
    refine q_lconst X (0) (by decide) dX12_piece__19 ?_
    refine q_ldc2_w X (7) tC_X12_259 dX12_piece__20 ?_
    obtain ⟨r6, S7, c8, h⟩ := q_bE h
    refine q_cSI X (As := [.long (p1.toInt64), .long ((0 : Int64)), .long ((7 : Int64))]) (c_X12_in c8) (q_cwS X tK_X12_in tM_X12_102 tS_X12_in tN_X12 rfl rfl tD_X12_in ⟨Nat.le_of_ble_eq_true rfl, Nat.le_of_ble_eq_true rfl⟩) rfl rfl (by first | exact Nat.le_of_ble_eq_true rfl | (simp only [List.map, q_catR]; exact Nat.le_of_ble_eq_true rfl)) ⟨Nat.zero_le _, Nat.zero_le _⟩ dX12_piece__23 ?_
    refine q_if_eq X 33 (by decide) dX12_piece__26 (fun g9 => ?_) (fun g9 => ?_)
    · rw [if_pos g9] at h
      exact w_X12_piece__33 X hr hl _ _ _ _ _ h
    · rw [if_neg g9] at h
      refine q_iconst X (0) (by decide) dX12_piece__29 ?_
      refine q_goto X 34 (by decide) dX12_piece__30 ?_
      exact w_X12_piece__34 X hr hl _ _ _ _ _ _ h
theorem tD_X12_piece_ : yX12_piece_.cls ≠ "java/lang/invoke/MethodHandle" ∧ yX12_piece_.cls ≠ "java/lang/invoke/VarHandle" ∧ (parseMethodDescriptor yX12_piece_.desc).map (fun d => d.parameters.length) = some 2 := by decide +kernel
theorem c_X12_piece_ {l : Launch} {D : va_G} {cy : Nat → ClassId} {n : Nat} {S Sv : q_S} {rv : Int32} {o : Nat} {p0 : Int32} {p1 : Int32} (h : m_X12_piece_ n S o p0 p1 = some (rv, Sv)) : q_MI l yX12_piece_ (q_ws yX12_piece_ cX12_piece_ 3 ((some .int))) ({ frames := 1, cells := 0, slots := 0, locals := 25 } : Room) D cy [.ref o, .int (p0), .int (p1)] S rv Sv := by
  exact q_MI_of (by decide +kernel) (Nat.le_of_ble_eq_true rfl) (fun p e s m args below meth c A X hr hl => w_X12_piece_ X hr hl h)
/-! TrueOutlinesModel.putGlyf(I)V -/
def m_X12_putGlyf_81 (n : Nat) (k2 : q_S → Option Nat → Int32 → Int32 → Option (Unit × q_S)) (S : q_S) (l0 : Option Nat) (l1 : Int32) (l2 : Int32) : Option (Unit × q_S) := k2 (S) (l0) (l1) (l2 + (1))
set_option maxHeartbeats 4000000 in
set_option maxRecDepth 100000 in
theorem w_X12_putGlyf_81 (X : q_X p s m args c cX12_putGlyf 6 RX12 q_T D cy A) (hr : meth.sig.returnType = none) (hl : meth.locks = false)  {n : Nat} {Sv : q_S}  {k2 : q_S → Option Nat → Int32 → Int32 → Option (Unit × q_S)} (hk2 : ∀ (S : q_S) (z0 : Option Nat) (z1 : Int32) (z2 : Int32), k2 S z0 z1 z2 = some ((), Sv) → q_W p l e ({ frames := 5, cells := 0, slots := 0, locals := 118 } : Room) s m args below meth c (MQ below (va_Qv (fun (u : q_S) => u = Sv) (q_B D cy A) A) args s 0 0 A) A D cy 6 0 0 S 2 [(0, va_rf (z0)), (1, .int (z1)), (2, .int (z2))] []) (S : q_S) (l0 : Option Nat) (l1 : Int32) (l2 : Int32) (h : m_X12_putGlyf_81 n k2 S l0 l1 l2 = some ((), Sv)) : q_W p l e ({ frames := 5, cells := 0, slots := 0, locals := 118 } : Room) s m args below meth c (MQ below (va_Qv (fun (u : q_S) => u = Sv) (q_B D cy A) A) args s 0 0 A) A D cy 6 0 0 S 81 [(0, va_rf (l0)), (1, .int (l1)), (2, .int (l2))] [] := by
  unfold m_X12_putGlyf_81 at h
  refine q_iinc X 2 2 (l2 + (1)) [(2, .int (l2 + (1))), (0, va_rf (l0)), (1, .int (l1))] rfl (congrArg (fun z => l2 + z) (show Int32.ofInt (1) = (1) by decide)) (by decide) (by first | rfl | simp [List.filter, q_catR]) dX12_putGlyf_81 ?_
  refine q_goto X 2 (by decide) dX12_putGlyf_84 ?_
  refine q_lv [1, 2, 0] rfl ?_
  exact hk2 _ _ _ _ h
def m_X12_putGlyf_29 (n : Nat) (k2 : q_S → Option Nat → Int32 → Int32 → Option (Unit × q_S)) : Nat → q_S → Option Nat → Int32 → Int32 → Int32 → Int32 → Int32 → Option (Unit × q_S)
  | 0, _, _, _, _, _, _, _ => none
  | k + 1, S, l0, l1, l2, l3, l4, l5 => (if l4 ≤ l5 then q_if (¬ (2 : Int32) = 0) ((if ((l4 - l3) - (l4 - l3) / (2 : Int32) * (2 : Int32)) = (1 : Int32) then q_at (S) (l0) 13 (fun a4 => q_b (m_X12_put n (S) a4 ((0 : Int32))) (fun _ S5 => m_X12_putGlyf_81 n k2 (S5) (l0) (l1) (l2))) else m_X12_putGlyf_81 n k2 (S) (l0) (l1) (l2))) else q_at (S) (l0) 13 (fun a8 => q_b (m_X12_find n (S) a8 ((1735162214 : Int64))) (fun r9 S10 => q_at (S10) (q_R (S) a8 6) 100 (fun a12 => q_if (q_in (r9) (q_N (S10) a12) = true) (q_at (S10) (q_R (S) a8 1) 100 (fun a14 => q_if (q_in ((q_I (S10) a12 (r9).toNatClampNeg) + l5) (q_N (S10) a14) = true) (q_at (S10) (l0) 13 (fun a16 => q_b (m_X12_put n (S10) a16 (q_I (S10) a14 ((q_I (S10) a12 (r9).toNatClampNeg) + l5).toNatClampNeg)) (fun _ S17 => m_X12_putGlyf_29 n k2 k (S17) (l0) (l1) (l2) (l3) (l4) (l5 + (1)))))))))))
set_option maxHeartbeats 4000000 in
set_option maxRecDepth 100000 in
theorem w_X12_putGlyf_29 (X : q_X p s m args c cX12_putGlyf 6 RX12 q_T D cy A) (hr : meth.sig.returnType = none) (hl : meth.locks = false)  {n : Nat} {Sv : q_S}  {k2 : q_S → Option Nat → Int32 → Int32 → Option (Unit × q_S)} (hk2 : ∀ (S : q_S) (z0 : Option Nat) (z1 : Int32) (z2 : Int32), k2 S z0 z1 z2 = some ((), Sv) → q_W p l e ({ frames := 5, cells := 0, slots := 0, locals := 118 } : Room) s m args below meth c (MQ below (va_Qv (fun (u : q_S) => u = Sv) (q_B D cy A) A) args s 0 0 A) A D cy 6 0 0 S 2 [(0, va_rf (z0)), (1, .int (z1)), (2, .int (z2))] []) : ∀ (k : Nat) (S : q_S) (l0 : Option Nat) (l1 : Int32) (l2 : Int32) (l3 : Int32) (l4 : Int32) (l5 : Int32), m_X12_putGlyf_29 n k2 k S l0 l1 l2 l3 l4 l5 = some ((), Sv) → q_W p l e ({ frames := 5, cells := 0, slots := 0, locals := 118 } : Room) s m args below meth c (MQ below (va_Qv (fun (u : q_S) => u = Sv) (q_B D cy A) A) args s 0 0 A) A D cy 6 0 0 S 29 [(0, va_rf (l0)), (1, .int (l1)), (2, .int (l2)), (3, .int (l3)), (4, .int (l4)), (5, .int (l5))] [] := by
  intro k
  induction k with
  | zero => intro S l0 l1 l2 l3 l4 l5 h; rw [m_X12_putGlyf_29] at h; cases h
  | succ k ih =>
    intro S l0 l1 l2 l3 l4 l5 h
    rw [m_X12_putGlyf_29] at h
    refine q_iload X 5 rfl dX12_putGlyf_29 ?_
    refine q_iload X 4 rfl dX12_putGlyf_31 ?_
    refine q_icmp_ge X 66 (by decide) dX12_putGlyf_33 (fun g1 => ?_) (fun g1 => ?_)
    · rw [if_pos g1] at h
      refine q_iload X 4 rfl dX12_putGlyf_66 ?_
      refine q_iload_n X 3 rfl dX12_putGlyf_68 ?_
      refine q_isub X dX12_putGlyf_69 ?_
      refine q_iconst X (2) (by decide) dX12_putGlyf_70 ?_
      obtain ⟨g2, h⟩ := q_ifE h
      refine q_irem X g2 dX12_putGlyf_71 ?_
      refine q_iconst X (1) (by decide) dX12_putGlyf_72 ?_
      refine q_icmp_ne X 81 (by decide) dX12_putGlyf_73 (fun g3 => ?_) (fun g3 => ?_)
      · rw [if_neg g3] at h
        refine q_lv [0, 1, 2] rfl ?_
        exact w_X12_putGlyf_81 X hr hl hk2 _ _ _ _ h
      · rw [if_pos g3] at h
        refine q_aload_n X 0 rfl dX12_putGlyf_76 ?_
        refine q_iconst X (0) (by decide) dX12_putGlyf_77 ?_
        obtain ⟨a4, ea4, ma4, ka4, h⟩ := q_atE h
        obtain ⟨u7, S5, c6, h⟩ := q_bE h
        refine q_cVV X (As := [.int ((0 : Int32))]) ea4 ma4 ka4 rfl (by decide) (c_X12_put c6) (q_cwV X tK_X12_put tM_X12_312 tI_X12_put tV_X12_put tN_X12 rfl rfl tD_X12_put ⟨Nat.le_of_ble_eq_true rfl, Nat.le_of_ble_eq_true rfl⟩) rfl rfl (by first | exact Nat.le_of_ble_eq_true rfl | (simp only [List.map, q_catR]; exact Nat.le_of_ble_eq_true rfl)) ⟨Nat.zero_le _, Nat.zero_le _⟩ dX12_putGlyf_78 ?_
        refine q_lv [0, 1, 2] rfl ?_
        exact w_X12_putGlyf_81 X hr hl hk2 _ _ _ _ h
    · rw [if_neg g1] at h
      refine q_aload_n X 0 rfl dX12_putGlyf_36 ?_
      refine q_aload_n X 0 rfl dX12_putGlyf_37 ?_
      obtain ⟨a8, ea8, ma8, ka8, h⟩ := q_atE h
      refine q_getR X 1 ea8 ma8 ka8 rfl tW_X12 (by decide) (by decide) tF_X12_7 rfl dX12_putGlyf_38 ?_
      refine q_aload_n X 0 rfl dX12_putGlyf_41 ?_
      refine q_getR X 6 ea8 ma8 ka8 rfl tW_X12 (by decide) (by decide) tF_X12_20 rfl dX12_putGlyf_42 ?_
      refine q_aload_n X 0 rfl dX12_putGlyf_45 ?_
      refine q_ldc2_w X (1735162214) tC_X12_197 dX12_putGlyf_46 ?_
      obtain ⟨r9, S10, c11, h⟩ := q_bE h
      refine q_cVI X (As := [.long ((1735162214 : Int64))]) ea8 ma8 ka8 rfl (by decide) (c_X12_find c11) (q_cwV X tK_X12_find tM_X12_127 tI_X12_find tV_X12_find tN_X12 rfl rfl tD_X12_find ⟨Nat.le_of_ble_eq_true rfl, Nat.le_of_ble_eq_true rfl⟩) rfl rfl (by first | exact Nat.le_of_ble_eq_true rfl | (simp only [List.map, q_catR]; exact Nat.le_of_ble_eq_true rfl)) ⟨Nat.zero_le _, Nat.zero_le _⟩ dX12_putGlyf_49 ?_
      obtain ⟨a12, ea12, ma12, ka12, h⟩ := q_atE h
      obtain ⟨g13, h⟩ := q_ifE h
      refine q_iaload X ea12 ma12 ka12 (q_inE g13) dX12_putGlyf_52 ?_
      refine q_iload X 5 rfl dX12_putGlyf_53 ?_
      refine q_iadd X dX12_putGlyf_55 ?_
      obtain ⟨a14, ea14, ma14, ka14, h⟩ := q_atE h
      obtain ⟨g15, h⟩ := q_ifE h
      refine q_iaload X ea14 ma14 ka14 (q_inE g15) dX12_putGlyf_56 ?_
      obtain ⟨a16, ea16, ma16, ka16, h⟩ := q_atE h
      obtain ⟨u19, S17, c18, h⟩ := q_bE h
      refine q_cVV X (As := [.int (q_I (S10) a14 ((q_I (S10) a12 (r9).toNatClampNeg) + l5).toNatClampNeg)]) ea16 ma16 ka16 rfl (by decide) (c_X12_put c18) (q_cwV X tK_X12_put tM_X12_312 tI_X12_put tV_X12_put tN_X12 rfl rfl tD_X12_put ⟨Nat.le_of_ble_eq_true rfl, Nat.le_of_ble_eq_true rfl⟩) rfl rfl (by first | exact Nat.le_of_ble_eq_true rfl | (simp only [List.map, q_catR]; exact Nat.le_of_ble_eq_true rfl)) ⟨Nat.zero_le _, Nat.zero_le _⟩ dX12_putGlyf_57 ?_
      refine q_iinc X 5 5 (l5 + (1)) [(5, .int (l5 + (1))), (0, va_rf (l0)), (1, .int (l1)), (2, .int (l2)), (3, .int (l3)), (4, .int (l4))] rfl (congrArg (fun z => l5 + z) (show Int32.ofInt (1) = (1) by decide)) (by decide) (by first | rfl | simp [List.filter, q_catR]) dX12_putGlyf_60 ?_
      refine q_goto X 29 (by decide) dX12_putGlyf_63 ?_
      refine q_lv [1, 2, 3, 4, 5, 0] rfl ?_
      exact ih _ _ _ _ _ _ _ h
def m_X12_putGlyf_2 (n : Nat) : Nat → q_S → Option Nat → Int32 → Int32 → Option (Unit × q_S)
  | 0, _, _, _, _ => none
  | k + 1, S, l0, l1, l2 => (if l1 ≤ l2 then some ((), S) else q_at (S) (l0) 13 (fun a2 => q_b (m_X12_goes n (S) a2 (l2)) (fun r3 S4 => (if r3 = 0 then m_X12_putGlyf_81 n (m_X12_putGlyf_2 n k) (S4) (l0) (l1) (l2) else q_at (S4) (l0) 13 (fun a7 => m_X12_putGlyf_29 n (m_X12_putGlyf_2 n k) n (S4) (l0) (l1) (l2) (q_I (S4) a7 21) (q_I (S4) a7 22) (q_I (S4) a7 21))))))
set_option maxHeartbeats 4000000 in
set_option maxRecDepth 100000 in
theorem w_X12_putGlyf_2 (X : q_X p s m args c cX12_putGlyf 6 RX12 q_T D cy A) (hr : meth.sig.returnType = none) (hl : meth.locks = false)  {n : Nat} {Sv : q_S}  : ∀ (k : Nat) (S : q_S) (l0 : Option Nat) (l1 : Int32) (l2 : Int32), m_X12_putGlyf_2 n k S l0 l1 l2 = some ((), Sv) → q_W p l e ({ frames := 5, cells := 0, slots := 0, locals := 118 } : Room) s m args below meth c (MQ below (va_Qv (fun (u : q_S) => u = Sv) (q_B D cy A) A) args s 0 0 A) A D cy 6 0 0 S 2 [(0, va_rf (l0)), (1, .int (l1)), (2, .int (l2))] [] := by
  intro k
  induction k with
  | zero => intro S l0 l1 l2 h; rw [m_X12_putGlyf_2] at h; cases h
  | succ k ih =>
    intro S l0 l1 l2 h
    rw [m_X12_putGlyf_2] at h
    refine q_iload_n X 2 rfl dX12_putGlyf_2 ?_
    refine q_iload_n X 1 rfl dX12_putGlyf_3 ?_
    refine q_icmp_ge X 87 (by decide) dX12_putGlyf_4 (fun g1 => ?_) (fun g1 => ?_)
    · rw [if_pos g1] at h
      obtain ⟨ev, eS⟩ := q_end h
      exact q_vret X hr hl eS dX12_putGlyf_87
    · rw [if_neg g1] at h
      refine q_aload_n X 0 rfl dX12_putGlyf_7 ?_
      refine q_iload_n X 2 rfl dX12_putGlyf_8 ?_
      obtain ⟨a2, ea2, ma2, ka2, h⟩ := q_atE h
      obtain ⟨r3, S4, c5, h⟩ := q_bE h
      refine q_cVI X (As := [.int (l2)]) ea2 ma2 ka2 rfl (by decide) (c_X12_goes c5) (q_cwV X tK_X12_goes tM_X12_315 tI_X12_goes tV_X12_goes tN_X12 rfl rfl tD_X12_goes ⟨Nat.le_of_ble_eq_true rfl, Nat.le_of_ble_eq_true rfl⟩) rfl rfl (by first | exact Nat.le_of_ble_eq_true rfl | (simp only [List.map, q_catR]; exact Nat.le_of_ble_eq_true rfl)) ⟨Nat.zero_le _, Nat.zero_le _⟩ dX12_putGlyf_9 ?_
      refine q_if_eq X 81 (by decide) dX12_putGlyf_12 (fun g6 => ?_) (fun g6 => ?_)
      · rw [if_pos g6] at h
        exact w_X12_putGlyf_81 X hr hl ih _ _ _ _ h
      · rw [if_neg g6] at h
        refine q_aload_n X 0 rfl dX12_putGlyf_15 ?_
        obtain ⟨a7, ea7, ma7, ka7, h⟩ := q_atE h
        refine q_getI X 21 ea7 ma7 ka7 rfl tW_X12 (by decide) (by decide) tF_X12_191 rfl dX12_putGlyf_16 ?_
        refine q_istore_n X 3 [(3, .int (q_I (S4) a7 21)), (0, va_rf (l0)), (1, .int (l1)), (2, .int (l2))] rfl (by decide) (by first | rfl | simp [List.filter, q_catR]) dX12_putGlyf_19 ?_
        refine q_aload_n X 1 rfl dX12_putGlyf_20 ?_
        refine q_getI X 22 ea7 ma7 ka7 rfl tW_X12 (by decide) (by decide) tF_X12_194 rfl dX12_putGlyf_21 ?_
        refine q_istore X 4 [(4, .int (q_I (S4) a7 22)), (3, .int (q_I (S4) a7 21)), (0, va_rf (l0)), (1, .int (l1)), (2, .int (l2))] (by decide) (by first | rfl | simp [List.filter, q_catR]) dX12_putGlyf_24 ?_
        refine q_iload_n X 1 rfl dX12_putGlyf_26 ?_
        refine q_istore X 5 [(5, .int (q_I (S4) a7 21)), (4, .int (q_I (S4) a7 22)), (3, .int (q_I (S4) a7 21)), (0, va_rf (l0)), (1, .int (l1)), (2, .int (l2))] (by decide) (by first | rfl | simp [List.filter, q_catR]) dX12_putGlyf_27 ?_
        refine q_lv [3, 4, 5, 2, 1, 0] rfl ?_
        exact w_X12_putGlyf_29 X hr hl ih n _ _ _ _ _ _ _ h
def m_X12_putGlyf (n : Nat) (S : q_S) (o : Nat) (p0 : Int32) : Option (Unit × q_S) := m_X12_putGlyf_2 n n (S) (some o) (p0) ((0 : Int32))
set_option maxHeartbeats 4000000 in
set_option maxRecDepth 100000 in
theorem w_X12_putGlyf (X : q_X p s m args c cX12_putGlyf 6 RX12 q_T D cy A) (hr : meth.sig.returnType = none) (hl : meth.locks = false)  {n : Nat} {S Sv : q_S} {o : Nat} {p0 : Int32} (h : m_X12_putGlyf n S o p0 = some ((), Sv)) : q_W p l e ({ frames := 5, cells := 0, slots := 0, locals := 118 } : Room) s m args below meth c (MQ below (va_Qv (fun (u : q_S) => u = Sv) (q_B D cy A) A) args s 0 0 A) A D cy 6 0 0 S 0 [(0, va_rf (some o)), (1, .int (p0))] [] := by
  unfold m_X12_putGlyf at h
  refine q_iconst X (0) (by decide) dX12_putGlyf_0 ?_
  refine q_istore_n X 2 [(2, .int ((0 : Int32))), (0, va_rf (some o)), (1, .int (p0))] rfl (by decide) (by first | rfl | simp [List.filter, q_catR]) dX12_putGlyf_1 ?_
  refine q_lv [1, 2, 0] rfl ?_
  exact w_X12_putGlyf_2 X hr hl n _ _ _ _ h
theorem tD_X12_putGlyf : yX12_putGlyf.cls ≠ "java/lang/invoke/MethodHandle" ∧ yX12_putGlyf.cls ≠ "java/lang/invoke/VarHandle" ∧ (parseMethodDescriptor yX12_putGlyf.desc).map (fun d => d.parameters.length) = some 1 := by decide +kernel
theorem c_X12_putGlyf {l : Launch} {D : va_G} {cy : Nat → ClassId} {n : Nat} {S Sv : q_S} {o : Nat} {p0 : Int32} (h : m_X12_putGlyf n S o p0 = some ((), Sv)) : q_MV l yX12_putGlyf (q_ws yX12_putGlyf cX12_putGlyf 6 (none)) ({ frames := 5, cells := 0, slots := 0, locals := 118 } : Room) D cy [.ref o, .int (p0)] S Sv := by
  exact q_MV_of (by decide +kernel) (Nat.le_of_ble_eq_true rfl) (fun p e s m args below meth c A X hr hl => w_X12_putGlyf X hr hl h)
end MM
