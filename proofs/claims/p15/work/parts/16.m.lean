section MM
variable {p : Program} {l : Launch} {e : Env} {s : State} {m : MethodId} {args : Array Value} {below : List Frame} {meth : Method} {c : Code} {A : Nat → Prop} {D : va_G} {cy : Nat → ClassId}
/-! TrueOutlines$Points.x(I)I -/
def m_X3_x_18 (n : Nat) (S : q_S) (s0 : Int32) : Option (Int32 × q_S) := some (s0, S)
set_option maxHeartbeats 4000000 in
set_option maxRecDepth 100000 in
theorem w_X3_x_18 (X : q_X p s m args c cX3_x 2 RX3 q_T D cy A) (hr : meth.sig.returnType = (some .int)) (hl : meth.locks = false)  {n : Nat} {Sv : q_S} {rv : Int32}  (S : q_S) (s0 : Int32) (h : m_X3_x_18 n S s0 = some (rv, Sv)) : q_W p l e ({ frames := 1, cells := 0, slots := 0, locals := 21 } : Room) s m args below meth c (MQ below (va_Qi (fun (r : Int32) (u : q_S) => r = rv ∧ u = Sv) (q_B D cy A) A) args s 0 0 A) A D cy 2 0 0 S 18 [] [.int (s0)] := by
  unfold m_X3_x_18 at h
  obtain ⟨ev, eS⟩ := q_end h
  exact q_iret X hr hl rfl ev eS dX3_x_18
def m_X3_x (n : Nat) (S : q_S) (o : Nat) (p0 : Int32) : Option (Int32 × q_S) := q_at (S) (some o) 4 (fun a1 => q_b (m_X3_has n (S) a1 (p0)) (fun r2 S3 => (if r2 = 0 then m_X3_x_18 n (S3) ((0 : Int32)) else q_at (S3) (some o) 4 (fun a6 => q_at (S3) (q_R (S3) a6 0) 100 (fun a7 => q_if (q_in (p0) (q_N (S3) a7) = true) (m_X3_x_18 n (S3) (q_I (S3) a7 (p0).toNatClampNeg)))))))
set_option maxHeartbeats 4000000 in
set_option maxRecDepth 100000 in
theorem w_X3_x (X : q_X p s m args c cX3_x 2 RX3 q_T D cy A) (hr : meth.sig.returnType = (some .int)) (hl : meth.locks = false)  {n : Nat} {S Sv : q_S} {rv : Int32} {o : Nat} {p0 : Int32} (h : m_X3_x n S o p0 = some (rv, Sv)) : q_W p l e ({ frames := 1, cells := 0, slots := 0, locals := 21 } : Room) s m args below meth c (MQ below (va_Qi (fun (r : Int32) (u : q_S) => r = rv ∧ u = Sv) (q_B D cy A) A) args s 0 0 A) A D cy 2 0 0 S 0 [(0, va_rf (some o)), (1, .int (p0))] [] := by
  unfold m_X3_x at h
  refine q_aload_n X 0 rfl dX3_x_0 ?_
  refine q_iload_n X 1 rfl dX3_x_1 ?_
  obtain ⟨a1, ea1, ma1, ka1, h⟩ := q_atE h
  obtain ⟨r2, S3, c4, h⟩ := q_bE h
  refine q_cVI X (As := [.int (p0)]) ea1 ma1 ka1 rfl (by decide) (c_X3_has c4) (q_cwV X tK_X3_has tM_X3_31 tI_X3_has tV_X3_has tN_X3 rfl rfl tD_X3_has ⟨Nat.le_of_ble_eq_true rfl, Nat.le_of_ble_eq_true rfl⟩) rfl rfl (by first | exact Nat.le_of_ble_eq_true rfl | (simp only [List.map, q_catR]; exact Nat.le_of_ble_eq_true rfl)) ⟨Nat.zero_le _, Nat.zero_le _⟩ dX3_x_2 ?_
  refine q_if_eq X 17 (by decide) dX3_x_5 (fun g5 => ?_) (fun g5 => ?_)
  · rw [if_pos g5] at h
    refine q_iconst X (0) (by decide) dX3_x_17 ?_
    refine q_lv [] rfl ?_
    exact w_X3_x_18 X hr hl _ _ h
  · rw [if_neg g5] at h
    refine q_aload_n X 0 rfl dX3_x_8 ?_
    obtain ⟨a6, ea6, ma6, ka6, h⟩ := q_atE h
    refine q_getR X 0 ea6 ma6 ka6 rfl tW_X3 (by decide) (by decide) tF_X3_9 rfl dX3_x_9 ?_
    refine q_iload_n X 1 rfl dX3_x_12 ?_
    obtain ⟨a7, ea7, ma7, ka7, h⟩ := q_atE h
    obtain ⟨g8, h⟩ := q_ifE h
    refine q_iaload X ea7 ma7 ka7 (q_inE g8) dX3_x_13 ?_
    refine q_goto X 18 (by decide) dX3_x_14 ?_
    refine q_lv [] rfl ?_
    exact w_X3_x_18 X hr hl _ _ h
theorem tD_X3_x : yX3_x.cls ≠ "java/lang/invoke/MethodHandle" ∧ yX3_x.cls ≠ "java/lang/invoke/VarHandle" ∧ (parseMethodDescriptor yX3_x.desc).map (fun d => d.parameters.length) = some 1 := by decide +kernel
theorem c_X3_x {l : Launch} {D : va_G} {cy : Nat → ClassId} {n : Nat} {S Sv : q_S} {rv : Int32} {o : Nat} {p0 : Int32} (h : m_X3_x n S o p0 = some (rv, Sv)) : q_MI l yX3_x (q_ws yX3_x cX3_x 2 ((some .int))) ({ frames := 1, cells := 0, slots := 0, locals := 21 } : Room) D cy [.ref o, .int (p0)] S rv Sv := by
  exact q_MI_of (by decide +kernel) (Nat.le_of_ble_eq_true rfl) (fun p e s m args below meth c A X hr hl => w_X3_x X hr hl h)
/-! TrueOutlines$Points.y(I)I -/
def m_X3_y_18 (n : Nat) (S : q_S) (s0 : Int32) : Option (Int32 × q_S) := some (s0, S)
set_option maxHeartbeats 4000000 in
set_option maxRecDepth 100000 in
theorem w_X3_y_18 (X : q_X p s m args c cX3_y 2 RX3 q_T D cy A) (hr : meth.sig.returnType = (some .int)) (hl : meth.locks = false)  {n : Nat} {Sv : q_S} {rv : Int32}  (S : q_S) (s0 : Int32) (h : m_X3_y_18 n S s0 = some (rv, Sv)) : q_W p l e ({ frames := 1, cells := 0, slots := 0, locals := 21 } : Room) s m args below meth c (MQ below (va_Qi (fun (r : Int32) (u : q_S) => r = rv ∧ u = Sv) (q_B D cy A) A) args s 0 0 A) A D cy 2 0 0 S 18 [] [.int (s0)] := by
  unfold m_X3_y_18 at h
  obtain ⟨ev, eS⟩ := q_end h
  exact q_iret X hr hl rfl ev eS dX3_y_18
def m_X3_y (n : Nat) (S : q_S) (o : Nat) (p0 : Int32) : Option (Int32 × q_S) := q_at (S) (some o) 4 (fun a1 => q_b (m_X3_has n (S) a1 (p0)) (fun r2 S3 => (if r2 = 0 then m_X3_y_18 n (S3) ((0 : Int32)) else q_at (S3) (some o) 4 (fun a6 => q_at (S3) (q_R (S3) a6 1) 100 (fun a7 => q_if (q_in (p0) (q_N (S3) a7) = true) (m_X3_y_18 n (S3) (q_I (S3) a7 (p0).toNatClampNeg)))))))
set_option maxHeartbeats 4000000 in
set_option maxRecDepth 100000 in
theorem w_X3_y (X : q_X p s m args c cX3_y 2 RX3 q_T D cy A) (hr : meth.sig.returnType = (some .int)) (hl : meth.locks = false)  {n : Nat} {S Sv : q_S} {rv : Int32} {o : Nat} {p0 : Int32} (h : m_X3_y n S o p0 = some (rv, Sv)) : q_W p l e ({ frames := 1, cells := 0, slots := 0, locals := 21 } : Room) s m args below meth c (MQ below (va_Qi (fun (r : Int32) (u : q_S) => r = rv ∧ u = Sv) (q_B D cy A) A) args s 0 0 A) A D cy 2 0 0 S 0 [(0, va_rf (some o)), (1, .int (p0))] [] := by
  unfold m_X3_y at h
  refine q_aload_n X 0 rfl dX3_y_0 ?_
  refine q_iload_n X 1 rfl dX3_y_1 ?_
  obtain ⟨a1, ea1, ma1, ka1, h⟩ := q_atE h
  obtain ⟨r2, S3, c4, h⟩ := q_bE h
  refine q_cVI X (As := [.int (p0)]) ea1 ma1 ka1 rfl (by decide) (c_X3_has c4) (q_cwV X tK_X3_has tM_X3_31 tI_X3_has tV_X3_has tN_X3 rfl rfl tD_X3_has ⟨Nat.le_of_ble_eq_true rfl, Nat.le_of_ble_eq_true rfl⟩) rfl rfl (by first | exact Nat.le_of_ble_eq_true rfl | (simp only [List.map, q_catR]; exact Nat.le_of_ble_eq_true rfl)) ⟨Nat.zero_le _, Nat.zero_le _⟩ dX3_y_2 ?_
  refine q_if_eq X 17 (by decide) dX3_y_5 (fun g5 => ?_) (fun g5 => ?_)
  · rw [if_pos g5] at h
    refine q_iconst X (0) (by decide) dX3_y_17 ?_
    refine q_lv [] rfl ?_
    exact w_X3_y_18 X hr hl _ _ h
  · rw [if_neg g5] at h
    refine q_aload_n X 0 rfl dX3_y_8 ?_
    obtain ⟨a6, ea6, ma6, ka6, h⟩ := q_atE h
    refine q_getR X 1 ea6 ma6 ka6 rfl tW_X3 (by decide) (by decide) tF_X3_15 rfl dX3_y_9 ?_
    refine q_iload_n X 1 rfl dX3_y_12 ?_
    obtain ⟨a7, ea7, ma7, ka7, h⟩ := q_atE h
    obtain ⟨g8, h⟩ := q_ifE h
    refine q_iaload X ea7 ma7 ka7 (q_inE g8) dX3_y_13 ?_
    refine q_goto X 18 (by decide) dX3_y_14 ?_
    refine q_lv [] rfl ?_
    exact w_X3_y_18 X hr hl _ _ h
theorem tD_X3_y : yX3_y.cls ≠ "java/lang/invoke/MethodHandle" ∧ yX3_y.cls ≠ "java/lang/invoke/VarHandle" ∧ (parseMethodDescriptor yX3_y.desc).map (fun d => d.parameters.length) = some 1 := by decide +kernel
theorem c_X3_y {l : Launch} {D : va_G} {cy : Nat → ClassId} {n : Nat} {S Sv : q_S} {rv : Int32} {o : Nat} {p0 : Int32} (h : m_X3_y n S o p0 = some (rv, Sv)) : q_MI l yX3_y (q_ws yX3_y cX3_y 2 ((some .int))) ({ frames := 1, cells := 0, slots := 0, locals := 21 } : Room) D cy [.ref o, .int (p0)] S rv Sv := by
  exact q_MI_of (by decide +kernel) (Nat.le_of_ble_eq_true rfl) (fun p e s m args below meth c A X hr hl => w_X3_y X hr hl h)
/-! TrueOutlines$Pieces.tracePoint(LTrueOutlines$Points;III)V -/
def m_X2_tracePoint_128 (n : Nat) (S : q_S) : Option (Unit × q_S) := some ((), S)
set_option maxHeartbeats 4000000 in
set_option maxRecDepth 100000 in
theorem w_X2_tracePoint_128 (X : q_X p s m args c cX2_tracePoint 10 RX2 q_T D cy A) (hr : meth.sig.returnType = none) (hl : meth.locks = false)  {n : Nat} {Sv : q_S}  (S : q_S) (h : m_X2_tracePoint_128 n S = some ((), Sv)) : q_W p l e ({ frames := 2, cells := 0, slots := 0, locals := 42 } : Room) s m args below meth c (MQ below (va_Qv (fun (u : q_S) => u = Sv) (q_B D cy A) A) args s 0 0 A) A D cy 10 0 0 S 128 [] [] := by
  unfold m_X2_tracePoint_128 at h
  obtain ⟨ev, eS⟩ := q_end h
  exact q_vret X hr hl eS dX2_tracePoint_128
def m_X2_tracePoint_86 (n : Nat) (S : q_S) (s0 : Int32) (s1 : Int32) (s2 : Int32) (s3 : Int32) (s4 : Int32) (s5 : Int32) (s6 : Int32) (s7 : Option Nat) : Option (Unit × q_S) := q_at (S) (s7) 3 (fun a1 => q_b (m_X2_put n (S) a1 (s6) (s5) (s4) (s3) (s2) (s1 + s0)) (fun _ S2 => some ((), S2)))
set_option maxHeartbeats 4000000 in
set_option maxRecDepth 100000 in
theorem w_X2_tracePoint_86 (X : q_X p s m args c cX2_tracePoint 10 RX2 q_T D cy A) (hr : meth.sig.returnType = none) (hl : meth.locks = false)  {n : Nat} {Sv : q_S}  (S : q_S) (s0 : Int32) (s1 : Int32) (s2 : Int32) (s3 : Int32) (s4 : Int32) (s5 : Int32) (s6 : Int32) (s7 : Option Nat) (h : m_X2_tracePoint_86 n S s0 s1 s2 s3 s4 s5 s6 s7 = some ((), Sv)) : q_W p l e ({ frames := 2, cells := 0, slots := 0, locals := 42 } : Room) s m args below meth c (MQ below (va_Qv (fun (u : q_S) => u = Sv) (q_B D cy A) A) args s 0 0 A) A D cy 10 0 0 S 86 [] [.int (s0), .int (s1), .int (s2), .int (s3), .int (s4), .int (s5), .int (s6), va_rf (s7)] := by
  unfold m_X2_tracePoint_86 at h
  refine q_iadd X dX2_tracePoint_86 ?_
  obtain ⟨a1, ea1, ma1, ka1, h⟩ := q_atE h
  obtain ⟨u4, S2, c3, h⟩ := q_bE h
  refine q_cVV X (As := [.int (s6), .int (s5), .int (s4), .int (s3), .int (s2), .int (s1 + s0)]) ea1 ma1 ka1 rfl (by decide) (c_X2_put c3) (q_cwV X tK_X2_put tM_X2_60 tI_X2_put tV_X2_put tN_X2 rfl rfl tD_X2_put ⟨Nat.le_of_ble_eq_true rfl, Nat.le_of_ble_eq_true rfl⟩) rfl rfl (by first | exact Nat.le_of_ble_eq_true rfl | (simp only [List.map, q_catR]; exact Nat.le_of_ble_eq_true rfl)) ⟨Nat.zero_le _, Nat.zero_le _⟩ dX2_tracePoint_87 ?_
  obtain ⟨ev, eS⟩ := q_end h
  exact q_vret X hr hl eS dX2_tracePoint_90
def m_X2_tracePoint_71 (n : Nat) (S : q_S) (l6 : Int32) (l8 : Int32) (l9 : Int32) (s0 : Int32) (s1 : Int32) (s2 : Int32) (s3 : Int32) (s4 : Int32) (s5 : Int32) (s6 : Option Nat) : Option (Unit × q_S) := (if l9 = 0 then m_X2_tracePoint_86 n (S) (l6) (l8) (s1 + s0) (s2) (s3) (s4) (s5) (s6) else m_X2_tracePoint_86 n (S) (l8) (l8) (s1 + s0) (s2) (s3) (s4) (s5) (s6))
set_option maxHeartbeats 4000000 in
set_option maxRecDepth 100000 in
theorem w_X2_tracePoint_71 (X : q_X p s m args c cX2_tracePoint 10 RX2 q_T D cy A) (hr : meth.sig.returnType = none) (hl : meth.locks = false)  {n : Nat} {Sv : q_S}  (S : q_S) (l6 : Int32) (l8 : Int32) (l9 : Int32) (s0 : Int32) (s1 : Int32) (s2 : Int32) (s3 : Int32) (s4 : Int32) (s5 : Int32) (s6 : Option Nat) (h : m_X2_tracePoint_71 n S l6 l8 l9 s0 s1 s2 s3 s4 s5 s6 = some ((), Sv)) : q_W p l e ({ frames := 2, cells := 0, slots := 0, locals := 42 } : Room) s m args below meth c (MQ below (va_Qv (fun (u : q_S) => u = Sv) (q_B D cy A) A) args s 0 0 A) A D cy 10 0 0 S 71 [(6, .int (l6)), (8, .int (l8)), (9, .int (l9))] [.int (s0), .int (s1), .int (s2), .int (s3), .int (s4), .int (s5), va_rf (s6)] := by
  unfold m_X2_tracePoint_71 at h
  refine q_iadd X dX2_tracePoint_71 ?_
  refine q_iload X 1 rfl dX2_tracePoint_72 ?_
  refine q_iload X 2 rfl dX2_tracePoint_74 ?_
  refine q_if_eq X 84 (by decide) dX2_tracePoint_76 (fun g1 => ?_) (fun g1 => ?_)
  · rw [if_pos g1] at h
    refine q_iload X 0 rfl dX2_tracePoint_84 ?_
    refine q_lv [] rfl ?_
    exact w_X2_tracePoint_86 X hr hl _ _ _ _ _ _ _ _ _ h
  · rw [if_neg g1] at h
    refine q_iload X 1 rfl dX2_tracePoint_79 ?_
    refine q_goto X 86 (by decide) dX2_tracePoint_81 ?_
    refine q_lv [] rfl ?_
    exact w_X2_tracePoint_86 X hr hl _ _ _ _ _ _ _ _ _ h
def m_X2_tracePoint (n : Nat) (S : q_S) (o : Nat) (p0 : Option Nat) (p1 : Int32) (p2 : Int32) (p3 : Int32) : Option (Unit × q_S) := q_at (S) (p0) 4 (fun a1 => q_b (m_X3_x n (S) a1 (p2)) (fun r2 S3 => q_at (S3) (p0) 4 (fun a5 => q_b (m_X3_y n (S3) a5 (p2)) (fun r6 S7 => q_at (S7) (p0) 4 (fun a9 => q_b (m_X3_x n (S7) a9 (p3)) (fun r10 S11 => q_at (S11) (p0) 4 (fun a13 => q_b (m_X3_y n (S11) a13 (p3)) (fun r14 S15 => q_at (S15) (p0) 4 (fun a17 => q_b (m_X3_isOn n (S15) a17 (p3)) (fun r18 S19 => q_at (S19) (p0) 4 (fun a21 => q_b (m_X3_isOn n (S19) a21 (p2)) (fun r22 S23 => (if r22 = 0 then (if r18 = 0 then m_X2_tracePoint_71 n (S23) (r6) (r14) (r18) (r2) (r10) ((2 : Int32) * r6) ((2 : Int32) * r2) ((1 : Int32)) (p1) (some o) else m_X2_tracePoint_71 n (S23) (r6) (r14) (r18) (r10) (r10) ((2 : Int32) * r6) ((2 : Int32) * r2) ((1 : Int32)) (p1) (some o)) else q_at (S23) (some o) 3 (fun a26 => (if r18 = 0 then m_X2_tracePoint_128 n (q_sI (q_sI (S23) a26 2 ((2 : Int32) * r2)) a26 3 ((2 : Int32) * r6)) else q_b (m_X2_put n (q_sI (q_sI (S23) a26 2 ((2 : Int32) * r2)) a26 3 ((2 : Int32) * r6)) a26 (p1) ((0 : Int32)) ((0 : Int32)) ((0 : Int32)) ((2 : Int32) * r10) ((2 : Int32) * r14)) (fun _ S28 => m_X2_tracePoint_128 n (S28)))))))))))))))))
set_option maxHeartbeats 4000000 in
set_option maxRecDepth 100000 in
theorem w_X2_tracePoint (X : q_X p s m args c cX2_tracePoint 10 RX2 q_T D cy A) (hr : meth.sig.returnType = none) (hl : meth.locks = false)  {n : Nat} {S Sv : q_S} {o : Nat} {p0 : Option Nat} {p1 : Int32} {p2 : Int32} {p3 : Int32} (h : m_X2_tracePoint n S o p0 p1 p2 p3 = some ((), Sv)) : q_W p l e ({ frames := 2, cells := 0, slots := 0, locals := 42 } : Room) s m args below meth c (MQ below (va_Qv (fun (u : q_S) => u = Sv) (q_B D cy A) A) args s 0 0 A) A D cy 10 0 0 S 0 [(0, va_rf (some o)), (1, va_rf (p0)), (2, .int (p1)), (3, .int (p2)), (4, .int (p3))] [] := by
  unfold m_X2_tracePoint at h
  refine q_aload_n X 1 rfl dX2_tracePoint_0 ?_
  refine q_iload_n X 3 rfl dX2_tracePoint_1 ?_
  obtain ⟨a1, ea1, ma1, ka1, h⟩ := q_atE h
  obtain ⟨r2, S3, c4, h⟩ := q_bE h
  refine q_cVI X (As := [.int (p2)]) ea1 ma1 ka1 rfl (by decide) (c_X3_x c4) (q_cwV X tK_X3_x tM_X2_37 tI_X3_x tV_X3_x tN_X3 rfl rfl tD_X3_x ⟨Nat.le_of_ble_eq_true rfl, Nat.le_of_ble_eq_true rfl⟩) rfl rfl (by first | exact Nat.le_of_ble_eq_true rfl | (simp only [List.map, q_catR]; exact Nat.le_of_ble_eq_true rfl)) ⟨Nat.zero_le _, Nat.zero_le _⟩ dX2_tracePoint_2 ?_
  refine q_istore X 5 [(5, .int (r2)), (0, va_rf (some o)), (1, va_rf (p0)), (2, .int (p1)), (3, .int (p2)), (4, .int (p3))] (by decide) (by first | rfl | simp [List.filter, q_catR]) dX2_tracePoint_5 ?_
  refine q_aload_n X 2 rfl dX2_tracePoint_7 ?_
  refine q_iload_n X 4 rfl dX2_tracePoint_8 ?_
  obtain ⟨a5, ea5, ma5, ka5, h⟩ := q_atE h
  obtain ⟨r6, S7, c8, h⟩ := q_bE h
  refine q_cVI X (As := [.int (p2)]) ea5 ma5 ka5 rfl (by decide) (c_X3_y c8) (q_cwV X tK_X3_y tM_X2_43 tI_X3_y tV_X3_y tN_X3 rfl rfl tD_X3_y ⟨Nat.le_of_ble_eq_true rfl, Nat.le_of_ble_eq_true rfl⟩) rfl rfl (by first | exact Nat.le_of_ble_eq_true rfl | (simp only [List.map, q_catR]; exact Nat.le_of_ble_eq_true rfl)) ⟨Nat.zero_le _, Nat.zero_le _⟩ dX2_tracePoint_9 ?_
  refine q_istore X 6 [(6, .int (r6)), (5, .int (r2)), (0, va_rf (some o)), (1, va_rf (p0)), (2, .int (p1)), (3, .int (p2)), (4, .int (p3))] (by decide) (by first | rfl | simp [List.filter, q_catR]) dX2_tracePoint_12 ?_
  refine q_aload_n X 3 rfl dX2_tracePoint_14 ?_
  refine q_iload X 6 rfl dX2_tracePoint_15 ?_
  obtain ⟨a9, ea9, ma9, ka9, h⟩ := q_atE h
  obtain ⟨r10, S11, c12, h⟩ := q_bE h
  refine q_cVI X (As := [.int (p3)]) ea9 ma9 ka9 rfl (by decide) (c_X3_x c12) (q_cwV X tK_X3_x tM_X2_37 tI_X3_x tV_X3_x tN_X3 rfl rfl tD_X3_x ⟨Nat.le_of_ble_eq_true rfl, Nat.le_of_ble_eq_true rfl⟩) rfl rfl (by first | exact Nat.le_of_ble_eq_true rfl | (simp only [List.map, q_catR]; exact Nat.le_of_ble_eq_true rfl)) ⟨Nat.zero_le _, Nat.zero_le _⟩ dX2_tracePoint_17 ?_
  refine q_istore X 7 [(7, .int (r10)), (6, .int (r6)), (5, .int (r2)), (0, va_rf (some o)), (1, va_rf (p0)), (2, .int (p1)), (3, .int (p2)), (4, .int (p3))] (by decide) (by first | rfl | simp [List.filter, q_catR]) dX2_tracePoint_20 ?_
  refine q_aload_n X 4 rfl dX2_tracePoint_22 ?_
  refine q_iload X 7 rfl dX2_tracePoint_23 ?_
  obtain ⟨a13, ea13, ma13, ka13, h⟩ := q_atE h
  obtain ⟨r14, S15, c16, h⟩ := q_bE h
  refine q_cVI X (As := [.int (p3)]) ea13 ma13 ka13 rfl (by decide) (c_X3_y c16) (q_cwV X tK_X3_y tM_X2_43 tI_X3_y tV_X3_y tN_X3 rfl rfl tD_X3_y ⟨Nat.le_of_ble_eq_true rfl, Nat.le_of_ble_eq_true rfl⟩) rfl rfl (by first | exact Nat.le_of_ble_eq_true rfl | (simp only [List.map, q_catR]; exact Nat.le_of_ble_eq_true rfl)) ⟨Nat.zero_le _, Nat.zero_le _⟩ dX2_tracePoint_25 ?_
  refine q_istore X 8 [(8, .int (r14)), (7, .int (r10)), (6, .int (r6)), (5, .int (r2)), (0, va_rf (some o)), (1, va_rf (p0)), (2, .int (p1)), (3, .int (p2)), (4, .int (p3))] (by decide) (by first | rfl | simp [List.filter, q_catR]) dX2_tracePoint_28 ?_
  refine q_aload_n X 5 rfl dX2_tracePoint_30 ?_
  refine q_iload X 8 rfl dX2_tracePoint_31 ?_
  obtain ⟨a17, ea17, ma17, ka17, h⟩ := q_atE h
  obtain ⟨r18, S19, c20, h⟩ := q_bE h
  refine q_cVI X (As := [.int (p3)]) ea17 ma17 ka17 rfl (by decide) (c_X3_isOn c20) (q_cwV X tK_X3_isOn tM_X2_56 tI_X3_isOn tV_X3_isOn tN_X3 rfl rfl tD_X3_isOn ⟨Nat.le_of_ble_eq_true rfl, Nat.le_of_ble_eq_true rfl⟩) rfl rfl (by first | exact Nat.le_of_ble_eq_true rfl | (simp only [List.map, q_catR]; exact Nat.le_of_ble_eq_true rfl)) ⟨Nat.zero_le _, Nat.zero_le _⟩ dX2_tracePoint_33 ?_
  refine q_istore X 9 [(9, .int (r18)), (8, .int (r14)), (7, .int (r10)), (6, .int (r6)), (5, .int (r2)), (0, va_rf (some o)), (1, va_rf (p0)), (2, .int (p1)), (3, .int (p2)), (4, .int (p3))] (by decide) (by first | rfl | simp [List.filter, q_catR]) dX2_tracePoint_36 ?_
  refine q_aload_n X 6 rfl dX2_tracePoint_38 ?_
  refine q_iload_n X 8 rfl dX2_tracePoint_39 ?_
  obtain ⟨a21, ea21, ma21, ka21, h⟩ := q_atE h
  obtain ⟨r22, S23, c24, h⟩ := q_bE h
  refine q_cVI X (As := [.int (p2)]) ea21 ma21 ka21 rfl (by decide) (c_X3_isOn c24) (q_cwV X tK_X3_isOn tM_X2_56 tI_X3_isOn tV_X3_isOn tN_X3 rfl rfl tD_X3_isOn ⟨Nat.le_of_ble_eq_true rfl, Nat.le_of_ble_eq_true rfl⟩) rfl rfl (by first | exact Nat.le_of_ble_eq_true rfl | (simp only [List.map, q_catR]; exact Nat.le_of_ble_eq_true rfl)) ⟨Nat.zero_le _, Nat.zero_le _⟩ dX2_tracePoint_40 ?_
  refine q_if_ne X 91 (by decide) dX2_tracePoint_43 (fun g25 => ?_) (fun g25 => ?_)
  · rw [if_neg g25] at h
    refine q_aload_n X 5 rfl dX2_tracePoint_91 ?_
    refine q_iconst X (2) (by decide) dX2_tracePoint_92 ?_
    refine q_iload X 4 rfl dX2_tracePoint_93 ?_
    refine q_imul X dX2_tracePoint_95 ?_
    obtain ⟨a26, ea26, ma26, ka26, h⟩ := q_atE h
    refine q_putI X 2 ea26 ma26 ka26 rfl tW_X2 (by decide) (by decide) tF_X2_40 tyX2 tyX2_ok nmX2 rfl (tyX2_ok 2 (by decide)) rfl rfl rfl dX2_tracePoint_96 ?_
    have ma26 : a26 ∈ q_L (q_sI (S23) a26 2 ((2 : Int32) * r2)) := q_LsI ma26
    have ka26 : q_K (q_sI (S23) a26 2 ((2 : Int32) * r2)) a26 = 3 := q_KsI ka26
    refine q_aload_n X 5 rfl dX2_tracePoint_99 ?_
    refine q_iconst X (2) (by decide) dX2_tracePoint_100 ?_
    refine q_iload X 3 rfl dX2_tracePoint_101 ?_
    refine q_imul X dX2_tracePoint_103 ?_
    refine q_putI X 3 ea26 ma26 ka26 rfl tW_X2 (by decide) (by decide) tF_X2_46 tyX2 tyX2_ok nmX2 rfl (tyX2_ok 3 (by decide)) rfl rfl rfl dX2_tracePoint_104 ?_
    have ma26 : a26 ∈ q_L (q_sI (q_sI (S23) a26 2 ((2 : Int32) * r2)) a26 3 ((2 : Int32) * r6)) := q_LsI ma26
    have ka26 : q_K (q_sI (q_sI (S23) a26 2 ((2 : Int32) * r2)) a26 3 ((2 : Int32) * r6)) a26 = 3 := q_KsI ka26
    refine q_iload X 0 rfl dX2_tracePoint_107 ?_
    refine q_if_eq X 128 (by decide) dX2_tracePoint_109 (fun g27 => ?_) (fun g27 => ?_)
    · rw [if_pos g27] at h
      refine q_lv [] rfl ?_
      exact w_X2_tracePoint_128 X hr hl _ h
    · rw [if_neg g27] at h
      refine q_aload_n X 5 rfl dX2_tracePoint_112 ?_
      refine q_iload_n X 7 rfl dX2_tracePoint_113 ?_
      refine q_iconst X (0) (by decide) dX2_tracePoint_114 ?_
      refine q_iconst X (0) (by decide) dX2_tracePoint_115 ?_
      refine q_iconst X (0) (by decide) dX2_tracePoint_116 ?_
      refine q_iconst X (2) (by decide) dX2_tracePoint_117 ?_
      refine q_iload X 2 rfl dX2_tracePoint_118 ?_
      refine q_imul X dX2_tracePoint_120 ?_
      refine q_iconst X (2) (by decide) dX2_tracePoint_121 ?_
      refine q_iload X 1 rfl dX2_tracePoint_122 ?_
      refine q_imul X dX2_tracePoint_124 ?_
      obtain ⟨u30, S28, c29, h⟩ := q_bE h
      refine q_cVV X (As := [.int (p1), .int ((0 : Int32)), .int ((0 : Int32)), .int ((0 : Int32)), .int ((2 : Int32) * r10), .int ((2 : Int32) * r14)]) ea26 ma26 ka26 rfl (by decide) (c_X2_put c29) (q_cwV X tK_X2_put tM_X2_60 tI_X2_put tV_X2_put tN_X2 rfl rfl tD_X2_put ⟨Nat.le_of_ble_eq_true rfl, Nat.le_of_ble_eq_true rfl⟩) rfl rfl (by first | exact Nat.le_of_ble_eq_true rfl | (simp only [List.map, q_catR]; exact Nat.le_of_ble_eq_true rfl)) ⟨Nat.zero_le _, Nat.zero_le _⟩ dX2_tracePoint_125 ?_
      refine q_lv [] rfl ?_
      exact w_X2_tracePoint_128 X hr hl _ h
  · rw [if_pos g25] at h
    refine q_aload_n X 5 rfl dX2_tracePoint_46 ?_
    refine q_iload_n X 7 rfl dX2_tracePoint_47 ?_
    refine q_iconst X (1) (by decide) dX2_tracePoint_48 ?_
    refine q_iconst X (2) (by decide) dX2_tracePoint_49 ?_
    refine q_iload X 4 rfl dX2_tracePoint_50 ?_
    refine q_imul X dX2_tracePoint_52 ?_
    refine q_iconst X (2) (by decide) dX2_tracePoint_53 ?_
    refine q_iload X 3 rfl dX2_tracePoint_54 ?_
    refine q_imul X dX2_tracePoint_56 ?_
    refine q_iload X 2 rfl dX2_tracePoint_57 ?_
    refine q_iload X 0 rfl dX2_tracePoint_59 ?_
    refine q_if_eq X 69 (by decide) dX2_tracePoint_61 (fun g31 => ?_) (fun g31 => ?_)
    · rw [if_pos g31] at h
      refine q_iload X 4 rfl dX2_tracePoint_69 ?_
      refine q_lv [3, 1, 0] rfl ?_
      exact w_X2_tracePoint_71 X hr hl _ _ _ _ _ _ _ _ _ _ _ h
    · rw [if_neg g31] at h
      refine q_iload X 2 rfl dX2_tracePoint_64 ?_
      refine q_goto X 71 (by decide) dX2_tracePoint_66 ?_
      refine q_lv [3, 1, 0] rfl ?_
      exact w_X2_tracePoint_71 X hr hl _ _ _ _ _ _ _ _ _ _ _ h
theorem tD_X2_tracePoint : yX2_tracePoint.cls ≠ "java/lang/invoke/MethodHandle" ∧ yX2_tracePoint.cls ≠ "java/lang/invoke/VarHandle" ∧ (parseMethodDescriptor yX2_tracePoint.desc).map (fun d => d.parameters.length) = some 4 := by decide +kernel
theorem c_X2_tracePoint {l : Launch} {D : va_G} {cy : Nat → ClassId} {n : Nat} {S Sv : q_S} {o : Nat} {p0 : Option Nat} {p1 : Int32} {p2 : Int32} {p3 : Int32} (h : m_X2_tracePoint n S o p0 p1 p2 p3 = some ((), Sv)) : q_MV l yX2_tracePoint (q_ws yX2_tracePoint cX2_tracePoint 10 (none)) ({ frames := 2, cells := 0, slots := 0, locals := 42 } : Room) D cy [.ref o, va_rf (p0), .int (p1), .int (p2), .int (p3)] S Sv := by
  cases p0 <;> exact q_MV_of (by decide +kernel) (Nat.le_of_ble_eq_true rfl) (fun p e s m args below meth c A X hr hl => w_X2_tracePoint X hr hl h)
/-! TrueOutlines$Pieces.traceContour(LTrueOutlines$Points;III)V -/
def m_X2_traceContour_100 (n : Nat) (k61 : q_S → Option Nat → Option Nat → Int32 → Int32 → Int32 → Int32 → Int32 → Int32 → Option (Unit × q_S)) (S : q_S) (l0 : Option Nat) (l1 : Option Nat) (l2 : Int32) (l3 : Int32) (l4 : Int32) (l5 : Int32) (l6 : Int32) (l7 : Int32) (s0 : Int32) (s1 : Int32) (s2 : Int32) (s3 : Option Nat) (s4 : Option Nat) : Option (Unit × q_S) := q_at (S) (s4) 3 (fun a1 => q_b (m_X2_tracePoint n (S) a1 (s3) (s2) (s1) (s0)) (fun _ S2 => k61 (S2) (l0) (l1) (l2) (l3) (l4) (l5) (l6) (l7 + (1))))
set_option maxHeartbeats 4000000 in
set_option maxRecDepth 100000 in
theorem w_X2_traceContour_100 (X : q_X p s m args c cX2_traceContour 9 RX2 q_T D cy A) (hr : meth.sig.returnType = none) (hl : meth.locks = false)  {n : Nat} {Sv : q_S}  {k61 : q_S → Option Nat → Option Nat → Int32 → Int32 → Int32 → Int32 → Int32 → Int32 → Option (Unit × q_S)} (hk61 : ∀ (S : q_S) (z0 : Option Nat) (z1 : Option Nat) (z2 : Int32) (z3 : Int32) (z4 : Int32) (z5 : Int32) (z6 : Int32) (z7 : Int32), k61 S z0 z1 z2 z3 z4 z5 z6 z7 = some ((), Sv) → q_W p l e ({ frames := 3, cells := 0, slots := 0, locals := 71 } : Room) s m args below meth c (MQ below (va_Qv (fun (u : q_S) => u = Sv) (q_B D cy A) A) args s 0 0 A) A D cy 9 0 0 S 61 [(0, va_rf (z0)), (1, va_rf (z1)), (2, .int (z2)), (3, .int (z3)), (4, .int (z4)), (5, .int (z5)), (6, .int (z6)), (7, .int (z7))] []) (S : q_S) (l0 : Option Nat) (l1 : Option Nat) (l2 : Int32) (l3 : Int32) (l4 : Int32) (l5 : Int32) (l6 : Int32) (l7 : Int32) (s0 : Int32) (s1 : Int32) (s2 : Int32) (s3 : Option Nat) (s4 : Option Nat) (h : m_X2_traceContour_100 n k61 S l0 l1 l2 l3 l4 l5 l6 l7 s0 s1 s2 s3 s4 = some ((), Sv)) : q_W p l e ({ frames := 3, cells := 0, slots := 0, locals := 71 } : Room) s m args below meth c (MQ below (va_Qv (fun (u : q_S) => u = Sv) (q_B D cy A) A) args s 0 0 A) A D cy 9 0 0 S 100 [(0, va_rf (l0)), (1, va_rf (l1)), (2, .int (l2)), (3, .int (l3)), (4, .int (l4)), (5, .int (l5)), (6, .int (l6)), (7, .int (l7))] [.int (s0), .int (s1), .int (s2), va_rf (s3), va_rf (s4)] := by
  unfold m_X2_traceContour_100 at h
  obtain ⟨a1, ea1, ma1, ka1, h⟩ := q_atE h
  obtain ⟨u4, S2, c3, h⟩ := q_bE h
  refine q_cVV X (As := [va_rf (s3), .int (s2), .int (s1), .int (s0)]) ea1 ma1 ka1 rfl (by decide) (c_X2_tracePoint c3) (q_cwV X tK_X2_tracePoint tM_X2_53 tI_X2_tracePoint tV_X2_tracePoint tN_X2 rfl rfl tD_X2_tracePoint ⟨Nat.le_of_ble_eq_true rfl, Nat.le_of_ble_eq_true rfl⟩) rfl rfl (by first | exact Nat.le_of_ble_eq_true rfl | (simp only [List.map, q_catR]; exact Nat.le_of_ble_eq_true rfl)) ⟨Nat.zero_le _, Nat.zero_le _⟩ dX2_traceContour_100 ?_
  refine q_iinc X 7 7 (l7 + (1)) [(7, .int (l7 + (1))), (0, va_rf (l0)), (1, va_rf (l1)), (2, .int (l2)), (3, .int (l3)), (4, .int (l4)), (5, .int (l5)), (6, .int (l6))] rfl (congrArg (fun z => l7 + z) (show Int32.ofInt (1) = (1) by decide)) (by decide) (by first | rfl | simp [List.filter, q_catR]) dX2_traceContour_103 ?_
  refine q_goto X 61 (by decide) dX2_traceContour_106 ?_
  refine q_lv [1, 2, 3, 4, 5, 6, 7, 0] rfl ?_
  exact hk61 _ _ _ _ _ _ _ _ _ h
def m_X2_traceContour_61 (n : Nat) : Nat → q_S → Option Nat → Option Nat → Int32 → Int32 → Int32 → Int32 → Int32 → Int32 → Option (Unit × q_S)
  | 0, _, _, _, _, _, _, _, _, _ => none
  | k + 1, S, l0, l1, l2, l3, l4, l5, l6, l7 => (if l5 ≤ l7 then some ((), S) else q_if (¬ l5 = 0) ((if (l3 + ((l6 + l7) - (l6 + l7) / l5 * l5)) = l4 then m_X2_traceContour_100 n (m_X2_traceContour_61 n k) (S) (l0) (l1) (l2) (l3) (l4) (l5) (l6) (l7) (l3) (l3 + ((l6 + l7) - (l6 + l7) / l5 * l5)) (l2) (l1) (l0) else m_X2_traceContour_100 n (m_X2_traceContour_61 n k) (S) (l0) (l1) (l2) (l3) (l4) (l5) (l6) (l7) ((l3 + ((l6 + l7) - (l6 + l7) / l5 * l5)) + (1 : Int32)) (l3 + ((l6 + l7) - (l6 + l7) / l5 * l5)) (l2) (l1) (l0))))
set_option maxHeartbeats 4000000 in
set_option maxRecDepth 100000 in
theorem w_X2_traceContour_61 (X : q_X p s m args c cX2_traceContour 9 RX2 q_T D cy A) (hr : meth.sig.returnType = none) (hl : meth.locks = false)  {n : Nat} {Sv : q_S}  : ∀ (k : Nat) (S : q_S) (l0 : Option Nat) (l1 : Option Nat) (l2 : Int32) (l3 : Int32) (l4 : Int32) (l5 : Int32) (l6 : Int32) (l7 : Int32), m_X2_traceContour_61 n k S l0 l1 l2 l3 l4 l5 l6 l7 = some ((), Sv) → q_W p l e ({ frames := 3, cells := 0, slots := 0, locals := 71 } : Room) s m args below meth c (MQ below (va_Qv (fun (u : q_S) => u = Sv) (q_B D cy A) A) args s 0 0 A) A D cy 9 0 0 S 61 [(0, va_rf (l0)), (1, va_rf (l1)), (2, .int (l2)), (3, .int (l3)), (4, .int (l4)), (5, .int (l5)), (6, .int (l6)), (7, .int (l7))] [] := by
  intro k
  induction k with
  | zero => intro S l0 l1 l2 l3 l4 l5 l6 l7 h; rw [m_X2_traceContour_61] at h; cases h
  | succ k ih =>
    intro S l0 l1 l2 l3 l4 l5 l6 l7 h
    rw [m_X2_traceContour_61] at h
    refine q_iload X 7 rfl dX2_traceContour_61 ?_
    refine q_iload X 5 rfl dX2_traceContour_63 ?_
    refine q_icmp_ge X 109 (by decide) dX2_traceContour_65 (fun g1 => ?_) (fun g1 => ?_)
    · rw [if_pos g1] at h
      obtain ⟨ev, eS⟩ := q_end h
      exact q_vret X hr hl eS dX2_traceContour_109
    · rw [if_neg g1] at h
      refine q_iload_n X 3 rfl dX2_traceContour_68 ?_
      refine q_iload X 6 rfl dX2_traceContour_69 ?_
      refine q_iload X 7 rfl dX2_traceContour_71 ?_
      refine q_iadd X dX2_traceContour_73 ?_
      refine q_iload X 5 rfl dX2_traceContour_74 ?_
      obtain ⟨g2, h⟩ := q_ifE h
      refine q_irem X g2 dX2_traceContour_76 ?_
      refine q_iadd X dX2_traceContour_77 ?_
      refine q_istore X 8 [(8, .int (l3 + ((l6 + l7) - (l6 + l7) / l5 * l5))), (0, va_rf (l0)), (1, va_rf (l1)), (2, .int (l2)), (3, .int (l3)), (4, .int (l4)), (5, .int (l5)), (6, .int (l6)), (7, .int (l7))] (by decide) (by first | rfl | simp [List.filter, q_catR]) dX2_traceContour_78 ?_
      refine q_aload_n X 1 rfl dX2_traceContour_80 ?_
      refine q_aload_n X 2 rfl dX2_traceContour_81 ?_
      refine q_iload_n X 3 rfl dX2_traceContour_82 ?_
      refine q_iload X 0 rfl dX2_traceContour_83 ?_
      refine q_iload X 0 rfl dX2_traceContour_85 ?_
      refine q_iload X 5 rfl dX2_traceContour_87 ?_
      refine q_icmp_ne X 96 (by decide) dX2_traceContour_89 (fun g3 => ?_) (fun g3 => ?_)
      · rw [if_neg g3] at h
        refine q_iload X 0 rfl dX2_traceContour_96 ?_
        refine q_iconst X (1) (by decide) dX2_traceContour_98 ?_
        refine q_iadd X dX2_traceContour_99 ?_
        refine q_lv [1, 2, 3, 4, 5, 6, 7, 8] rfl ?_
        exact w_X2_traceContour_100 X hr hl ih _ _ _ _ _ _ _ _ _ _ _ _ _ _ h
      · rw [if_pos g3] at h
        refine q_iload_n X 4 rfl dX2_traceContour_92 ?_
        refine q_goto X 100 (by decide) dX2_traceContour_93 ?_
        refine q_lv [1, 2, 3, 4, 5, 6, 7, 8] rfl ?_
        exact w_X2_traceContour_100 X hr hl ih _ _ _ _ _ _ _ _ _ _ _ _ _ _ h
def m_X2_traceContour (n : Nat) (S : q_S) (o : Nat) (p0 : Option Nat) (p1 : Int32) (p2 : Int32) (p3 : Int32) : Option (Unit × q_S) := (if (2 : Int32) ≤ ((p3 - p2) + (1 : Int32)) then q_at (S) (p0) 4 (fun a2 => q_b (m_X3_x n (S) a2 (p3)) (fun r3 S4 => q_at (S4) (p0) 4 (fun a6 => q_b (m_X3_x n (S4) a6 (p2)) (fun r7 S8 => q_at (S8) (some o) 3 (fun a10 => q_at (q_sI (S8) a10 2 (r3 + r7)) (p0) 4 (fun a11 => q_b (m_X3_y n (q_sI (S8) a10 2 (r3 + r7)) a11 (p3)) (fun r12 S13 => q_at (S13) (p0) 4 (fun a15 => q_b (m_X3_y n (S13) a15 (p2)) (fun r16 S17 => q_at (S17) (some o) 3 (fun a19 => q_b (m_X2_firstOn n (q_sI (S17) a19 3 (r12 + r16)) (p0) (p2) (p3)) (fun r20 S21 => m_X2_traceContour_61 n n (S21) (some o) (p0) (p1) (p2) (p3) ((p3 - p2) + (1 : Int32)) (r20 - p2) ((0 : Int32))))))))))))) else some ((), S))
set_option maxHeartbeats 4000000 in
set_option maxRecDepth 100000 in
theorem w_X2_traceContour (X : q_X p s m args c cX2_traceContour 9 RX2 q_T D cy A) (hr : meth.sig.returnType = none) (hl : meth.locks = false)  {n : Nat} {S Sv : q_S} {o : Nat} {p0 : Option Nat} {p1 : Int32} {p2 : Int32} {p3 : Int32} (h : m_X2_traceContour n S o p0 p1 p2 p3 = some ((), Sv)) : q_W p l e ({ frames := 3, cells := 0, slots := 0, locals := 71 } : Room) s m args below meth c (MQ below (va_Qv (fun (u : q_S) => u = Sv) (q_B D cy A) A) args s 0 0 A) A D cy 9 0 0 S 0 [(0, va_rf (some o)), (1, va_rf (p0)), (2, .int (p1)), (3, .int (p2)), (4, .int (p3))] [] := by
  unfold m_X2_traceContour at h
  refine q_iload X 4 rfl dX2_traceContour_0 ?_
  refine q_iload_n X 3 rfl dX2_traceContour_2 ?_
  refine q_isub X dX2_traceContour_3 ?_
  refine q_iconst X (1) (by decide) dX2_traceContour_4 ?_
  refine q_iadd X dX2_traceContour_5 ?_
  refine q_istore X 5 [(5, .int ((p3 - p2) + (1 : Int32))), (0, va_rf (some o)), (1, va_rf (p0)), (2, .int (p1)), (3, .int (p2)), (4, .int (p3))] (by decide) (by first | rfl | simp [List.filter, q_catR]) dX2_traceContour_6 ?_
  refine q_iload X 0 rfl dX2_traceContour_8 ?_
  refine q_iconst X (2) (by decide) dX2_traceContour_10 ?_
  refine q_icmp_ge X 15 (by decide) dX2_traceContour_11 (fun g1 => ?_) (fun g1 => ?_)
  · rw [if_pos g1] at h
    refine q_aload_n X 1 rfl dX2_traceContour_15 ?_
    refine q_aload_n X 2 rfl dX2_traceContour_16 ?_
    refine q_iload X 5 rfl dX2_traceContour_17 ?_
    obtain ⟨a2, ea2, ma2, ka2, h⟩ := q_atE h
    obtain ⟨r3, S4, c5, h⟩ := q_bE h
    refine q_cVI X (As := [.int (p3)]) ea2 ma2 ka2 rfl (by decide) (c_X3_x c5) (q_cwV X tK_X3_x tM_X2_37 tI_X3_x tV_X3_x tN_X3 rfl rfl tD_X3_x ⟨Nat.le_of_ble_eq_true rfl, Nat.le_of_ble_eq_true rfl⟩) rfl rfl (by first | exact Nat.le_of_ble_eq_true rfl | (simp only [List.map, q_catR]; exact Nat.le_of_ble_eq_true rfl)) ⟨Nat.zero_le _, Nat.zero_le _⟩ dX2_traceContour_19 ?_
    refine q_aload_n X 2 rfl dX2_traceContour_22 ?_
    refine q_iload_n X 4 rfl dX2_traceContour_23 ?_
    obtain ⟨a6, ea6, ma6, ka6, h⟩ := q_atE h
    obtain ⟨r7, S8, c9, h⟩ := q_bE h
    refine q_cVI X (As := [.int (p2)]) ea6 ma6 ka6 rfl (by decide) (c_X3_x c9) (q_cwV X tK_X3_x tM_X2_37 tI_X3_x tV_X3_x tN_X3 rfl rfl tD_X3_x ⟨Nat.le_of_ble_eq_true rfl, Nat.le_of_ble_eq_true rfl⟩) rfl rfl (by first | exact Nat.le_of_ble_eq_true rfl | (simp only [List.map, q_catR]; exact Nat.le_of_ble_eq_true rfl)) ⟨Nat.zero_le _, Nat.zero_le _⟩ dX2_traceContour_24 ?_
    refine q_iadd X dX2_traceContour_27 ?_
    obtain ⟨a10, ea10, ma10, ka10, h⟩ := q_atE h
    refine q_putI X 2 ea10 ma10 ka10 rfl tW_X2 (by decide) (by decide) tF_X2_40 tyX2 tyX2_ok nmX2 rfl (tyX2_ok 2 (by decide)) rfl rfl rfl dX2_traceContour_28 ?_
    have ma10 : a10 ∈ q_L (q_sI (S8) a10 2 (r3 + r7)) := q_LsI ma10
    have ka10 : q_K (q_sI (S8) a10 2 (r3 + r7)) a10 = 3 := q_KsI ka10
    refine q_aload_n X 1 rfl dX2_traceContour_31 ?_
    refine q_aload_n X 2 rfl dX2_traceContour_32 ?_
    refine q_iload X 5 rfl dX2_traceContour_33 ?_
    obtain ⟨a11, ea11, ma11, ka11, h⟩ := q_atE h
    obtain ⟨r12, S13, c14, h⟩ := q_bE h
    refine q_cVI X (As := [.int (p3)]) ea11 ma11 ka11 rfl (by decide) (c_X3_y c14) (q_cwV X tK_X3_y tM_X2_43 tI_X3_y tV_X3_y tN_X3 rfl rfl tD_X3_y ⟨Nat.le_of_ble_eq_true rfl, Nat.le_of_ble_eq_true rfl⟩) rfl rfl (by first | exact Nat.le_of_ble_eq_true rfl | (simp only [List.map, q_catR]; exact Nat.le_of_ble_eq_true rfl)) ⟨Nat.zero_le _, Nat.zero_le _⟩ dX2_traceContour_35 ?_
    refine q_aload_n X 2 rfl dX2_traceContour_38 ?_
    refine q_iload_n X 4 rfl dX2_traceContour_39 ?_
    obtain ⟨a15, ea15, ma15, ka15, h⟩ := q_atE h
    obtain ⟨r16, S17, c18, h⟩ := q_bE h
    refine q_cVI X (As := [.int (p2)]) ea15 ma15 ka15 rfl (by decide) (c_X3_y c18) (q_cwV X tK_X3_y tM_X2_43 tI_X3_y tV_X3_y tN_X3 rfl rfl tD_X3_y ⟨Nat.le_of_ble_eq_true rfl, Nat.le_of_ble_eq_true rfl⟩) rfl rfl (by first | exact Nat.le_of_ble_eq_true rfl | (simp only [List.map, q_catR]; exact Nat.le_of_ble_eq_true rfl)) ⟨Nat.zero_le _, Nat.zero_le _⟩ dX2_traceContour_40 ?_
    refine q_iadd X dX2_traceContour_43 ?_
    obtain ⟨a19, ea19, ma19, ka19, h⟩ := q_atE h
    refine q_putI X 3 ea19 ma19 ka19 rfl tW_X2 (by decide) (by decide) tF_X2_46 tyX2 tyX2_ok nmX2 rfl (tyX2_ok 3 (by decide)) rfl rfl rfl dX2_traceContour_44 ?_
    have ma19 : a19 ∈ q_L (q_sI (S17) a19 3 (r12 + r16)) := q_LsI ma19
    have ka19 : q_K (q_sI (S17) a19 3 (r12 + r16)) a19 = 3 := q_KsI ka19
    refine q_aload_n X 2 rfl dX2_traceContour_47 ?_
    refine q_iload_n X 4 rfl dX2_traceContour_48 ?_
    refine q_iload X 5 rfl dX2_traceContour_49 ?_
    obtain ⟨r20, S21, c22, h⟩ := q_bE h
    refine q_cSI X (As := [va_rf (p0), .int (p2), .int (p3)]) (c_X2_firstOn c22) (q_cwS X tK_X2_firstOn tM_X2_49 tS_X2_firstOn tN_X2 rfl rfl tD_X2_firstOn ⟨Nat.le_of_ble_eq_true rfl, Nat.le_of_ble_eq_true rfl⟩) rfl rfl (by first | exact Nat.le_of_ble_eq_true rfl | (simp only [List.map, q_catR]; exact Nat.le_of_ble_eq_true rfl)) ⟨Nat.zero_le _, Nat.zero_le _⟩ dX2_traceContour_51 ?_
    refine q_iload_n X 4 rfl dX2_traceContour_54 ?_
    refine q_isub X dX2_traceContour_55 ?_
    refine q_istore X 6 [(6, .int (r20 - p2)), (5, .int ((p3 - p2) + (1 : Int32))), (0, va_rf (some o)), (1, va_rf (p0)), (2, .int (p1)), (3, .int (p2)), (4, .int (p3))] (by decide) (by first | rfl | simp [List.filter, q_catR]) dX2_traceContour_56 ?_
    refine q_iconst X (0) (by decide) dX2_traceContour_58 ?_
    refine q_istore X 7 [(7, .int ((0 : Int32))), (6, .int (r20 - p2)), (5, .int ((p3 - p2) + (1 : Int32))), (0, va_rf (some o)), (1, va_rf (p0)), (2, .int (p1)), (3, .int (p2)), (4, .int (p3))] (by decide) (by first | rfl | simp [List.filter, q_catR]) dX2_traceContour_59 ?_
    refine q_lv [3, 4, 5, 6, 7, 2, 1, 0] rfl ?_
    exact w_X2_traceContour_61 X hr hl n _ _ _ _ _ _ _ _ _ h
  · rw [if_neg g1] at h
    obtain ⟨ev, eS⟩ := q_end h
    exact q_vret X hr hl eS dX2_traceContour_14
theorem tD_X2_traceContour : yX2_traceContour.cls ≠ "java/lang/invoke/MethodHandle" ∧ yX2_traceContour.cls ≠ "java/lang/invoke/VarHandle" ∧ (parseMethodDescriptor yX2_traceContour.desc).map (fun d => d.parameters.length) = some 4 := by decide +kernel
theorem c_X2_traceContour {l : Launch} {D : va_G} {cy : Nat → ClassId} {n : Nat} {S Sv : q_S} {o : Nat} {p0 : Option Nat} {p1 : Int32} {p2 : Int32} {p3 : Int32} (h : m_X2_traceContour n S o p0 p1 p2 p3 = some ((), Sv)) : q_MV l yX2_traceContour (q_ws yX2_traceContour cX2_traceContour 9 (none)) ({ frames := 3, cells := 0, slots := 0, locals := 71 } : Room) D cy [.ref o, va_rf (p0), .int (p1), .int (p2), .int (p3)] S Sv := by
  cases p0 <;> exact q_MV_of (by decide +kernel) (Nat.le_of_ble_eq_true rfl) (fun p e s m args below meth c A X hr hl => w_X2_traceContour X hr hl h)
/-! TrueOutlines$Points.lastOf(I)I -/
def m_X3_lastOf_22 (n : Nat) (S : q_S) (s0 : Int32) : Option (Int32 × q_S) := some (s0, S)
set_option maxHeartbeats 4000000 in
set_option maxRecDepth 100000 in
theorem w_X3_lastOf_22 (X : q_X p s m args c cX3_lastOf 2 RX3 q_T D cy A) (hr : meth.sig.returnType = (some .int)) (hl : meth.locks = false)  {n : Nat} {Sv : q_S} {rv : Int32}  (S : q_S) (s0 : Int32) (h : m_X3_lastOf_22 n S s0 = some (rv, Sv)) : q_W p l e ({ frames := 0, cells := 0, slots := 0, locals := 0 } : Room) s m args below meth c (MQ below (va_Qi (fun (r : Int32) (u : q_S) => r = rv ∧ u = Sv) (q_B D cy A) A) args s 0 0 A) A D cy 2 0 0 S 22 [] [.int (s0)] := by
  unfold m_X3_lastOf_22 at h
  obtain ⟨ev, eS⟩ := q_end h
  exact q_iret X hr hl rfl ev eS dX3_lastOf_22
def m_X3_lastOf_21 (n : Nat) (S : q_S) : Option (Int32 × q_S) := m_X3_lastOf_22 n (S) ((-1 : Int32))
set_option maxHeartbeats 4000000 in
set_option maxRecDepth 100000 in
theorem w_X3_lastOf_21 (X : q_X p s m args c cX3_lastOf 2 RX3 q_T D cy A) (hr : meth.sig.returnType = (some .int)) (hl : meth.locks = false)  {n : Nat} {Sv : q_S} {rv : Int32}  (S : q_S) (h : m_X3_lastOf_21 n S = some (rv, Sv)) : q_W p l e ({ frames := 0, cells := 0, slots := 0, locals := 0 } : Room) s m args below meth c (MQ below (va_Qi (fun (r : Int32) (u : q_S) => r = rv ∧ u = Sv) (q_B D cy A) A) args s 0 0 A) A D cy 2 0 0 S 21 [] [] := by
  unfold m_X3_lastOf_21 at h
  refine q_iconst X (-1) (by decide) dX3_lastOf_21 ?_
  exact w_X3_lastOf_22 X hr hl _ _ h
def m_X3_lastOf (n : Nat) (S : q_S) (o : Nat) (p0 : Int32) : Option (Int32 × q_S) := (if p0 < 0 then m_X3_lastOf_21 n (S) else q_at (S) (some o) 4 (fun a2 => (if (q_I (S) a2 5) ≤ p0 then m_X3_lastOf_21 n (S) else q_at (S) (q_R (S) a2 3) 100 (fun a4 => q_if (q_in (p0) (q_N (S) a4) = true) (m_X3_lastOf_22 n (S) (q_I (S) a4 (p0).toNatClampNeg))))))
set_option maxHeartbeats 4000000 in
set_option maxRecDepth 100000 in
theorem w_X3_lastOf (X : q_X p s m args c cX3_lastOf 2 RX3 q_T D cy A) (hr : meth.sig.returnType = (some .int)) (hl : meth.locks = false)  {n : Nat} {S Sv : q_S} {rv : Int32} {o : Nat} {p0 : Int32} (h : m_X3_lastOf n S o p0 = some (rv, Sv)) : q_W p l e ({ frames := 0, cells := 0, slots := 0, locals := 0 } : Room) s m args below meth c (MQ below (va_Qi (fun (r : Int32) (u : q_S) => r = rv ∧ u = Sv) (q_B D cy A) A) args s 0 0 A) A D cy 2 0 0 S 0 [(0, va_rf (some o)), (1, .int (p0))] [] := by
  unfold m_X3_lastOf at h
  refine q_iload_n X 1 rfl dX3_lastOf_0 ?_
  refine q_if_lt X 21 (by decide) dX3_lastOf_1 (fun g1 => ?_) (fun g1 => ?_)
  · rw [if_pos g1] at h
    refine q_lv [] rfl ?_
    exact w_X3_lastOf_21 X hr hl _ h
  · rw [if_neg g1] at h
    refine q_iload_n X 1 rfl dX3_lastOf_4 ?_
    refine q_aload_n X 0 rfl dX3_lastOf_5 ?_
    obtain ⟨a2, ea2, ma2, ka2, h⟩ := q_atE h
    refine q_getI X 5 ea2 ma2 ka2 rfl tW_X3 (by decide) (by decide) tF_X3_28 rfl dX3_lastOf_6 ?_
    refine q_icmp_ge X 21 (by decide) dX3_lastOf_9 (fun g3 => ?_) (fun g3 => ?_)
    · rw [if_pos g3] at h
      refine q_lv [] rfl ?_
      exact w_X3_lastOf_21 X hr hl _ h
    · rw [if_neg g3] at h
      refine q_aload_n X 0 rfl dX3_lastOf_12 ?_
      refine q_getR X 3 ea2 ma2 ka2 rfl tW_X3 (by decide) (by decide) tF_X3_21 rfl dX3_lastOf_13 ?_
      refine q_iload_n X 1 rfl dX3_lastOf_16 ?_
      obtain ⟨a4, ea4, ma4, ka4, h⟩ := q_atE h
      obtain ⟨g5, h⟩ := q_ifE h
      refine q_iaload X ea4 ma4 ka4 (q_inE g5) dX3_lastOf_17 ?_
      refine q_goto X 22 (by decide) dX3_lastOf_18 ?_
      refine q_lv [] rfl ?_
      exact w_X3_lastOf_22 X hr hl _ _ h
theorem tD_X3_lastOf : yX3_lastOf.cls ≠ "java/lang/invoke/MethodHandle" ∧ yX3_lastOf.cls ≠ "java/lang/invoke/VarHandle" ∧ (parseMethodDescriptor yX3_lastOf.desc).map (fun d => d.parameters.length) = some 1 := by decide +kernel
theorem c_X3_lastOf {l : Launch} {D : va_G} {cy : Nat → ClassId} {n : Nat} {S Sv : q_S} {rv : Int32} {o : Nat} {p0 : Int32} (h : m_X3_lastOf n S o p0 = some (rv, Sv)) : q_MI l yX3_lastOf (q_ws yX3_lastOf cX3_lastOf 2 ((some .int))) ({ frames := 0, cells := 0, slots := 0, locals := 0 } : Room) D cy [.ref o, .int (p0)] S rv Sv := by
  exact q_MI_of (by decide +kernel) (Nat.le_of_ble_eq_true rfl) (fun p e s m args below meth c A X hr hl => w_X3_lastOf X hr hl h)
/-! TrueOutlines$Pieces.trace(LTrueOutlines$Points;)V -/
def m_X2_trace_9 (n : Nat) : Nat → q_S → Option Nat → Option Nat → Int32 → Int32 → Option (Unit × q_S)
  | 0, _, _, _, _, _ => none
  | k + 1, S, l0, l1, l2, l3 => q_at (S) (l1) 4 (fun a1 => q_b (m_X3_contours n (S) a1) (fun r2 S3 => (if r2 ≤ l3 then some ((), S3) else q_at (S3) (l1) 4 (fun a6 => q_b (m_X3_lastOf n (S3) a6 (l3)) (fun r7 S8 => q_at (S8) (l0) 3 (fun a10 => q_b (m_X2_traceContour n (S8) a10 (l1) (l3) (l2) (r7)) (fun _ S11 => m_X2_trace_9 n k (S11) (l0) (l1) (r7 + (1 : Int32)) (l3 + (1)))))))))
set_option maxHeartbeats 4000000 in
set_option maxRecDepth 100000 in
theorem w_X2_trace_9 (X : q_X p s m args c cX2_trace 5 RX2 q_T D cy A) (hr : meth.sig.returnType = none) (hl : meth.locks = false)  {n : Nat} {Sv : q_S}  : ∀ (k : Nat) (S : q_S) (l0 : Option Nat) (l1 : Option Nat) (l2 : Int32) (l3 : Int32), m_X2_trace_9 n k S l0 l1 l2 l3 = some ((), Sv) → q_W p l e ({ frames := 4, cells := 0, slots := 0, locals := 99 } : Room) s m args below meth c (MQ below (va_Qv (fun (u : q_S) => u = Sv) (q_B D cy A) A) args s 0 0 A) A D cy 5 0 0 S 9 [(0, va_rf (l0)), (1, va_rf (l1)), (2, .int (l2)), (3, .int (l3))] [] := by
  intro k
  induction k with
  | zero => intro S l0 l1 l2 l3 h; rw [m_X2_trace_9] at h; cases h
  | succ k ih =>
    intro S l0 l1 l2 l3 h
    rw [m_X2_trace_9] at h
    refine q_iload_n X 3 rfl dX2_trace_9 ?_
    refine q_aload_n X 1 rfl dX2_trace_10 ?_
    obtain ⟨a1, ea1, ma1, ka1, h⟩ := q_atE h
    obtain ⟨r2, S3, c4, h⟩ := q_bE h
    refine q_cVI X (As := []) ea1 ma1 ka1 rfl (by decide) (c_X3_contours c4) (q_cwV X tK_X3_contours tM_X2_23 tI_X3_contours tV_X3_contours tN_X3 rfl rfl tD_X3_contours ⟨Nat.le_of_ble_eq_true rfl, Nat.le_of_ble_eq_true rfl⟩) rfl rfl (by first | exact Nat.le_of_ble_eq_true rfl | (simp only [List.map, q_catR]; exact Nat.le_of_ble_eq_true rfl)) ⟨Nat.zero_le _, Nat.zero_le _⟩ dX2_trace_11 ?_
    refine q_icmp_ge X 44 (by decide) dX2_trace_14 (fun g5 => ?_) (fun g5 => ?_)
    · rw [if_pos g5] at h
      obtain ⟨ev, eS⟩ := q_end h
      exact q_vret X hr hl eS dX2_trace_44
    · rw [if_neg g5] at h
      refine q_aload_n X 1 rfl dX2_trace_17 ?_
      refine q_iload_n X 3 rfl dX2_trace_18 ?_
      obtain ⟨a6, ea6, ma6, ka6, h⟩ := q_atE h
      obtain ⟨r7, S8, c9, h⟩ := q_bE h
      refine q_cVI X (As := [.int (l3)]) ea6 ma6 ka6 rfl (by decide) (c_X3_lastOf c9) (q_cwV X tK_X3_lastOf tM_X2_29 tI_X3_lastOf tV_X3_lastOf tN_X3 rfl rfl tD_X3_lastOf ⟨Nat.le_of_ble_eq_true rfl, Nat.le_of_ble_eq_true rfl⟩) rfl rfl (by first | exact Nat.le_of_ble_eq_true rfl | (simp only [List.map, q_catR]; exact Nat.le_of_ble_eq_true rfl)) ⟨Nat.zero_le _, Nat.zero_le _⟩ dX2_trace_19 ?_
      refine q_istore X 4 [(4, .int (r7)), (0, va_rf (l0)), (1, va_rf (l1)), (2, .int (l2)), (3, .int (l3))] (by decide) (by first | rfl | simp [List.filter, q_catR]) dX2_trace_22 ?_
      refine q_aload_n X 1 rfl dX2_trace_24 ?_
      refine q_aload_n X 2 rfl dX2_trace_25 ?_
      refine q_iload_n X 4 rfl dX2_trace_26 ?_
      refine q_iload_n X 3 rfl dX2_trace_27 ?_
      refine q_iload X 0 rfl dX2_trace_28 ?_
      obtain ⟨a10, ea10, ma10, ka10, h⟩ := q_atE h
      obtain ⟨u13, S11, c12, h⟩ := q_bE h
      refine q_cVV X (As := [va_rf (l1), .int (l3), .int (l2), .int (r7)]) ea10 ma10 ka10 rfl (by decide) (c_X2_traceContour c12) (q_cwV X tK_X2_traceContour tM_X2_33 tI_X2_traceContour tV_X2_traceContour tN_X2 rfl rfl tD_X2_traceContour ⟨Nat.le_of_ble_eq_true rfl, Nat.le_of_ble_eq_true rfl⟩) rfl rfl (by first | exact Nat.le_of_ble_eq_true rfl | (simp only [List.map, q_catR]; exact Nat.le_of_ble_eq_true rfl)) ⟨Nat.zero_le _, Nat.zero_le _⟩ dX2_trace_30 ?_
      refine q_iload X 0 rfl dX2_trace_33 ?_
      refine q_iconst X (1) (by decide) dX2_trace_35 ?_
      refine q_iadd X dX2_trace_36 ?_
      refine q_istore_n X 2 [(2, .int (r7 + (1 : Int32))), (4, .int (r7)), (0, va_rf (l0)), (1, va_rf (l1)), (3, .int (l3))] rfl (by decide) (by first | rfl | simp [List.filter, q_catR]) dX2_trace_37 ?_
      refine q_iinc X 3 4 (l3 + (1)) [(3, .int (l3 + (1))), (2, .int (r7 + (1 : Int32))), (4, .int (r7)), (0, va_rf (l0)), (1, va_rf (l1))] rfl (congrArg (fun z => l3 + z) (show Int32.ofInt (1) = (1) by decide)) (by decide) (by first | rfl | simp [List.filter, q_catR]) dX2_trace_38 ?_
      refine q_goto X 9 (by decide) dX2_trace_41 ?_
      refine q_lv [3, 4, 1, 0] rfl ?_
      exact ih _ _ _ _ _ h
def m_X2_trace (n : Nat) (S : q_S) (o : Nat) (p0 : Option Nat) : Option (Unit × q_S) := q_at (S) (some o) 3 (fun a1 => m_X2_trace_9 n n (q_sI (S) a1 1 ((0 : Int32))) (some o) (p0) ((0 : Int32)) ((0 : Int32)))
set_option maxHeartbeats 4000000 in
set_option maxRecDepth 100000 in
theorem w_X2_trace (X : q_X p s m args c cX2_trace 5 RX2 q_T D cy A) (hr : meth.sig.returnType = none) (hl : meth.locks = false)  {n : Nat} {S Sv : q_S} {o : Nat} {p0 : Option Nat} (h : m_X2_trace n S o p0 = some ((), Sv)) : q_W p l e ({ frames := 4, cells := 0, slots := 0, locals := 99 } : Room) s m args below meth c (MQ below (va_Qv (fun (u : q_S) => u = Sv) (q_B D cy A) A) args s 0 0 A) A D cy 5 0 0 S 0 [(0, va_rf (some o)), (1, va_rf (p0))] [] := by
  unfold m_X2_trace at h
  refine q_aload_n X 0 rfl dX2_trace_0 ?_
  refine q_iconst X (0) (by decide) dX2_trace_1 ?_
  obtain ⟨a1, ea1, ma1, ka1, h⟩ := q_atE h
  refine q_putI X 1 ea1 ma1 ka1 rfl tW_X2 (by decide) (by decide) tF_X2_15 tyX2 tyX2_ok nmX2 rfl (tyX2_ok 1 (by decide)) rfl rfl rfl dX2_trace_2 ?_
  have ma1 : a1 ∈ q_L (q_sI (S) a1 1 ((0 : Int32))) := q_LsI ma1
  have ka1 : q_K (q_sI (S) a1 1 ((0 : Int32))) a1 = 3 := q_KsI ka1
  refine q_iconst X (0) (by decide) dX2_trace_5 ?_
  refine q_istore_n X 2 [(2, .int ((0 : Int32))), (0, va_rf (some o)), (1, va_rf (p0))] rfl (by decide) (by first | rfl | simp [List.filter, q_catR]) dX2_trace_6 ?_
  refine q_iconst X (0) (by decide) dX2_trace_7 ?_
  refine q_istore_n X 3 [(3, .int ((0 : Int32))), (2, .int ((0 : Int32))), (0, va_rf (some o)), (1, va_rf (p0))] rfl (by decide) (by first | rfl | simp [List.filter, q_catR]) dX2_trace_8 ?_
  refine q_lv [2, 3, 1, 0] rfl ?_
  exact w_X2_trace_9 X hr hl n _ _ _ _ _ h
theorem tD_X2_trace : yX2_trace.cls ≠ "java/lang/invoke/MethodHandle" ∧ yX2_trace.cls ≠ "java/lang/invoke/VarHandle" ∧ (parseMethodDescriptor yX2_trace.desc).map (fun d => d.parameters.length) = some 1 := by decide +kernel
theorem c_X2_trace {l : Launch} {D : va_G} {cy : Nat → ClassId} {n : Nat} {S Sv : q_S} {o : Nat} {p0 : Option Nat} (h : m_X2_trace n S o p0 = some ((), Sv)) : q_MV l yX2_trace (q_ws yX2_trace cX2_trace 5 (none)) ({ frames := 4, cells := 0, slots := 0, locals := 99 } : Room) D cy [.ref o, va_rf (p0)] S Sv := by
  cases p0 <;> exact q_MV_of (by decide +kernel) (Nat.le_of_ble_eq_true rfl) (fun p e s m args below meth c A X hr hl => w_X2_trace X hr hl h)
/-! TrueOutlines$Points.move(III)V -/
def m_X3_move_7 (n : Nat) : Nat → q_S → Option Nat → Int32 → Int32 → Int32 → Option (Unit × q_S)
  | 0, _, _, _, _, _ => none
  | k + 1, S, l0, l2, l3, l4 => q_at (S) (l0) 4 (fun a1 => (if (q_I (S) a1 4) ≤ l4 then some ((), S) else q_at (S) (q_R (S) a1 0) 100 (fun a3 => q_if (q_in (l4) (q_N (S) a3) = true) (q_if (q_in (l4) (q_N (S) a3) = true) (q_at (q_sI (S) a3 (l4).toNatClampNeg ((q_I (S) a3 (l4).toNatClampNeg) + l2)) (q_R (q_sI (S) a3 (l4).toNatClampNeg ((q_I (S) a3 (l4).toNatClampNeg) + l2)) a1 1) 100 (fun a6 => q_if (q_in (l4) (q_N (q_sI (S) a3 (l4).toNatClampNeg ((q_I (S) a3 (l4).toNatClampNeg) + l2)) a6) = true) (q_if (q_in (l4) (q_N (q_sI (S) a3 (l4).toNatClampNeg ((q_I (S) a3 (l4).toNatClampNeg) + l2)) a6) = true) (q_let (q_sI (q_sI (S) a3 (l4).toNatClampNeg ((q_I (S) a3 (l4).toNatClampNeg) + l2)) a6 (l4).toNatClampNeg ((q_I (q_sI (S) a3 (l4).toNatClampNeg ((q_I (S) a3 (l4).toNatClampNeg) + l2)) a6 (l4).toNatClampNeg) + l3)) (fun S9 => m_X3_move_7 n k (S9) (l0) (l2) (l3) (l4 + (1)))))))))))
set_option maxHeartbeats 4000000 in
set_option maxRecDepth 100000 in
theorem w_X3_move_7 (X : q_X p s m args c cX3_move 5 RX3 q_T D cy A) (hr : meth.sig.returnType = none) (hl : meth.locks = false)  {n : Nat} {Sv : q_S}  : ∀ (k : Nat) (S : q_S) (l0 : Option Nat) (l2 : Int32) (l3 : Int32) (l4 : Int32), m_X3_move_7 n k S l0 l2 l3 l4 = some ((), Sv) → q_W p l e ({ frames := 1, cells := 0, slots := 0, locals := 21 } : Room) s m args below meth c (MQ below (va_Qv (fun (u : q_S) => u = Sv) (q_B D cy A) A) args s 0 0 A) A D cy 5 0 0 S 7 [(0, va_rf (l0)), (2, .int (l2)), (3, .int (l3)), (4, .int (l4))] [] := by
  intro k
  induction k with
  | zero => intro S l0 l2 l3 l4 h; rw [m_X3_move_7] at h; cases h
  | succ k ih =>
    intro S l0 l2 l3 l4 h
    rw [m_X3_move_7] at h
    refine q_iload X 3 rfl dX3_move_7 ?_
    refine q_aload_n X 0 rfl dX3_move_9 ?_
    obtain ⟨a1, ea1, ma1, ka1, h⟩ := q_atE h
    refine q_getI X 4 ea1 ma1 ka1 rfl tW_X3 (by decide) (by decide) tF_X3_24 rfl dX3_move_10 ?_
    refine q_icmp_ge X 44 (by decide) dX3_move_13 (fun g2 => ?_) (fun g2 => ?_)
    · rw [if_pos g2] at h
      obtain ⟨ev, eS⟩ := q_end h
      exact q_vret X hr hl eS dX3_move_44
    · rw [if_neg g2] at h
      refine q_aload_n X 0 rfl dX3_move_16 ?_
      refine q_getR X 0 ea1 ma1 ka1 rfl tW_X3 (by decide) (by decide) tF_X3_9 rfl dX3_move_17 ?_
      refine q_iload X 3 rfl dX3_move_20 ?_
      refine q_dup2_11 X rfl (q_catR _) dX3_move_22 ?_
      obtain ⟨a3, ea3, ma3, ka3, h⟩ := q_atE h
      obtain ⟨g4, h⟩ := q_ifE h
      refine q_iaload X ea3 ma3 ka3 (q_inE g4) dX3_move_23 ?_
      refine q_iload_n X 1 rfl dX3_move_24 ?_
      refine q_iadd X dX3_move_25 ?_
      obtain ⟨g5, h⟩ := q_ifE h
      refine q_iastore X ea3 ma3 ka3 (q_inE g5) dX3_move_26 ?_
      have ma1 : a1 ∈ q_L (q_sI (S) a3 (l4).toNatClampNeg ((q_I (S) a3 (l4).toNatClampNeg) + l2)) := q_LsI ma1
      have ka1 : q_K (q_sI (S) a3 (l4).toNatClampNeg ((q_I (S) a3 (l4).toNatClampNeg) + l2)) a1 = 4 := q_KsI ka1
      have ma3 : a3 ∈ q_L (q_sI (S) a3 (l4).toNatClampNeg ((q_I (S) a3 (l4).toNatClampNeg) + l2)) := q_LsI ma3
      have ka3 : q_K (q_sI (S) a3 (l4).toNatClampNeg ((q_I (S) a3 (l4).toNatClampNeg) + l2)) a3 = 100 := q_KsI ka3
      refine q_aload_n X 0 rfl dX3_move_27 ?_
      refine q_getR X 1 ea1 ma1 ka1 rfl tW_X3 (by decide) (by decide) tF_X3_15 rfl dX3_move_28 ?_
      refine q_iload X 3 rfl dX3_move_31 ?_
      refine q_dup2_11 X rfl (q_catR _) dX3_move_33 ?_
      obtain ⟨a6, ea6, ma6, ka6, h⟩ := q_atE h
      obtain ⟨g7, h⟩ := q_ifE h
      refine q_iaload X ea6 ma6 ka6 (q_inE g7) dX3_move_34 ?_
      refine q_iload_n X 2 rfl dX3_move_35 ?_
      refine q_iadd X dX3_move_36 ?_
      obtain ⟨g8, h⟩ := q_ifE h
      refine q_iastore X ea6 ma6 ka6 (q_inE g8) dX3_move_37 ?_
      have ma1 : a1 ∈ q_L (q_sI (q_sI (S) a3 (l4).toNatClampNeg ((q_I (S) a3 (l4).toNatClampNeg) + l2)) a6 (l4).toNatClampNeg ((q_I (q_sI (S) a3 (l4).toNatClampNeg ((q_I (S) a3 (l4).toNatClampNeg) + l2)) a6 (l4).toNatClampNeg) + l3)) := q_LsI ma1
      have ka1 : q_K (q_sI (q_sI (S) a3 (l4).toNatClampNeg ((q_I (S) a3 (l4).toNatClampNeg) + l2)) a6 (l4).toNatClampNeg ((q_I (q_sI (S) a3 (l4).toNatClampNeg ((q_I (S) a3 (l4).toNatClampNeg) + l2)) a6 (l4).toNatClampNeg) + l3)) a1 = 4 := q_KsI ka1
      have ma3 : a3 ∈ q_L (q_sI (q_sI (S) a3 (l4).toNatClampNeg ((q_I (S) a3 (l4).toNatClampNeg) + l2)) a6 (l4).toNatClampNeg ((q_I (q_sI (S) a3 (l4).toNatClampNeg ((q_I (S) a3 (l4).toNatClampNeg) + l2)) a6 (l4).toNatClampNeg) + l3)) := q_LsI ma3
      have ka3 : q_K (q_sI (q_sI (S) a3 (l4).toNatClampNeg ((q_I (S) a3 (l4).toNatClampNeg) + l2)) a6 (l4).toNatClampNeg ((q_I (q_sI (S) a3 (l4).toNatClampNeg ((q_I (S) a3 (l4).toNatClampNeg) + l2)) a6 (l4).toNatClampNeg) + l3)) a3 = 100 := q_KsI ka3
      have ma6 : a6 ∈ q_L (q_sI (q_sI (S) a3 (l4).toNatClampNeg ((q_I (S) a3 (l4).toNatClampNeg) + l2)) a6 (l4).toNatClampNeg ((q_I (q_sI (S) a3 (l4).toNatClampNeg ((q_I (S) a3 (l4).toNatClampNeg) + l2)) a6 (l4).toNatClampNeg) + l3)) := q_LsI ma6
      have ka6 : q_K (q_sI (q_sI (S) a3 (l4).toNatClampNeg ((q_I (S) a3 (l4).toNatClampNeg) + l2)) a6 (l4).toNatClampNeg ((q_I (q_sI (S) a3 (l4).toNatClampNeg ((q_I (S) a3 (l4).toNatClampNeg) + l2)) a6 (l4).toNatClampNeg) + l3)) a6 = 100 := q_KsI ka6
      refine q_iinc X 4 3 (l4 + (1)) [(4, .int (l4 + (1))), (0, va_rf (l0)), (2, .int (l2)), (3, .int (l3))] rfl (congrArg (fun z => l4 + z) (show Int32.ofInt (1) = (1) by decide)) (by decide) (by first | rfl | simp [List.filter, q_catR]) dX3_move_38 ?_
      obtain ⟨S9, eS9, h⟩ := q_letE h
      refine q_sub eS9 ?_
      have ma1 : a1 ∈ q_L S9 := by rw [eS9]; exact ma1
      have ka1 : q_K S9 a1 = 4 := by rw [eS9]; exact ka1
      have ma3 : a3 ∈ q_L S9 := by rw [eS9]; exact ma3
      have ka3 : q_K S9 a3 = 100 := by rw [eS9]; exact ka3
      have ma6 : a6 ∈ q_L S9 := by rw [eS9]; exact ma6
      have ka6 : q_K S9 a6 = 100 := by rw [eS9]; exact ka6
      refine q_goto X 7 (by decide) dX3_move_41 ?_
      refine q_lv [1, 2, 3, 0] rfl ?_
      exact ih _ _ _ _ _ h
def m_X3_move (n : Nat) (S : q_S) (o : Nat) (p0 : Int32) (p1 : Int32) (p2 : Int32) : Option (Unit × q_S) := q_b (m_J9_max_7cf53 n (S) ((0 : Int32)) (p0)) (fun r1 S2 => m_X3_move_7 n n (S2) (some o) (p1) (p2) (r1))
set_option maxHeartbeats 4000000 in
set_option maxRecDepth 100000 in
theorem w_X3_move (X : q_X p s m args c cX3_move 5 RX3 q_T D cy A) (hr : meth.sig.returnType = none) (hl : meth.locks = false)  {n : Nat} {S Sv : q_S} {o : Nat} {p0 : Int32} {p1 : Int32} {p2 : Int32} (h : m_X3_move n S o p0 p1 p2 = some ((), Sv)) : q_W p l e ({ frames := 1, cells := 0, slots := 0, locals := 21 } : Room) s m args below meth c (MQ below (va_Qv (fun (u : q_S) => u = Sv) (q_B D cy A) A) args s 0 0 A) A D cy 5 0 0 S 0 [(0, va_rf (some o)), (1, .int (p0)), (2, .int (p1)), (3, .int (p2))] [] := by
  unfold m_X3_move at h
  refine q_iconst X (0) (by decide) dX3_move_0 ?_
  refine q_iload_n X 1 rfl dX3_move_1 ?_
  obtain ⟨r1, S2, c3, h⟩ := q_bE h
  refine q_cSI X (As := [.int ((0 : Int32)), .int (p0)]) (c_J9_max_7cf53 c3) (q_cwS X tK_J9_max_7cf53 tM_X3_41 tS_J9_max_7cf53 tN_J9 rfl rfl tD_J9_max_7cf53 ⟨Nat.le_of_ble_eq_true rfl, Nat.le_of_ble_eq_true rfl⟩) rfl rfl (by first | exact Nat.le_of_ble_eq_true rfl | (simp only [List.map, q_catR]; exact Nat.le_of_ble_eq_true rfl)) ⟨Nat.zero_le _, Nat.zero_le _⟩ dX3_move_2 ?_
  refine q_istore X 4 [(4, .int (r1)), (0, va_rf (some o)), (1, .int (p0)), (2, .int (p1)), (3, .int (p2))] (by decide) (by first | rfl | simp [List.filter, q_catR]) dX3_move_5 ?_
  refine q_lv [1, 3, 4, 0] rfl ?_
  exact w_X3_move_7 X hr hl n _ _ _ _ _ h
theorem tD_X3_move : yX3_move.cls ≠ "java/lang/invoke/MethodHandle" ∧ yX3_move.cls ≠ "java/lang/invoke/VarHandle" ∧ (parseMethodDescriptor yX3_move.desc).map (fun d => d.parameters.length) = some 3 := by decide +kernel
theorem c_X3_move {l : Launch} {D : va_G} {cy : Nat → ClassId} {n : Nat} {S Sv : q_S} {o : Nat} {p0 : Int32} {p1 : Int32} {p2 : Int32} (h : m_X3_move n S o p0 p1 p2 = some ((), Sv)) : q_MV l yX3_move (q_ws yX3_move cX3_move 5 (none)) ({ frames := 1, cells := 0, slots := 0, locals := 21 } : Room) D cy [.ref o, .int (p0), .int (p1), .int (p2)] S Sv := by
  exact q_MV_of (by decide +kernel) (Nat.le_of_ble_eq_true rfl) (fun p e s m args below meth c A X hr hl => w_X3_move X hr hl h)
/-! TrueOutlines$Points.wholes(J)I -/
def m_X3_wholes (n : Nat) (S : q_S) (p0 : Int64) : Option (Int32 × q_S) := q_b (m_J9_floorDiv_f86c9 n (S) (p0 + (8192 : Int64)) ((16384 : Int64))) (fun r1 S2 => some (r1.toInt32, S2))
set_option maxHeartbeats 4000000 in
set_option maxRecDepth 100000 in
theorem w_X3_wholes (X : q_X p s m args c cX3_wholes 2 RX3 q_T D cy A) (hr : meth.sig.returnType = (some .int)) (hl : meth.locks = false)  {n : Nat} {S Sv : q_S} {rv : Int32} {p0 : Int64} (h : m_X3_wholes n S p0 = some (rv, Sv)) : q_W p l e ({ frames := 1, cells := 0, slots := 0, locals := 25 } : Room) s m args below meth c (MQ below (va_Qi (fun (r : Int32) (u : q_S) => r = rv ∧ u = Sv) (q_B D cy A) A) args s 0 0 A) A D cy 2 0 0 S 0 [(0, .long (p0))] [] := by
  unfold m_X3_wholes at h
  refine q_lload_n X 0 rfl dX3_wholes_0 ?_
  refine q_ldc2_w X (8192) tC_X3_92 dX3_wholes_1 ?_
  refine q_ladd X dX3_wholes_4 ?_
  refine q_ldc2_w X (16384) tC_X3_94 dX3_wholes_5 ?_
  obtain ⟨r1, S2, c3, h⟩ := q_bE h
  refine q_cSJ X (As := [.long (p0 + (8192 : Int64)), .long ((16384 : Int64))]) (c_J9_floorDiv_f86c9 c3) (q_cwS X tK_J9_floorDiv_f86c9 tM_X3_96 tS_J9_floorDiv_f86c9 tN_J9 rfl rfl tD_J9_floorDiv_f86c9 ⟨Nat.le_of_ble_eq_true rfl, Nat.le_of_ble_eq_true rfl⟩) rfl rfl (by first | exact Nat.le_of_ble_eq_true rfl | (simp only [List.map, q_catR]; exact Nat.le_of_ble_eq_true rfl)) ⟨Nat.zero_le _, Nat.zero_le _⟩ dX3_wholes_8 ?_
  refine q_l2i X dX3_wholes_11 ?_
  obtain ⟨ev, eS⟩ := q_end h
  exact q_iret X hr hl rfl ev eS dX3_wholes_12
theorem tD_X3_wholes : yX3_wholes.cls ≠ "java/lang/invoke/MethodHandle" ∧ yX3_wholes.cls ≠ "java/lang/invoke/VarHandle" ∧ (parseMethodDescriptor yX3_wholes.desc).map (fun d => d.parameters.length) = some 1 := by decide +kernel
theorem c_X3_wholes {l : Launch} {D : va_G} {cy : Nat → ClassId} {n : Nat} {S Sv : q_S} {rv : Int32} {p0 : Int64} (h : m_X3_wholes n S p0 = some (rv, Sv)) : q_MI l yX3_wholes (q_ws yX3_wholes cX3_wholes 2 ((some .int))) ({ frames := 1, cells := 0, slots := 0, locals := 25 } : Room) D cy [.long (p0)] S rv Sv := by
  exact q_MI_of (by decide +kernel) (Nat.le_of_ble_eq_true rfl) (fun p e s m args below meth c A X hr hl => w_X3_wholes X hr hl h)
/-! TrueOutlines$Points.scale(ILTrueOutlines$Data;)V -/
def m_X3_scale_6 (n : Nat) : Nat → q_S → Option Nat → Option Nat → Int32 → Option (Unit × q_S)
  | 0, _, _, _, _ => none
  | k + 1, S, l0, l2, l3 => q_at (S) (l0) 4 (fun a1 => (if (q_I (S) a1 4) ≤ l3 then some ((), S) else q_at (S) (q_R (S) a1 0) 100 (fun a3 => q_if (q_in (l3) (q_N (S) a3) = true) (q_at (S) (q_R (S) a1 1) 100 (fun a5 => q_if (q_in (l3) (q_N (S) a5) = true) (q_at (S) (l2) 2 (fun a7 => q_b (m_X3_wholes n (S) ((((q_I (S) a7 10).toInt64) * ((q_I (S) a3 (l3).toNatClampNeg).toInt64)) + (((q_I (S) a7 12).toInt64) * ((q_I (S) a5 (l3).toNatClampNeg).toInt64)))) (fun r8 S9 => q_at (S9) (q_R (S) a1 0) 100 (fun a11 => q_if (q_in (l3) (q_N (S9) a11) = true) (q_at (q_sI (S9) a11 (l3).toNatClampNeg (r8)) (l0) 4 (fun a13 => q_at (q_sI (S9) a11 (l3).toNatClampNeg (r8)) (l2) 2 (fun a14 => q_b (m_X3_wholes n (q_sI (S9) a11 (l3).toNatClampNeg (r8)) ((((q_I (q_sI (S9) a11 (l3).toNatClampNeg (r8)) a14 11).toInt64) * ((q_I (S) a3 (l3).toNatClampNeg).toInt64)) + (((q_I (q_sI (S9) a11 (l3).toNatClampNeg (r8)) a14 13).toInt64) * ((q_I (S) a5 (l3).toNatClampNeg).toInt64)))) (fun r15 S16 => q_at (S16) (q_R (q_sI (S9) a11 (l3).toNatClampNeg (r8)) a13 1) 100 (fun a18 => q_if (q_in (l3) (q_N (S16) a18) = true) (m_X3_scale_6 n k (q_sI (S16) a18 (l3).toNatClampNeg (r15)) (l0) (l2) (l3 + (1)))))))))))))))))
set_option maxHeartbeats 4000000 in
set_option maxRecDepth 100000 in
theorem w_X3_scale_6 (X : q_X p s m args c cX3_scale 8 RX3 q_T D cy A) (hr : meth.sig.returnType = none) (hl : meth.locks = false)  {n : Nat} {Sv : q_S}  : ∀ (k : Nat) (S : q_S) (l0 : Option Nat) (l2 : Option Nat) (l3 : Int32), m_X3_scale_6 n k S l0 l2 l3 = some ((), Sv) → q_W p l e ({ frames := 2, cells := 0, slots := 0, locals := 46 } : Room) s m args below meth c (MQ below (va_Qv (fun (u : q_S) => u = Sv) (q_B D cy A) A) args s 0 0 A) A D cy 8 0 0 S 6 [(0, va_rf (l0)), (2, va_rf (l2)), (3, .int (l3))] [] := by
  intro k
  induction k with
  | zero => intro S l0 l2 l3 h; rw [m_X3_scale_6] at h; cases h
  | succ k ih =>
    intro S l0 l2 l3 h
    rw [m_X3_scale_6] at h
    refine q_iload_n X 2 rfl dX3_scale_6 ?_
    refine q_aload_n X 0 rfl dX3_scale_7 ?_
    obtain ⟨a1, ea1, ma1, ka1, h⟩ := q_atE h
    refine q_getI X 4 ea1 ma1 ka1 rfl tW_X3 (by decide) (by decide) tF_X3_24 rfl dX3_scale_8 ?_
    refine q_icmp_ge X 90 (by decide) dX3_scale_11 (fun g2 => ?_) (fun g2 => ?_)
    · rw [if_pos g2] at h
      obtain ⟨ev, eS⟩ := q_end h
      exact q_vret X hr hl eS dX3_scale_90
    · rw [if_neg g2] at h
      refine q_aload_n X 0 rfl dX3_scale_14 ?_
      refine q_getR X 0 ea1 ma1 ka1 rfl tW_X3 (by decide) (by decide) tF_X3_9 rfl dX3_scale_15 ?_
      refine q_iload_n X 2 rfl dX3_scale_18 ?_
      obtain ⟨a3, ea3, ma3, ka3, h⟩ := q_atE h
      obtain ⟨g4, h⟩ := q_ifE h
      refine q_iaload X ea3 ma3 ka3 (q_inE g4) dX3_scale_19 ?_
      refine q_i2l X dX3_scale_20 ?_
      refine q_lstore X 4 [(4, .long ((q_I (S) a3 (l3).toNatClampNeg).toInt64)), (0, va_rf (l0)), (2, va_rf (l2)), (3, .int (l3))] (by decide) (by first | rfl | simp [List.filter, q_catR]) dX3_scale_21 ?_
      refine q_aload_n X 1 rfl dX3_scale_23 ?_
      refine q_getR X 1 ea1 ma1 ka1 rfl tW_X3 (by decide) (by decide) tF_X3_15 rfl dX3_scale_24 ?_
      refine q_iload_n X 3 rfl dX3_scale_27 ?_
      obtain ⟨a5, ea5, ma5, ka5, h⟩ := q_atE h
      obtain ⟨g6, h⟩ := q_ifE h
      refine q_iaload X ea5 ma5 ka5 (q_inE g6) dX3_scale_28 ?_
      refine q_i2l X dX3_scale_29 ?_
      refine q_lstore X 6 [(6, .long ((q_I (S) a5 (l3).toNatClampNeg).toInt64)), (4, .long ((q_I (S) a3 (l3).toNatClampNeg).toInt64)), (0, va_rf (l0)), (2, va_rf (l2)), (3, .int (l3))] (by decide) (by first | rfl | simp [List.filter, q_catR]) dX3_scale_30 ?_
      refine q_aload_n X 2 rfl dX3_scale_32 ?_
      refine q_getR X 0 ea1 ma1 ka1 rfl tW_X3 (by decide) (by decide) tF_X3_9 rfl dX3_scale_33 ?_
      refine q_iload_n X 4 rfl dX3_scale_36 ?_
      refine q_aload_n X 3 rfl dX3_scale_37 ?_
      obtain ⟨a7, ea7, ma7, ka7, h⟩ := q_atE h
      refine q_getIN X 10 ea7 ma7 ka7 rfl tW_X1 (by decide) (by decide) "TrueOutlines" tF_X3_76 rfl dX3_scale_38 ?_
      refine q_i2l X dX3_scale_41 ?_
      refine q_lload X 1 rfl dX3_scale_42 ?_
      refine q_lmul X dX3_scale_44 ?_
      refine q_aload_n X 3 rfl dX3_scale_45 ?_
      refine q_getIN X 12 ea7 ma7 ka7 rfl tW_X1 (by decide) (by decide) "TrueOutlines" tF_X3_79 rfl dX3_scale_46 ?_
      refine q_i2l X dX3_scale_49 ?_
      refine q_lload X 0 rfl dX3_scale_50 ?_
      refine q_lmul X dX3_scale_52 ?_
      refine q_ladd X dX3_scale_53 ?_
      obtain ⟨r8, S9, c10, h⟩ := q_bE h
      refine q_cSI X (As := [.long ((((q_I (S) a7 10).toInt64) * ((q_I (S) a3 (l3).toNatClampNeg).toInt64)) + (((q_I (S) a7 12).toInt64) * ((q_I (S) a5 (l3).toNatClampNeg).toInt64)))]) (c_X3_wholes c10) (q_cwS X tK_X3_wholes tM_X3_82 tS_X3_wholes tN_X3 rfl rfl tD_X3_wholes ⟨Nat.le_of_ble_eq_true rfl, Nat.le_of_ble_eq_true rfl⟩) rfl rfl (by first | exact Nat.le_of_ble_eq_true rfl | (simp only [List.map, q_catR]; exact Nat.le_of_ble_eq_true rfl)) ⟨Nat.zero_le _, Nat.zero_le _⟩ dX3_scale_54 ?_
      obtain ⟨a11, ea11, ma11, ka11, h⟩ := q_atE h
      obtain ⟨g12, h⟩ := q_ifE h
      refine q_iastore X ea11 ma11 ka11 (q_inE g12) dX3_scale_57 ?_
      have ma11 : a11 ∈ q_L (q_sI (S9) a11 (l3).toNatClampNeg (r8)) := q_LsI ma11
      have ka11 : q_K (q_sI (S9) a11 (l3).toNatClampNeg (r8)) a11 = 100 := q_KsI ka11
      refine q_aload_n X 2 rfl dX3_scale_58 ?_
      obtain ⟨a13, ea13, ma13, ka13, h⟩ := q_atE h
      refine q_getR X 1 ea13 ma13 ka13 rfl tW_X3 (by decide) (by decide) tF_X3_15 rfl dX3_scale_59 ?_
      refine q_iload_n X 4 rfl dX3_scale_62 ?_
      refine q_aload_n X 3 rfl dX3_scale_63 ?_
      obtain ⟨a14, ea14, ma14, ka14, h⟩ := q_atE h
      refine q_getIN X 11 ea14 ma14 ka14 rfl tW_X1 (by decide) (by decide) "TrueOutlines" tF_X3_86 rfl dX3_scale_64 ?_
      refine q_i2l X dX3_scale_67 ?_
      refine q_lload X 1 rfl dX3_scale_68 ?_
      refine q_lmul X dX3_scale_70 ?_
      refine q_aload_n X 3 rfl dX3_scale_71 ?_
      refine q_getIN X 13 ea14 ma14 ka14 rfl tW_X1 (by decide) (by decide) "TrueOutlines" tF_X3_89 rfl dX3_scale_72 ?_
      refine q_i2l X dX3_scale_75 ?_
      refine q_lload X 0 rfl dX3_scale_76 ?_
      refine q_lmul X dX3_scale_78 ?_
      refine q_ladd X dX3_scale_79 ?_
      obtain ⟨r15, S16, c17, h⟩ := q_bE h
      refine q_cSI X (As := [.long ((((q_I (q_sI (S9) a11 (l3).toNatClampNeg (r8)) a14 11).toInt64) * ((q_I (S) a3 (l3).toNatClampNeg).toInt64)) + (((q_I (q_sI (S9) a11 (l3).toNatClampNeg (r8)) a14 13).toInt64) * ((q_I (S) a5 (l3).toNatClampNeg).toInt64)))]) (c_X3_wholes c17) (q_cwS X tK_X3_wholes tM_X3_82 tS_X3_wholes tN_X3 rfl rfl tD_X3_wholes ⟨Nat.le_of_ble_eq_true rfl, Nat.le_of_ble_eq_true rfl⟩) rfl rfl (by first | exact Nat.le_of_ble_eq_true rfl | (simp only [List.map, q_catR]; exact Nat.le_of_ble_eq_true rfl)) ⟨Nat.zero_le _, Nat.zero_le _⟩ dX3_scale_80 ?_
      obtain ⟨a18, ea18, ma18, ka18, h⟩ := q_atE h
      obtain ⟨g19, h⟩ := q_ifE h
      refine q_iastore X ea18 ma18 ka18 (q_inE g19) dX3_scale_83 ?_
      have ma18 : a18 ∈ q_L (q_sI (S16) a18 (l3).toNatClampNeg (r15)) := q_LsI ma18
      have ka18 : q_K (q_sI (S16) a18 (l3).toNatClampNeg (r15)) a18 = 100 := q_KsI ka18
      refine q_iinc X 3 4 (l3 + (1)) [(3, .int (l3 + (1))), (6, .long ((q_I (S) a5 (l3).toNatClampNeg).toInt64)), (4, .long ((q_I (S) a3 (l3).toNatClampNeg).toInt64)), (0, va_rf (l0)), (2, va_rf (l2))] rfl (congrArg (fun z => l3 + z) (show Int32.ofInt (1) = (1) by decide)) (by decide) (by first | rfl | simp [List.filter, q_catR]) dX3_scale_84 ?_
      refine q_goto X 6 (by decide) dX3_scale_87 ?_
      refine q_lv [3, 4, 0] rfl ?_
      exact ih _ _ _ _ h
def m_X3_scale (n : Nat) (S : q_S) (o : Nat) (p0 : Int32) (p1 : Option Nat) : Option (Unit × q_S) := q_b (m_J9_max_7cf53 n (S) ((0 : Int32)) (p0)) (fun r1 S2 => m_X3_scale_6 n n (S2) (some o) (p1) (r1))
set_option maxHeartbeats 4000000 in
set_option maxRecDepth 100000 in
theorem w_X3_scale (X : q_X p s m args c cX3_scale 8 RX3 q_T D cy A) (hr : meth.sig.returnType = none) (hl : meth.locks = false)  {n : Nat} {S Sv : q_S} {o : Nat} {p0 : Int32} {p1 : Option Nat} (h : m_X3_scale n S o p0 p1 = some ((), Sv)) : q_W p l e ({ frames := 2, cells := 0, slots := 0, locals := 46 } : Room) s m args below meth c (MQ below (va_Qv (fun (u : q_S) => u = Sv) (q_B D cy A) A) args s 0 0 A) A D cy 8 0 0 S 0 [(0, va_rf (some o)), (1, .int (p0)), (2, va_rf (p1))] [] := by
  unfold m_X3_scale at h
  refine q_iconst X (0) (by decide) dX3_scale_0 ?_
  refine q_iload_n X 1 rfl dX3_scale_1 ?_
  obtain ⟨r1, S2, c3, h⟩ := q_bE h
  refine q_cSI X (As := [.int ((0 : Int32)), .int (p0)]) (c_J9_max_7cf53 c3) (q_cwS X tK_J9_max_7cf53 tM_X3_41 tS_J9_max_7cf53 tN_J9 rfl rfl tD_J9_max_7cf53 ⟨Nat.le_of_ble_eq_true rfl, Nat.le_of_ble_eq_true rfl⟩) rfl rfl (by first | exact Nat.le_of_ble_eq_true rfl | (simp only [List.map, q_catR]; exact Nat.le_of_ble_eq_true rfl)) ⟨Nat.zero_le _, Nat.zero_le _⟩ dX3_scale_2 ?_
  refine q_istore_n X 3 [(3, .int (r1)), (0, va_rf (some o)), (1, .int (p0)), (2, va_rf (p1))] rfl (by decide) (by first | rfl | simp [List.filter, q_catR]) dX3_scale_5 ?_
  refine q_lv [1, 3, 0] rfl ?_
  exact w_X3_scale_6 X hr hl n _ _ _ _ h
theorem tD_X3_scale : yX3_scale.cls ≠ "java/lang/invoke/MethodHandle" ∧ yX3_scale.cls ≠ "java/lang/invoke/VarHandle" ∧ (parseMethodDescriptor yX3_scale.desc).map (fun d => d.parameters.length) = some 2 := by decide +kernel
theorem c_X3_scale {l : Launch} {D : va_G} {cy : Nat → ClassId} {n : Nat} {S Sv : q_S} {o : Nat} {p0 : Int32} {p1 : Option Nat} (h : m_X3_scale n S o p0 p1 = some ((), Sv)) : q_MV l yX3_scale (q_ws yX3_scale cX3_scale 8 (none)) ({ frames := 2, cells := 0, slots := 0, locals := 46 } : Room) D cy [.ref o, .int (p0), va_rf (p1)] S Sv := by
  cases p1 <;> exact q_MV_of (by decide +kernel) (Nat.le_of_ble_eq_true rfl) (fun p e s m args below meth c A X hr hl => w_X3_scale X hr hl h)
/-! TrueOutlines$Shaper.isOpened(II)Z -/
def m_X5_isOpened_30 (n : Nat) (S : q_S) : Option (Int32 × q_S) := q_if ((0 : Int32) = 0 ∨ (0 : Int32) = 1) (some ((0 : Int32), S))
set_option maxHeartbeats 4000000 in
set_option maxRecDepth 100000 in
theorem w_X5_isOpened_30 (X : q_X p s m args c cX5_isOpened 4 RX5 q_T D cy A) (hr : meth.sig.returnType = (some .boolean)) (hl : meth.locks = false)  {n : Nat} {Sv : q_S} {rv : Int32}  (S : q_S) (h : m_X5_isOpened_30 n S = some (rv, Sv)) : q_W p l e ({ frames := 0, cells := 0, slots := 0, locals := 0 } : Room) s m args below meth c (MQ below (va_Qi (fun (r : Int32) (u : q_S) => r = rv ∧ u = Sv) (q_B D cy A) A) args s 0 0 A) A D cy 4 0 0 S 30 [] [] := by
  unfold m_X5_isOpened_30 at h
  refine q_iconst X (0) (by decide) dX5_isOpened_30 ?_
  obtain ⟨g1, h⟩ := q_ifE h
  obtain ⟨ev, eS⟩ := q_end h
  exact q_iret X hr hl (q_bool g1) ev eS dX5_isOpened_31
def m_X5_isOpened_2 (n : Nat) : Nat → q_S → Option Nat → Int32 → Int32 → Int32 → Option (Int32 × q_S)
  | 0, _, _, _, _, _ => none
  | k + 1, S, l0, l1, l2, l3 => (if l1 < l3 then m_X5_isOpened_30 n (S) else (if (5 : Int32) < l3 then m_X5_isOpened_30 n (S) else q_at (S) (l0) 6 (fun a3 => q_at (S) (q_R (S) a3 5) 100 (fun a4 => q_if (q_in (l3) (q_N (S) a4) = true) ((if (q_I (S) a4 (l3).toNatClampNeg) = l2 then q_if ((1 : Int32) = 0 ∨ (1 : Int32) = 1) (some ((1 : Int32), S)) else m_X5_isOpened_2 n k (S) (l0) (l1) (l2) (l3 + (1))))))))
set_option maxHeartbeats 4000000 in
set_option maxRecDepth 100000 in
theorem w_X5_isOpened_2 (X : q_X p s m args c cX5_isOpened 4 RX5 q_T D cy A) (hr : meth.sig.returnType = (some .boolean)) (hl : meth.locks = false)  {n : Nat} {Sv : q_S} {rv : Int32}  : ∀ (k : Nat) (S : q_S) (l0 : Option Nat) (l1 : Int32) (l2 : Int32) (l3 : Int32), m_X5_isOpened_2 n k S l0 l1 l2 l3 = some (rv, Sv) → q_W p l e ({ frames := 0, cells := 0, slots := 0, locals := 0 } : Room) s m args below meth c (MQ below (va_Qi (fun (r : Int32) (u : q_S) => r = rv ∧ u = Sv) (q_B D cy A) A) args s 0 0 A) A D cy 4 0 0 S 2 [(0, va_rf (l0)), (1, .int (l1)), (2, .int (l2)), (3, .int (l3))] [] := by
  intro k
  induction k with
  | zero => intro S l0 l1 l2 l3 h; rw [m_X5_isOpened_2] at h; cases h
  | succ k ih =>
    intro S l0 l1 l2 l3 h
    rw [m_X5_isOpened_2] at h
    refine q_iload_n X 3 rfl dX5_isOpened_2 ?_
    refine q_iload_n X 1 rfl dX5_isOpened_3 ?_
    refine q_icmp_gt X 30 (by decide) dX5_isOpened_4 (fun g1 => ?_) (fun g1 => ?_)
    · rw [if_pos g1] at h
      refine q_lv [] rfl ?_
      exact w_X5_isOpened_30 X hr hl _ h
    · rw [if_neg g1] at h
      refine q_iload_n X 3 rfl dX5_isOpened_7 ?_
      refine q_iconst X (5) (by decide) dX5_isOpened_8 ?_
      refine q_icmp_gt X 30 (by decide) dX5_isOpened_9 (fun g2 => ?_) (fun g2 => ?_)
      · rw [if_pos g2] at h
        refine q_lv [] rfl ?_
        exact w_X5_isOpened_30 X hr hl _ h
      · rw [if_neg g2] at h
        refine q_aload_n X 0 rfl dX5_isOpened_12 ?_
        obtain ⟨a3, ea3, ma3, ka3, h⟩ := q_atE h
        refine q_getR X 5 ea3 ma3 ka3 rfl tW_X5 (by decide) (by decide) tF_X5_27 rfl dX5_isOpened_13 ?_
        refine q_iload_n X 3 rfl dX5_isOpened_16 ?_
        obtain ⟨a4, ea4, ma4, ka4, h⟩ := q_atE h
        obtain ⟨g5, h⟩ := q_ifE h
        refine q_iaload X ea4 ma4 ka4 (q_inE g5) dX5_isOpened_17 ?_
        refine q_iload_n X 2 rfl dX5_isOpened_18 ?_
        refine q_icmp_ne X 24 (by decide) dX5_isOpened_19 (fun g6 => ?_) (fun g6 => ?_)
        · rw [if_neg g6] at h
          refine q_iinc X 3 3 (l3 + (1)) [(3, .int (l3 + (1))), (0, va_rf (l0)), (1, .int (l1)), (2, .int (l2))] rfl (congrArg (fun z => l3 + z) (show Int32.ofInt (1) = (1) by decide)) (by decide) (by first | rfl | simp [List.filter, q_catR]) dX5_isOpened_24 ?_
          refine q_goto X 2 (by decide) dX5_isOpened_27 ?_
          refine q_lv [1, 2, 3, 0] rfl ?_
          exact ih _ _ _ _ _ h
        · rw [if_pos g6] at h
          refine q_iconst X (1) (by decide) dX5_isOpened_22 ?_
          obtain ⟨g7, h⟩ := q_ifE h
          obtain ⟨ev, eS⟩ := q_end h
          exact q_iret X hr hl (q_bool g7) ev eS dX5_isOpened_23
def m_X5_isOpened (n : Nat) (S : q_S) (o : Nat) (p0 : Int32) (p1 : Int32) : Option (Int32 × q_S) := m_X5_isOpened_2 n n (S) (some o) (p0) (p1) ((0 : Int32))
set_option maxHeartbeats 4000000 in
set_option maxRecDepth 100000 in
theorem w_X5_isOpened (X : q_X p s m args c cX5_isOpened 4 RX5 q_T D cy A) (hr : meth.sig.returnType = (some .boolean)) (hl : meth.locks = false)  {n : Nat} {S Sv : q_S} {rv : Int32} {o : Nat} {p0 : Int32} {p1 : Int32} (h : m_X5_isOpened n S o p0 p1 = some (rv, Sv)) : q_W p l e ({ frames := 0, cells := 0, slots := 0, locals := 0 } : Room) s m args below meth c (MQ below (va_Qi (fun (r : Int32) (u : q_S) => r = rv ∧ u = Sv) (q_B D cy A) A) args s 0 0 A) A D cy 4 0 0 S 0 [(0, va_rf (some o)), (1, .int (p0)), (2, .int (p1))] [] := by
  unfold m_X5_isOpened at h
  refine q_iconst X (0) (by decide) dX5_isOpened_0 ?_
  refine q_istore_n X 3 [(3, .int ((0 : Int32))), (0, va_rf (some o)), (1, .int (p0)), (2, .int (p1))] rfl (by decide) (by first | rfl | simp [List.filter, q_catR]) dX5_isOpened_1 ?_
  refine q_lv [1, 2, 3, 0] rfl ?_
  exact w_X5_isOpened_2 X hr hl n _ _ _ _ _ h
theorem tD_X5_isOpened : yX5_isOpened.cls ≠ "java/lang/invoke/MethodHandle" ∧ yX5_isOpened.cls ≠ "java/lang/invoke/VarHandle" ∧ (parseMethodDescriptor yX5_isOpened.desc).map (fun d => d.parameters.length) = some 2 := by decide +kernel
theorem c_X5_isOpened {l : Launch} {D : va_G} {cy : Nat → ClassId} {n : Nat} {S Sv : q_S} {rv : Int32} {o : Nat} {p0 : Int32} {p1 : Int32} (h : m_X5_isOpened n S o p0 p1 = some (rv, Sv)) : q_MI l yX5_isOpened (q_ws yX5_isOpened cX5_isOpened 4 ((some .boolean))) ({ frames := 0, cells := 0, slots := 0, locals := 0 } : Room) D cy [.ref o, .int (p0), .int (p1)] S rv Sv := by
  exact q_MI_of (by decide +kernel) (Nat.le_of_ble_eq_true rfl) (fun p e s m args below meth c A X hr hl => w_X5_isOpened X hr hl h)
/-! TrueOutlines$Shaper.join(LTrueOutlines$Data;II)V -/
def m_X5_join_103 (n : Nat) (S : q_S) : Option (Unit × q_S) := some ((), S)
set_option maxHeartbeats 4000000 in
set_option maxRecDepth 100000 in
theorem w_X5_join_103 (X : q_X p s m args c cX5_join 8 RX5 q_T D cy A) (hr : meth.sig.returnType = none) (hl : meth.locks = false)  {n : Nat} {Sv : q_S}  (S : q_S) (h : m_X5_join_103 n S = some ((), Sv)) : q_W p l e ({ frames := 2, cells := 0, slots := 0, locals := 45 } : Room) s m args below meth c (MQ below (va_Qv (fun (u : q_S) => u = Sv) (q_B D cy A) A) args s 0 0 A) A D cy 8 0 0 S 103 [] [] := by
  unfold m_X5_join_103 at h
  obtain ⟨ev, eS⟩ := q_end h
  exact q_vret X hr hl eS dX5_join_103
def m_X5_join_91 (n : Nat) (S : q_S) (l0 : Option Nat) (l1 : Option Nat) : Option (Unit × q_S) := q_at (S) (l0) 6 (fun a1 => q_at (S) (l1) 2 (fun a2 => q_at (S) (q_R (S) a1 1) 10 (fun a3 => q_b (m_X9_tell n (S) a3 ((3 : Int32)) (q_I (S) a2 7)) (fun _ S4 => m_X5_join_103 n (S4)))))
set_option maxHeartbeats 4000000 in
set_option maxRecDepth 100000 in
theorem w_X5_join_91 (X : q_X p s m args c cX5_join 8 RX5 q_T D cy A) (hr : meth.sig.returnType = none) (hl : meth.locks = false)  {n : Nat} {Sv : q_S}  (S : q_S) (l0 : Option Nat) (l1 : Option Nat) (h : m_X5_join_91 n S l0 l1 = some ((), Sv)) : q_W p l e ({ frames := 2, cells := 0, slots := 0, locals := 45 } : Room) s m args below meth c (MQ below (va_Qv (fun (u : q_S) => u = Sv) (q_B D cy A) A) args s 0 0 A) A D cy 8 0 0 S 91 [(0, va_rf (l0)), (1, va_rf (l1))] [] := by
  unfold m_X5_join_91 at h
  refine q_aload_n X 0 rfl dX5_join_91 ?_
  obtain ⟨a1, ea1, ma1, ka1, h⟩ := q_atE h
  refine q_getR X 1 ea1 ma1 ka1 rfl tW_X5 (by decide) (by decide) tF_X5_44 rfl dX5_join_92 ?_
  refine q_iconst X (3) (by decide) dX5_join_95 ?_
  refine q_aload_n X 1 rfl dX5_join_96 ?_
  obtain ⟨a2, ea2, ma2, ka2, h⟩ := q_atE h
  refine q_getIN X 7 ea2 ma2 ka2 rfl tW_X1 (by decide) (by decide) "TrueOutlines" tF_X5_109 rfl dX5_join_97 ?_
  obtain ⟨a3, ea3, ma3, ka3, h⟩ := q_atE h
  obtain ⟨u6, S4, c5, h⟩ := q_bE h
  refine q_cVV X (As := [.int ((3 : Int32)), .int (q_I (S) a2 7)]) ea3 ma3 ka3 rfl (by decide) (c_X9_tell c5) (q_cwV X tK_X9_tell tM_X5_94 tI_X9_tell tV_X9_tell tN_X9 rfl rfl tD_X9_tell ⟨Nat.le_of_ble_eq_true rfl, Nat.le_of_ble_eq_true rfl⟩) rfl rfl (by first | exact Nat.le_of_ble_eq_true rfl | (simp only [List.map, q_catR]; exact Nat.le_of_ble_eq_true rfl)) ⟨Nat.zero_le _, Nat.zero_le _⟩ dX5_join_100 ?_
  refine q_lv [] rfl ?_
  exact w_X5_join_103 X hr hl _ h
def m_X5_join (n : Nat) (S : q_S) (o : Nat) (p0 : Option Nat) (p1 : Int32) (p2 : Int32) : Option (Unit × q_S) := q_at (S) (p0) 2 (fun a1 => (if p2 ≤ (p1 + (q_I (S) a1 8)) then m_X5_join_91 n (S) (some o) (p0) else q_at (S) (some o) 6 (fun a3 => q_at (S) (q_R (S) a3 2) 4 (fun a4 => q_b (m_X3_size n (S) a4) (fun r5 S6 => (if r5 ≤ (p2 + (q_I (S) a1 9)) then m_X5_join_91 n (S6) (some o) (p0) else q_at (S6) (some o) 6 (fun a9 => q_at (S6) (q_R (S6) a9 2) 4 (fun a10 => q_b (m_X3_x n (S6) a10 (p1 + (q_I (S) a1 8))) (fun r11 S12 => q_at (S12) (some o) 6 (fun a14 => q_at (S12) (q_R (S12) a14 2) 4 (fun a15 => q_b (m_X3_x n (S12) a15 (p2 + (q_I (S) a1 9))) (fun r16 S17 => q_at (S17) (some o) 6 (fun a19 => q_at (S17) (q_R (S17) a19 2) 4 (fun a20 => q_b (m_X3_y n (S17) a20 (p1 + (q_I (S) a1 8))) (fun r21 S22 => q_at (S22) (some o) 6 (fun a24 => q_at (S22) (q_R (S22) a24 2) 4 (fun a25 => q_b (m_X3_y n (S22) a25 (p2 + (q_I (S) a1 9))) (fun r26 S27 => q_at (S27) (some o) 6 (fun a29 => q_at (S27) (q_R (S27) a29 2) 4 (fun a30 => q_b (m_X3_move n (S27) a30 (p2) (r11 - r16) (r21 - r26)) (fun _ S31 => m_X5_join_103 n (S31))))))))))))))))))))))
set_option maxHeartbeats 4000000 in
set_option maxRecDepth 100000 in
theorem w_X5_join (X : q_X p s m args c cX5_join 8 RX5 q_T D cy A) (hr : meth.sig.returnType = none) (hl : meth.locks = false)  {n : Nat} {S Sv : q_S} {o : Nat} {p0 : Option Nat} {p1 : Int32} {p2 : Int32} (h : m_X5_join n S o p0 p1 p2 = some ((), Sv)) : q_W p l e ({ frames := 2, cells := 0, slots := 0, locals := 45 } : Room) s m args below meth c (MQ below (va_Qv (fun (u : q_S) => u = Sv) (q_B D cy A) A) args s 0 0 A) A D cy 8 0 0 S 0 [(0, va_rf (some o)), (1, va_rf (p0)), (2, .int (p1)), (3, .int (p2))] [] := by
  unfold m_X5_join at h
  refine q_iload_n X 2 rfl dX5_join_0 ?_
  refine q_aload_n X 1 rfl dX5_join_1 ?_
  obtain ⟨a1, ea1, ma1, ka1, h⟩ := q_atE h
  refine q_getIN X 8 ea1 ma1 ka1 rfl tW_X1 (by decide) (by decide) "TrueOutlines" tF_X5_132 rfl dX5_join_2 ?_
  refine q_iadd X dX5_join_5 ?_
  refine q_istore X 4 [(4, .int (p1 + (q_I (S) a1 8))), (0, va_rf (some o)), (1, va_rf (p0)), (2, .int (p1)), (3, .int (p2))] (by decide) (by first | rfl | simp [List.filter, q_catR]) dX5_join_6 ?_
  refine q_iload_n X 4 rfl dX5_join_8 ?_
  refine q_aload_n X 2 rfl dX5_join_9 ?_
  refine q_getIN X 9 ea1 ma1 ka1 rfl tW_X1 (by decide) (by decide) "TrueOutlines" tF_X5_135 rfl dX5_join_10 ?_
  refine q_iadd X dX5_join_13 ?_
  refine q_istore X 5 [(5, .int (p2 + (q_I (S) a1 9))), (4, .int (p1 + (q_I (S) a1 8))), (0, va_rf (some o)), (1, va_rf (p0)), (2, .int (p1)), (3, .int (p2))] (by decide) (by first | rfl | simp [List.filter, q_catR]) dX5_join_14 ?_
  refine q_iload X 1 rfl dX5_join_16 ?_
  refine q_iload_n X 5 rfl dX5_join_18 ?_
  refine q_icmp_ge X 91 (by decide) dX5_join_19 (fun g2 => ?_) (fun g2 => ?_)
  · rw [if_pos g2] at h
    refine q_lv [2, 3] rfl ?_
    exact w_X5_join_91 X hr hl _ _ _ h
  · rw [if_neg g2] at h
    refine q_iload X 0 rfl dX5_join_22 ?_
    refine q_aload_n X 2 rfl dX5_join_24 ?_
    obtain ⟨a3, ea3, ma3, ka3, h⟩ := q_atE h
    refine q_getR X 2 ea3 ma3 ka3 rfl tW_X5 (by decide) (by decide) tF_X5_12 rfl dX5_join_25 ?_
    obtain ⟨a4, ea4, ma4, ka4, h⟩ := q_atE h
    obtain ⟨r5, S6, c7, h⟩ := q_bE h
    refine q_cVI X (As := []) ea4 ma4 ka4 rfl (by decide) (c_X3_size c7) (q_cwV X tK_X3_size tM_X5_76 tI_X3_size tV_X3_size tN_X3 rfl rfl tD_X3_size ⟨Nat.le_of_ble_eq_true rfl, Nat.le_of_ble_eq_true rfl⟩) rfl rfl (by first | exact Nat.le_of_ble_eq_true rfl | (simp only [List.map, q_catR]; exact Nat.le_of_ble_eq_true rfl)) ⟨Nat.zero_le _, Nat.zero_le _⟩ dX5_join_28 ?_
    refine q_icmp_ge X 91 (by decide) dX5_join_31 (fun g8 => ?_) (fun g8 => ?_)
    · rw [if_pos g8] at h
      refine q_lv [2, 3] rfl ?_
      exact w_X5_join_91 X hr hl _ _ _ h
    · rw [if_neg g8] at h
      refine q_aload_n X 2 rfl dX5_join_34 ?_
      obtain ⟨a9, ea9, ma9, ka9, h⟩ := q_atE h
      refine q_getR X 2 ea9 ma9 ka9 rfl tW_X5 (by decide) (by decide) tF_X5_12 rfl dX5_join_35 ?_
      refine q_iload X 1 rfl dX5_join_38 ?_
      obtain ⟨a10, ea10, ma10, ka10, h⟩ := q_atE h
      obtain ⟨r11, S12, c13, h⟩ := q_bE h
      refine q_cVI X (As := [.int (p1 + (q_I (S) a1 8))]) ea10 ma10 ka10 rfl (by decide) (c_X3_x c13) (q_cwV X tK_X3_x tM_X5_146 tI_X3_x tV_X3_x tN_X3 rfl rfl tD_X3_x ⟨Nat.le_of_ble_eq_true rfl, Nat.le_of_ble_eq_true rfl⟩) rfl rfl (by first | exact Nat.le_of_ble_eq_true rfl | (simp only [List.map, q_catR]; exact Nat.le_of_ble_eq_true rfl)) ⟨Nat.zero_le _, Nat.zero_le _⟩ dX5_join_40 ?_
      refine q_aload_n X 2 rfl dX5_join_43 ?_
      obtain ⟨a14, ea14, ma14, ka14, h⟩ := q_atE h
      refine q_getR X 2 ea14 ma14 ka14 rfl tW_X5 (by decide) (by decide) tF_X5_12 rfl dX5_join_44 ?_
      refine q_iload X 0 rfl dX5_join_47 ?_
      obtain ⟨a15, ea15, ma15, ka15, h⟩ := q_atE h
      obtain ⟨r16, S17, c18, h⟩ := q_bE h
      refine q_cVI X (As := [.int (p2 + (q_I (S) a1 9))]) ea15 ma15 ka15 rfl (by decide) (c_X3_x c18) (q_cwV X tK_X3_x tM_X5_146 tI_X3_x tV_X3_x tN_X3 rfl rfl tD_X3_x ⟨Nat.le_of_ble_eq_true rfl, Nat.le_of_ble_eq_true rfl⟩) rfl rfl (by first | exact Nat.le_of_ble_eq_true rfl | (simp only [List.map, q_catR]; exact Nat.le_of_ble_eq_true rfl)) ⟨Nat.zero_le _, Nat.zero_le _⟩ dX5_join_49 ?_
      refine q_isub X dX5_join_52 ?_
      refine q_istore X 6 [(6, .int (r11 - r16)), (5, .int (p2 + (q_I (S) a1 9))), (4, .int (p1 + (q_I (S) a1 8))), (0, va_rf (some o)), (1, va_rf (p0)), (2, .int (p1)), (3, .int (p2))] (by decide) (by first | rfl | simp [List.filter, q_catR]) dX5_join_53 ?_
      refine q_aload_n X 3 rfl dX5_join_55 ?_
      obtain ⟨a19, ea19, ma19, ka19, h⟩ := q_atE h
      refine q_getR X 2 ea19 ma19 ka19 rfl tW_X5 (by decide) (by decide) tF_X5_12 rfl dX5_join_56 ?_
      refine q_iload X 2 rfl dX5_join_59 ?_
      obtain ⟨a20, ea20, ma20, ka20, h⟩ := q_atE h
      obtain ⟨r21, S22, c23, h⟩ := q_bE h
      refine q_cVI X (As := [.int (p1 + (q_I (S) a1 8))]) ea20 ma20 ka20 rfl (by decide) (c_X3_y c23) (q_cwV X tK_X3_y tM_X5_150 tI_X3_y tV_X3_y tN_X3 rfl rfl tD_X3_y ⟨Nat.le_of_ble_eq_true rfl, Nat.le_of_ble_eq_true rfl⟩) rfl rfl (by first | exact Nat.le_of_ble_eq_true rfl | (simp only [List.map, q_catR]; exact Nat.le_of_ble_eq_true rfl)) ⟨Nat.zero_le _, Nat.zero_le _⟩ dX5_join_61 ?_
      refine q_aload_n X 3 rfl dX5_join_64 ?_
      obtain ⟨a24, ea24, ma24, ka24, h⟩ := q_atE h
      refine q_getR X 2 ea24 ma24 ka24 rfl tW_X5 (by decide) (by decide) tF_X5_12 rfl dX5_join_65 ?_
      refine q_iload X 1 rfl dX5_join_68 ?_
      obtain ⟨a25, ea25, ma25, ka25, h⟩ := q_atE h
      obtain ⟨r26, S27, c28, h⟩ := q_bE h
      refine q_cVI X (As := [.int (p2 + (q_I (S) a1 9))]) ea25 ma25 ka25 rfl (by decide) (c_X3_y c28) (q_cwV X tK_X3_y tM_X5_150 tI_X3_y tV_X3_y tN_X3 rfl rfl tD_X3_y ⟨Nat.le_of_ble_eq_true rfl, Nat.le_of_ble_eq_true rfl⟩) rfl rfl (by first | exact Nat.le_of_ble_eq_true rfl | (simp only [List.map, q_catR]; exact Nat.le_of_ble_eq_true rfl)) ⟨Nat.zero_le _, Nat.zero_le _⟩ dX5_join_70 ?_
      refine q_isub X dX5_join_73 ?_
      refine q_istore X 7 [(7, .int (r21 - r26)), (6, .int (r11 - r16)), (5, .int (p2 + (q_I (S) a1 9))), (4, .int (p1 + (q_I (S) a1 8))), (0, va_rf (some o)), (1, va_rf (p0)), (2, .int (p1)), (3, .int (p2))] (by decide) (by first | rfl | simp [List.filter, q_catR]) dX5_join_74 ?_
      refine q_aload_n X 4 rfl dX5_join_76 ?_
      obtain ⟨a29, ea29, ma29, ka29, h⟩ := q_atE h
      refine q_getR X 2 ea29 ma29 ka29 rfl tW_X5 (by decide) (by decide) tF_X5_12 rfl dX5_join_77 ?_
      refine q_iload_n X 7 rfl dX5_join_80 ?_
      refine q_iload X 1 rfl dX5_join_81 ?_
      refine q_iload X 0 rfl dX5_join_83 ?_
      obtain ⟨a30, ea30, ma30, ka30, h⟩ := q_atE h
      obtain ⟨u33, S31, c32, h⟩ := q_bE h
      refine q_cVV X (As := [.int (p2), .int (r11 - r16), .int (r21 - r26)]) ea30 ma30 ka30 rfl (by decide) (c_X3_move c32) (q_cwV X tK_X3_move tM_X5_138 tI_X3_move tV_X3_move tN_X3 rfl rfl tD_X3_move ⟨Nat.le_of_ble_eq_true rfl, Nat.le_of_ble_eq_true rfl⟩) rfl rfl (by first | exact Nat.le_of_ble_eq_true rfl | (simp only [List.map, q_catR]; exact Nat.le_of_ble_eq_true rfl)) ⟨Nat.zero_le _, Nat.zero_le _⟩ dX5_join_85 ?_
      refine q_goto X 103 (by decide) dX5_join_88 ?_
      refine q_lv [] rfl ?_
      exact w_X5_join_103 X hr hl _ h
theorem tD_X5_join : yX5_join.cls ≠ "java/lang/invoke/MethodHandle" ∧ yX5_join.cls ≠ "java/lang/invoke/VarHandle" ∧ (parseMethodDescriptor yX5_join.desc).map (fun d => d.parameters.length) = some 3 := by decide +kernel
theorem c_X5_join {l : Launch} {D : va_G} {cy : Nat → ClassId} {n : Nat} {S Sv : q_S} {o : Nat} {p0 : Option Nat} {p1 : Int32} {p2 : Int32} (h : m_X5_join n S o p0 p1 p2 = some ((), Sv)) : q_MV l yX5_join (q_ws yX5_join cX5_join 8 (none)) ({ frames := 2, cells := 0, slots := 0, locals := 45 } : Room) D cy [.ref o, va_rf (p0), .int (p1), .int (p2)] S Sv := by
  cases p0 <;> exact q_MV_of (by decide +kernel) (Nat.le_of_ble_eq_true rfl) (fun p e s m args below meth c A X hr hl => w_X5_join X hr hl h)
/-! TrueOutlines$Shaper.keepIfBarren(IIZ)V -/
def m_X5_keepIfBarren_32 (n : Nat) (S : q_S) : Option (Unit × q_S) := some ((), S)
set_option maxHeartbeats 4000000 in
set_option maxRecDepth 100000 in
theorem w_X5_keepIfBarren_32 (X : q_X p s m args c cX5_keepIfBarren 5 RX5 q_T D cy A) (hr : meth.sig.returnType = none) (hl : meth.locks = false)  {n : Nat} {Sv : q_S}  (S : q_S) (h : m_X5_keepIfBarren_32 n S = some ((), Sv)) : q_W p l e ({ frames := 2, cells := 0, slots := 0, locals := 44 } : Room) s m args below meth c (MQ below (va_Qv (fun (u : q_S) => u = Sv) (q_B D cy A) A) args s 0 0 A) A D cy 5 0 0 S 32 [] [] := by
  unfold m_X5_keepIfBarren_32 at h
  obtain ⟨ev, eS⟩ := q_end h
  exact q_vret X hr hl eS dX5_keepIfBarren_32
def m_X5_keepIfBarren (n : Nat) (S : q_S) (o : Nat) (p0 : Int32) (p1 : Int32) (p2 : Int32) : Option (Unit × q_S) := q_at (S) (some o) 6 (fun a1 => q_b (m_X5_cellOf n (S) a1 (p0) (p1)) (fun r2 S3 => (if p2 = 0 then m_X5_keepIfBarren_32 n (S3) else (if r2 < 0 then m_X5_keepIfBarren_32 n (S3) else q_at (S3) (some o) 6 (fun a7 => q_at (S3) (q_R (S3) a7 6) 100 (fun a8 => q_if (q_in (p0 - (1 : Int32)) (q_N (S3) a8) = true) (q_at (S3) (q_R (S3) a7 8) 100 (fun a10 => q_if (q_in (r2) (q_N (S3) a10) = true) (m_X5_keepIfBarren_32 n (q_sI (S3) a10 (r2).toNatClampNeg (q_I (S3) a8 (p0 - (1 : Int32)).toNatClampNeg)))))))))))
set_option maxHeartbeats 4000000 in
set_option maxRecDepth 100000 in
theorem w_X5_keepIfBarren (X : q_X p s m args c cX5_keepIfBarren 5 RX5 q_T D cy A) (hr : meth.sig.returnType = none) (hl : meth.locks = false)  {n : Nat} {S Sv : q_S} {o : Nat} {p0 : Int32} {p1 : Int32} {p2 : Int32} (h : m_X5_keepIfBarren n S o p0 p1 p2 = some ((), Sv)) : q_W p l e ({ frames := 2, cells := 0, slots := 0, locals := 44 } : Room) s m args below meth c (MQ below (va_Qv (fun (u : q_S) => u = Sv) (q_B D cy A) A) args s 0 0 A) A D cy 5 0 0 S 0 [(0, va_rf (some o)), (1, .int (p0)), (2, .int (p1)), (3, .int (p2))] [] := by
  unfold m_X5_keepIfBarren at h
  refine q_aload_n X 0 rfl dX5_keepIfBarren_0 ?_
  refine q_iload_n X 1 rfl dX5_keepIfBarren_1 ?_
  refine q_iload_n X 2 rfl dX5_keepIfBarren_2 ?_
  obtain ⟨a1, ea1, ma1, ka1, h⟩ := q_atE h
  obtain ⟨r2, S3, c4, h⟩ := q_bE h
  refine q_cVI X (As := [.int (p0), .int (p1)]) ea1 ma1 ka1 rfl (by decide) (c_X5_cellOf c4) (q_cwV X tK_X5_cellOf tM_X5_153 tI_X5_cellOf tV_X5_cellOf tN_X5 rfl rfl tD_X5_cellOf ⟨Nat.le_of_ble_eq_true rfl, Nat.le_of_ble_eq_true rfl⟩) rfl rfl (by first | exact Nat.le_of_ble_eq_true rfl | (simp only [List.map, q_catR]; exact Nat.le_of_ble_eq_true rfl)) ⟨Nat.zero_le _, Nat.zero_le _⟩ dX5_keepIfBarren_3 ?_
  refine q_istore X 4 [(4, .int (r2)), (0, va_rf (some o)), (1, .int (p0)), (2, .int (p1)), (3, .int (p2))] (by decide) (by first | rfl | simp [List.filter, q_catR]) dX5_keepIfBarren_6 ?_
  refine q_iload_n X 4 rfl dX5_keepIfBarren_8 ?_
  refine q_if_eq X 32 (by decide) dX5_keepIfBarren_9 (fun g5 => ?_) (fun g5 => ?_)
  · rw [if_pos g5] at h
    refine q_lv [] rfl ?_
    exact w_X5_keepIfBarren_32 X hr hl _ h
  · rw [if_neg g5] at h
    refine q_iload X 0 rfl dX5_keepIfBarren_12 ?_
    refine q_if_lt X 32 (by decide) dX5_keepIfBarren_14 (fun g6 => ?_) (fun g6 => ?_)
    · rw [if_pos g6] at h
      refine q_lv [] rfl ?_
      exact w_X5_keepIfBarren_32 X hr hl _ h
    · rw [if_neg g6] at h
      refine q_aload_n X 1 rfl dX5_keepIfBarren_17 ?_
      obtain ⟨a7, ea7, ma7, ka7, h⟩ := q_atE h
      refine q_getR X 8 ea7 ma7 ka7 rfl tW_X5 (by decide) (by decide) tF_X5_37 rfl dX5_keepIfBarren_18 ?_
      refine q_iload X 0 rfl dX5_keepIfBarren_21 ?_
      refine q_aload_n X 1 rfl dX5_keepIfBarren_23 ?_
      refine q_getR X 6 ea7 ma7 ka7 rfl tW_X5 (by decide) (by decide) tF_X5_31 rfl dX5_keepIfBarren_24 ?_
      refine q_iload_n X 2 rfl dX5_keepIfBarren_27 ?_
      refine q_iconst X (1) (by decide) dX5_keepIfBarren_28 ?_
      refine q_isub X dX5_keepIfBarren_29 ?_
      obtain ⟨a8, ea8, ma8, ka8, h⟩ := q_atE h
      obtain ⟨g9, h⟩ := q_ifE h
      refine q_iaload X ea8 ma8 ka8 (q_inE g9) dX5_keepIfBarren_30 ?_
      obtain ⟨a10, ea10, ma10, ka10, h⟩ := q_atE h
      obtain ⟨g11, h⟩ := q_ifE h
      refine q_iastore X ea10 ma10 ka10 (q_inE g11) dX5_keepIfBarren_31 ?_
      have ma7 : a7 ∈ q_L (q_sI (S3) a10 (r2).toNatClampNeg (q_I (S3) a8 (p0 - (1 : Int32)).toNatClampNeg)) := q_LsI ma7
      have ka7 : q_K (q_sI (S3) a10 (r2).toNatClampNeg (q_I (S3) a8 (p0 - (1 : Int32)).toNatClampNeg)) a7 = 6 := q_KsI ka7
      have ma8 : a8 ∈ q_L (q_sI (S3) a10 (r2).toNatClampNeg (q_I (S3) a8 (p0 - (1 : Int32)).toNatClampNeg)) := q_LsI ma8
      have ka8 : q_K (q_sI (S3) a10 (r2).toNatClampNeg (q_I (S3) a8 (p0 - (1 : Int32)).toNatClampNeg)) a8 = 100 := q_KsI ka8
      have ma10 : a10 ∈ q_L (q_sI (S3) a10 (r2).toNatClampNeg (q_I (S3) a8 (p0 - (1 : Int32)).toNatClampNeg)) := q_LsI ma10
      have ka10 : q_K (q_sI (S3) a10 (r2).toNatClampNeg (q_I (S3) a8 (p0 - (1 : Int32)).toNatClampNeg)) a10 = 100 := q_KsI ka10
      refine q_lv [] rfl ?_
      exact w_X5_keepIfBarren_32 X hr hl _ h
theorem tD_X5_keepIfBarren : yX5_keepIfBarren.cls ≠ "java/lang/invoke/MethodHandle" ∧ yX5_keepIfBarren.cls ≠ "java/lang/invoke/VarHandle" ∧ (parseMethodDescriptor yX5_keepIfBarren.desc).map (fun d => d.parameters.length) = some 3 := by decide +kernel
theorem c_X5_keepIfBarren {l : Launch} {D : va_G} {cy : Nat → ClassId} {n : Nat} {S Sv : q_S} {o : Nat} {p0 : Int32} {p1 : Int32} {p2 : Int32} (h : m_X5_keepIfBarren n S o p0 p1 p2 = some ((), Sv)) : q_MV l yX5_keepIfBarren (q_ws yX5_keepIfBarren cX5_keepIfBarren 5 (none)) ({ frames := 2, cells := 0, slots := 0, locals := 44 } : Room) D cy [.ref o, .int (p0), .int (p1), .int (p2)] S Sv := by
  exact q_MV_of (by decide +kernel) (Nat.le_of_ble_eq_true rfl) (fun p e s m args below meth c A X hr hl => w_X5_keepIfBarren X hr hl h)
/-! TrueOutlines$Shaper.matters(II)Z -/
def m_X5_matters_82 (n : Nat) (S : q_S) (s0 : Int32) : Option (Int32 × q_S) := q_if (s0 = 0 ∨ s0 = 1) (some (s0, S))
set_option maxHeartbeats 4000000 in
set_option maxRecDepth 100000 in
theorem w_X5_matters_82 (X : q_X p s m args c cX5_matters 4 RX5 q_T D cy A) (hr : meth.sig.returnType = (some .boolean)) (hl : meth.locks = false)  {n : Nat} {Sv : q_S} {rv : Int32}  (S : q_S) (s0 : Int32) (h : m_X5_matters_82 n S s0 = some (rv, Sv)) : q_W p l e ({ frames := 2, cells := 0, slots := 0, locals := 44 } : Room) s m args below meth c (MQ below (va_Qi (fun (r : Int32) (u : q_S) => r = rv ∧ u = Sv) (q_B D cy A) A) args s 0 0 A) A D cy 4 0 0 S 82 [] [.int (s0)] := by
  unfold m_X5_matters_82 at h
  obtain ⟨g1, h⟩ := q_ifE h
  obtain ⟨ev, eS⟩ := q_end h
  exact q_iret X hr hl (q_bool g1) ev eS dX5_matters_82
def m_X5_matters_81 (n : Nat) (S : q_S) : Option (Int32 × q_S) := m_X5_matters_82 n (S) ((0 : Int32))
set_option maxHeartbeats 4000000 in
set_option maxRecDepth 100000 in
theorem w_X5_matters_81 (X : q_X p s m args c cX5_matters 4 RX5 q_T D cy A) (hr : meth.sig.returnType = (some .boolean)) (hl : meth.locks = false)  {n : Nat} {Sv : q_S} {rv : Int32}  (S : q_S) (h : m_X5_matters_81 n S = some (rv, Sv)) : q_W p l e ({ frames := 2, cells := 0, slots := 0, locals := 44 } : Room) s m args below meth c (MQ below (va_Qi (fun (r : Int32) (u : q_S) => r = rv ∧ u = Sv) (q_B D cy A) A) args s 0 0 A) A D cy 4 0 0 S 81 [] [] := by
  unfold m_X5_matters_81 at h
  refine q_iconst X (0) (by decide) dX5_matters_81 ?_
  exact w_X5_matters_82 X hr hl _ _ h
def m_X5_matters_40 (n : Nat) (S : q_S) (s0 : Int32) : Option (Int32 × q_S) := q_if (s0 = 0 ∨ s0 = 1) (some (s0, S))
set_option maxHeartbeats 4000000 in
set_option maxRecDepth 100000 in
theorem w_X5_matters_40 (X : q_X p s m args c cX5_matters 4 RX5 q_T D cy A) (hr : meth.sig.returnType = (some .boolean)) (hl : meth.locks = false)  {n : Nat} {Sv : q_S} {rv : Int32}  (S : q_S) (s0 : Int32) (h : m_X5_matters_40 n S s0 = some (rv, Sv)) : q_W p l e ({ frames := 2, cells := 0, slots := 0, locals := 44 } : Room) s m args below meth c (MQ below (va_Qi (fun (r : Int32) (u : q_S) => r = rv ∧ u = Sv) (q_B D cy A) A) args s 0 0 A) A D cy 4 0 0 S 40 [] [.int (s0)] := by
  unfold m_X5_matters_40 at h
  obtain ⟨g1, h⟩ := q_ifE h
  obtain ⟨ev, eS⟩ := q_end h
  exact q_iret X hr hl (q_bool g1) ev eS dX5_matters_40
def m_X5_matters (n : Nat) (S : q_S) (o : Nat) (p0 : Int32) (p1 : Int32) : Option (Int32 × q_S) := q_at (S) (some o) 6 (fun a1 => q_b (m_X5_cellOf n (S) a1 (p0) (p1)) (fun r2 S3 => (if 0 ≤ r2 then q_at (S3) (some o) 6 (fun a6 => q_at (S3) (q_R (S3) a6 1) 10 (fun a7 => q_b (m_X9_isFull n (S3) a7) (fun r8 S9 => (if r8 = 0 then q_at (S9) (some o) 6 (fun a26 => q_at (S9) (q_R (S9) a26 7) 100 (fun a27 => q_if (q_in (r2) (q_N (S9) a27) = true) ((if (2000 : Int32) ≤ (q_I (S9) a27 (r2).toNatClampNeg) then m_X5_matters_40 n (S9) ((0 : Int32)) else m_X5_matters_40 n (S9) ((1 : Int32)))))) else q_at (S9) (some o) 6 (fun a12 => q_at (S9) (q_R (S9) a12 7) 100 (fun a13 => q_if (q_in (r2) (q_N (S9) a13) = true) (q_at (S9) (q_R (S9) a12 2) 4 (fun a15 => q_b (m_X3_size n (S9) a15) (fun r16 S17 => (if ((120 : Int32) - r16) < (q_I (S9) a13 (r2).toNatClampNeg) then m_X5_matters_81 n (S17) else q_at (S17) (some o) 6 (fun a20 => q_at (S17) (q_R (S17) a20 8) 100 (fun a21 => q_if (q_in (r2) (q_N (S17) a21) = true) (q_at (S17) (q_R (S17) a20 6) 100 (fun a23 => q_if (q_in (p0 - (1 : Int32)) (q_N (S17) a23) = true) ((if (q_I (S17) a21 (r2).toNatClampNeg) = (q_I (S17) a23 (p0 - (1 : Int32)).toNatClampNeg) then m_X5_matters_81 n (S17) else m_X5_matters_82 n (S17) ((1 : Int32)))))))))))))))))) else q_if ((0 : Int32) = 0 ∨ (0 : Int32) = 1) (some ((0 : Int32), S3)))))
set_option maxHeartbeats 4000000 in
set_option maxRecDepth 100000 in
theorem w_X5_matters (X : q_X p s m args c cX5_matters 4 RX5 q_T D cy A) (hr : meth.sig.returnType = (some .boolean)) (hl : meth.locks = false)  {n : Nat} {S Sv : q_S} {rv : Int32} {o : Nat} {p0 : Int32} {p1 : Int32} (h : m_X5_matters n S o p0 p1 = some (rv, Sv)) : q_W p l e ({ frames := 2, cells := 0, slots := 0, locals := 44 } : Room) s m args below meth c (MQ below (va_Qi (fun (r : Int32) (u : q_S) => r = rv ∧ u = Sv) (q_B D cy A) A) args s 0 0 A) A D cy 4 0 0 S 0 [(0, va_rf (some o)), (1, .int (p0)), (2, .int (p1))] [] := by
  unfold m_X5_matters at h
  refine q_aload_n X 0 rfl dX5_matters_0 ?_
  refine q_iload_n X 1 rfl dX5_matters_1 ?_
  refine q_iload_n X 2 rfl dX5_matters_2 ?_
  obtain ⟨a1, ea1, ma1, ka1, h⟩ := q_atE h
  obtain ⟨r2, S3, c4, h⟩ := q_bE h
  refine q_cVI X (As := [.int (p0), .int (p1)]) ea1 ma1 ka1 rfl (by decide) (c_X5_cellOf c4) (q_cwV X tK_X5_cellOf tM_X5_153 tI_X5_cellOf tV_X5_cellOf tN_X5 rfl rfl tD_X5_cellOf ⟨Nat.le_of_ble_eq_true rfl, Nat.le_of_ble_eq_true rfl⟩) rfl rfl (by first | exact Nat.le_of_ble_eq_true rfl | (simp only [List.map, q_catR]; exact Nat.le_of_ble_eq_true rfl)) ⟨Nat.zero_le _, Nat.zero_le _⟩ dX5_matters_3 ?_
  refine q_istore_n X 3 [(3, .int (r2)), (0, va_rf (some o)), (1, .int (p0)), (2, .int (p1))] rfl (by decide) (by first | rfl | simp [List.filter, q_catR]) dX5_matters_6 ?_
  refine q_iload_n X 0 rfl dX5_matters_7 ?_
  refine q_if_ge X 13 (by decide) dX5_matters_8 (fun g5 => ?_) (fun g5 => ?_)
  · rw [if_pos g5] at h
    refine q_aload_n X 1 rfl dX5_matters_13 ?_
    obtain ⟨a6, ea6, ma6, ka6, h⟩ := q_atE h
    refine q_getR X 1 ea6 ma6 ka6 rfl tW_X5 (by decide) (by decide) tF_X5_44 rfl dX5_matters_14 ?_
    obtain ⟨a7, ea7, ma7, ka7, h⟩ := q_atE h
    obtain ⟨r8, S9, c10, h⟩ := q_bE h
    refine q_cVI X (As := []) ea7 ma7 ka7 rfl (by decide) (c_X9_isFull c10) (q_cwV X tK_X9_isFull tM_X5_116 tI_X9_isFull tV_X9_isFull tN_X9 rfl rfl tD_X9_isFull ⟨Nat.le_of_ble_eq_true rfl, Nat.le_of_ble_eq_true rfl⟩) rfl rfl (by first | exact Nat.le_of_ble_eq_true rfl | (simp only [List.map, q_catR]; exact Nat.le_of_ble_eq_true rfl)) ⟨Nat.zero_le _, Nat.zero_le _⟩ dX5_matters_17 ?_
    refine q_if_ne X 41 (by decide) dX5_matters_20 (fun g11 => ?_) (fun g11 => ?_)
    · rw [if_neg g11] at h
      refine q_aload_n X 1 rfl dX5_matters_41 ?_
      obtain ⟨a12, ea12, ma12, ka12, h⟩ := q_atE h
      refine q_getR X 7 ea12 ma12 ka12 rfl tW_X5 (by decide) (by decide) tF_X5_34 rfl dX5_matters_42 ?_
      refine q_iload_n X 0 rfl dX5_matters_45 ?_
      obtain ⟨a13, ea13, ma13, ka13, h⟩ := q_atE h
      obtain ⟨g14, h⟩ := q_ifE h
      refine q_iaload X ea13 ma13 ka13 (q_inE g14) dX5_matters_46 ?_
      refine q_bipush X (120) (by decide) dX5_matters_47 ?_
      refine q_aload_n X 1 rfl dX5_matters_49 ?_
      refine q_getR X 2 ea12 ma12 ka12 rfl tW_X5 (by decide) (by decide) tF_X5_12 rfl dX5_matters_50 ?_
      obtain ⟨a15, ea15, ma15, ka15, h⟩ := q_atE h
      obtain ⟨r16, S17, c18, h⟩ := q_bE h
      refine q_cVI X (As := []) ea15 ma15 ka15 rfl (by decide) (c_X3_size c18) (q_cwV X tK_X3_size tM_X5_76 tI_X3_size tV_X3_size tN_X3 rfl rfl tD_X3_size ⟨Nat.le_of_ble_eq_true rfl, Nat.le_of_ble_eq_true rfl⟩) rfl rfl (by first | exact Nat.le_of_ble_eq_true rfl | (simp only [List.map, q_catR]; exact Nat.le_of_ble_eq_true rfl)) ⟨Nat.zero_le _, Nat.zero_le _⟩ dX5_matters_53 ?_
      refine q_isub X dX5_matters_56 ?_
      refine q_icmp_gt X 81 (by decide) dX5_matters_57 (fun g19 => ?_) (fun g19 => ?_)
      · rw [if_pos g19] at h
        refine q_lv [] rfl ?_
        exact w_X5_matters_81 X hr hl _ h
      · rw [if_neg g19] at h
        refine q_aload_n X 1 rfl dX5_matters_60 ?_
        obtain ⟨a20, ea20, ma20, ka20, h⟩ := q_atE h
        refine q_getR X 8 ea20 ma20 ka20 rfl tW_X5 (by decide) (by decide) tF_X5_37 rfl dX5_matters_61 ?_
        refine q_iload_n X 0 rfl dX5_matters_64 ?_
        obtain ⟨a21, ea21, ma21, ka21, h⟩ := q_atE h
        obtain ⟨g22, h⟩ := q_ifE h
        refine q_iaload X ea21 ma21 ka21 (q_inE g22) dX5_matters_65 ?_
        refine q_aload_n X 1 rfl dX5_matters_66 ?_
        refine q_getR X 6 ea20 ma20 ka20 rfl tW_X5 (by decide) (by decide) tF_X5_31 rfl dX5_matters_67 ?_
        refine q_iload_n X 2 rfl dX5_matters_70 ?_
        refine q_iconst X (1) (by decide) dX5_matters_71 ?_
        refine q_isub X dX5_matters_72 ?_
        obtain ⟨a23, ea23, ma23, ka23, h⟩ := q_atE h
        obtain ⟨g24, h⟩ := q_ifE h
        refine q_iaload X ea23 ma23 ka23 (q_inE g24) dX5_matters_73 ?_
        refine q_icmp_eq X 81 (by decide) dX5_matters_74 (fun g25 => ?_) (fun g25 => ?_)
        · rw [if_pos g25] at h
          refine q_lv [] rfl ?_
          exact w_X5_matters_81 X hr hl _ h
        · rw [if_neg g25] at h
          refine q_iconst X (1) (by decide) dX5_matters_77 ?_
          refine q_goto X 82 (by decide) dX5_matters_78 ?_
          refine q_lv [] rfl ?_
          exact w_X5_matters_82 X hr hl _ _ h
    · rw [if_pos g11] at h
      refine q_aload_n X 1 rfl dX5_matters_23 ?_
      obtain ⟨a26, ea26, ma26, ka26, h⟩ := q_atE h
      refine q_getR X 7 ea26 ma26 ka26 rfl tW_X5 (by decide) (by decide) tF_X5_34 rfl dX5_matters_24 ?_
      refine q_iload_n X 0 rfl dX5_matters_27 ?_
      obtain ⟨a27, ea27, ma27, ka27, h⟩ := q_atE h
      obtain ⟨g28, h⟩ := q_ifE h
      refine q_iaload X ea27 ma27 ka27 (q_inE g28) dX5_matters_28 ?_
      refine q_sipush X (2000) (by decide) dX5_matters_29 ?_
      refine q_icmp_ge X 39 (by decide) dX5_matters_32 (fun g29 => ?_) (fun g29 => ?_)
      · rw [if_pos g29] at h
        refine q_iconst X (0) (by decide) dX5_matters_39 ?_
        refine q_lv [] rfl ?_
        exact w_X5_matters_40 X hr hl _ _ h
      · rw [if_neg g29] at h
        refine q_iconst X (1) (by decide) dX5_matters_35 ?_
        refine q_goto X 40 (by decide) dX5_matters_36 ?_
        refine q_lv [] rfl ?_
        exact w_X5_matters_40 X hr hl _ _ h
  · rw [if_neg g5] at h
    refine q_iconst X (0) (by decide) dX5_matters_11 ?_
    obtain ⟨g30, h⟩ := q_ifE h
    obtain ⟨ev, eS⟩ := q_end h
    exact q_iret X hr hl (q_bool g30) ev eS dX5_matters_12
theorem tD_X5_matters : yX5_matters.cls ≠ "java/lang/invoke/MethodHandle" ∧ yX5_matters.cls ≠ "java/lang/invoke/VarHandle" ∧ (parseMethodDescriptor yX5_matters.desc).map (fun d => d.parameters.length) = some 2 := by decide +kernel
theorem c_X5_matters {l : Launch} {D : va_G} {cy : Nat → ClassId} {n : Nat} {S Sv : q_S} {rv : Int32} {o : Nat} {p0 : Int32} {p1 : Int32} (h : m_X5_matters n S o p0 p1 = some (rv, Sv)) : q_MI l yX5_matters (q_ws yX5_matters cX5_matters 4 ((some .boolean))) ({ frames := 2, cells := 0, slots := 0, locals := 44 } : Room) D cy [.ref o, .int (p0), .int (p1)] S rv Sv := by
  exact q_MI_of (by decide +kernel) (Nat.le_of_ble_eq_true rfl) (fun p e s m args below meth c A X hr hl => w_X5_matters X hr hl h)
/-! TrueOutlines.scaled(II)J -/
def m_X11_scaled_11 (n : Nat) (S : q_S) : Option (Int64 × q_S) := some ((-1 : Int64), S)
set_option maxHeartbeats 4000000 in
set_option maxRecDepth 100000 in
theorem w_X11_scaled_11 (X : q_X p s m args c cX11_scaled 4 RX11 q_T D cy A) (hr : meth.sig.returnType = (some .long)) (hl : meth.locks = false)  {n : Nat} {Sv : q_S} {rv : Int64}  (S : q_S) (h : m_X11_scaled_11 n S = some (rv, Sv)) : q_W p l e ({ frames := 3, cells := 0, slots := 0, locals := 64 } : Room) s m args below meth c (MQ below (va_Ql (fun (r : Int64) (u : q_S) => r = rv ∧ u = Sv) (q_B D cy A) A) args s 0 0 A) A D cy 4 0 0 S 11 [] [] := by
  unfold m_X11_scaled_11 at h
  refine q_ldc2_w X (-1) tC_X11_125 dX11_scaled_11 ?_
  obtain ⟨ev, eS⟩ := q_end h
  exact q_lret X hr hl ev eS dX11_scaled_14
def m_X11_scaled (n : Nat) (S : q_S) (o : Nat) (p0 : Int32) (p1 : Int32) : Option (Int64 × q_S) := (if p1 < 0 then m_X11_scaled_11 n (S) else (if p1 ≤ (1000 : Int32) then q_at (S) (some o) 12 (fun a3 => q_at (S) (q_R (S) a3 2) 9 (fun a4 => q_b (m_X8_first n (S) a4 ((1751474532 : Int64))) (fun r5 S6 => q_at (S6) (some r5) 8 (fun a8 => q_b (m_X7_two n (S6) a8 ((18 : Int64))) (fun r9 S10 => (if 0 < r9 then q_b (m_J9_floorDiv_f86c9 n (S10) ((((128 : Int64) * (p0.toInt64)) * (p1.toInt64)) + (r9.toInt64)) ((2 : Int64) * (r9.toInt64))) (fun r13 S14 => some (r13, S14)) else some ((0 : Int64), S10))))))) else m_X11_scaled_11 n (S)))
set_option maxHeartbeats 4000000 in
set_option maxRecDepth 100000 in
theorem w_X11_scaled (X : q_X p s m args c cX11_scaled 4 RX11 q_T D cy A) (hr : meth.sig.returnType = (some .long)) (hl : meth.locks = false)  {n : Nat} {S Sv : q_S} {rv : Int64} {o : Nat} {p0 : Int32} {p1 : Int32} (h : m_X11_scaled n S o p0 p1 = some (rv, Sv)) : q_W p l e ({ frames := 3, cells := 0, slots := 0, locals := 64 } : Room) s m args below meth c (MQ below (va_Ql (fun (r : Int64) (u : q_S) => r = rv ∧ u = Sv) (q_B D cy A) A) args s 0 0 A) A D cy 4 0 0 S 0 [(0, va_rf (some o)), (1, .int (p0)), (2, .int (p1))] [] := by
  unfold m_X11_scaled at h
  refine q_iload_n X 2 rfl dX11_scaled_0 ?_
  refine q_if_lt X 11 (by decide) dX11_scaled_1 (fun g1 => ?_) (fun g1 => ?_)
  · rw [if_pos g1] at h
    refine q_lv [] rfl ?_
    exact w_X11_scaled_11 X hr hl _ h
  · rw [if_neg g1] at h
    refine q_iload_n X 2 rfl dX11_scaled_4 ?_
    refine q_sipush X (1000) (by decide) dX11_scaled_5 ?_
    refine q_icmp_le X 15 (by decide) dX11_scaled_8 (fun g2 => ?_) (fun g2 => ?_)
    · rw [if_pos g2] at h
      refine q_aload_n X 0 rfl dX11_scaled_15 ?_
      obtain ⟨a3, ea3, ma3, ka3, h⟩ := q_atE h
      refine q_getR X 2 ea3 ma3 ka3 rfl tW_X11 (by decide) (by decide) tF_X11_30 rfl dX11_scaled_16 ?_
      refine q_ldc2_w X (1751474532) tC_X11_198 dX11_scaled_19 ?_
      obtain ⟨a4, ea4, ma4, ka4, h⟩ := q_atE h
      obtain ⟨r5, S6, c7, h⟩ := q_bE h
      refine q_cVR X (As := [.long ((1751474532 : Int64))]) ea4 ma4 ka4 rfl (by decide) (c_X8_first c7) (q_cwV X tK_X8_first tM_X11_172 tI_X8_first tV_X8_first tN_X8 rfl rfl tD_X8_first ⟨Nat.le_of_ble_eq_true rfl, Nat.le_of_ble_eq_true rfl⟩) rfl rfl (by first | exact Nat.le_of_ble_eq_true rfl | (simp only [List.map, q_catR]; exact Nat.le_of_ble_eq_true rfl)) ⟨Nat.zero_le _, Nat.zero_le _⟩ dX11_scaled_22 ?_
      refine q_ldc2_w X (18) tC_X11_200 dX11_scaled_25 ?_
      obtain ⟨a8, ea8, ma8, ka8, h⟩ := q_atE h
      obtain ⟨r9, S10, c11, h⟩ := q_bE h
      refine q_cVI X (As := [.long ((18 : Int64))]) ea8 ma8 ka8 rfl (by decide) (c_X7_two c11) (q_cwV X tK_X7_two tM_X11_178 tI_X7_two tV_X7_two tN_X7 rfl rfl tD_X7_two ⟨Nat.le_of_ble_eq_true rfl, Nat.le_of_ble_eq_true rfl⟩) rfl rfl (by first | exact Nat.le_of_ble_eq_true rfl | (simp only [List.map, q_catR]; exact Nat.le_of_ble_eq_true rfl)) ⟨Nat.zero_le _, Nat.zero_le _⟩ dX11_scaled_28 ?_
      refine q_istore_n X 3 [(3, .int (r9)), (0, va_rf (some o)), (1, .int (p0)), (2, .int (p1))] rfl (by decide) (by first | rfl | simp [List.filter, q_catR]) dX11_scaled_31 ?_
      refine q_iload_n X 0 rfl dX11_scaled_32 ?_
      refine q_if_gt X 38 (by decide) dX11_scaled_33 (fun g12 => ?_) (fun g12 => ?_)
      · rw [if_pos g12] at h
        refine q_ldc2_w X (128) tC_X11_202 dX11_scaled_38 ?_
        refine q_iload_n X 2 rfl dX11_scaled_41 ?_
        refine q_i2l X dX11_scaled_42 ?_
        refine q_lmul X dX11_scaled_43 ?_
        refine q_iload_n X 3 rfl dX11_scaled_44 ?_
        refine q_i2l X dX11_scaled_45 ?_
        refine q_lmul X dX11_scaled_46 ?_
        refine q_iload_n X 0 rfl dX11_scaled_47 ?_
        refine q_i2l X dX11_scaled_48 ?_
        refine q_ladd X dX11_scaled_49 ?_
        refine q_ldc2_w X (2) tC_X11_204 dX11_scaled_50 ?_
        refine q_iload_n X 0 rfl dX11_scaled_53 ?_
        refine q_i2l X dX11_scaled_54 ?_
        refine q_lmul X dX11_scaled_55 ?_
        obtain ⟨r13, S14, c15, h⟩ := q_bE h
        refine q_cSJ X (As := [.long ((((128 : Int64) * (p0.toInt64)) * (p1.toInt64)) + (r9.toInt64)), .long ((2 : Int64) * (r9.toInt64))]) (c_J9_floorDiv_f86c9 c15) (q_cwS X tK_J9_floorDiv_f86c9 tM_X11_206 tS_J9_floorDiv_f86c9 tN_J9 rfl rfl tD_J9_floorDiv_f86c9 ⟨Nat.le_of_ble_eq_true rfl, Nat.le_of_ble_eq_true rfl⟩) rfl rfl (by first | exact Nat.le_of_ble_eq_true rfl | (simp only [List.map, q_catR]; exact Nat.le_of_ble_eq_true rfl)) ⟨Nat.zero_le _, Nat.zero_le _⟩ dX11_scaled_56 ?_
        obtain ⟨ev, eS⟩ := q_end h
        exact q_lret X hr hl ev eS dX11_scaled_59
      · rw [if_neg g12] at h
        refine q_lconst X (0) (by decide) dX11_scaled_36 ?_
        obtain ⟨ev, eS⟩ := q_end h
        exact q_lret X hr hl ev eS dX11_scaled_37
    · rw [if_neg g2] at h
      refine q_lv [] rfl ?_
      exact w_X11_scaled_11 X hr hl _ h
theorem tD_X11_scaled : yX11_scaled.cls ≠ "java/lang/invoke/MethodHandle" ∧ yX11_scaled.cls ≠ "java/lang/invoke/VarHandle" ∧ (parseMethodDescriptor yX11_scaled.desc).map (fun d => d.parameters.length) = some 2 := by decide +kernel
theorem c_X11_scaled {l : Launch} {D : va_G} {cy : Nat → ClassId} {n : Nat} {S Sv : q_S} {rv : Int64} {o : Nat} {p0 : Int32} {p1 : Int32} (h : m_X11_scaled n S o p0 p1 = some (rv, Sv)) : q_MJ l yX11_scaled (q_ws yX11_scaled cX11_scaled 4 ((some .long))) ({ frames := 3, cells := 0, slots := 0, locals := 64 } : Room) D cy [.ref o, .int (p0), .int (p1)] S rv Sv := by
  exact q_MJ_of (by decide +kernel) (Nat.le_of_ble_eq_true rfl) (fun p e s m args below meth c A X hr hl => w_X11_scaled X hr hl h)
end MM
