theorem tx_k_110 : Cond.classLink RX11 110 "java/lang/ArrayIndexOutOfBoundsException" ∈ q_T := tL_X11_110
theorem tx_i_110 : Cond.initialized "java/lang/ArrayIndexOutOfBoundsException" ∈ q_T := List.mem_filter.mpr ⟨by decide +kernel, rfl⟩
set_option maxRecDepth 100000 in
theorem tx_a_114 : ∀ w ∈ (vx_atS RX11 114 "java/lang/ArrayIndexOutOfBoundsException" ["java/lang/IndexOutOfBoundsException", "java/lang/RuntimeException", "java/lang/Exception"]).filter goodWord, w ∈ lw_tbl := by decide +kernel
theorem tx_w1_114 : ∀ w ∈ (vx_atS RX11 114 "java/lang/ArrayIndexOutOfBoundsException" ["java/lang/IndexOutOfBoundsException", "java/lang/RuntimeException", "java/lang/Exception"]).filter goodWord, w ∈ q_T := fun w hw => List.mem_filter.mpr ⟨tx_a_114 w hw, (List.mem_filter.mp hw).2⟩
set_option maxRecDepth 100000 in
theorem tx_w2_114 : ∀ w ∈ (vx_atS RX11 114 "java/lang/ArrayIndexOutOfBoundsException" ["java/lang/IndexOutOfBoundsException", "java/lang/RuntimeException", "java/lang/Exception"]).filter (fun w => !goodWord w), w ∈ q_TE := by decide +kernel
set_option maxRecDepth 100000 in
theorem tx_g_114 : ∀ w ∈ Cond.classLink RX11 110 "java/lang/ArrayIndexOutOfBoundsException" :: Cond.initialized "java/lang/ArrayIndexOutOfBoundsException" :: vx_atS RX11 114 "java/lang/ArrayIndexOutOfBoundsException" ["java/lang/IndexOutOfBoundsException", "java/lang/RuntimeException", "java/lang/Exception"], vx_ot w = true := by decide +kernel
theorem tx_k_157 : Cond.classLink RX11 157 "java/lang/IndexOutOfBoundsException" ∈ q_T := tL_X11_157
theorem tx_i_157 : Cond.initialized "java/lang/IndexOutOfBoundsException" ∈ q_T := List.mem_filter.mpr ⟨by decide +kernel, rfl⟩
set_option maxRecDepth 100000 in
theorem tx_a_161 : ∀ w ∈ (vx_atS RX11 161 "java/lang/IndexOutOfBoundsException" ["java/lang/RuntimeException", "java/lang/Exception"]).filter goodWord, w ∈ lw_tbl := by decide +kernel
theorem tx_w1_161 : ∀ w ∈ (vx_atS RX11 161 "java/lang/IndexOutOfBoundsException" ["java/lang/RuntimeException", "java/lang/Exception"]).filter goodWord, w ∈ q_T := fun w hw => List.mem_filter.mpr ⟨tx_a_161 w hw, (List.mem_filter.mp hw).2⟩
set_option maxRecDepth 100000 in
theorem tx_w2_161 : ∀ w ∈ (vx_atS RX11 161 "java/lang/IndexOutOfBoundsException" ["java/lang/RuntimeException", "java/lang/Exception"]).filter (fun w => !goodWord w), w ∈ q_TE := by decide +kernel
set_option maxRecDepth 100000 in
theorem tx_g_161 : ∀ w ∈ Cond.classLink RX11 157 "java/lang/IndexOutOfBoundsException" :: Cond.initialized "java/lang/IndexOutOfBoundsException" :: vx_atS RX11 161 "java/lang/IndexOutOfBoundsException" ["java/lang/RuntimeException", "java/lang/Exception"], vx_ot w = true := by decide +kernel
section MM
variable {p : Program} {l : Launch} {e : Env} {s : State} {m : MethodId} {args : Array Value} {below : List Frame} {meth : Method} {c : Code} {A : Nat → Prop} {D : va_G} {cy : Nat → ClassId}
/-! TrueOutlines.octet(II)I -/
def m_X11_octet (n : Nat) (S : q_S) (o : Nat) (p0 : Int32) (p1 : Int32) : Option (Option Int32 × q_S) := q_at (S) (some o) 12 (fun a1 => q_at (S) (q_R (S) a1 2) 9 (fun a2 => q_b (m_X8_get n (S) a2 (p0)) (fun r3 S4 => q_at (S4) (some r3) 8 (fun a6 => q_b (m_X7_one n (S4) a6 (p1.toInt64)) (fun r7 S8 => (if r7 = (-1 : Int32) then some (none, S8) else some (some (r7), S8)))))))
set_option maxHeartbeats 4000000 in
set_option maxRecDepth 100000 in
theorem w_X11_octet (X : q_X p s m args c cX11_octet 4 RX11 q_T D cy A) (hr : meth.sig.returnType = (some .int)) (hl : meth.locks = false) (hlt : l.stackTraces = false) (ht : ∀ x ∈ c.exceptionTable.toList, False) (hE : q_E A s s.heap)  {n : Nat} {S Sv : q_S} {rv : Option Int32} {o : Nat} {p0 : Int32} {p1 : Int32} (h : m_X11_octet n S o p0 p1 = some (rv, Sv)) : q_W p l e ({ frames := 7, cells := 1, slots := 6, locals := 103 } : Room) s m args below meth c (vx_MQ below (q_QX D cy A rv Sv) (q_XX D cy A "java/lang/ArrayIndexOutOfBoundsException" rv Sv) args s 1 6 A) A D cy 4 0 0 S 0 [(0, va_rf (some o)), (1, .int (p0)), (2, .int (p1))] [] := by
  unfold m_X11_octet at h
  refine q_aload_n X 0 rfl dX11_octet_0 ?_
  obtain ⟨a1, ea1, ma1, ka1, h⟩ := q_atE h
  refine q_getR X 2 ea1 ma1 ka1 rfl tW_X11 (by decide) (by decide) tF_X11_30 rfl dX11_octet_1 ?_
  refine q_iload_n X 1 rfl dX11_octet_4 ?_
  obtain ⟨a2, ea2, ma2, ka2, h⟩ := q_atE h
  obtain ⟨r3, S4, c5, h⟩ := q_bE h
  refine q_cVR X (As := [.int (p0)]) ea2 ma2 ka2 rfl (by decide) (c_X8_get c5) (q_cwV X tK_X8_get tM_X11_100 tI_X8_get tV_X8_get tN_X8 rfl rfl tD_X8_get ⟨Nat.le_of_ble_eq_true rfl, Nat.le_of_ble_eq_true rfl⟩) rfl rfl (by first | exact Nat.le_of_ble_eq_true rfl | (simp only [List.map, q_catR]; exact Nat.le_of_ble_eq_true rfl)) ⟨Nat.zero_le _, Nat.zero_le _⟩ dX11_octet_5 ?_
  refine q_iload_n X 2 rfl dX11_octet_8 ?_
  refine q_i2l X dX11_octet_9 ?_
  obtain ⟨a6, ea6, ma6, ka6, h⟩ := q_atE h
  obtain ⟨r7, S8, c9, h⟩ := q_bE h
  refine q_cVI X (As := [.long (p1.toInt64)]) ea6 ma6 ka6 rfl (by decide) (c_X7_one c9) (q_cwV X tK_X7_one tM_X11_104 tI_X7_one tV_X7_one tN_X7 rfl rfl tD_X7_one ⟨Nat.le_of_ble_eq_true rfl, Nat.le_of_ble_eq_true rfl⟩) rfl rfl (by first | exact Nat.le_of_ble_eq_true rfl | (simp only [List.map, q_catR]; exact Nat.le_of_ble_eq_true rfl)) ⟨Nat.zero_le _, Nat.zero_le _⟩ dX11_octet_10 ?_
  refine q_istore_n X 3 [(3, .int (r7)), (0, va_rf (some o)), (1, .int (p0)), (2, .int (p1))] rfl (by decide) (by first | rfl | simp [List.filter, q_catR]) dX11_octet_13 ?_
  refine q_iload_n X 0 rfl dX11_octet_14 ?_
  refine q_iconst X (-1) (by decide) dX11_octet_15 ?_
  refine q_icmp_ne X 29 (by decide) dX11_octet_16 (fun g10 => ?_) (fun g10 => ?_)
  · rw [if_neg g10] at h
    refine q_iload_n X 0 rfl dX11_octet_29 ?_
    obtain ⟨ev, eS⟩ := q_end h
    exact q_iretX X hr hl rfl ev eS dX11_octet_30
  · rw [if_pos g10] at h
    obtain ⟨ev, eS⟩ := q_end h
    exact q_throwS X hlt ht hE (ik := 110) (is := 112) (ic := 114) (cls := "java/lang/ArrayIndexOutOfBoundsException") (text := "no such byte of a table") ["java/lang/IndexOutOfBoundsException", "java/lang/RuntimeException", "java/lang/Exception"] (by decide +kernel) (by decide +kernel) tx_k_110 tx_i_110 rfl (by decide +kernel) tx_w1_114 tx_w2_114 tx_g_114 dX11_octet_19 dX11_octet_22 dX11_octet_23 dX11_octet_25 dX11_octet_28 (Nat.le_of_ble_eq_true rfl) (by first | exact Nat.le_of_ble_eq_true rfl | (simp only [List.map, q_catR]; exact Nat.le_of_ble_eq_true rfl)) (Nat.le_refl _) (Nat.le_refl _) hl ev.symm eS
theorem tD_X11_octet : yX11_octet.cls ≠ "java/lang/invoke/MethodHandle" ∧ yX11_octet.cls ≠ "java/lang/invoke/VarHandle" ∧ (parseMethodDescriptor yX11_octet.desc).map (fun d => d.parameters.length) = some 2 := by decide +kernel
theorem c_X11_octet {l : Launch} (hlt : l.stackTraces = false) {D : va_G} {cy : Nat → ClassId} {n : Nat} {S Sv : q_S} {rv : Option Int32} {o : Nat} {p0 : Int32} {p1 : Int32} (h : m_X11_octet n S o p0 p1 = some (rv, Sv)) : q_MX l yX11_octet (q_ws yX11_octet cX11_octet 4 ((some .int))) ({ frames := 7, cells := 1, slots := 6, locals := 103 } : Room) D cy "java/lang/ArrayIndexOutOfBoundsException" [.ref o, .int (p0), .int (p1)] S rv Sv := q_MX_of (by decide +kernel) (Nat.le_of_ble_eq_true rfl) (fun p e s m args below meth c A X hr hl ht hE => w_X11_octet X hr hl hlt ht hE h)
/-! TrueOutlines.piece(II)I -/
def m_X11_piece (n : Nat) (S : q_S) (o : Nat) (p0 : Int32) (p1 : Int32) : Option (Option Int32 × q_S) := q_at (S) (some o) 12 (fun a1 => q_at (S) (q_R (S) a1 6) 3 (fun a2 => q_b (m_X2_has n (S) a2 (p0) (p1)) (fun r3 S4 => (if r3 = 0 then some (none, S4) else q_at (S4) (some o) 12 (fun a7 => q_at (S4) (q_R (S4) a7 6) 3 (fun a8 => q_b (m_X2_get n (S4) a8 (p0) (p1)) (fun r9 S10 => some (some (r9), S10))))))))
set_option maxHeartbeats 4000000 in
set_option maxRecDepth 100000 in
theorem w_X11_piece (X : q_X p s m args c cX11_piece 3 RX11 q_T D cy A) (hr : meth.sig.returnType = (some .int)) (hl : meth.locks = false) (hlt : l.stackTraces = false) (ht : ∀ x ∈ c.exceptionTable.toList, False) (hE : q_E A s s.heap)  {n : Nat} {S Sv : q_S} {rv : Option Int32} {o : Nat} {p0 : Int32} {p1 : Int32} (h : m_X11_piece n S o p0 p1 = some (rv, Sv)) : q_W p l e ({ frames := 6, cells := 1, slots := 6, locals := 90 } : Room) s m args below meth c (vx_MQ below (q_QX D cy A rv Sv) (q_XX D cy A "java/lang/IndexOutOfBoundsException" rv Sv) args s 1 6 A) A D cy 3 0 0 S 0 [(0, va_rf (some o)), (1, .int (p0)), (2, .int (p1))] [] := by
  unfold m_X11_piece at h
  refine q_aload_n X 0 rfl dX11_piece_0 ?_
  obtain ⟨a1, ea1, ma1, ka1, h⟩ := q_atE h
  refine q_getR X 6 ea1 ma1 ka1 rfl tW_X11 (by decide) (by decide) tF_X11_64 rfl dX11_piece_1 ?_
  refine q_iload_n X 1 rfl dX11_piece_4 ?_
  refine q_iload_n X 2 rfl dX11_piece_5 ?_
  obtain ⟨a2, ea2, ma2, ka2, h⟩ := q_atE h
  obtain ⟨r3, S4, c5, h⟩ := q_bE h
  refine q_cVI X (As := [.int (p0), .int (p1)]) ea2 ma2 ka2 rfl (by decide) (c_X2_has c5) (q_cwV X tK_X2_has tM_X11_154 tI_X2_has tV_X2_has tN_X2 rfl rfl tD_X2_has ⟨Nat.le_of_ble_eq_true rfl, Nat.le_of_ble_eq_true rfl⟩) rfl rfl (by first | exact Nat.le_of_ble_eq_true rfl | (simp only [List.map, q_catR]; exact Nat.le_of_ble_eq_true rfl)) ⟨Nat.zero_le _, Nat.zero_le _⟩ dX11_piece_6 ?_
  refine q_if_ne X 22 (by decide) dX11_piece_9 (fun g6 => ?_) (fun g6 => ?_)
  · rw [if_neg g6] at h
    refine q_aload_n X 0 rfl dX11_piece_22 ?_
    obtain ⟨a7, ea7, ma7, ka7, h⟩ := q_atE h
    refine q_getR X 6 ea7 ma7 ka7 rfl tW_X11 (by decide) (by decide) tF_X11_64 rfl dX11_piece_23 ?_
    refine q_iload_n X 1 rfl dX11_piece_26 ?_
    refine q_iload_n X 2 rfl dX11_piece_27 ?_
    obtain ⟨a8, ea8, ma8, ka8, h⟩ := q_atE h
    obtain ⟨r9, S10, c11, h⟩ := q_bE h
    refine q_cVI X (As := [.int (p0), .int (p1)]) ea8 ma8 ka8 rfl (by decide) (c_X2_get c11) (q_cwV X tK_X2_get tM_X11_162 tI_X2_get tV_X2_get tN_X2 rfl rfl tD_X2_get ⟨Nat.le_of_ble_eq_true rfl, Nat.le_of_ble_eq_true rfl⟩) rfl rfl (by first | exact Nat.le_of_ble_eq_true rfl | (simp only [List.map, q_catR]; exact Nat.le_of_ble_eq_true rfl)) ⟨Nat.zero_le _, Nat.zero_le _⟩ dX11_piece_28 ?_
    obtain ⟨ev, eS⟩ := q_end h
    exact q_iretX X hr hl rfl ev eS dX11_piece_31
  · rw [if_pos g6] at h
    obtain ⟨ev, eS⟩ := q_end h
    exact q_throwS X hlt ht hE (ik := 157) (is := 159) (ic := 161) (cls := "java/lang/IndexOutOfBoundsException") (text := "no such number of a piece") ["java/lang/RuntimeException", "java/lang/Exception"] (by decide +kernel) (by decide +kernel) tx_k_157 tx_i_157 rfl (by decide +kernel) tx_w1_161 tx_w2_161 tx_g_161 dX11_piece_12 dX11_piece_15 dX11_piece_16 dX11_piece_18 dX11_piece_21 (Nat.le_of_ble_eq_true rfl) (by first | exact Nat.le_of_ble_eq_true rfl | (simp only [List.map, q_catR]; exact Nat.le_of_ble_eq_true rfl)) (Nat.le_refl _) (Nat.le_refl _) hl ev.symm eS
theorem tD_X11_piece : yX11_piece.cls ≠ "java/lang/invoke/MethodHandle" ∧ yX11_piece.cls ≠ "java/lang/invoke/VarHandle" ∧ (parseMethodDescriptor yX11_piece.desc).map (fun d => d.parameters.length) = some 2 := by decide +kernel
theorem c_X11_piece {l : Launch} (hlt : l.stackTraces = false) {D : va_G} {cy : Nat → ClassId} {n : Nat} {S Sv : q_S} {rv : Option Int32} {o : Nat} {p0 : Int32} {p1 : Int32} (h : m_X11_piece n S o p0 p1 = some (rv, Sv)) : q_MX l yX11_piece (q_ws yX11_piece cX11_piece 3 ((some .int))) ({ frames := 6, cells := 1, slots := 6, locals := 90 } : Room) D cy "java/lang/IndexOutOfBoundsException" [.ref o, .int (p0), .int (p1)] S rv Sv := q_MX_of (by decide +kernel) (Nat.le_of_ble_eq_true rfl) (fun p e s m args below meth c A X hr hl ht hE => w_X11_piece X hr hl hlt ht hE h)
/-! TrueOutlines.told(II)I -/
def m_X11_told (n : Nat) (S : q_S) (o : Nat) (p0 : Int32) (p1 : Int32) : Option (Option Int32 × q_S) := (if p0 = (-1 : Int32) then q_at (S) (some o) 12 (fun a13 => q_at (S) (q_R (S) a13 1) 10 (fun a14 => q_b (m_X9_size n (S) a14) (fun r15 S16 => some (some (r15), S16)))) else q_at (S) (some o) 12 (fun a2 => q_at (S) (q_R (S) a2 1) 10 (fun a3 => q_b (m_X9_has n (S) a3 (p0) (p1)) (fun r4 S5 => (if r4 = 0 then some (none, S5) else q_at (S5) (some o) 12 (fun a8 => q_at (S5) (q_R (S5) a8 1) 10 (fun a9 => q_b (m_X9_get n (S5) a9 (p0) (p1)) (fun r10 S11 => some (some (r10), S11)))))))))
set_option maxHeartbeats 4000000 in
set_option maxRecDepth 100000 in
theorem w_X11_told (X : q_X p s m args c cX11_told 3 RX11 q_T D cy A) (hr : meth.sig.returnType = (some .int)) (hl : meth.locks = false) (hlt : l.stackTraces = false) (ht : ∀ x ∈ c.exceptionTable.toList, False) (hE : q_E A s s.heap)  {n : Nat} {S Sv : q_S} {rv : Option Int32} {o : Nat} {p0 : Int32} {p1 : Int32} (h : m_X11_told n S o p0 p1 = some (rv, Sv)) : q_W p l e ({ frames := 6, cells := 1, slots := 6, locals := 90 } : Room) s m args below meth c (vx_MQ below (q_QX D cy A rv Sv) (q_XX D cy A "java/lang/IndexOutOfBoundsException" rv Sv) args s 1 6 A) A D cy 3 0 0 S 0 [(0, va_rf (some o)), (1, .int (p0)), (2, .int (p1))] [] := by
  unfold m_X11_told at h
  refine q_iload_n X 1 rfl dX11_told_0 ?_
  refine q_iconst X (-1) (by decide) dX11_told_1 ?_
  refine q_icmp_ne X 13 (by decide) dX11_told_2 (fun g1 => ?_) (fun g1 => ?_)
  · rw [if_neg g1] at h
    refine q_aload_n X 0 rfl dX11_told_13 ?_
    obtain ⟨a2, ea2, ma2, ka2, h⟩ := q_atE h
    refine q_getR X 1 ea2 ma2 ka2 rfl tW_X11 (by decide) (by decide) tF_X11_21 rfl dX11_told_14 ?_
    refine q_iload_n X 1 rfl dX11_told_17 ?_
    refine q_iload_n X 2 rfl dX11_told_18 ?_
    obtain ⟨a3, ea3, ma3, ka3, h⟩ := q_atE h
    obtain ⟨r4, S5, c6, h⟩ := q_bE h
    refine q_cVI X (As := [.int (p0), .int (p1)]) ea3 ma3 ka3 rfl (by decide) (c_X9_has c6) (q_cwV X tK_X9_has tM_X11_166 tI_X9_has tV_X9_has tN_X9 rfl rfl tD_X9_has ⟨Nat.le_of_ble_eq_true rfl, Nat.le_of_ble_eq_true rfl⟩) rfl rfl (by first | exact Nat.le_of_ble_eq_true rfl | (simp only [List.map, q_catR]; exact Nat.le_of_ble_eq_true rfl)) ⟨Nat.zero_le _, Nat.zero_le _⟩ dX11_told_19 ?_
    refine q_if_ne X 35 (by decide) dX11_told_22 (fun g7 => ?_) (fun g7 => ?_)
    · rw [if_neg g7] at h
      refine q_aload_n X 0 rfl dX11_told_35 ?_
      obtain ⟨a8, ea8, ma8, ka8, h⟩ := q_atE h
      refine q_getR X 1 ea8 ma8 ka8 rfl tW_X11 (by decide) (by decide) tF_X11_21 rfl dX11_told_36 ?_
      refine q_iload_n X 1 rfl dX11_told_39 ?_
      refine q_iload_n X 2 rfl dX11_told_40 ?_
      obtain ⟨a9, ea9, ma9, ka9, h⟩ := q_atE h
      obtain ⟨r10, S11, c12, h⟩ := q_bE h
      refine q_cVI X (As := [.int (p0), .int (p1)]) ea9 ma9 ka9 rfl (by decide) (c_X9_get c12) (q_cwV X tK_X9_get tM_X11_169 tI_X9_get tV_X9_get tN_X9 rfl rfl tD_X9_get ⟨Nat.le_of_ble_eq_true rfl, Nat.le_of_ble_eq_true rfl⟩) rfl rfl (by first | exact Nat.le_of_ble_eq_true rfl | (simp only [List.map, q_catR]; exact Nat.le_of_ble_eq_true rfl)) ⟨Nat.zero_le _, Nat.zero_le _⟩ dX11_told_41 ?_
      obtain ⟨ev, eS⟩ := q_end h
      exact q_iretX X hr hl rfl ev eS dX11_told_44
    · rw [if_pos g7] at h
      obtain ⟨ev, eS⟩ := q_end h
      exact q_throwS X hlt ht hE (ik := 157) (is := 167) (ic := 161) (cls := "java/lang/IndexOutOfBoundsException") (text := "nothing such was told") ["java/lang/RuntimeException", "java/lang/Exception"] (by decide +kernel) (by decide +kernel) tx_k_157 tx_i_157 rfl (by decide +kernel) tx_w1_161 tx_w2_161 tx_g_161 dX11_told_25 dX11_told_28 dX11_told_29 dX11_told_31 dX11_told_34 (Nat.le_of_ble_eq_true rfl) (by first | exact Nat.le_of_ble_eq_true rfl | (simp only [List.map, q_catR]; exact Nat.le_of_ble_eq_true rfl)) (Nat.le_refl _) (Nat.le_refl _) hl ev.symm eS
  · rw [if_pos g1] at h
    refine q_aload_n X 0 rfl dX11_told_5 ?_
    obtain ⟨a13, ea13, ma13, ka13, h⟩ := q_atE h
    refine q_getR X 1 ea13 ma13 ka13 rfl tW_X11 (by decide) (by decide) tF_X11_21 rfl dX11_told_6 ?_
    obtain ⟨a14, ea14, ma14, ka14, h⟩ := q_atE h
    obtain ⟨r15, S16, c17, h⟩ := q_bE h
    refine q_cVI X (As := []) ea14 ma14 ka14 rfl (by decide) (c_X9_size c17) (q_cwV X tK_X9_size tM_X11_165 tI_X9_size tV_X9_size tN_X9 rfl rfl tD_X9_size ⟨Nat.le_of_ble_eq_true rfl, Nat.le_of_ble_eq_true rfl⟩) rfl rfl (by first | exact Nat.le_of_ble_eq_true rfl | (simp only [List.map, q_catR]; exact Nat.le_of_ble_eq_true rfl)) ⟨Nat.zero_le _, Nat.zero_le _⟩ dX11_told_9 ?_
    obtain ⟨ev, eS⟩ := q_end h
    exact q_iretX X hr hl rfl ev eS dX11_told_12
theorem tD_X11_told : yX11_told.cls ≠ "java/lang/invoke/MethodHandle" ∧ yX11_told.cls ≠ "java/lang/invoke/VarHandle" ∧ (parseMethodDescriptor yX11_told.desc).map (fun d => d.parameters.length) = some 2 := by decide +kernel
theorem c_X11_told {l : Launch} (hlt : l.stackTraces = false) {D : va_G} {cy : Nat → ClassId} {n : Nat} {S Sv : q_S} {rv : Option Int32} {o : Nat} {p0 : Int32} {p1 : Int32} (h : m_X11_told n S o p0 p1 = some (rv, Sv)) : q_MX l yX11_told (q_ws yX11_told cX11_told 3 ((some .int))) ({ frames := 6, cells := 1, slots := 6, locals := 90 } : Room) D cy "java/lang/IndexOutOfBoundsException" [.ref o, .int (p0), .int (p1)] S rv Sv := q_MX_of (by decide +kernel) (Nat.le_of_ble_eq_true rfl) (fun p e s m args below meth c A X hr hl ht hE => w_X11_told X hr hl hlt ht hE h)
end MM
