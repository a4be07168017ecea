section MM
variable {p : Program} {l : Launch} {e : Env} {s : State} {m : MethodId} {args : Array Value} {below : List Frame} {meth : Method} {c : Code} {A : Nat → Prop} {D : va_G} {cy : Nat → ClassId}
/-! TrueOutlines$Writer.one(I)I -/
def m_X10_one (n : Nat) (S : q_S) (o : Nat) (p0 : Int32) : Option (Int32 × q_S) := q_at (S) (some o) 11 (fun a1 => q_at (S) (q_R (S) a1 3) 5 (fun a2 => q_b (m_X4_size n (S) a2) (fun r3 S4 => q_at (S4) (q_R (S) a1 3) 5 (fun a6 => q_b (m_X4_one n (S4) a6 (p0.toInt64) (r3.toInt64)) (fun r7 S8 => some (r7, S8))))))
set_option maxHeartbeats 4000000 in
set_option maxRecDepth 100000 in
theorem w_X10_one (X : q_X p s m args c cX10_one 2 RX10 q_T D cy A) (hr : meth.sig.returnType = (some .int)) (hl : meth.locks = false)  {n : Nat} {S Sv : q_S} {rv : Int32} {o : Nat} {p0 : Int32} (h : m_X10_one n S o p0 = some (rv, Sv)) : q_W p l e ({ frames := 1, cells := 0, slots := 0, locals := 24 } : Room) s m args below meth c (MQ below (va_Qi (fun (r : Int32) (u : q_S) => r = rv ∧ u = Sv) (q_B D cy A) A) args s 0 0 A) A D cy 2 0 0 S 0 [(0, va_rf (some o)), (1, .int (p0))] [] := by
  unfold m_X10_one at h
  refine q_aload_n X 0 rfl dX10_one_0 ?_
  obtain ⟨a1, ea1, ma1, ka1, h⟩ := q_atE h
  refine q_getR X 3 ea1 ma1 ka1 rfl tW_X10 (by decide) (by decide) tF_X10_14 rfl dX10_one_1 ?_
  refine q_iload_n X 1 rfl dX10_one_4 ?_
  refine q_i2l X dX10_one_5 ?_
  refine q_aload_n X 0 rfl dX10_one_6 ?_
  refine q_getR X 3 ea1 ma1 ka1 rfl tW_X10 (by decide) (by decide) tF_X10_14 rfl dX10_one_7 ?_
  obtain ⟨a2, ea2, ma2, ka2, h⟩ := q_atE h
  obtain ⟨r3, S4, c5, h⟩ := q_bE h
  refine q_cVI X (As := []) ea2 ma2 ka2 rfl (by decide) (c_X4_size c5) (q_cwV X tK_X4_size tM_X10_50 tI_X4_size tV_X4_size tN_X4 rfl rfl tD_X4_size ⟨Nat.le_of_ble_eq_true rfl, Nat.le_of_ble_eq_true rfl⟩) rfl rfl (by first | exact Nat.le_of_ble_eq_true rfl | (simp only [List.map, q_catR]; exact Nat.le_of_ble_eq_true rfl)) ⟨Nat.zero_le _, Nat.zero_le _⟩ dX10_one_10 ?_
  refine q_i2l X dX10_one_13 ?_
  obtain ⟨a6, ea6, ma6, ka6, h⟩ := q_atE h
  obtain ⟨r7, S8, c9, h⟩ := q_bE h
  refine q_cVI X (As := [.long (p0.toInt64), .long (r3.toInt64)]) ea6 ma6 ka6 rfl (by decide) (c_X4_one c9) (q_cwV X tK_X4_one tM_X10_54 tI_X4_one tV_X4_one tN_X4 rfl rfl tD_X4_one ⟨Nat.le_of_ble_eq_true rfl, Nat.le_of_ble_eq_true rfl⟩) rfl rfl (by first | exact Nat.le_of_ble_eq_true rfl | (simp only [List.map, q_catR]; exact Nat.le_of_ble_eq_true rfl)) ⟨Nat.zero_le _, Nat.zero_le _⟩ dX10_one_14 ?_
  obtain ⟨ev, eS⟩ := q_end h
  exact q_iret X hr hl rfl ev eS dX10_one_17
theorem tD_X10_one : yX10_one.cls ≠ "java/lang/invoke/MethodHandle" ∧ yX10_one.cls ≠ "java/lang/invoke/VarHandle" ∧ (parseMethodDescriptor yX10_one.desc).map (fun d => d.parameters.length) = some 1 := by decide +kernel
theorem c_X10_one {l : Launch} {D : va_G} {cy : Nat → ClassId} {n : Nat} {S Sv : q_S} {rv : Int32} {o : Nat} {p0 : Int32} (h : m_X10_one n S o p0 = some (rv, Sv)) : q_MI l yX10_one (q_ws yX10_one cX10_one 2 ((some .int))) ({ frames := 1, cells := 0, slots := 0, locals := 24 } : Room) D cy [.ref o, .int (p0)] S rv Sv := by
  exact q_MI_of (by decide +kernel) (Nat.le_of_ble_eq_true rfl) (fun p e s m args below meth c A X hr hl => w_X10_one X hr hl h)
/-! TrueOutlines.add(JI)I -/
def m_X11_add_26 (n : Nat) (S : q_S) : Option (Int32 × q_S) := some ((-1 : Int32), S)
set_option maxHeartbeats 4000000 in
set_option maxRecDepth 100000 in
theorem w_X11_add_26 (X : q_X p s m args c cX11_add 5 RX11 q_T D cy A) (hr : meth.sig.returnType = (some .int)) (hl : meth.locks = false)  {n : Nat} {Sv : q_S} {rv : Int32}  (S : q_S) (h : m_X11_add_26 n S = some (rv, Sv)) : q_W p l e ({ frames := 1, cells := 0, slots := 0, locals := 21 } : Room) s m args below meth c (MQ below (va_Qi (fun (r : Int32) (u : q_S) => r = rv ∧ u = Sv) (q_B D cy A) A) args s 0 0 A) A D cy 5 0 0 S 26 [] [] := by
  unfold m_X11_add_26 at h
  refine q_iconst X (-1) (by decide) dX11_add_26 ?_
  obtain ⟨ev, eS⟩ := q_end h
  exact q_iret X hr hl rfl ev eS dX11_add_27
def m_X11_add_31 (n : Nat) : Nat → q_S → Option Nat → Int64 → Int32 → Int32 → Option (Int32 × q_S)
  | 0, _, _, _, _, _ => none
  | k + 1, S, l0, l1, l3, l4 => (if l3 ≤ l4 then q_at (S) (l0) 12 (fun a2 => q_at (S) (q_R (S) a2 0) 5 (fun a3 => q_b (m_X4_size n (S) a3) (fun r4 S5 => some (r4, S5)))) else q_at (S) (l0) 12 (fun a7 => q_at (S) (q_R (S) a7 0) 5 (fun a8 => q_b (m_X4_push n (S) a8 ((l1 >>> ((((8 : Int32) * l4)).toInt64 &&& 63)).toInt32)) (fun _ S9 => m_X11_add_31 n k (S9) (l0) (l1) (l3) (l4 + (1))))))
set_option maxHeartbeats 4000000 in
set_option maxRecDepth 100000 in
theorem w_X11_add_31 (X : q_X p s m args c cX11_add 5 RX11 q_T D cy A) (hr : meth.sig.returnType = (some .int)) (hl : meth.locks = false)  {n : Nat} {Sv : q_S} {rv : Int32}  : ∀ (k : Nat) (S : q_S) (l0 : Option Nat) (l1 : Int64) (l3 : Int32) (l4 : Int32), m_X11_add_31 n k S l0 l1 l3 l4 = some (rv, Sv) → q_W p l e ({ frames := 1, cells := 0, slots := 0, locals := 21 } : Room) s m args below meth c (MQ below (va_Qi (fun (r : Int32) (u : q_S) => r = rv ∧ u = Sv) (q_B D cy A) A) args s 0 0 A) A D cy 5 0 0 S 31 [(0, va_rf (l0)), (1, .long (l1)), (3, .int (l3)), (4, .int (l4))] [] := by
  intro k
  induction k with
  | zero => intro S l0 l1 l3 l4 h; rw [m_X11_add_31] at h; cases h
  | succ k ih =>
    intro S l0 l1 l3 l4 h
    rw [m_X11_add_31] at h
    refine q_iload X 3 rfl dX11_add_31 ?_
    refine q_iload_n X 2 rfl dX11_add_33 ?_
    refine q_icmp_ge X 58 (by decide) dX11_add_34 (fun g1 => ?_) (fun g1 => ?_)
    · rw [if_pos g1] at h
      refine q_aload_n X 0 rfl dX11_add_58 ?_
      obtain ⟨a2, ea2, ma2, ka2, h⟩ := q_atE h
      refine q_getR X 0 ea2 ma2 ka2 rfl tW_X11 (by decide) (by decide) tF_X11_14 rfl dX11_add_59 ?_
      obtain ⟨a3, ea3, ma3, ka3, h⟩ := q_atE h
      obtain ⟨r4, S5, c6, h⟩ := q_bE h
      refine q_cVI X (As := []) ea3 ma3 ka3 rfl (by decide) (c_X4_size c6) (q_cwV X tK_X4_size tM_X11_77 tI_X4_size tV_X4_size tN_X4 rfl rfl tD_X4_size ⟨Nat.le_of_ble_eq_true rfl, Nat.le_of_ble_eq_true rfl⟩) rfl rfl (by first | exact Nat.le_of_ble_eq_true rfl | (simp only [List.map, q_catR]; exact Nat.le_of_ble_eq_true rfl)) ⟨Nat.zero_le _, Nat.zero_le _⟩ dX11_add_62 ?_
      obtain ⟨ev, eS⟩ := q_end h
      exact q_iret X hr hl rfl ev eS dX11_add_65
    · rw [if_neg g1] at h
      refine q_aload_n X 0 rfl dX11_add_37 ?_
      obtain ⟨a7, ea7, ma7, ka7, h⟩ := q_atE h
      refine q_getR X 0 ea7 ma7 ka7 rfl tW_X11 (by decide) (by decide) tF_X11_14 rfl dX11_add_38 ?_
      refine q_lload_n X 1 rfl dX11_add_41 ?_
      refine q_bipush X (8) (by decide) dX11_add_42 ?_
      refine q_iload X 3 rfl dX11_add_44 ?_
      refine q_imul X dX11_add_46 ?_
      refine q_lshr X dX11_add_47 ?_
      refine q_l2i X dX11_add_48 ?_
      obtain ⟨a8, ea8, ma8, ka8, h⟩ := q_atE h
      obtain ⟨u11, S9, c10, h⟩ := q_bE h
      refine q_cVV X (As := [.int ((l1 >>> ((((8 : Int32) * l4)).toInt64 &&& 63)).toInt32)]) ea8 ma8 ka8 rfl (by decide) (c_X4_push c10) (q_cwV X tK_X4_push tM_X11_81 tI_X4_push tV_X4_push tN_X4 rfl rfl tD_X4_push ⟨Nat.le_of_ble_eq_true rfl, Nat.le_of_ble_eq_true rfl⟩) rfl rfl (by first | exact Nat.le_of_ble_eq_true rfl | (simp only [List.map, q_catR]; exact Nat.le_of_ble_eq_true rfl)) ⟨Nat.zero_le _, Nat.zero_le _⟩ dX11_add_49 ?_
      refine q_iinc X 4 3 (l4 + (1)) [(4, .int (l4 + (1))), (0, va_rf (l0)), (1, .long (l1)), (3, .int (l3))] rfl (congrArg (fun z => l4 + z) (show Int32.ofInt (1) = (1) by decide)) (by decide) (by first | rfl | simp [List.filter, q_catR]) dX11_add_52 ?_
      refine q_goto X 31 (by decide) dX11_add_55 ?_
      refine q_lv [1, 2, 3, 0] rfl ?_
      exact ih _ _ _ _ _ h
def m_X11_add (n : Nat) (S : q_S) (o : Nat) (p0 : Int64) (p1 : Int32) : Option (Int32 × q_S) := (if p1 < (1 : Int32) then m_X11_add_26 n (S) else (if (8 : Int32) < p1 then m_X11_add_26 n (S) else q_at (S) (some o) 12 (fun a3 => q_at (S) (q_R (S) a3 0) 5 (fun a4 => q_b (m_X4_size n (S) a4) (fun r5 S6 => (if (r5 + p1) ≤ (1600 : Int32) then m_X11_add_31 n n (S6) (some o) (p0) (p1) ((0 : Int32)) else m_X11_add_26 n (S6)))))))
set_option maxHeartbeats 4000000 in
set_option maxRecDepth 100000 in
theorem w_X11_add (X : q_X p s m args c cX11_add 5 RX11 q_T D cy A) (hr : meth.sig.returnType = (some .int)) (hl : meth.locks = false)  {n : Nat} {S Sv : q_S} {rv : Int32} {o : Nat} {p0 : Int64} {p1 : Int32} (h : m_X11_add n S o p0 p1 = some (rv, Sv)) : q_W p l e ({ frames := 1, cells := 0, slots := 0, locals := 21 } : Room) s m args below meth c (MQ below (va_Qi (fun (r : Int32) (u : q_S) => r = rv ∧ u = Sv) (q_B D cy A) A) args s 0 0 A) A D cy 5 0 0 S 0 [(0, va_rf (some o)), (1, .long (p0)), (3, .int (p1))] [] := by
  unfold m_X11_add at h
  refine q_iload_n X 2 rfl dX11_add_0 ?_
  refine q_iconst X (1) (by decide) dX11_add_1 ?_
  refine q_icmp_lt X 26 (by decide) dX11_add_2 (fun g1 => ?_) (fun g1 => ?_)
  · rw [if_pos g1] at h
    refine q_lv [] rfl ?_
    exact w_X11_add_26 X hr hl _ h
  · rw [if_neg g1] at h
    refine q_iload_n X 2 rfl dX11_add_5 ?_
    refine q_bipush X (8) (by decide) dX11_add_6 ?_
    refine q_icmp_gt X 26 (by decide) dX11_add_8 (fun g2 => ?_) (fun g2 => ?_)
    · rw [if_pos g2] at h
      refine q_lv [] rfl ?_
      exact w_X11_add_26 X hr hl _ h
    · rw [if_neg g2] at h
      refine q_aload_n X 0 rfl dX11_add_11 ?_
      obtain ⟨a3, ea3, ma3, ka3, h⟩ := q_atE h
      refine q_getR X 0 ea3 ma3 ka3 rfl tW_X11 (by decide) (by decide) tF_X11_14 rfl dX11_add_12 ?_
      obtain ⟨a4, ea4, ma4, ka4, h⟩ := q_atE h
      obtain ⟨r5, S6, c7, h⟩ := q_bE h
      refine q_cVI X (As := []) ea4 ma4 ka4 rfl (by decide) (c_X4_size c7) (q_cwV X tK_X4_size tM_X11_77 tI_X4_size tV_X4_size tN_X4 rfl rfl tD_X4_size ⟨Nat.le_of_ble_eq_true rfl, Nat.le_of_ble_eq_true rfl⟩) rfl rfl (by first | exact Nat.le_of_ble_eq_true rfl | (simp only [List.map, q_catR]; exact Nat.le_of_ble_eq_true rfl)) ⟨Nat.zero_le _, Nat.zero_le _⟩ dX11_add_15 ?_
      refine q_iload_n X 2 rfl dX11_add_18 ?_
      refine q_iadd X dX11_add_19 ?_
      refine q_sipush X (1600) (by decide) dX11_add_20 ?_
      refine q_icmp_le X 28 (by decide) dX11_add_23 (fun g8 => ?_) (fun g8 => ?_)
      · rw [if_pos g8] at h
        refine q_iconst X (0) (by decide) dX11_add_28 ?_
        refine q_istore X 4 [(4, .int ((0 : Int32))), (0, va_rf (some o)), (1, .long (p0)), (3, .int (p1))] (by decide) (by first | rfl | simp [List.filter, q_catR]) dX11_add_29 ?_
        refine q_lv [1, 2, 3, 0] rfl ?_
        exact w_X11_add_31 X hr hl n _ _ _ _ _ h
      · rw [if_neg g8] at h
        refine q_lv [] rfl ?_
        exact w_X11_add_26 X hr hl _ h
theorem tD_X11_add : yX11_add.cls ≠ "java/lang/invoke/MethodHandle" ∧ yX11_add.cls ≠ "java/lang/invoke/VarHandle" ∧ (parseMethodDescriptor yX11_add.desc).map (fun d => d.parameters.length) = some 2 := by decide +kernel
theorem c_X11_add {l : Launch} {D : va_G} {cy : Nat → ClassId} {n : Nat} {S Sv : q_S} {rv : Int32} {o : Nat} {p0 : Int64} {p1 : Int32} (h : m_X11_add n S o p0 p1 = some (rv, Sv)) : q_MI l yX11_add (q_ws yX11_add cX11_add 5 ((some .int))) ({ frames := 1, cells := 0, slots := 0, locals := 21 } : Room) D cy [.ref o, .long (p0), .int (p1)] S rv Sv := by
  exact q_MI_of (by decide +kernel) (Nat.le_of_ble_eq_true rfl) (fun p e s m args below meth c A X hr hl => w_X11_add X hr hl h)
/-! TrueOutlines.at(I)I -/
def m_X11_at (n : Nat) (S : q_S) (o : Nat) (p0 : Int32) : Option (Int32 × q_S) := q_at (S) (some o) 12 (fun a1 => q_at (S) (q_R (S) a1 7) 11 (fun a2 => q_b (m_X10_one n (S) a2 (p0)) (fun r3 S4 => some (r3, S4))))
set_option maxHeartbeats 4000000 in
set_option maxRecDepth 100000 in
theorem w_X11_at (X : q_X p s m args c cX11_at 2 RX11 q_T D cy A) (hr : meth.sig.returnType = (some .int)) (hl : meth.locks = false)  {n : Nat} {S Sv : q_S} {rv : Int32} {o : Nat} {p0 : Int32} (h : m_X11_at n S o p0 = some (rv, Sv)) : q_W p l e ({ frames := 2, cells := 0, slots := 0, locals := 45 } : Room) s m args below meth c (MQ below (va_Qi (fun (r : Int32) (u : q_S) => r = rv ∧ u = Sv) (q_B D cy A) A) args s 0 0 A) A D cy 2 0 0 S 0 [(0, va_rf (some o)), (1, .int (p0))] [] := by
  unfold m_X11_at at h
  refine q_aload_n X 0 rfl dX11_at_0 ?_
  obtain ⟨a1, ea1, ma1, ka1, h⟩ := q_atE h
  refine q_getR X 7 ea1 ma1 ka1 rfl tW_X11 (by decide) (by decide) tF_X11_73 rfl dX11_at_1 ?_
  refine q_iload_n X 1 rfl dX11_at_4 ?_
  obtain ⟨a2, ea2, ma2, ka2, h⟩ := q_atE h
  obtain ⟨r3, S4, c5, h⟩ := q_bE h
  refine q_cVI X (As := [.int (p0)]) ea2 ma2 ka2 rfl (by decide) (c_X10_one c5) (q_cwV X tK_X10_one tM_X11_215 tI_X10_one tV_X10_one tN_X10 rfl rfl tD_X10_one ⟨Nat.le_of_ble_eq_true rfl, Nat.le_of_ble_eq_true rfl⟩) rfl rfl (by first | exact Nat.le_of_ble_eq_true rfl | (simp only [List.map, q_catR]; exact Nat.le_of_ble_eq_true rfl)) ⟨Nat.zero_le _, Nat.zero_le _⟩ dX11_at_5 ?_
  obtain ⟨ev, eS⟩ := q_end h
  exact q_iret X hr hl rfl ev eS dX11_at_8
theorem tD_X11_at : yX11_at.cls ≠ "java/lang/invoke/MethodHandle" ∧ yX11_at.cls ≠ "java/lang/invoke/VarHandle" ∧ (parseMethodDescriptor yX11_at.desc).map (fun d => d.parameters.length) = some 1 := by decide +kernel
theorem c_X11_at {l : Launch} {D : va_G} {cy : Nat → ClassId} {n : Nat} {S Sv : q_S} {rv : Int32} {o : Nat} {p0 : Int32} (h : m_X11_at n S o p0 = some (rv, Sv)) : q_MI l yX11_at (q_ws yX11_at cX11_at 2 ((some .int))) ({ frames := 2, cells := 0, slots := 0, locals := 45 } : Room) D cy [.ref o, .int (p0)] S rv Sv := by
  exact q_MI_of (by decide +kernel) (Nat.le_of_ble_eq_true rfl) (fun p e s m args below meth c A X hr hl => w_X11_at X hr hl h)
/-! TrueOutlines$Points.contours()I -/
def m_X3_contours (n : Nat) (S : q_S) (o : Nat)  : Option (Int32 × q_S) := q_at (S) (some o) 4 (fun a1 => some (q_I (S) a1 5, S))
set_option maxHeartbeats 4000000 in
set_option maxRecDepth 100000 in
theorem w_X3_contours (X : q_X p s m args c cX3_contours 1 RX3 q_T D cy A) (hr : meth.sig.returnType = (some .int)) (hl : meth.locks = false)  {n : Nat} {S Sv : q_S} {rv : Int32} {o : Nat}  (h : m_X3_contours n S o = some (rv, Sv)) : q_W p l e ({ frames := 0, cells := 0, slots := 0, locals := 0 } : Room) s m args below meth c (MQ below (va_Qi (fun (r : Int32) (u : q_S) => r = rv ∧ u = Sv) (q_B D cy A) A) args s 0 0 A) A D cy 1 0 0 S 0 [(0, va_rf (some o))] [] := by
  unfold m_X3_contours at h
  refine q_aload_n X 0 rfl dX3_contours_0 ?_
  obtain ⟨a1, ea1, ma1, ka1, h⟩ := q_atE h
  refine q_getI X 5 ea1 ma1 ka1 rfl tW_X3 (by decide) (by decide) tF_X3_28 rfl dX3_contours_1 ?_
  obtain ⟨ev, eS⟩ := q_end h
  exact q_iret X hr hl rfl ev eS dX3_contours_4
theorem tD_X3_contours : yX3_contours.cls ≠ "java/lang/invoke/MethodHandle" ∧ yX3_contours.cls ≠ "java/lang/invoke/VarHandle" ∧ (parseMethodDescriptor yX3_contours.desc).map (fun d => d.parameters.length) = some 0 := by decide +kernel
theorem c_X3_contours {l : Launch} {D : va_G} {cy : Nat → ClassId} {n : Nat} {S Sv : q_S} {rv : Int32} {o : Nat}  (h : m_X3_contours n S o = some (rv, Sv)) : q_MI l yX3_contours (q_ws yX3_contours cX3_contours 1 ((some .int))) ({ frames := 0, cells := 0, slots := 0, locals := 0 } : Room) D cy [.ref o] S rv Sv := by
  exact q_MI_of (by decide +kernel) (Nat.le_of_ble_eq_true rfl) (fun p e s m args below meth c A X hr hl => w_X3_contours X hr hl h)
/-! TrueOutlines$Points.size()I -/
def m_X3_size (n : Nat) (S : q_S) (o : Nat)  : Option (Int32 × q_S) := q_at (S) (some o) 4 (fun a1 => some (q_I (S) a1 4, S))
set_option maxHeartbeats 4000000 in
set_option maxRecDepth 100000 in
theorem w_X3_size (X : q_X p s m args c cX3_size 1 RX3 q_T D cy A) (hr : meth.sig.returnType = (some .int)) (hl : meth.locks = false)  {n : Nat} {S Sv : q_S} {rv : Int32} {o : Nat}  (h : m_X3_size n S o = some (rv, Sv)) : q_W p l e ({ frames := 0, cells := 0, slots := 0, locals := 0 } : Room) s m args below meth c (MQ below (va_Qi (fun (r : Int32) (u : q_S) => r = rv ∧ u = Sv) (q_B D cy A) A) args s 0 0 A) A D cy 1 0 0 S 0 [(0, va_rf (some o))] [] := by
  unfold m_X3_size at h
  refine q_aload_n X 0 rfl dX3_size_0 ?_
  obtain ⟨a1, ea1, ma1, ka1, h⟩ := q_atE h
  refine q_getI X 4 ea1 ma1 ka1 rfl tW_X3 (by decide) (by decide) tF_X3_24 rfl dX3_size_1 ?_
  obtain ⟨ev, eS⟩ := q_end h
  exact q_iret X hr hl rfl ev eS dX3_size_4
theorem tD_X3_size : yX3_size.cls ≠ "java/lang/invoke/MethodHandle" ∧ yX3_size.cls ≠ "java/lang/invoke/VarHandle" ∧ (parseMethodDescriptor yX3_size.desc).map (fun d => d.parameters.length) = some 0 := by decide +kernel
theorem c_X3_size {l : Launch} {D : va_G} {cy : Nat → ClassId} {n : Nat} {S Sv : q_S} {rv : Int32} {o : Nat}  (h : m_X3_size n S o = some (rv, Sv)) : q_MI l yX3_size (q_ws yX3_size cX3_size 1 ((some .int))) ({ frames := 0, cells := 0, slots := 0, locals := 0 } : Room) D cy [.ref o] S rv Sv := by
  exact q_MI_of (by decide +kernel) (Nat.le_of_ble_eq_true rfl) (fun p e s m args below meth c A X hr hl => w_X3_size X hr hl h)
/-! TrueOutlines$Shaper.points()LTrueOutlines$Points; -/
def m_X5_points (n : Nat) (S : q_S) (o : Nat)  : Option (Nat × q_S) := q_at (S) (some o) 6 (fun a1 => q_at (S) (q_R (S) a1 2) 4 (fun a2 => some (a2, S)))
set_option maxHeartbeats 4000000 in
set_option maxRecDepth 100000 in
theorem w_X5_points (X : q_X p s m args c cX5_points 1 RX5 q_T D cy A) (hr : meth.sig.returnType = (Option.some (Jvm.ClassFile.FieldType.object "TrueOutlines$Points"))) (hl : meth.locks = false)  {n : Nat} {S Sv : q_S} {rv : Nat} {o : Nat}  (h : m_X5_points n S o = some (rv, Sv)) : q_W p l e ({ frames := 0, cells := 0, slots := 0, locals := 0 } : Room) s m args below meth c (MQ below (va_Qr (fun (u : q_S) => u = Sv) (fun (u : q_S) (a : Nat) (t : State) => a = rv ∧ q_B D cy A u t) A) args s 0 0 A) A D cy 1 0 0 S 0 [(0, va_rf (some o))] [] := by
  unfold m_X5_points at h
  refine q_aload_n X 0 rfl dX5_points_0 ?_
  obtain ⟨a1, ea1, ma1, ka1, h⟩ := q_atE h
  refine q_getR X 2 ea1 ma1 ka1 rfl tW_X5 (by decide) (by decide) tF_X5_12 rfl dX5_points_1 ?_
  obtain ⟨a2, ea2, ma2, ka2, h⟩ := q_atE h
  obtain ⟨ev, eS⟩ := q_end h
  subst ev
  exact q_aret X hr hl ea2 eS dX5_points_4
theorem tD_X5_points : yX5_points.cls ≠ "java/lang/invoke/MethodHandle" ∧ yX5_points.cls ≠ "java/lang/invoke/VarHandle" ∧ (parseMethodDescriptor yX5_points.desc).map (fun d => d.parameters.length) = some 0 := by decide +kernel
theorem c_X5_points {l : Launch} {D : va_G} {cy : Nat → ClassId} {n : Nat} {S Sv : q_S} {rv : Nat} {o : Nat}  (h : m_X5_points n S o = some (rv, Sv)) : q_MR l yX5_points (q_ws yX5_points cX5_points 1 ((Option.some (Jvm.ClassFile.FieldType.object "TrueOutlines$Points")))) ({ frames := 0, cells := 0, slots := 0, locals := 0 } : Room) D cy [.ref o] S rv Sv := by
  exact q_MR_of (by decide +kernel) (Nat.le_of_ble_eq_true rfl) (fun p e s m args below meth c A X hr hl => w_X5_points X hr hl h)
/-! TrueOutlines$Signs.used()I -/
def m_X6_used (n : Nat) (S : q_S) (o : Nat)  : Option (Int32 × q_S) := q_at (S) (some o) 7 (fun a1 => some (q_I (S) a1 4, S))
set_option maxHeartbeats 4000000 in
set_option maxRecDepth 100000 in
theorem w_X6_used (X : q_X p s m args c cX6_used 1 RX6 q_T D cy A) (hr : meth.sig.returnType = (some .int)) (hl : meth.locks = false)  {n : Nat} {S Sv : q_S} {rv : Int32} {o : Nat}  (h : m_X6_used n S o = some (rv, Sv)) : q_W p l e ({ frames := 0, cells := 0, slots := 0, locals := 0 } : Room) s m args below meth c (MQ below (va_Qi (fun (r : Int32) (u : q_S) => r = rv ∧ u = Sv) (q_B D cy A) A) args s 0 0 A) A D cy 1 0 0 S 0 [(0, va_rf (some o))] [] := by
  unfold m_X6_used at h
  refine q_aload_n X 0 rfl dX6_used_0 ?_
  obtain ⟨a1, ea1, ma1, ka1, h⟩ := q_atE h
  refine q_getI X 4 ea1 ma1 ka1 rfl tW_X6 (by decide) (by decide) tF_X6_86 rfl dX6_used_1 ?_
  obtain ⟨ev, eS⟩ := q_end h
  exact q_iret X hr hl rfl ev eS dX6_used_4
theorem tD_X6_used : yX6_used.cls ≠ "java/lang/invoke/MethodHandle" ∧ yX6_used.cls ≠ "java/lang/invoke/VarHandle" ∧ (parseMethodDescriptor yX6_used.desc).map (fun d => d.parameters.length) = some 0 := by decide +kernel
theorem c_X6_used {l : Launch} {D : va_G} {cy : Nat → ClassId} {n : Nat} {S Sv : q_S} {rv : Int32} {o : Nat}  (h : m_X6_used n S o = some (rv, Sv)) : q_MI l yX6_used (q_ws yX6_used cX6_used 1 ((some .int))) ({ frames := 0, cells := 0, slots := 0, locals := 0 } : Room) D cy [.ref o] S rv Sv := by
  exact q_MI_of (by decide +kernel) (Nat.le_of_ble_eq_true rfl) (fun p e s m args below meth c A X hr hl => w_X6_used X hr hl h)
/-! TrueOutlines.count(I)I -/
def m_X11_count (n : Nat) (S : q_S) (o : Nat) (p0 : Int32) : Option (Int32 × q_S) := (if p0 = 0 then q_at (S) (some o) 12 (fun a2 => q_at (S) (q_R (S) a2 2) 9 (fun a3 => q_b (m_X8_size n (S) a3) (fun r4 S5 => some (r4, S5)))) else (if p0 = 1 then q_at (S) (some o) 12 (fun a7 => q_at (S) (q_R (S) a7 3) 7 (fun a8 => q_b (m_X6_size n (S) a8) (fun r9 S10 => some (r9, S10)))) else (if p0 = 2 then q_at (S) (some o) 12 (fun a12 => q_at (S) (q_R (S) a12 3) 7 (fun a13 => q_b (m_X6_used n (S) a13) (fun r14 S15 => some (r14, S15)))) else (if p0 = 3 then q_at (S) (some o) 12 (fun a17 => q_at (S) (q_R (S) a17 5) 6 (fun a18 => q_b (m_X5_points n (S) a18) (fun r19 S20 => q_at (S20) (some r19) 4 (fun a22 => q_b (m_X3_size n (S20) a22) (fun r23 S24 => some (r23, S24)))))) else (if p0 = 4 then q_at (S) (some o) 12 (fun a26 => q_at (S) (q_R (S) a26 5) 6 (fun a27 => q_b (m_X5_points n (S) a27) (fun r28 S29 => q_at (S29) (some r28) 4 (fun a31 => q_b (m_X3_contours n (S29) a31) (fun r32 S33 => some (r32, S33)))))) else q_if ((p0).toInt < 0 ∨ 4 < (p0).toInt) (some ((-1 : Int32), S)))))))
set_option maxHeartbeats 4000000 in
set_option maxRecDepth 100000 in
theorem w_X11_count (X : q_X p s m args c cX11_count 2 RX11 q_T D cy A) (hr : meth.sig.returnType = (some .int)) (hl : meth.locks = false)  {n : Nat} {S Sv : q_S} {rv : Int32} {o : Nat} {p0 : Int32} (h : m_X11_count n S o p0 = some (rv, Sv)) : q_W p l e ({ frames := 1, cells := 0, slots := 0, locals := 20 } : Room) s m args below meth c (MQ below (va_Qi (fun (r : Int32) (u : q_S) => r = rv ∧ u = Sv) (q_B D cy A) A) args s 0 0 A) A D cy 2 0 0 S 0 [(0, va_rf (some o)), (1, .int (p0))] [] := by
  unfold m_X11_count at h
  refine q_iload_n X 1 rfl dX11_count_0 ?_
  by_cases g1_0 : p0 = 0
  · rw [if_pos g1_0] at h
    refine q_tableIn X 36 (by rw [g1_0]; decide) (by rw [g1_0]; decide) (off := 35) (by rw [g1_0]; decide) (by decide) dX11_count_1 ?_
    refine q_aload_n X 0 rfl dX11_count_36 ?_
    obtain ⟨a2, ea2, ma2, ka2, h⟩ := q_atE h
    refine q_getR X 2 ea2 ma2 ka2 rfl tW_X11 (by decide) (by decide) tF_X11_30 rfl dX11_count_37 ?_
    obtain ⟨a3, ea3, ma3, ka3, h⟩ := q_atE h
    obtain ⟨r4, S5, c6, h⟩ := q_bE h
    refine q_cVI X (As := []) ea3 ma3 ka3 rfl (by decide) (c_X8_size c6) (q_cwV X tK_X8_size tM_X11_127 tI_X8_size tV_X8_size tN_X8 rfl rfl tD_X8_size ⟨Nat.le_of_ble_eq_true rfl, Nat.le_of_ble_eq_true rfl⟩) rfl rfl (by first | exact Nat.le_of_ble_eq_true rfl | (simp only [List.map, q_catR]; exact Nat.le_of_ble_eq_true rfl)) ⟨Nat.zero_le _, Nat.zero_le _⟩ dX11_count_40 ?_
    obtain ⟨ev, eS⟩ := q_end h
    exact q_iret X hr hl rfl ev eS dX11_count_43
  rw [if_neg g1_0] at h
  by_cases g1_1 : p0 = 1
  · rw [if_pos g1_1] at h
    refine q_tableIn X 44 (by rw [g1_1]; decide) (by rw [g1_1]; decide) (off := 43) (by rw [g1_1]; decide) (by decide) dX11_count_1 ?_
    refine q_aload_n X 0 rfl dX11_count_44 ?_
    obtain ⟨a7, ea7, ma7, ka7, h⟩ := q_atE h
    refine q_getR X 3 ea7 ma7 ka7 rfl tW_X11 (by decide) (by decide) tF_X11_39 rfl dX11_count_45 ?_
    obtain ⟨a8, ea8, ma8, ka8, h⟩ := q_atE h
    obtain ⟨r9, S10, c11, h⟩ := q_bE h
    refine q_cVI X (As := []) ea8 ma8 ka8 rfl (by decide) (c_X6_size c11) (q_cwV X tK_X6_size tM_X11_128 tI_X6_size tV_X6_size tN_X6 rfl rfl tD_X6_size ⟨Nat.le_of_ble_eq_true rfl, Nat.le_of_ble_eq_true rfl⟩) rfl rfl (by first | exact Nat.le_of_ble_eq_true rfl | (simp only [List.map, q_catR]; exact Nat.le_of_ble_eq_true rfl)) ⟨Nat.zero_le _, Nat.zero_le _⟩ dX11_count_48 ?_
    obtain ⟨ev, eS⟩ := q_end h
    exact q_iret X hr hl rfl ev eS dX11_count_51
  rw [if_neg g1_1] at h
  by_cases g1_2 : p0 = 2
  · rw [if_pos g1_2] at h
    refine q_tableIn X 52 (by rw [g1_2]; decide) (by rw [g1_2]; decide) (off := 51) (by rw [g1_2]; decide) (by decide) dX11_count_1 ?_
    refine q_aload_n X 0 rfl dX11_count_52 ?_
    obtain ⟨a12, ea12, ma12, ka12, h⟩ := q_atE h
    refine q_getR X 3 ea12 ma12 ka12 rfl tW_X11 (by decide) (by decide) tF_X11_39 rfl dX11_count_53 ?_
    obtain ⟨a13, ea13, ma13, ka13, h⟩ := q_atE h
    obtain ⟨r14, S15, c16, h⟩ := q_bE h
    refine q_cVI X (As := []) ea13 ma13 ka13 rfl (by decide) (c_X6_used c16) (q_cwV X tK_X6_used tM_X11_129 tI_X6_used tV_X6_used tN_X6 rfl rfl tD_X6_used ⟨Nat.le_of_ble_eq_true rfl, Nat.le_of_ble_eq_true rfl⟩) rfl rfl (by first | exact Nat.le_of_ble_eq_true rfl | (simp only [List.map, q_catR]; exact Nat.le_of_ble_eq_true rfl)) ⟨Nat.zero_le _, Nat.zero_le _⟩ dX11_count_56 ?_
    obtain ⟨ev, eS⟩ := q_end h
    exact q_iret X hr hl rfl ev eS dX11_count_59
  rw [if_neg g1_2] at h
  by_cases g1_3 : p0 = 3
  · rw [if_pos g1_3] at h
    refine q_tableIn X 60 (by rw [g1_3]; decide) (by rw [g1_3]; decide) (off := 59) (by rw [g1_3]; decide) (by decide) dX11_count_1 ?_
    refine q_aload_n X 0 rfl dX11_count_60 ?_
    obtain ⟨a17, ea17, ma17, ka17, h⟩ := q_atE h
    refine q_getR X 5 ea17 ma17 ka17 rfl tW_X11 (by decide) (by decide) tF_X11_57 rfl dX11_count_61 ?_
    obtain ⟨a18, ea18, ma18, ka18, h⟩ := q_atE h
    obtain ⟨r19, S20, c21, h⟩ := q_bE h
    refine q_cVR X (As := []) ea18 ma18 ka18 rfl (by decide) (c_X5_points c21) (q_cwV X tK_X5_points tM_X11_132 tI_X5_points tV_X5_points tN_X5 rfl rfl tD_X5_points ⟨Nat.le_of_ble_eq_true rfl, Nat.le_of_ble_eq_true rfl⟩) rfl rfl (by first | exact Nat.le_of_ble_eq_true rfl | (simp only [List.map, q_catR]; exact Nat.le_of_ble_eq_true rfl)) ⟨Nat.zero_le _, Nat.zero_le _⟩ dX11_count_64 ?_
    obtain ⟨a22, ea22, ma22, ka22, h⟩ := q_atE h
    obtain ⟨r23, S24, c25, h⟩ := q_bE h
    refine q_cVI X (As := []) ea22 ma22 ka22 rfl (by decide) (c_X3_size c25) (q_cwV X tK_X3_size tM_X11_136 tI_X3_size tV_X3_size tN_X3 rfl rfl tD_X3_size ⟨Nat.le_of_ble_eq_true rfl, Nat.le_of_ble_eq_true rfl⟩) rfl rfl (by first | exact Nat.le_of_ble_eq_true rfl | (simp only [List.map, q_catR]; exact Nat.le_of_ble_eq_true rfl)) ⟨Nat.zero_le _, Nat.zero_le _⟩ dX11_count_67 ?_
    obtain ⟨ev, eS⟩ := q_end h
    exact q_iret X hr hl rfl ev eS dX11_count_70
  rw [if_neg g1_3] at h
  by_cases g1_4 : p0 = 4
  · rw [if_pos g1_4] at h
    refine q_tableIn X 71 (by rw [g1_4]; decide) (by rw [g1_4]; decide) (off := 70) (by rw [g1_4]; decide) (by decide) dX11_count_1 ?_
    refine q_aload_n X 0 rfl dX11_count_71 ?_
    obtain ⟨a26, ea26, ma26, ka26, h⟩ := q_atE h
    refine q_getR X 5 ea26 ma26 ka26 rfl tW_X11 (by decide) (by decide) tF_X11_57 rfl dX11_count_72 ?_
    obtain ⟨a27, ea27, ma27, ka27, h⟩ := q_atE h
    obtain ⟨r28, S29, c30, h⟩ := q_bE h
    refine q_cVR X (As := []) ea27 ma27 ka27 rfl (by decide) (c_X5_points c30) (q_cwV X tK_X5_points tM_X11_132 tI_X5_points tV_X5_points tN_X5 rfl rfl tD_X5_points ⟨Nat.le_of_ble_eq_true rfl, Nat.le_of_ble_eq_true rfl⟩) rfl rfl (by first | exact Nat.le_of_ble_eq_true rfl | (simp only [List.map, q_catR]; exact Nat.le_of_ble_eq_true rfl)) ⟨Nat.zero_le _, Nat.zero_le _⟩ dX11_count_75 ?_
    obtain ⟨a31, ea31, ma31, ka31, h⟩ := q_atE h
    obtain ⟨r32, S33, c34, h⟩ := q_bE h
    refine q_cVI X (As := []) ea31 ma31 ka31 rfl (by decide) (c_X3_contours c34) (q_cwV X tK_X3_contours tM_X11_139 tI_X3_contours tV_X3_contours tN_X3 rfl rfl tD_X3_contours ⟨Nat.le_of_ble_eq_true rfl, Nat.le_of_ble_eq_true rfl⟩) rfl rfl (by first | exact Nat.le_of_ble_eq_true rfl | (simp only [List.map, q_catR]; exact Nat.le_of_ble_eq_true rfl)) ⟨Nat.zero_le _, Nat.zero_le _⟩ dX11_count_78 ?_
    obtain ⟨ev, eS⟩ := q_end h
    exact q_iret X hr hl rfl ev eS dX11_count_81
  rw [if_neg g1_4] at h
  obtain ⟨g35, h⟩ := q_ifE h
  refine q_tableOut X 82 g35 (by decide) dX11_count_1 ?_
  refine q_iconst X (-1) (by decide) dX11_count_82 ?_
  obtain ⟨ev, eS⟩ := q_end h
  exact q_iret X hr hl rfl ev eS dX11_count_83
theorem tD_X11_count : yX11_count.cls ≠ "java/lang/invoke/MethodHandle" ∧ yX11_count.cls ≠ "java/lang/invoke/VarHandle" ∧ (parseMethodDescriptor yX11_count.desc).map (fun d => d.parameters.length) = some 1 := by decide +kernel
theorem c_X11_count {l : Launch} {D : va_G} {cy : Nat → ClassId} {n : Nat} {S Sv : q_S} {rv : Int32} {o : Nat} {p0 : Int32} (h : m_X11_count n S o p0 = some (rv, Sv)) : q_MI l yX11_count (q_ws yX11_count cX11_count 2 ((some .int))) ({ frames := 1, cells := 0, slots := 0, locals := 20 } : Room) D cy [.ref o, .int (p0)] S rv Sv := by
  exact q_MI_of (by decide +kernel) (Nat.le_of_ble_eq_true rfl) (fun p e s m args below meth c A X hr hl => w_X11_count X hr hl h)
/-! TrueOutlines$Signs.mark(I)V -/
def m_X6_mark_54 (n : Nat) (S : q_S) : Option (Unit × q_S) := some ((), S)
set_option maxHeartbeats 4000000 in
set_option maxRecDepth 100000 in
theorem w_X6_mark_54 (X : q_X p s m args c cX6_mark 2 RX6 q_T D cy A) (hr : meth.sig.returnType = none) (hl : meth.locks = false)  {n : Nat} {Sv : q_S}  (S : q_S) (h : m_X6_mark_54 n S = some ((), Sv)) : q_W p l e ({ frames := 1, cells := 0, slots := 0, locals := 21 } : Room) s m args below meth c (MQ below (va_Qv (fun (u : q_S) => u = Sv) (q_B D cy A) A) args s 0 0 A) A D cy 2 0 0 S 54 [] [] := by
  unfold m_X6_mark_54 at h
  obtain ⟨ev, eS⟩ := q_end h
  exact q_vret X hr hl eS dX6_mark_54
def m_X6_mark (n : Nat) (S : q_S) (o : Nat) (p0 : Int32) : Option (Unit × q_S) := q_at (S) (some o) 7 (fun a1 => q_b (m_X6_has n (S) a1 (p0)) (fun r2 S3 => (if r2 = 0 then m_X6_mark_54 n (S3) else q_at (S3) (some o) 7 (fun a6 => q_at (S3) (q_R (S3) a6 2) 102 (fun a7 => q_if (q_in (p0) (q_N (S3) a7) = true) ((if (q_I (S3) a7 (p0).toNatClampNeg) = 0 then (if (200 : Int32) ≤ (q_I (S3) a6 4) then m_X6_mark_54 n (S3) else q_if (q_in (p0) (q_N (S3) a7) = true) (q_at (q_sI (S3) a7 (p0).toNatClampNeg (vp_nar .boolean ((1 : Int32)))) (q_R (q_sI (S3) a7 (p0).toNatClampNeg (vp_nar .boolean ((1 : Int32)))) a6 3) 100 (fun a12 => q_if (q_in (q_I (q_sI (S3) a7 (p0).toNatClampNeg (vp_nar .boolean ((1 : Int32)))) a6 4) (q_N (q_sI (S3) a7 (p0).toNatClampNeg (vp_nar .boolean ((1 : Int32)))) a12) = true) (q_let (q_sI (q_sI (S3) a7 (p0).toNatClampNeg (vp_nar .boolean ((1 : Int32)))) a12 (q_I (q_sI (S3) a7 (p0).toNatClampNeg (vp_nar .boolean ((1 : Int32)))) a6 4).toNatClampNeg (p0)) (fun S14 => m_X6_mark_54 n (q_sI (S14) a6 4 ((q_I (S14) a6 4) + (1 : Int32)))))))) else m_X6_mark_54 n (S3))))))))
set_option maxHeartbeats 4000000 in
set_option maxRecDepth 100000 in
theorem w_X6_mark (X : q_X p s m args c cX6_mark 2 RX6 q_T D cy A) (hr : meth.sig.returnType = none) (hl : meth.locks = false)  {n : Nat} {S Sv : q_S} {o : Nat} {p0 : Int32} (h : m_X6_mark n S o p0 = some ((), Sv)) : q_W p l e ({ frames := 1, cells := 0, slots := 0, locals := 21 } : Room) s m args below meth c (MQ below (va_Qv (fun (u : q_S) => u = Sv) (q_B D cy A) A) args s 0 0 A) A D cy 2 0 0 S 0 [(0, va_rf (some o)), (1, .int (p0))] [] := by
  unfold m_X6_mark at h
  refine q_aload_n X 0 rfl dX6_mark_0 ?_
  refine q_iload_n X 1 rfl dX6_mark_1 ?_
  obtain ⟨a1, ea1, ma1, ka1, h⟩ := q_atE h
  obtain ⟨r2, S3, c4, h⟩ := q_bE h
  refine q_cVI X (As := [.int (p0)]) ea1 ma1 ka1 rfl (by decide) (c_X6_has c4) (q_cwV X tK_X6_has tM_X6_115 tI_X6_has tV_X6_has tN_X6 rfl rfl tD_X6_has ⟨Nat.le_of_ble_eq_true rfl, Nat.le_of_ble_eq_true rfl⟩) rfl rfl (by first | exact Nat.le_of_ble_eq_true rfl | (simp only [List.map, q_catR]; exact Nat.le_of_ble_eq_true rfl)) ⟨Nat.zero_le _, Nat.zero_le _⟩ dX6_mark_2 ?_
  refine q_if_eq X 54 (by decide) dX6_mark_5 (fun g5 => ?_) (fun g5 => ?_)
  · rw [if_pos g5] at h
    refine q_lv [] rfl ?_
    exact w_X6_mark_54 X hr hl _ h
  · rw [if_neg g5] at h
    refine q_aload_n X 0 rfl dX6_mark_8 ?_
    obtain ⟨a6, ea6, ma6, ka6, h⟩ := q_atE h
    refine q_getR X 2 ea6 ma6 ka6 rfl tW_X6 (by decide) (by decide) tF_X6_9 rfl dX6_mark_9 ?_
    refine q_iload_n X 1 rfl dX6_mark_12 ?_
    obtain ⟨a7, ea7, ma7, ka7, h⟩ := q_atE h
    obtain ⟨g8, h⟩ := q_ifE h
    refine q_zaload X ea7 ma7 ka7 (q_inE g8) dX6_mark_13 ?_
    refine q_if_ne X 54 (by decide) dX6_mark_14 (fun g9 => ?_) (fun g9 => ?_)
    · rw [if_neg g9] at h
      refine q_lv [] rfl ?_
      exact w_X6_mark_54 X hr hl _ h
    · rw [if_pos g9] at h
      refine q_aload_n X 0 rfl dX6_mark_17 ?_
      refine q_getI X 4 ea6 ma6 ka6 rfl tW_X6 (by decide) (by decide) tF_X6_86 rfl dX6_mark_18 ?_
      refine q_sipush X (200) (by decide) dX6_mark_21 ?_
      refine q_icmp_ge X 54 (by decide) dX6_mark_24 (fun g10 => ?_) (fun g10 => ?_)
      · rw [if_pos g10] at h
        refine q_lv [] rfl ?_
        exact w_X6_mark_54 X hr hl _ h
      · rw [if_neg g10] at h
        refine q_aload_n X 0 rfl dX6_mark_27 ?_
        refine q_getR X 2 ea6 ma6 ka6 rfl tW_X6 (by decide) (by decide) tF_X6_9 rfl dX6_mark_28 ?_
        refine q_iload_n X 1 rfl dX6_mark_31 ?_
        refine q_iconst X (1) (by decide) dX6_mark_32 ?_
        obtain ⟨g11, h⟩ := q_ifE h
        refine q_zastore X ea7 ma7 ka7 (q_inE g11) dX6_mark_33 ?_
        have ma6 : a6 ∈ q_L (q_sI (S3) a7 (p0).toNatClampNeg (vp_nar .boolean ((1 : Int32)))) := q_LsI ma6
        have ka6 : q_K (q_sI (S3) a7 (p0).toNatClampNeg (vp_nar .boolean ((1 : Int32)))) a6 = 7 := q_KsI ka6
        have ma7 : a7 ∈ q_L (q_sI (S3) a7 (p0).toNatClampNeg (vp_nar .boolean ((1 : Int32)))) := q_LsI ma7
        have ka7 : q_K (q_sI (S3) a7 (p0).toNatClampNeg (vp_nar .boolean ((1 : Int32)))) a7 = 102 := q_KsI ka7
        refine q_aload_n X 0 rfl dX6_mark_34 ?_
        refine q_getR X 3 ea6 ma6 ka6 rfl tW_X6 (by decide) (by decide) tF_X6_15 rfl dX6_mark_35 ?_
        refine q_aload_n X 0 rfl dX6_mark_38 ?_
        refine q_getI X 4 ea6 ma6 ka6 rfl tW_X6 (by decide) (by decide) tF_X6_86 rfl dX6_mark_39 ?_
        refine q_iload_n X 1 rfl dX6_mark_42 ?_
        obtain ⟨a12, ea12, ma12, ka12, h⟩ := q_atE h
        obtain ⟨g13, h⟩ := q_ifE h
        refine q_iastore X ea12 ma12 ka12 (q_inE g13) dX6_mark_43 ?_
        have ma6 : a6 ∈ q_L (q_sI (q_sI (S3) a7 (p0).toNatClampNeg (vp_nar .boolean ((1 : Int32)))) a12 (q_I (q_sI (S3) a7 (p0).toNatClampNeg (vp_nar .boolean ((1 : Int32)))) a6 4).toNatClampNeg (p0)) := q_LsI ma6
        have ka6 : q_K (q_sI (q_sI (S3) a7 (p0).toNatClampNeg (vp_nar .boolean ((1 : Int32)))) a12 (q_I (q_sI (S3) a7 (p0).toNatClampNeg (vp_nar .boolean ((1 : Int32)))) a6 4).toNatClampNeg (p0)) a6 = 7 := q_KsI ka6
        have ma7 : a7 ∈ q_L (q_sI (q_sI (S3) a7 (p0).toNatClampNeg (vp_nar .boolean ((1 : Int32)))) a12 (q_I (q_sI (S3) a7 (p0).toNatClampNeg (vp_nar .boolean ((1 : Int32)))) a6 4).toNatClampNeg (p0)) := q_LsI ma7
        have ka7 : q_K (q_sI (q_sI (S3) a7 (p0).toNatClampNeg (vp_nar .boolean ((1 : Int32)))) a12 (q_I (q_sI (S3) a7 (p0).toNatClampNeg (vp_nar .boolean ((1 : Int32)))) a6 4).toNatClampNeg (p0)) a7 = 102 := q_KsI ka7
        have ma12 : a12 ∈ q_L (q_sI (q_sI (S3) a7 (p0).toNatClampNeg (vp_nar .boolean ((1 : Int32)))) a12 (q_I (q_sI (S3) a7 (p0).toNatClampNeg (vp_nar .boolean ((1 : Int32)))) a6 4).toNatClampNeg (p0)) := q_LsI ma12
        have ka12 : q_K (q_sI (q_sI (S3) a7 (p0).toNatClampNeg (vp_nar .boolean ((1 : Int32)))) a12 (q_I (q_sI (S3) a7 (p0).toNatClampNeg (vp_nar .boolean ((1 : Int32)))) a6 4).toNatClampNeg (p0)) a12 = 100 := q_KsI ka12
        obtain ⟨S14, eS14, h⟩ := q_letE h
        refine q_sub eS14 ?_
        have ma6 : a6 ∈ q_L S14 := by rw [eS14]; exact ma6
        have ka6 : q_K S14 a6 = 7 := by rw [eS14]; exact ka6
        have ma7 : a7 ∈ q_L S14 := by rw [eS14]; exact ma7
        have ka7 : q_K S14 a7 = 102 := by rw [eS14]; exact ka7
        have ma12 : a12 ∈ q_L S14 := by rw [eS14]; exact ma12
        have ka12 : q_K S14 a12 = 100 := by rw [eS14]; exact ka12
        refine q_aload_n X 0 rfl dX6_mark_44 ?_
        refine q_dup X (q_catR _) dX6_mark_45 ?_
        refine q_getI X 4 ea6 ma6 ka6 rfl tW_X6 (by decide) (by decide) tF_X6_86 rfl dX6_mark_46 ?_
        refine q_iconst X (1) (by decide) dX6_mark_49 ?_
        refine q_iadd X dX6_mark_50 ?_
        refine q_putI X 4 ea6 ma6 ka6 rfl tW_X6 (by decide) (by decide) tF_X6_86 tyX6 tyX6_ok nmX6 rfl (tyX6_ok 4 (by decide)) rfl rfl rfl dX6_mark_51 ?_
        have ma6 : a6 ∈ q_L (q_sI (S14) a6 4 ((q_I (S14) a6 4) + (1 : Int32))) := q_LsI ma6
        have ka6 : q_K (q_sI (S14) a6 4 ((q_I (S14) a6 4) + (1 : Int32))) a6 = 7 := q_KsI ka6
        have ma7 : a7 ∈ q_L (q_sI (S14) a6 4 ((q_I (S14) a6 4) + (1 : Int32))) := q_LsI ma7
        have ka7 : q_K (q_sI (S14) a6 4 ((q_I (S14) a6 4) + (1 : Int32))) a7 = 102 := q_KsI ka7
        have ma12 : a12 ∈ q_L (q_sI (S14) a6 4 ((q_I (S14) a6 4) + (1 : Int32))) := q_LsI ma12
        have ka12 : q_K (q_sI (S14) a6 4 ((q_I (S14) a6 4) + (1 : Int32))) a12 = 100 := q_KsI ka12
        refine q_lv [] rfl ?_
        exact w_X6_mark_54 X hr hl _ h
theorem tD_X6_mark : yX6_mark.cls ≠ "java/lang/invoke/MethodHandle" ∧ yX6_mark.cls ≠ "java/lang/invoke/VarHandle" ∧ (parseMethodDescriptor yX6_mark.desc).map (fun d => d.parameters.length) = some 1 := by decide +kernel
theorem c_X6_mark {l : Launch} {D : va_G} {cy : Nat → ClassId} {n : Nat} {S Sv : q_S} {o : Nat} {p0 : Int32} (h : m_X6_mark n S o p0 = some ((), Sv)) : q_MV l yX6_mark (q_ws yX6_mark cX6_mark 2 (none)) ({ frames := 1, cells := 0, slots := 0, locals := 21 } : Room) D cy [.ref o, .int (p0)] S Sv := by
  exact q_MV_of (by decide +kernel) (Nat.le_of_ble_eq_true rfl) (fun p e s m args below meth c A X hr hl => w_X6_mark X hr hl h)
/-! TrueOutlines$Data.hasMore()Z -/
def m_X1_hasMore_15 (n : Nat) (S : q_S) (s0 : Int32) : Option (Int32 × q_S) := q_if (s0 = 0 ∨ s0 = 1) (some (s0, S))
set_option maxHeartbeats 4000000 in
set_option maxRecDepth 100000 in
theorem w_X1_hasMore_15 (X : q_X p s m args c cX1_hasMore 1 RX1 q_T D cy A) (hr : meth.sig.returnType = (some .boolean)) (hl : meth.locks = false)  {n : Nat} {Sv : q_S} {rv : Int32}  (S : q_S) (s0 : Int32) (h : m_X1_hasMore_15 n S s0 = some (rv, Sv)) : q_W p l e ({ frames := 0, cells := 0, slots := 0, locals := 0 } : Room) s m args below meth c (MQ below (va_Qi (fun (r : Int32) (u : q_S) => r = rv ∧ u = Sv) (q_B D cy A) A) args s 0 0 A) A D cy 1 0 0 S 15 [] [.int (s0)] := by
  unfold m_X1_hasMore_15 at h
  obtain ⟨g1, h⟩ := q_ifE h
  obtain ⟨ev, eS⟩ := q_end h
  exact q_iret X hr hl (q_bool g1) ev eS dX1_hasMore_15
def m_X1_hasMore (n : Nat) (S : q_S) (o : Nat)  : Option (Int32 × q_S) := q_at (S) (some o) 2 (fun a1 => (if ((q_I (S) a1 6) &&& (32 : Int32)) = 0 then m_X1_hasMore_15 n (S) ((0 : Int32)) else m_X1_hasMore_15 n (S) ((1 : Int32))))
set_option maxHeartbeats 4000000 in
set_option maxRecDepth 100000 in
theorem w_X1_hasMore (X : q_X p s m args c cX1_hasMore 1 RX1 q_T D cy A) (hr : meth.sig.returnType = (some .boolean)) (hl : meth.locks = false)  {n : Nat} {S Sv : q_S} {rv : Int32} {o : Nat}  (h : m_X1_hasMore n S o = some (rv, Sv)) : q_W p l e ({ frames := 0, cells := 0, slots := 0, locals := 0 } : Room) s m args below meth c (MQ below (va_Qi (fun (r : Int32) (u : q_S) => r = rv ∧ u = Sv) (q_B D cy A) A) args s 0 0 A) A D cy 1 0 0 S 0 [(0, va_rf (some o))] [] := by
  unfold m_X1_hasMore at h
  refine q_aload_n X 0 rfl dX1_hasMore_0 ?_
  obtain ⟨a1, ea1, ma1, ka1, h⟩ := q_atE h
  refine q_getI X 6 ea1 ma1 ka1 rfl tW_X1 (by decide) (by decide) tF_X1_60 rfl dX1_hasMore_1 ?_
  refine q_bipush X (32) (by decide) dX1_hasMore_4 ?_
  refine q_iand X dX1_hasMore_6 ?_
  refine q_if_eq X 14 (by decide) dX1_hasMore_7 (fun g2 => ?_) (fun g2 => ?_)
  · rw [if_pos g2] at h
    refine q_iconst X (0) (by decide) dX1_hasMore_14 ?_
    refine q_lv [] rfl ?_
    exact w_X1_hasMore_15 X hr hl _ _ h
  · rw [if_neg g2] at h
    refine q_iconst X (1) (by decide) dX1_hasMore_10 ?_
    refine q_goto X 15 (by decide) dX1_hasMore_11 ?_
    refine q_lv [] rfl ?_
    exact w_X1_hasMore_15 X hr hl _ _ h
theorem tD_X1_hasMore : yX1_hasMore.cls ≠ "java/lang/invoke/MethodHandle" ∧ yX1_hasMore.cls ≠ "java/lang/invoke/VarHandle" ∧ (parseMethodDescriptor yX1_hasMore.desc).map (fun d => d.parameters.length) = some 0 := by decide +kernel
theorem c_X1_hasMore {l : Launch} {D : va_G} {cy : Nat → ClassId} {n : Nat} {S Sv : q_S} {rv : Int32} {o : Nat}  (h : m_X1_hasMore n S o = some (rv, Sv)) : q_MI l yX1_hasMore (q_ws yX1_hasMore cX1_hasMore 1 ((some .boolean))) ({ frames := 0, cells := 0, slots := 0, locals := 0 } : Room) D cy [.ref o] S rv Sv := by
  exact q_MI_of (by decide +kernel) (Nat.le_of_ble_eq_true rfl) (fun p e s m args below meth c A X hr hl => w_X1_hasMore X hr hl h)
/-! TrueOutlines$Data.hasParts()Z -/
def m_X1_hasParts_12 (n : Nat) (S : q_S) (s0 : Int32) : Option (Int32 × q_S) := q_if (s0 = 0 ∨ s0 = 1) (some (s0, S))
set_option maxHeartbeats 4000000 in
set_option maxRecDepth 100000 in
theorem w_X1_hasParts_12 (X : q_X p s m args c cX1_hasParts 1 RX1 q_T D cy A) (hr : meth.sig.returnType = (some .boolean)) (hl : meth.locks = false)  {n : Nat} {Sv : q_S} {rv : Int32}  (S : q_S) (s0 : Int32) (h : m_X1_hasParts_12 n S s0 = some (rv, Sv)) : q_W p l e ({ frames := 0, cells := 0, slots := 0, locals := 0 } : Room) s m args below meth c (MQ below (va_Qi (fun (r : Int32) (u : q_S) => r = rv ∧ u = Sv) (q_B D cy A) A) args s 0 0 A) A D cy 1 0 0 S 12 [] [.int (s0)] := by
  unfold m_X1_hasParts_12 at h
  obtain ⟨g1, h⟩ := q_ifE h
  obtain ⟨ev, eS⟩ := q_end h
  exact q_iret X hr hl (q_bool g1) ev eS dX1_hasParts_12
def m_X1_hasParts (n : Nat) (S : q_S) (o : Nat)  : Option (Int32 × q_S) := q_at (S) (some o) 2 (fun a1 => (if 0 ≤ (q_I (S) a1 5) then m_X1_hasParts_12 n (S) ((0 : Int32)) else m_X1_hasParts_12 n (S) ((1 : Int32))))
set_option maxHeartbeats 4000000 in
set_option maxRecDepth 100000 in
theorem w_X1_hasParts (X : q_X p s m args c cX1_hasParts 1 RX1 q_T D cy A) (hr : meth.sig.returnType = (some .boolean)) (hl : meth.locks = false)  {n : Nat} {S Sv : q_S} {rv : Int32} {o : Nat}  (h : m_X1_hasParts n S o = some (rv, Sv)) : q_W p l e ({ frames := 0, cells := 0, slots := 0, locals := 0 } : Room) s m args below meth c (MQ below (va_Qi (fun (r : Int32) (u : q_S) => r = rv ∧ u = Sv) (q_B D cy A) A) args s 0 0 A) A D cy 1 0 0 S 0 [(0, va_rf (some o))] [] := by
  unfold m_X1_hasParts at h
  refine q_aload_n X 0 rfl dX1_hasParts_0 ?_
  obtain ⟨a1, ea1, ma1, ka1, h⟩ := q_atE h
  refine q_getI X 5 ea1 ma1 ka1 rfl tW_X1 (by decide) (by decide) tF_X1_33 rfl dX1_hasParts_1 ?_
  refine q_if_ge X 11 (by decide) dX1_hasParts_4 (fun g2 => ?_) (fun g2 => ?_)
  · rw [if_pos g2] at h
    refine q_iconst X (0) (by decide) dX1_hasParts_11 ?_
    refine q_lv [] rfl ?_
    exact w_X1_hasParts_12 X hr hl _ _ h
  · rw [if_neg g2] at h
    refine q_iconst X (1) (by decide) dX1_hasParts_7 ?_
    refine q_goto X 12 (by decide) dX1_hasParts_8 ?_
    refine q_lv [] rfl ?_
    exact w_X1_hasParts_12 X hr hl _ _ h
theorem tD_X1_hasParts : yX1_hasParts.cls ≠ "java/lang/invoke/MethodHandle" ∧ yX1_hasParts.cls ≠ "java/lang/invoke/VarHandle" ∧ (parseMethodDescriptor yX1_hasParts.desc).map (fun d => d.parameters.length) = some 0 := by decide +kernel
theorem c_X1_hasParts {l : Launch} {D : va_G} {cy : Nat → ClassId} {n : Nat} {S Sv : q_S} {rv : Int32} {o : Nat}  (h : m_X1_hasParts n S o = some (rv, Sv)) : q_MI l yX1_hasParts (q_ws yX1_hasParts cX1_hasParts 1 ((some .boolean))) ({ frames := 0, cells := 0, slots := 0, locals := 0 } : Room) D cy [.ref o] S rv Sv := by
  exact q_MI_of (by decide +kernel) (Nat.le_of_ble_eq_true rfl) (fun p e s m args below meth c A X hr hl => w_X1_hasParts X hr hl h)
/-! TrueOutlines$Data.isEmpty()Z -/
def m_X1_isEmpty (n : Nat) (S : q_S) (o : Nat)  : Option (Int32 × q_S) := q_at (S) (some o) 2 (fun a1 => q_if ((q_I (S) a1 1) = 0 ∨ (q_I (S) a1 1) = 1) (some (q_I (S) a1 1, S)))
set_option maxHeartbeats 4000000 in
set_option maxRecDepth 100000 in
theorem w_X1_isEmpty (X : q_X p s m args c cX1_isEmpty 1 RX1 q_T D cy A) (hr : meth.sig.returnType = (some .boolean)) (hl : meth.locks = false)  {n : Nat} {S Sv : q_S} {rv : Int32} {o : Nat}  (h : m_X1_isEmpty n S o = some (rv, Sv)) : q_W p l e ({ frames := 0, cells := 0, slots := 0, locals := 0 } : Room) s m args below meth c (MQ below (va_Qi (fun (r : Int32) (u : q_S) => r = rv ∧ u = Sv) (q_B D cy A) A) args s 0 0 A) A D cy 1 0 0 S 0 [(0, va_rf (some o))] [] := by
  unfold m_X1_isEmpty at h
  refine q_aload_n X 0 rfl dX1_isEmpty_0 ?_
  obtain ⟨a1, ea1, ma1, ka1, h⟩ := q_atE h
  refine q_getI X 1 ea1 ma1 ka1 rfl tW_X1 (by decide) (by decide) tF_X1_15 rfl dX1_isEmpty_1 ?_
  obtain ⟨g2, h⟩ := q_ifE h
  obtain ⟨ev, eS⟩ := q_end h
  exact q_iret X hr hl (q_bool g2) ev eS dX1_isEmpty_4
theorem tD_X1_isEmpty : yX1_isEmpty.cls ≠ "java/lang/invoke/MethodHandle" ∧ yX1_isEmpty.cls ≠ "java/lang/invoke/VarHandle" ∧ (parseMethodDescriptor yX1_isEmpty.desc).map (fun d => d.parameters.length) = some 0 := by decide +kernel
theorem c_X1_isEmpty {l : Launch} {D : va_G} {cy : Nat → ClassId} {n : Nat} {S Sv : q_S} {rv : Int32} {o : Nat}  (h : m_X1_isEmpty n S o = some (rv, Sv)) : q_MI l yX1_isEmpty (q_ws yX1_isEmpty cX1_isEmpty 1 ((some .boolean))) ({ frames := 0, cells := 0, slots := 0, locals := 0 } : Room) D cy [.ref o] S rv Sv := by
  exact q_MI_of (by decide +kernel) (Nat.le_of_ble_eq_true rfl) (fun p e s m args below meth c A X hr hl => w_X1_isEmpty X hr hl h)
/-! TrueOutlines$Data.isMoved()Z -/
def m_X1_isMoved_14 (n : Nat) (S : q_S) (s0 : Int32) : Option (Int32 × q_S) := q_if (s0 = 0 ∨ s0 = 1) (some (s0, S))
set_option maxHeartbeats 4000000 in
set_option maxRecDepth 100000 in
theorem w_X1_isMoved_14 (X : q_X p s m args c cX1_isMoved 1 RX1 q_T D cy A) (hr : meth.sig.returnType = (some .boolean)) (hl : meth.locks = false)  {n : Nat} {Sv : q_S} {rv : Int32}  (S : q_S) (s0 : Int32) (h : m_X1_isMoved_14 n S s0 = some (rv, Sv)) : q_W p l e ({ frames := 0, cells := 0, slots := 0, locals := 0 } : Room) s m args below meth c (MQ below (va_Qi (fun (r : Int32) (u : q_S) => r = rv ∧ u = Sv) (q_B D cy A) A) args s 0 0 A) A D cy 1 0 0 S 14 [] [.int (s0)] := by
  unfold m_X1_isMoved_14 at h
  obtain ⟨g1, h⟩ := q_ifE h
  obtain ⟨ev, eS⟩ := q_end h
  exact q_iret X hr hl (q_bool g1) ev eS dX1_isMoved_14
def m_X1_isMoved (n : Nat) (S : q_S) (o : Nat)  : Option (Int32 × q_S) := q_at (S) (some o) 2 (fun a1 => (if ((q_I (S) a1 6) &&& (2 : Int32)) = 0 then m_X1_isMoved_14 n (S) ((0 : Int32)) else m_X1_isMoved_14 n (S) ((1 : Int32))))
set_option maxHeartbeats 4000000 in
set_option maxRecDepth 100000 in
theorem w_X1_isMoved (X : q_X p s m args c cX1_isMoved 1 RX1 q_T D cy A) (hr : meth.sig.returnType = (some .boolean)) (hl : meth.locks = false)  {n : Nat} {S Sv : q_S} {rv : Int32} {o : Nat}  (h : m_X1_isMoved n S o = some (rv, Sv)) : q_W p l e ({ frames := 0, cells := 0, slots := 0, locals := 0 } : Room) s m args below meth c (MQ below (va_Qi (fun (r : Int32) (u : q_S) => r = rv ∧ u = Sv) (q_B D cy A) A) args s 0 0 A) A D cy 1 0 0 S 0 [(0, va_rf (some o))] [] := by
  unfold m_X1_isMoved at h
  refine q_aload_n X 0 rfl dX1_isMoved_0 ?_
  obtain ⟨a1, ea1, ma1, ka1, h⟩ := q_atE h
  refine q_getI X 6 ea1 ma1 ka1 rfl tW_X1 (by decide) (by decide) tF_X1_60 rfl dX1_isMoved_1 ?_
  refine q_iconst X (2) (by decide) dX1_isMoved_4 ?_
  refine q_iand X dX1_isMoved_5 ?_
  refine q_if_eq X 13 (by decide) dX1_isMoved_6 (fun g2 => ?_) (fun g2 => ?_)
  · rw [if_pos g2] at h
    refine q_iconst X (0) (by decide) dX1_isMoved_13 ?_
    refine q_lv [] rfl ?_
    exact w_X1_isMoved_14 X hr hl _ _ h
  · rw [if_neg g2] at h
    refine q_iconst X (1) (by decide) dX1_isMoved_9 ?_
    refine q_goto X 14 (by decide) dX1_isMoved_10 ?_
    refine q_lv [] rfl ?_
    exact w_X1_isMoved_14 X hr hl _ _ h
theorem tD_X1_isMoved : yX1_isMoved.cls ≠ "java/lang/invoke/MethodHandle" ∧ yX1_isMoved.cls ≠ "java/lang/invoke/VarHandle" ∧ (parseMethodDescriptor yX1_isMoved.desc).map (fun d => d.parameters.length) = some 0 := by decide +kernel
theorem c_X1_isMoved {l : Launch} {D : va_G} {cy : Nat → ClassId} {n : Nat} {S Sv : q_S} {rv : Int32} {o : Nat}  (h : m_X1_isMoved n S o = some (rv, Sv)) : q_MI l yX1_isMoved (q_ws yX1_isMoved cX1_isMoved 1 ((some .boolean))) ({ frames := 0, cells := 0, slots := 0, locals := 0 } : Room) D cy [.ref o] S rv Sv := by
  exact q_MI_of (by decide +kernel) (Nat.le_of_ble_eq_true rfl) (fun p e s m args below meth c A X hr hl => w_X1_isMoved X hr hl h)
/-! TrueOutlines$Data.seen(II)I -/
def m_X1_seen_42 (n : Nat) (S : q_S) (s0 : Int32) : Option (Int32 × q_S) := some (s0, S)
set_option maxHeartbeats 4000000 in
set_option maxRecDepth 100000 in
theorem w_X1_seen_42 (X : q_X p s m args c cX1_seen 3 RX1 q_T D cy A) (hr : meth.sig.returnType = (some .int)) (hl : meth.locks = false)  {n : Nat} {Sv : q_S} {rv : Int32}  (S : q_S) (s0 : Int32) (h : m_X1_seen_42 n S s0 = some (rv, Sv)) : q_W p l e ({ frames := 0, cells := 0, slots := 0, locals := 0 } : Room) s m args below meth c (MQ below (va_Qi (fun (r : Int32) (u : q_S) => r = rv ∧ u = Sv) (q_B D cy A) A) args s 0 0 A) A D cy 3 0 0 S 42 [] [.int (s0)] := by
  unfold m_X1_seen_42 at h
  obtain ⟨ev, eS⟩ := q_end h
  exact q_iret X hr hl rfl ev eS dX1_seen_42
def m_X1_seen_29 (n : Nat) (S : q_S) (l1 : Int32) (s0 : Int32) (s1 : Option Nat) : Option (Int32 × q_S) := q_at (S) (s1) 2 (fun a1 => q_if (s0 = 0 ∨ s0 = 1) ((if l1 = (-1 : Int32) then m_X1_seen_42 n (q_sI (S) a1 2 (s0)) ((0 : Int32)) else m_X1_seen_42 n (q_sI (S) a1 2 (s0)) (l1))))
set_option maxHeartbeats 4000000 in
set_option maxRecDepth 100000 in
theorem w_X1_seen_29 (X : q_X p s m args c cX1_seen 3 RX1 q_T D cy A) (hr : meth.sig.returnType = (some .int)) (hl : meth.locks = false)  {n : Nat} {Sv : q_S} {rv : Int32}  (S : q_S) (l1 : Int32) (s0 : Int32) (s1 : Option Nat) (h : m_X1_seen_29 n S l1 s0 s1 = some (rv, Sv)) : q_W p l e ({ frames := 0, cells := 0, slots := 0, locals := 0 } : Room) s m args below meth c (MQ below (va_Qi (fun (r : Int32) (u : q_S) => r = rv ∧ u = Sv) (q_B D cy A) A) args s 0 0 A) A D cy 3 0 0 S 29 [(1, .int (l1))] [.int (s0), va_rf (s1)] := by
  unfold m_X1_seen_29 at h
  obtain ⟨a1, ea1, ma1, ka1, h⟩ := q_atE h
  obtain ⟨g2, h⟩ := q_ifE h
  refine q_putI X 2 ea1 ma1 ka1 rfl tW_X1 (by decide) (by decide) tF_X1_19 tyX1 tyX1_ok nmX1 rfl (tyX1_ok 2 (by decide)) (q_bool g2) (q_boolF g2) rfl dX1_seen_29 ?_
  have ma1 : a1 ∈ q_L (q_sI (S) a1 2 (s0)) := q_LsI ma1
  have ka1 : q_K (q_sI (S) a1 2 (s0)) a1 = 2 := q_KsI ka1
  refine q_iload_n X 0 rfl dX1_seen_32 ?_
  refine q_iconst X (-1) (by decide) dX1_seen_33 ?_
  refine q_icmp_ne X 41 (by decide) dX1_seen_34 (fun g3 => ?_) (fun g3 => ?_)
  · rw [if_neg g3] at h
    refine q_iload_n X 0 rfl dX1_seen_41 ?_
    refine q_lv [] rfl ?_
    exact w_X1_seen_42 X hr hl _ _ h
  · rw [if_pos g3] at h
    refine q_iconst X (0) (by decide) dX1_seen_37 ?_
    refine q_goto X 42 (by decide) dX1_seen_38 ?_
    refine q_lv [] rfl ?_
    exact w_X1_seen_42 X hr hl _ _ h
def m_X1_seen_24 (n : Nat) (S : q_S) (l1 : Int32) (s0 : Option Nat) : Option (Int32 × q_S) := m_X1_seen_29 n (S) (l1) ((1 : Int32)) (s0)
set_option maxHeartbeats 4000000 in
set_option maxRecDepth 100000 in
theorem w_X1_seen_24 (X : q_X p s m args c cX1_seen 3 RX1 q_T D cy A) (hr : meth.sig.returnType = (some .int)) (hl : meth.locks = false)  {n : Nat} {Sv : q_S} {rv : Int32}  (S : q_S) (l1 : Int32) (s0 : Option Nat) (h : m_X1_seen_24 n S l1 s0 = some (rv, Sv)) : q_W p l e ({ frames := 0, cells := 0, slots := 0, locals := 0 } : Room) s m args below meth c (MQ below (va_Qi (fun (r : Int32) (u : q_S) => r = rv ∧ u = Sv) (q_B D cy A) A) args s 0 0 A) A D cy 3 0 0 S 24 [(1, .int (l1))] [va_rf (s0)] := by
  unfold m_X1_seen_24 at h
  refine q_iconst X (1) (by decide) dX1_seen_24 ?_
  refine q_goto X 29 (by decide) dX1_seen_25 ?_
  exact w_X1_seen_29 X hr hl _ _ _ _ h
def m_X1_seen (n : Nat) (S : q_S) (o : Nat) (p0 : Int32) (p1 : Int32) : Option (Int32 × q_S) := q_at (S) (some o) 2 (fun a1 => (if (q_I (q_sJ (S) a1 3 ((q_J (S) a1 3) + (p1.toInt64))) a1 2) = 0 then (if p0 = (-1 : Int32) then m_X1_seen_24 n (q_sJ (S) a1 3 ((q_J (S) a1 3) + (p1.toInt64))) (p0) (some o) else m_X1_seen_29 n (q_sJ (S) a1 3 ((q_J (S) a1 3) + (p1.toInt64))) (p0) ((0 : Int32)) (some o)) else m_X1_seen_24 n (q_sJ (S) a1 3 ((q_J (S) a1 3) + (p1.toInt64))) (p0) (some o)))
set_option maxHeartbeats 4000000 in
set_option maxRecDepth 100000 in
theorem w_X1_seen (X : q_X p s m args c cX1_seen 3 RX1 q_T D cy A) (hr : meth.sig.returnType = (some .int)) (hl : meth.locks = false)  {n : Nat} {S Sv : q_S} {rv : Int32} {o : Nat} {p0 : Int32} {p1 : Int32} (h : m_X1_seen n S o p0 p1 = some (rv, Sv)) : q_W p l e ({ frames := 0, cells := 0, slots := 0, locals := 0 } : Room) s m args below meth c (MQ below (va_Qi (fun (r : Int32) (u : q_S) => r = rv ∧ u = Sv) (q_B D cy A) A) args s 0 0 A) A D cy 3 0 0 S 0 [(0, va_rf (some o)), (1, .int (p0)), (2, .int (p1))] [] := by
  unfold m_X1_seen at h
  refine q_aload_n X 0 rfl dX1_seen_0 ?_
  refine q_dup X (q_catR _) dX1_seen_1 ?_
  obtain ⟨a1, ea1, ma1, ka1, h⟩ := q_atE h
  refine q_getJ X 3 ea1 ma1 ka1 rfl tW_X1 (by decide) (by decide) tF_X1_22 rfl dX1_seen_2 ?_
  refine q_iload_n X 2 rfl dX1_seen_5 ?_
  refine q_i2l X dX1_seen_6 ?_
  refine q_ladd X dX1_seen_7 ?_
  refine q_putJ X 3 ea1 ma1 ka1 rfl tW_X1 (by decide) (by decide) tF_X1_22 tyX1 tyX1_ok nmX1 rfl (tyX1_ok 3 (by decide)) rfl rfl rfl dX1_seen_8 ?_
  have ma1 : a1 ∈ q_L (q_sJ (S) a1 3 ((q_J (S) a1 3) + (p1.toInt64))) := q_LsJ ma1
  have ka1 : q_K (q_sJ (S) a1 3 ((q_J (S) a1 3) + (p1.toInt64))) a1 = 2 := q_KsJ ka1
  refine q_aload_n X 0 rfl dX1_seen_11 ?_
  refine q_aload_n X 0 rfl dX1_seen_12 ?_
  refine q_getI X 2 ea1 ma1 ka1 rfl tW_X1 (by decide) (by decide) tF_X1_19 rfl dX1_seen_13 ?_
  refine q_if_ne X 24 (by decide) dX1_seen_16 (fun g2 => ?_) (fun g2 => ?_)
  · rw [if_neg g2] at h
    refine q_lv [1] rfl ?_
    exact w_X1_seen_24 X hr hl _ _ _ h
  · rw [if_pos g2] at h
    refine q_iload_n X 1 rfl dX1_seen_19 ?_
    refine q_iconst X (-1) (by decide) dX1_seen_20 ?_
    refine q_icmp_ne X 28 (by decide) dX1_seen_21 (fun g3 => ?_) (fun g3 => ?_)
    · rw [if_neg g3] at h
      refine q_iconst X (0) (by decide) dX1_seen_28 ?_
      refine q_lv [1] rfl ?_
      exact w_X1_seen_29 X hr hl _ _ _ _ h
    · rw [if_pos g3] at h
      refine q_lv [1] rfl ?_
      exact w_X1_seen_24 X hr hl _ _ _ h
theorem tD_X1_seen : yX1_seen.cls ≠ "java/lang/invoke/MethodHandle" ∧ yX1_seen.cls ≠ "java/lang/invoke/VarHandle" ∧ (parseMethodDescriptor yX1_seen.desc).map (fun d => d.parameters.length) = some 2 := by decide +kernel
theorem c_X1_seen {l : Launch} {D : va_G} {cy : Nat → ClassId} {n : Nat} {S Sv : q_S} {rv : Int32} {o : Nat} {p0 : Int32} {p1 : Int32} (h : m_X1_seen n S o p0 p1 = some (rv, Sv)) : q_MI l yX1_seen (q_ws yX1_seen cX1_seen 3 ((some .int))) ({ frames := 0, cells := 0, slots := 0, locals := 0 } : Room) D cy [.ref o, .int (p0), .int (p1)] S rv Sv := by
  exact q_MI_of (by decide +kernel) (Nat.le_of_ble_eq_true rfl) (fun p e s m args below meth c A X hr hl => w_X1_seen X hr hl h)
/-! TrueOutlines$Data.one()I -/
def m_X1_one (n : Nat) (S : q_S) (o : Nat)  : Option (Int32 × q_S) := q_at (S) (some o) 2 (fun a1 => q_at (S) (q_R (S) a1 0) 5 (fun a2 => q_b (m_X4_one n (S) a2 (q_J (S) a1 3) (q_J (S) a1 4)) (fun r3 S4 => q_at (S4) (some o) 2 (fun a6 => q_b (m_X1_seen n (S4) a6 (r3) ((1 : Int32))) (fun r7 S8 => some (r7, S8))))))
set_option maxHeartbeats 4000000 in
set_option maxRecDepth 100000 in
theorem w_X1_one (X : q_X p s m args c cX1_one 1 RX1 q_T D cy A) (hr : meth.sig.returnType = (some .int)) (hl : meth.locks = false)  {n : Nat} {S Sv : q_S} {rv : Int32} {o : Nat}  (h : m_X1_one n S o = some (rv, Sv)) : q_W p l e ({ frames := 1, cells := 0, slots := 0, locals := 24 } : Room) s m args below meth c (MQ below (va_Qi (fun (r : Int32) (u : q_S) => r = rv ∧ u = Sv) (q_B D cy A) A) args s 0 0 A) A D cy 1 0 0 S 0 [(0, va_rf (some o))] [] := by
  unfold m_X1_one at h
  refine q_aload_n X 0 rfl dX1_one_0 ?_
  refine q_aload_n X 0 rfl dX1_one_1 ?_
  obtain ⟨a1, ea1, ma1, ka1, h⟩ := q_atE h
  refine q_getR X 0 ea1 ma1 ka1 rfl tW_X1 (by decide) (by decide) tF_X1_9 rfl dX1_one_2 ?_
  refine q_aload_n X 0 rfl dX1_one_5 ?_
  refine q_getJ X 3 ea1 ma1 ka1 rfl tW_X1 (by decide) (by decide) tF_X1_22 rfl dX1_one_6 ?_
  refine q_aload_n X 0 rfl dX1_one_9 ?_
  refine q_getJ X 4 ea1 ma1 ka1 rfl tW_X1 (by decide) (by decide) tF_X1_26 rfl dX1_one_10 ?_
  obtain ⟨a2, ea2, ma2, ka2, h⟩ := q_atE h
  obtain ⟨r3, S4, c5, h⟩ := q_bE h
  refine q_cVI X (As := [.long (q_J (S) a1 3), .long (q_J (S) a1 4)]) ea2 ma2 ka2 rfl (by decide) (c_X4_one c5) (q_cwV X tK_X4_one tM_X1_41 tI_X4_one tV_X4_one tN_X4 rfl rfl tD_X4_one ⟨Nat.le_of_ble_eq_true rfl, Nat.le_of_ble_eq_true rfl⟩) rfl rfl (by first | exact Nat.le_of_ble_eq_true rfl | (simp only [List.map, q_catR]; exact Nat.le_of_ble_eq_true rfl)) ⟨Nat.zero_le _, Nat.zero_le _⟩ dX1_one_13 ?_
  refine q_iconst X (1) (by decide) dX1_one_16 ?_
  obtain ⟨a6, ea6, ma6, ka6, h⟩ := q_atE h
  obtain ⟨r7, S8, c9, h⟩ := q_bE h
  refine q_cVI X (As := [.int (r3), .int ((1 : Int32))]) ea6 ma6 ka6 rfl (by decide) (c_X1_seen c9) (q_cwV X tK_X1_seen tM_X1_47 tI_X1_seen tV_X1_seen tN_X1 rfl rfl tD_X1_seen ⟨Nat.le_of_ble_eq_true rfl, Nat.le_of_ble_eq_true rfl⟩) rfl rfl (by first | exact Nat.le_of_ble_eq_true rfl | (simp only [List.map, q_catR]; exact Nat.le_of_ble_eq_true rfl)) ⟨Nat.zero_le _, Nat.zero_le _⟩ dX1_one_17 ?_
  obtain ⟨ev, eS⟩ := q_end h
  exact q_iret X hr hl rfl ev eS dX1_one_20
theorem tD_X1_one : yX1_one.cls ≠ "java/lang/invoke/MethodHandle" ∧ yX1_one.cls ≠ "java/lang/invoke/VarHandle" ∧ (parseMethodDescriptor yX1_one.desc).map (fun d => d.parameters.length) = some 0 := by decide +kernel
theorem c_X1_one {l : Launch} {D : va_G} {cy : Nat → ClassId} {n : Nat} {S Sv : q_S} {rv : Int32} {o : Nat}  (h : m_X1_one n S o = some (rv, Sv)) : q_MI l yX1_one (q_ws yX1_one cX1_one 1 ((some .int))) ({ frames := 1, cells := 0, slots := 0, locals := 24 } : Room) D cy [.ref o] S rv Sv := by
  exact q_MI_of (by decide +kernel) (Nat.le_of_ble_eq_true rfl) (fun p e s m args below meth c A X hr hl => w_X1_one X hr hl h)
/-! TrueOutlines$Data.two()I -/
def m_X1_two (n : Nat) (S : q_S) (o : Nat)  : Option (Int32 × q_S) := q_at (S) (some o) 2 (fun a1 => q_at (S) (q_R (S) a1 0) 5 (fun a2 => q_b (m_X4_two n (S) a2 (q_J (S) a1 3) (q_J (S) a1 4)) (fun r3 S4 => q_at (S4) (some o) 2 (fun a6 => q_b (m_X1_seen n (S4) a6 (r3) ((2 : Int32))) (fun r7 S8 => some (r7, S8))))))
set_option maxHeartbeats 4000000 in
set_option maxRecDepth 100000 in
theorem w_X1_two (X : q_X p s m args c cX1_two 1 RX1 q_T D cy A) (hr : meth.sig.returnType = (some .int)) (hl : meth.locks = false)  {n : Nat} {S Sv : q_S} {rv : Int32} {o : Nat}  (h : m_X1_two n S o = some (rv, Sv)) : q_W p l e ({ frames := 1, cells := 0, slots := 0, locals := 25 } : Room) s m args below meth c (MQ below (va_Qi (fun (r : Int32) (u : q_S) => r = rv ∧ u = Sv) (q_B D cy A) A) args s 0 0 A) A D cy 1 0 0 S 0 [(0, va_rf (some o))] [] := by
  unfold m_X1_two at h
  refine q_aload_n X 0 rfl dX1_two_0 ?_
  refine q_aload_n X 0 rfl dX1_two_1 ?_
  obtain ⟨a1, ea1, ma1, ka1, h⟩ := q_atE h
  refine q_getR X 0 ea1 ma1 ka1 rfl tW_X1 (by decide) (by decide) tF_X1_9 rfl dX1_two_2 ?_
  refine q_aload_n X 0 rfl dX1_two_5 ?_
  refine q_getJ X 3 ea1 ma1 ka1 rfl tW_X1 (by decide) (by decide) tF_X1_22 rfl dX1_two_6 ?_
  refine q_aload_n X 0 rfl dX1_two_9 ?_
  refine q_getJ X 4 ea1 ma1 ka1 rfl tW_X1 (by decide) (by decide) tF_X1_26 rfl dX1_two_10 ?_
  obtain ⟨a2, ea2, ma2, ka2, h⟩ := q_atE h
  obtain ⟨r3, S4, c5, h⟩ := q_bE h
  refine q_cVI X (As := [.long (q_J (S) a1 3), .long (q_J (S) a1 4)]) ea2 ma2 ka2 rfl (by decide) (c_X4_two c5) (q_cwV X tK_X4_two tM_X1_51 tI_X4_two tV_X4_two tN_X4 rfl rfl tD_X4_two ⟨Nat.le_of_ble_eq_true rfl, Nat.le_of_ble_eq_true rfl⟩) rfl rfl (by first | exact Nat.le_of_ble_eq_true rfl | (simp only [List.map, q_catR]; exact Nat.le_of_ble_eq_true rfl)) ⟨Nat.zero_le _, Nat.zero_le _⟩ dX1_two_13 ?_
  refine q_iconst X (2) (by decide) dX1_two_16 ?_
  obtain ⟨a6, ea6, ma6, ka6, h⟩ := q_atE h
  obtain ⟨r7, S8, c9, h⟩ := q_bE h
  refine q_cVI X (As := [.int (r3), .int ((2 : Int32))]) ea6 ma6 ka6 rfl (by decide) (c_X1_seen c9) (q_cwV X tK_X1_seen tM_X1_47 tI_X1_seen tV_X1_seen tN_X1 rfl rfl tD_X1_seen ⟨Nat.le_of_ble_eq_true rfl, Nat.le_of_ble_eq_true rfl⟩) rfl rfl (by first | exact Nat.le_of_ble_eq_true rfl | (simp only [List.map, q_catR]; exact Nat.le_of_ble_eq_true rfl)) ⟨Nat.zero_le _, Nat.zero_le _⟩ dX1_two_17 ?_
  obtain ⟨ev, eS⟩ := q_end h
  exact q_iret X hr hl rfl ev eS dX1_two_20
theorem tD_X1_two : yX1_two.cls ≠ "java/lang/invoke/MethodHandle" ∧ yX1_two.cls ≠ "java/lang/invoke/VarHandle" ∧ (parseMethodDescriptor yX1_two.desc).map (fun d => d.parameters.length) = some 0 := by decide +kernel
theorem c_X1_two {l : Launch} {D : va_G} {cy : Nat → ClassId} {n : Nat} {S Sv : q_S} {rv : Int32} {o : Nat}  (h : m_X1_two n S o = some (rv, Sv)) : q_MI l yX1_two (q_ws yX1_two cX1_two 1 ((some .int))) ({ frames := 1, cells := 0, slots := 0, locals := 25 } : Room) D cy [.ref o] S rv Sv := by
  exact q_MI_of (by decide +kernel) (Nat.le_of_ble_eq_true rfl) (fun p e s m args below meth c A X hr hl => w_X1_two X hr hl h)
/-! TrueOutlines$Data.nextNumber()I -/
def m_X1_nextNumber_65 (n : Nat) (S : q_S) (s0 : Int32) : Option (Int32 × q_S) := some (s0, S)
set_option maxHeartbeats 4000000 in
set_option maxRecDepth 100000 in
theorem w_X1_nextNumber_65 (X : q_X p s m args c cX1_nextNumber 4 RX1 q_T D cy A) (hr : meth.sig.returnType = (some .int)) (hl : meth.locks = false)  {n : Nat} {Sv : q_S} {rv : Int32}  (S : q_S) (s0 : Int32) (h : m_X1_nextNumber_65 n S s0 = some (rv, Sv)) : q_W p l e ({ frames := 2, cells := 0, slots := 0, locals := 45 } : Room) s m args below meth c (MQ below (va_Qi (fun (r : Int32) (u : q_S) => r = rv ∧ u = Sv) (q_B D cy A) A) args s 0 0 A) A D cy 4 0 0 S 65 [] [.int (s0)] := by
  unfold m_X1_nextNumber_65 at h
  obtain ⟨ev, eS⟩ := q_end h
  exact q_iret X hr hl rfl ev eS dX1_nextNumber_65
def m_X1_nextNumber_64 (n : Nat) (S : q_S) (l2 : Int32) : Option (Int32 × q_S) := m_X1_nextNumber_65 n (S) (l2)
set_option maxHeartbeats 4000000 in
set_option maxRecDepth 100000 in
theorem w_X1_nextNumber_64 (X : q_X p s m args c cX1_nextNumber 4 RX1 q_T D cy A) (hr : meth.sig.returnType = (some .int)) (hl : meth.locks = false)  {n : Nat} {Sv : q_S} {rv : Int32}  (S : q_S) (l2 : Int32) (h : m_X1_nextNumber_64 n S l2 = some (rv, Sv)) : q_W p l e ({ frames := 2, cells := 0, slots := 0, locals := 45 } : Room) s m args below meth c (MQ below (va_Qi (fun (r : Int32) (u : q_S) => r = rv ∧ u = Sv) (q_B D cy A) A) args s 0 0 A) A D cy 4 0 0 S 64 [(2, .int (l2))] [] := by
  unfold m_X1_nextNumber_64 at h
  refine q_iload_n X 0 rfl dX1_nextNumber_64 ?_
  refine q_lv [] rfl ?_
  exact w_X1_nextNumber_65 X hr hl _ _ h
def m_X1_nextNumber_43 (n : Nat) (S : q_S) (l0 : Option Nat) (l2 : Int32) (s0 : Int32) : Option (Int32 × q_S) := q_at (S) (l0) 2 (fun a1 => q_b (m_X1_isMoved n (S) a1) (fun r2 S3 => (if r2 = 0 then m_X1_nextNumber_64 n (S3) (l2) else (if l2 < s0 then m_X1_nextNumber_64 n (S3) (l2) else m_X1_nextNumber_65 n (S3) (l2 - ((2 : Int32) * s0))))))
set_option maxHeartbeats 4000000 in
set_option maxRecDepth 100000 in
theorem w_X1_nextNumber_43 (X : q_X p s m args c cX1_nextNumber 4 RX1 q_T D cy A) (hr : meth.sig.returnType = (some .int)) (hl : meth.locks = false)  {n : Nat} {Sv : q_S} {rv : Int32}  (S : q_S) (l0 : Option Nat) (l2 : Int32) (s0 : Int32) (h : m_X1_nextNumber_43 n S l0 l2 s0 = some (rv, Sv)) : q_W p l e ({ frames := 2, cells := 0, slots := 0, locals := 45 } : Room) s m args below meth c (MQ below (va_Qi (fun (r : Int32) (u : q_S) => r = rv ∧ u = Sv) (q_B D cy A) A) args s 0 0 A) A D cy 4 0 0 S 43 [(0, va_rf (l0)), (2, .int (l2))] [.int (s0)] := by
  unfold m_X1_nextNumber_43 at h
  refine q_istore_n X 3 [(3, .int (s0)), (0, va_rf (l0)), (2, .int (l2))] rfl (by decide) (by first | rfl | simp [List.filter, q_catR]) dX1_nextNumber_43 ?_
  refine q_aload_n X 1 rfl dX1_nextNumber_44 ?_
  obtain ⟨a1, ea1, ma1, ka1, h⟩ := q_atE h
  obtain ⟨r2, S3, c4, h⟩ := q_bE h
  refine q_cVI X (As := []) ea1 ma1 ka1 rfl (by decide) (c_X1_isMoved c4) (q_cwV X tK_X1_isMoved tM_X1_81 tI_X1_isMoved tV_X1_isMoved tN_X1 rfl rfl tD_X1_isMoved ⟨Nat.le_of_ble_eq_true rfl, Nat.le_of_ble_eq_true rfl⟩) rfl rfl (by first | exact Nat.le_of_ble_eq_true rfl | (simp only [List.map, q_catR]; exact Nat.le_of_ble_eq_true rfl)) ⟨Nat.zero_le _, Nat.zero_le _⟩ dX1_nextNumber_45 ?_
  refine q_if_eq X 64 (by decide) dX1_nextNumber_48 (fun g5 => ?_) (fun g5 => ?_)
  · rw [if_pos g5] at h
    refine q_lv [2] rfl ?_
    exact w_X1_nextNumber_64 X hr hl _ _ h
  · rw [if_neg g5] at h
    refine q_iload_n X 2 rfl dX1_nextNumber_51 ?_
    refine q_iload_n X 0 rfl dX1_nextNumber_52 ?_
    refine q_icmp_lt X 64 (by decide) dX1_nextNumber_53 (fun g6 => ?_) (fun g6 => ?_)
    · rw [if_pos g6] at h
      refine q_lv [2] rfl ?_
      exact w_X1_nextNumber_64 X hr hl _ _ h
    · rw [if_neg g6] at h
      refine q_iload_n X 2 rfl dX1_nextNumber_56 ?_
      refine q_iconst X (2) (by decide) dX1_nextNumber_57 ?_
      refine q_iload_n X 0 rfl dX1_nextNumber_58 ?_
      refine q_imul X dX1_nextNumber_59 ?_
      refine q_isub X dX1_nextNumber_60 ?_
      refine q_goto X 65 (by decide) dX1_nextNumber_61 ?_
      refine q_lv [] rfl ?_
      exact w_X1_nextNumber_65 X hr hl _ _ h
def m_X1_nextNumber_30 (n : Nat) (S : q_S) (l0 : Option Nat) (l1 : Int32) (s0 : Int32) : Option (Int32 × q_S) := (if l1 = 0 then m_X1_nextNumber_43 n (S) (l0) (s0) ((128 : Int32)) else m_X1_nextNumber_43 n (S) (l0) (s0) ((32768 : Int32)))
set_option maxHeartbeats 4000000 in
set_option maxRecDepth 100000 in
theorem w_X1_nextNumber_30 (X : q_X p s m args c cX1_nextNumber 4 RX1 q_T D cy A) (hr : meth.sig.returnType = (some .int)) (hl : meth.locks = false)  {n : Nat} {Sv : q_S} {rv : Int32}  (S : q_S) (l0 : Option Nat) (l1 : Int32) (s0 : Int32) (h : m_X1_nextNumber_30 n S l0 l1 s0 = some (rv, Sv)) : q_W p l e ({ frames := 2, cells := 0, slots := 0, locals := 45 } : Room) s m args below meth c (MQ below (va_Qi (fun (r : Int32) (u : q_S) => r = rv ∧ u = Sv) (q_B D cy A) A) args s 0 0 A) A D cy 4 0 0 S 30 [(0, va_rf (l0)), (1, .int (l1))] [.int (s0)] := by
  unfold m_X1_nextNumber_30 at h
  refine q_istore_n X 2 [(2, .int (s0)), (0, va_rf (l0)), (1, .int (l1))] rfl (by decide) (by first | rfl | simp [List.filter, q_catR]) dX1_nextNumber_30 ?_
  refine q_iload_n X 2 rfl dX1_nextNumber_31 ?_
  refine q_if_eq X 40 (by decide) dX1_nextNumber_32 (fun g1 => ?_) (fun g1 => ?_)
  · rw [if_pos g1] at h
    refine q_sipush X (128) (by decide) dX1_nextNumber_40 ?_
    refine q_lv [1, 0] rfl ?_
    exact w_X1_nextNumber_43 X hr hl _ _ _ _ h
  · rw [if_neg g1] at h
    refine q_ldc X (32768) tC_X1_80 dX1_nextNumber_35 ?_
    refine q_goto X 43 (by decide) dX1_nextNumber_37 ?_
    refine q_lv [1, 0] rfl ?_
    exact w_X1_nextNumber_43 X hr hl _ _ _ _ h
def m_X1_nextNumber_14 (n : Nat) (S : q_S) (l0 : Option Nat) (s0 : Int32) : Option (Int32 × q_S) := (if s0 = 0 then q_at (S) (l0) 2 (fun a2 => q_b (m_X1_one n (S) a2) (fun r3 S4 => m_X1_nextNumber_30 n (S4) (l0) (s0) (r3))) else q_at (S) (l0) 2 (fun a6 => q_b (m_X1_two n (S) a6) (fun r7 S8 => m_X1_nextNumber_30 n (S8) (l0) (s0) (r7))))
set_option maxHeartbeats 4000000 in
set_option maxRecDepth 100000 in
theorem w_X1_nextNumber_14 (X : q_X p s m args c cX1_nextNumber 4 RX1 q_T D cy A) (hr : meth.sig.returnType = (some .int)) (hl : meth.locks = false)  {n : Nat} {Sv : q_S} {rv : Int32}  (S : q_S) (l0 : Option Nat) (s0 : Int32) (h : m_X1_nextNumber_14 n S l0 s0 = some (rv, Sv)) : q_W p l e ({ frames := 2, cells := 0, slots := 0, locals := 45 } : Room) s m args below meth c (MQ below (va_Qi (fun (r : Int32) (u : q_S) => r = rv ∧ u = Sv) (q_B D cy A) A) args s 0 0 A) A D cy 4 0 0 S 14 [(0, va_rf (l0))] [.int (s0)] := by
  unfold m_X1_nextNumber_14 at h
  refine q_istore_n X 1 [(1, .int (s0)), (0, va_rf (l0))] rfl (by decide) (by first | rfl | simp [List.filter, q_catR]) dX1_nextNumber_14 ?_
  refine q_iload_n X 0 rfl dX1_nextNumber_15 ?_
  refine q_if_eq X 26 (by decide) dX1_nextNumber_16 (fun g1 => ?_) (fun g1 => ?_)
  · rw [if_pos g1] at h
    refine q_aload_n X 1 rfl dX1_nextNumber_26 ?_
    obtain ⟨a2, ea2, ma2, ka2, h⟩ := q_atE h
    obtain ⟨r3, S4, c5, h⟩ := q_bE h
    refine q_cVI X (As := []) ea2 ma2 ka2 rfl (by decide) (c_X1_one c5) (q_cwV X tK_X1_one tM_X1_78 tI_X1_one tV_X1_one tN_X1 rfl rfl tD_X1_one ⟨Nat.le_of_ble_eq_true rfl, Nat.le_of_ble_eq_true rfl⟩) rfl rfl (by first | exact Nat.le_of_ble_eq_true rfl | (simp only [List.map, q_catR]; exact Nat.le_of_ble_eq_true rfl)) ⟨Nat.zero_le _, Nat.zero_le _⟩ dX1_nextNumber_27 ?_
    refine q_lv [1, 0] rfl ?_
    exact w_X1_nextNumber_30 X hr hl _ _ _ _ h
  · rw [if_neg g1] at h
    refine q_aload_n X 1 rfl dX1_nextNumber_19 ?_
    obtain ⟨a6, ea6, ma6, ka6, h⟩ := q_atE h
    obtain ⟨r7, S8, c9, h⟩ := q_bE h
    refine q_cVI X (As := []) ea6 ma6 ka6 rfl (by decide) (c_X1_two c9) (q_cwV X tK_X1_two tM_X1_58 tI_X1_two tV_X1_two tN_X1 rfl rfl tD_X1_two ⟨Nat.le_of_ble_eq_true rfl, Nat.le_of_ble_eq_true rfl⟩) rfl rfl (by first | exact Nat.le_of_ble_eq_true rfl | (simp only [List.map, q_catR]; exact Nat.le_of_ble_eq_true rfl)) ⟨Nat.zero_le _, Nat.zero_le _⟩ dX1_nextNumber_20 ?_
    refine q_goto X 30 (by decide) dX1_nextNumber_23 ?_
    refine q_lv [1, 0] rfl ?_
    exact w_X1_nextNumber_30 X hr hl _ _ _ _ h
def m_X1_nextNumber (n : Nat) (S : q_S) (o : Nat)  : Option (Int32 × q_S) := q_at (S) (some o) 2 (fun a1 => (if ((q_I (S) a1 6) &&& (1 : Int32)) = 0 then m_X1_nextNumber_14 n (S) (some o) ((0 : Int32)) else m_X1_nextNumber_14 n (S) (some o) ((1 : Int32))))
set_option maxHeartbeats 4000000 in
set_option maxRecDepth 100000 in
theorem w_X1_nextNumber (X : q_X p s m args c cX1_nextNumber 4 RX1 q_T D cy A) (hr : meth.sig.returnType = (some .int)) (hl : meth.locks = false)  {n : Nat} {S Sv : q_S} {rv : Int32} {o : Nat}  (h : m_X1_nextNumber n S o = some (rv, Sv)) : q_W p l e ({ frames := 2, cells := 0, slots := 0, locals := 45 } : Room) s m args below meth c (MQ below (va_Qi (fun (r : Int32) (u : q_S) => r = rv ∧ u = Sv) (q_B D cy A) A) args s 0 0 A) A D cy 4 0 0 S 0 [(0, va_rf (some o))] [] := by
  unfold m_X1_nextNumber at h
  refine q_aload_n X 0 rfl dX1_nextNumber_0 ?_
  obtain ⟨a1, ea1, ma1, ka1, h⟩ := q_atE h
  refine q_getI X 6 ea1 ma1 ka1 rfl tW_X1 (by decide) (by decide) tF_X1_60 rfl dX1_nextNumber_1 ?_
  refine q_iconst X (1) (by decide) dX1_nextNumber_4 ?_
  refine q_iand X dX1_nextNumber_5 ?_
  refine q_if_eq X 13 (by decide) dX1_nextNumber_6 (fun g2 => ?_) (fun g2 => ?_)
  · rw [if_pos g2] at h
    refine q_iconst X (0) (by decide) dX1_nextNumber_13 ?_
    exact w_X1_nextNumber_14 X hr hl _ _ _ h
  · rw [if_neg g2] at h
    refine q_iconst X (1) (by decide) dX1_nextNumber_9 ?_
    refine q_goto X 14 (by decide) dX1_nextNumber_10 ?_
    exact w_X1_nextNumber_14 X hr hl _ _ _ h
theorem tD_X1_nextNumber : yX1_nextNumber.cls ≠ "java/lang/invoke/MethodHandle" ∧ yX1_nextNumber.cls ≠ "java/lang/invoke/VarHandle" ∧ (parseMethodDescriptor yX1_nextNumber.desc).map (fun d => d.parameters.length) = some 0 := by decide +kernel
theorem c_X1_nextNumber {l : Launch} {D : va_G} {cy : Nat → ClassId} {n : Nat} {S Sv : q_S} {rv : Int32} {o : Nat}  (h : m_X1_nextNumber n S o = some (rv, Sv)) : q_MI l yX1_nextNumber (q_ws yX1_nextNumber cX1_nextNumber 4 ((some .int))) ({ frames := 2, cells := 0, slots := 0, locals := 45 } : Room) D cy [.ref o] S rv Sv := by
  exact q_MI_of (by decide +kernel) (Nat.le_of_ble_eq_true rfl) (fun p e s m args below meth c A X hr hl => w_X1_nextNumber X hr hl h)
/-! TrueOutlines.signed(I)I -/
def m_X11_signed_14 (n : Nat) (S : q_S) (s0 : Int32) : Option (Int32 × q_S) := some (s0, S)
set_option maxHeartbeats 4000000 in
set_option maxRecDepth 100000 in
theorem w_X11_signed_14 (X : q_X p s m args c cX11_signed 1 RX11 q_T D cy A) (hr : meth.sig.returnType = (some .int)) (hl : meth.locks = false)  {n : Nat} {Sv : q_S} {rv : Int32}  (S : q_S) (s0 : Int32) (h : m_X11_signed_14 n S s0 = some (rv, Sv)) : q_W p l e ({ frames := 0, cells := 0, slots := 0, locals := 0 } : Room) s m args below meth c (MQ below (va_Qi (fun (r : Int32) (u : q_S) => r = rv ∧ u = Sv) (q_B D cy A) A) args s 0 0 A) A D cy 1 0 0 S 14 [] [.int (s0)] := by
  unfold m_X11_signed_14 at h
  obtain ⟨ev, eS⟩ := q_end h
  exact q_iret X hr hl rfl ev eS dX11_signed_14
def m_X11_signed (n : Nat) (S : q_S) (p0 : Int32) : Option (Int32 × q_S) := (if p0 < (32768 : Int32) then m_X11_signed_14 n (S) (p0) else m_X11_signed_14 n (S) (p0 - (65536 : Int32)))
set_option maxHeartbeats 4000000 in
set_option maxRecDepth 100000 in
theorem w_X11_signed (X : q_X p s m args c cX11_signed 1 RX11 q_T D cy A) (hr : meth.sig.returnType = (some .int)) (hl : meth.locks = false)  {n : Nat} {S Sv : q_S} {rv : Int32} {p0 : Int32} (h : m_X11_signed n S p0 = some (rv, Sv)) : q_W p l e ({ frames := 0, cells := 0, slots := 0, locals := 0 } : Room) s m args below meth c (MQ below (va_Qi (fun (r : Int32) (u : q_S) => r = rv ∧ u = Sv) (q_B D cy A) A) args s 0 0 A) A D cy 1 0 0 S 0 [(0, .int (p0))] [] := by
  unfold m_X11_signed at h
  refine q_iload_n X 0 rfl dX11_signed_0 ?_
  refine q_ldc X (32768) tC_X11_217 dX11_signed_1 ?_
  refine q_icmp_lt X 13 (by decide) dX11_signed_3 (fun g1 => ?_) (fun g1 => ?_)
  · rw [if_pos g1] at h
    refine q_iload_n X 0 rfl dX11_signed_13 ?_
    refine q_lv [] rfl ?_
    exact w_X11_signed_14 X hr hl _ _ h
  · rw [if_neg g1] at h
    refine q_iload_n X 0 rfl dX11_signed_6 ?_
    refine q_ldc X (65536) tC_X11_218 dX11_signed_7 ?_
    refine q_isub X dX11_signed_9 ?_
    refine q_goto X 14 (by decide) dX11_signed_10 ?_
    refine q_lv [] rfl ?_
    exact w_X11_signed_14 X hr hl _ _ h
theorem tD_X11_signed : yX11_signed.cls ≠ "java/lang/invoke/MethodHandle" ∧ yX11_signed.cls ≠ "java/lang/invoke/VarHandle" ∧ (parseMethodDescriptor yX11_signed.desc).map (fun d => d.parameters.length) = some 1 := by decide +kernel
theorem c_X11_signed {l : Launch} {D : va_G} {cy : Nat → ClassId} {n : Nat} {S Sv : q_S} {rv : Int32} {p0 : Int32} (h : m_X11_signed n S p0 = some (rv, Sv)) : q_MI l yX11_signed (q_ws yX11_signed cX11_signed 1 ((some .int))) ({ frames := 0, cells := 0, slots := 0, locals := 0 } : Room) D cy [.int (p0)] S rv Sv := by
  exact q_MI_of (by decide +kernel) (Nat.le_of_ble_eq_true rfl) (fun p e s m args below meth c A X hr hl => w_X11_signed X hr hl h)
/-! TrueOutlines$Data.signedTwo()I -/
def m_X1_signedTwo (n : Nat) (S : q_S) (o : Nat)  : Option (Int32 × q_S) := q_at (S) (some o) 2 (fun a1 => q_at (S) (q_R (S) a1 0) 5 (fun a2 => q_b (m_X4_two n (S) a2 (q_J (S) a1 3) (q_J (S) a1 4)) (fun r3 S4 => q_at (S4) (some o) 2 (fun a6 => q_b (m_X1_seen n (S4) a6 (r3) ((2 : Int32))) (fun r7 S8 => q_b (m_X11_signed n (S8) (r7)) (fun r10 S11 => some (r10, S11)))))))
set_option maxHeartbeats 4000000 in
set_option maxRecDepth 100000 in
theorem w_X1_signedTwo (X : q_X p s m args c cX1_signedTwo 1 RX1 q_T D cy A) (hr : meth.sig.returnType = (some .int)) (hl : meth.locks = false)  {n : Nat} {S Sv : q_S} {rv : Int32} {o : Nat}  (h : m_X1_signedTwo n S o = some (rv, Sv)) : q_W p l e ({ frames := 1, cells := 0, slots := 0, locals := 25 } : Room) s m args below meth c (MQ below (va_Qi (fun (r : Int32) (u : q_S) => r = rv ∧ u = Sv) (q_B D cy A) A) args s 0 0 A) A D cy 1 0 0 S 0 [(0, va_rf (some o))] [] := by
  unfold m_X1_signedTwo at h
  refine q_aload_n X 0 rfl dX1_signedTwo_0 ?_
  refine q_aload_n X 0 rfl dX1_signedTwo_1 ?_
  obtain ⟨a1, ea1, ma1, ka1, h⟩ := q_atE h
  refine q_getR X 0 ea1 ma1 ka1 rfl tW_X1 (by decide) (by decide) tF_X1_9 rfl dX1_signedTwo_2 ?_
  refine q_aload_n X 0 rfl dX1_signedTwo_5 ?_
  refine q_getJ X 3 ea1 ma1 ka1 rfl tW_X1 (by decide) (by decide) tF_X1_22 rfl dX1_signedTwo_6 ?_
  refine q_aload_n X 0 rfl dX1_signedTwo_9 ?_
  refine q_getJ X 4 ea1 ma1 ka1 rfl tW_X1 (by decide) (by decide) tF_X1_26 rfl dX1_signedTwo_10 ?_
  obtain ⟨a2, ea2, ma2, ka2, h⟩ := q_atE h
  obtain ⟨r3, S4, c5, h⟩ := q_bE h
  refine q_cVI X (As := [.long (q_J (S) a1 3), .long (q_J (S) a1 4)]) ea2 ma2 ka2 rfl (by decide) (c_X4_two c5) (q_cwV X tK_X4_two tM_X1_51 tI_X4_two tV_X4_two tN_X4 rfl rfl tD_X4_two ⟨Nat.le_of_ble_eq_true rfl, Nat.le_of_ble_eq_true rfl⟩) rfl rfl (by first | exact Nat.le_of_ble_eq_true rfl | (simp only [List.map, q_catR]; exact Nat.le_of_ble_eq_true rfl)) ⟨Nat.zero_le _, Nat.zero_le _⟩ dX1_signedTwo_13 ?_
  refine q_iconst X (2) (by decide) dX1_signedTwo_16 ?_
  obtain ⟨a6, ea6, ma6, ka6, h⟩ := q_atE h
  obtain ⟨r7, S8, c9, h⟩ := q_bE h
  refine q_cVI X (As := [.int (r3), .int ((2 : Int32))]) ea6 ma6 ka6 rfl (by decide) (c_X1_seen c9) (q_cwV X tK_X1_seen tM_X1_47 tI_X1_seen tV_X1_seen tN_X1 rfl rfl tD_X1_seen ⟨Nat.le_of_ble_eq_true rfl, Nat.le_of_ble_eq_true rfl⟩) rfl rfl (by first | exact Nat.le_of_ble_eq_true rfl | (simp only [List.map, q_catR]; exact Nat.le_of_ble_eq_true rfl)) ⟨Nat.zero_le _, Nat.zero_le _⟩ dX1_signedTwo_17 ?_
  obtain ⟨r10, S11, c12, h⟩ := q_bE h
  refine q_cSNI X (As := [.int (r7)]) (c_X11_signed c12) (q_cwSN X tK_X11_signed tM_X1_54 tS_X11_signed tN_X11 rfl rfl tD_X11_signed ⟨Nat.le_of_ble_eq_true rfl, Nat.le_of_ble_eq_true rfl⟩) rfl rfl (by first | exact Nat.le_of_ble_eq_true rfl | (simp only [List.map, q_catR]; exact Nat.le_of_ble_eq_true rfl)) ⟨Nat.zero_le _, Nat.zero_le _⟩ dX1_signedTwo_20 ?_
  obtain ⟨ev, eS⟩ := q_end h
  exact q_iret X hr hl rfl ev eS dX1_signedTwo_23
theorem tD_X1_signedTwo : yX1_signedTwo.cls ≠ "java/lang/invoke/MethodHandle" ∧ yX1_signedTwo.cls ≠ "java/lang/invoke/VarHandle" ∧ (parseMethodDescriptor yX1_signedTwo.desc).map (fun d => d.parameters.length) = some 0 := by decide +kernel
theorem c_X1_signedTwo {l : Launch} {D : va_G} {cy : Nat → ClassId} {n : Nat} {S Sv : q_S} {rv : Int32} {o : Nat}  (h : m_X1_signedTwo n S o = some (rv, Sv)) : q_MI l yX1_signedTwo (q_ws yX1_signedTwo cX1_signedTwo 1 ((some .int))) ({ frames := 1, cells := 0, slots := 0, locals := 25 } : Room) D cy [.ref o] S rv Sv := by
  exact q_MI_of (by decide +kernel) (Nat.le_of_ble_eq_true rfl) (fun p e s m args below meth c A X hr hl => w_X1_signedTwo X hr hl h)
/-! TrueOutlines$Data.nextScales()V -/
def m_X1_nextScales_125 (n : Nat) (S : q_S) : Option (Unit × q_S) := some ((), S)
set_option maxHeartbeats 4000000 in
set_option maxRecDepth 100000 in
theorem w_X1_nextScales_125 (X : q_X p s m args c cX1_nextScales 1 RX1 q_T D cy A) (hr : meth.sig.returnType = none) (hl : meth.locks = false)  {n : Nat} {Sv : q_S}  (S : q_S) (h : m_X1_nextScales_125 n S = some ((), Sv)) : q_W p l e ({ frames := 2, cells := 0, slots := 0, locals := 45 } : Room) s m args below meth c (MQ below (va_Qv (fun (u : q_S) => u = Sv) (q_B D cy A) A) args s 0 0 A) A D cy 1 0 0 S 125 [] [] := by
  unfold m_X1_nextScales_125 at h
  obtain ⟨ev, eS⟩ := q_end h
  exact q_vret X hr hl eS dX1_nextScales_125
def m_X1_nextScales (n : Nat) (S : q_S) (o : Nat)  : Option (Unit × q_S) := q_at (S) (some o) 2 (fun a1 => q_let (q_sI (q_sI (S) a1 10 ((16384 : Int32))) a1 11 ((0 : Int32))) (fun S2 => q_let (q_sI (q_sI (S2) a1 12 ((0 : Int32))) a1 13 ((16384 : Int32))) (fun S3 => (if ((q_I (S3) a1 6) &&& (8 : Int32)) = 0 then (if ((q_I (S3) a1 6) &&& (64 : Int32)) = 0 then (if ((q_I (S3) a1 6) &&& (128 : Int32)) = 0 then m_X1_nextScales_125 n (S3) else q_b (m_X1_signedTwo n (S3) a1) (fun r7 S8 => q_at (S8) (some o) 2 (fun a10 => q_b (m_X1_signedTwo n (q_sI (S8) a10 10 (r7)) a10) (fun r11 S12 => q_at (S12) (some o) 2 (fun a14 => q_b (m_X1_signedTwo n (q_sI (S12) a14 11 (r11)) a14) (fun r15 S16 => q_at (S16) (some o) 2 (fun a18 => q_b (m_X1_signedTwo n (q_sI (S16) a18 12 (r15)) a18) (fun r19 S20 => q_at (S20) (some o) 2 (fun a22 => m_X1_nextScales_125 n (q_sI (S20) a22 13 (r19))))))))))) else q_b (m_X1_signedTwo n (S3) a1) (fun r23 S24 => q_at (S24) (some o) 2 (fun a26 => q_b (m_X1_signedTwo n (q_sI (S24) a26 10 (r23)) a26) (fun r27 S28 => q_at (S28) (some o) 2 (fun a30 => m_X1_nextScales_125 n (q_sI (S28) a30 13 (r27))))))) else q_b (m_X1_signedTwo n (S3) a1) (fun r31 S32 => q_at (S32) (some o) 2 (fun a34 => q_let (q_sI (q_sI (S32) a34 10 (r31)) a34 13 (q_I (q_sI (S32) a34 10 (r31)) a34 10)) (fun S35 => m_X1_nextScales_125 n (S35))))))))
set_option maxHeartbeats 4000000 in
set_option maxRecDepth 100000 in
theorem w_X1_nextScales (X : q_X p s m args c cX1_nextScales 1 RX1 q_T D cy A) (hr : meth.sig.returnType = none) (hl : meth.locks = false)  {n : Nat} {S Sv : q_S} {o : Nat}  (h : m_X1_nextScales n S o = some ((), Sv)) : q_W p l e ({ frames := 2, cells := 0, slots := 0, locals := 45 } : Room) s m args below meth c (MQ below (va_Qv (fun (u : q_S) => u = Sv) (q_B D cy A) A) args s 0 0 A) A D cy 1 0 0 S 0 [(0, va_rf (some o))] [] := by
  unfold m_X1_nextScales at h
  refine q_aload_n X 0 rfl dX1_nextScales_0 ?_
  refine q_sipush X (16384) (by decide) dX1_nextScales_1 ?_
  obtain ⟨a1, ea1, ma1, ka1, h⟩ := q_atE h
  refine q_putI X 10 ea1 ma1 ka1 rfl tW_X1 (by decide) (by decide) tF_X1_85 tyX1 tyX1_ok nmX1 rfl (tyX1_ok 10 (by decide)) rfl rfl rfl dX1_nextScales_4 ?_
  have ma1 : a1 ∈ q_L (q_sI (S) a1 10 ((16384 : Int32))) := q_LsI ma1
  have ka1 : q_K (q_sI (S) a1 10 ((16384 : Int32))) a1 = 2 := q_KsI ka1
  refine q_aload_n X 0 rfl dX1_nextScales_7 ?_
  refine q_iconst X (0) (by decide) dX1_nextScales_8 ?_
  refine q_putI X 11 ea1 ma1 ka1 rfl tW_X1 (by decide) (by decide) tF_X1_88 tyX1 tyX1_ok nmX1 rfl (tyX1_ok 11 (by decide)) rfl rfl rfl dX1_nextScales_9 ?_
  have ma1 : a1 ∈ q_L (q_sI (q_sI (S) a1 10 ((16384 : Int32))) a1 11 ((0 : Int32))) := q_LsI ma1
  have ka1 : q_K (q_sI (q_sI (S) a1 10 ((16384 : Int32))) a1 11 ((0 : Int32))) a1 = 2 := q_KsI ka1
  obtain ⟨S2, eS2, h⟩ := q_letE h
  refine q_sub eS2 ?_
  have ma1 : a1 ∈ q_L S2 := by rw [eS2]; exact ma1
  have ka1 : q_K S2 a1 = 2 := by rw [eS2]; exact ka1
  refine q_aload_n X 0 rfl dX1_nextScales_12 ?_
  refine q_iconst X (0) (by decide) dX1_nextScales_13 ?_
  refine q_putI X 12 ea1 ma1 ka1 rfl tW_X1 (by decide) (by decide) tF_X1_91 tyX1 tyX1_ok nmX1 rfl (tyX1_ok 12 (by decide)) rfl rfl rfl dX1_nextScales_14 ?_
  have ma1 : a1 ∈ q_L (q_sI (S2) a1 12 ((0 : Int32))) := q_LsI ma1
  have ka1 : q_K (q_sI (S2) a1 12 ((0 : Int32))) a1 = 2 := q_KsI ka1
  refine q_aload_n X 0 rfl dX1_nextScales_17 ?_
  refine q_sipush X (16384) (by decide) dX1_nextScales_18 ?_
  refine q_putI X 13 ea1 ma1 ka1 rfl tW_X1 (by decide) (by decide) tF_X1_94 tyX1 tyX1_ok nmX1 rfl (tyX1_ok 13 (by decide)) rfl rfl rfl dX1_nextScales_21 ?_
  have ma1 : a1 ∈ q_L (q_sI (q_sI (S2) a1 12 ((0 : Int32))) a1 13 ((16384 : Int32))) := q_LsI ma1
  have ka1 : q_K (q_sI (q_sI (S2) a1 12 ((0 : Int32))) a1 13 ((16384 : Int32))) a1 = 2 := q_KsI ka1
  obtain ⟨S3, eS3, h⟩ := q_letE h
  refine q_sub eS3 ?_
  have ma1 : a1 ∈ q_L S3 := by rw [eS3]; exact ma1
  have ka1 : q_K S3 a1 = 2 := by rw [eS3]; exact ka1
  refine q_aload_n X 0 rfl dX1_nextScales_24 ?_
  refine q_getI X 6 ea1 ma1 ka1 rfl tW_X1 (by decide) (by decide) tF_X1_60 rfl dX1_nextScales_25 ?_
  refine q_bipush X (8) (by decide) dX1_nextScales_28 ?_
  refine q_iand X dX1_nextScales_30 ?_
  refine q_if_eq X 53 (by decide) dX1_nextScales_31 (fun g4 => ?_) (fun g4 => ?_)
  · rw [if_pos g4] at h
    refine q_aload_n X 0 rfl dX1_nextScales_53 ?_
    refine q_getI X 6 ea1 ma1 ka1 rfl tW_X1 (by decide) (by decide) tF_X1_60 rfl dX1_nextScales_54 ?_
    refine q_bipush X (64) (by decide) dX1_nextScales_57 ?_
    refine q_iand X dX1_nextScales_59 ?_
    refine q_if_eq X 82 (by decide) dX1_nextScales_60 (fun g5 => ?_) (fun g5 => ?_)
    · rw [if_pos g5] at h
      refine q_aload_n X 0 rfl dX1_nextScales_82 ?_
      refine q_getI X 6 ea1 ma1 ka1 rfl tW_X1 (by decide) (by decide) tF_X1_60 rfl dX1_nextScales_83 ?_
      refine q_sipush X (128) (by decide) dX1_nextScales_86 ?_
      refine q_iand X dX1_nextScales_89 ?_
      refine q_if_eq X 125 (by decide) dX1_nextScales_90 (fun g6 => ?_) (fun g6 => ?_)
      · rw [if_pos g6] at h
        refine q_lv [] rfl ?_
        exact w_X1_nextScales_125 X hr hl _ h
      · rw [if_neg g6] at h
        refine q_aload_n X 0 rfl dX1_nextScales_93 ?_
        refine q_aload_n X 0 rfl dX1_nextScales_94 ?_
        obtain ⟨r7, S8, c9, h⟩ := q_bE h
        refine q_cVI X (As := []) ea1 ma1 ka1 rfl (by decide) (c_X1_signedTwo c9) (q_cwV X tK_X1_signedTwo tM_X1_29 tI_X1_signedTwo tV_X1_signedTwo tN_X1 rfl rfl tD_X1_signedTwo ⟨Nat.le_of_ble_eq_true rfl, Nat.le_of_ble_eq_true rfl⟩) rfl rfl (by first | exact Nat.le_of_ble_eq_true rfl | (simp only [List.map, q_catR]; exact Nat.le_of_ble_eq_true rfl)) ⟨Nat.zero_le _, Nat.zero_le _⟩ dX1_nextScales_95 ?_
        obtain ⟨a10, ea10, ma10, ka10, h⟩ := q_atE h
        refine q_putI X 10 ea10 ma10 ka10 rfl tW_X1 (by decide) (by decide) tF_X1_85 tyX1 tyX1_ok nmX1 rfl (tyX1_ok 10 (by decide)) rfl rfl rfl dX1_nextScales_98 ?_
        have ma10 : a10 ∈ q_L (q_sI (S8) a10 10 (r7)) := q_LsI ma10
        have ka10 : q_K (q_sI (S8) a10 10 (r7)) a10 = 2 := q_KsI ka10
        refine q_aload_n X 0 rfl dX1_nextScales_101 ?_
        refine q_aload_n X 0 rfl dX1_nextScales_102 ?_
        obtain ⟨r11, S12, c13, h⟩ := q_bE h
        refine q_cVI X (As := []) ea10 ma10 ka10 rfl (by decide) (c_X1_signedTwo c13) (q_cwV X tK_X1_signedTwo tM_X1_29 tI_X1_signedTwo tV_X1_signedTwo tN_X1 rfl rfl tD_X1_signedTwo ⟨Nat.le_of_ble_eq_true rfl, Nat.le_of_ble_eq_true rfl⟩) rfl rfl (by first | exact Nat.le_of_ble_eq_true rfl | (simp only [List.map, q_catR]; exact Nat.le_of_ble_eq_true rfl)) ⟨Nat.zero_le _, Nat.zero_le _⟩ dX1_nextScales_103 ?_
        obtain ⟨a14, ea14, ma14, ka14, h⟩ := q_atE h
        refine q_putI X 11 ea14 ma14 ka14 rfl tW_X1 (by decide) (by decide) tF_X1_88 tyX1 tyX1_ok nmX1 rfl (tyX1_ok 11 (by decide)) rfl rfl rfl dX1_nextScales_106 ?_
        have ma14 : a14 ∈ q_L (q_sI (S12) a14 11 (r11)) := q_LsI ma14
        have ka14 : q_K (q_sI (S12) a14 11 (r11)) a14 = 2 := q_KsI ka14
        refine q_aload_n X 0 rfl dX1_nextScales_109 ?_
        refine q_aload_n X 0 rfl dX1_nextScales_110 ?_
        obtain ⟨r15, S16, c17, h⟩ := q_bE h
        refine q_cVI X (As := []) ea14 ma14 ka14 rfl (by decide) (c_X1_signedTwo c17) (q_cwV X tK_X1_signedTwo tM_X1_29 tI_X1_signedTwo tV_X1_signedTwo tN_X1 rfl rfl tD_X1_signedTwo ⟨Nat.le_of_ble_eq_true rfl, Nat.le_of_ble_eq_true rfl⟩) rfl rfl (by first | exact Nat.le_of_ble_eq_true rfl | (simp only [List.map, q_catR]; exact Nat.le_of_ble_eq_true rfl)) ⟨Nat.zero_le _, Nat.zero_le _⟩ dX1_nextScales_111 ?_
        obtain ⟨a18, ea18, ma18, ka18, h⟩ := q_atE h
        refine q_putI X 12 ea18 ma18 ka18 rfl tW_X1 (by decide) (by decide) tF_X1_91 tyX1 tyX1_ok nmX1 rfl (tyX1_ok 12 (by decide)) rfl rfl rfl dX1_nextScales_114 ?_
        have ma18 : a18 ∈ q_L (q_sI (S16) a18 12 (r15)) := q_LsI ma18
        have ka18 : q_K (q_sI (S16) a18 12 (r15)) a18 = 2 := q_KsI ka18
        refine q_aload_n X 0 rfl dX1_nextScales_117 ?_
        refine q_aload_n X 0 rfl dX1_nextScales_118 ?_
        obtain ⟨r19, S20, c21, h⟩ := q_bE h
        refine q_cVI X (As := []) ea18 ma18 ka18 rfl (by decide) (c_X1_signedTwo c21) (q_cwV X tK_X1_signedTwo tM_X1_29 tI_X1_signedTwo tV_X1_signedTwo tN_X1 rfl rfl tD_X1_signedTwo ⟨Nat.le_of_ble_eq_true rfl, Nat.le_of_ble_eq_true rfl⟩) rfl rfl (by first | exact Nat.le_of_ble_eq_true rfl | (simp only [List.map, q_catR]; exact Nat.le_of_ble_eq_true rfl)) ⟨Nat.zero_le _, Nat.zero_le _⟩ dX1_nextScales_119 ?_
        obtain ⟨a22, ea22, ma22, ka22, h⟩ := q_atE h
        refine q_putI X 13 ea22 ma22 ka22 rfl tW_X1 (by decide) (by decide) tF_X1_94 tyX1 tyX1_ok nmX1 rfl (tyX1_ok 13 (by decide)) rfl rfl rfl dX1_nextScales_122 ?_
        have ma22 : a22 ∈ q_L (q_sI (S20) a22 13 (r19)) := q_LsI ma22
        have ka22 : q_K (q_sI (S20) a22 13 (r19)) a22 = 2 := q_KsI ka22
        refine q_lv [] rfl ?_
        exact w_X1_nextScales_125 X hr hl _ h
    · rw [if_neg g5] at h
      refine q_aload_n X 0 rfl dX1_nextScales_63 ?_
      refine q_aload_n X 0 rfl dX1_nextScales_64 ?_
      obtain ⟨r23, S24, c25, h⟩ := q_bE h
      refine q_cVI X (As := []) ea1 ma1 ka1 rfl (by decide) (c_X1_signedTwo c25) (q_cwV X tK_X1_signedTwo tM_X1_29 tI_X1_signedTwo tV_X1_signedTwo tN_X1 rfl rfl tD_X1_signedTwo ⟨Nat.le_of_ble_eq_true rfl, Nat.le_of_ble_eq_true rfl⟩) rfl rfl (by first | exact Nat.le_of_ble_eq_true rfl | (simp only [List.map, q_catR]; exact Nat.le_of_ble_eq_true rfl)) ⟨Nat.zero_le _, Nat.zero_le _⟩ dX1_nextScales_65 ?_
      obtain ⟨a26, ea26, ma26, ka26, h⟩ := q_atE h
      refine q_putI X 10 ea26 ma26 ka26 rfl tW_X1 (by decide) (by decide) tF_X1_85 tyX1 tyX1_ok nmX1 rfl (tyX1_ok 10 (by decide)) rfl rfl rfl dX1_nextScales_68 ?_
      have ma26 : a26 ∈ q_L (q_sI (S24) a26 10 (r23)) := q_LsI ma26
      have ka26 : q_K (q_sI (S24) a26 10 (r23)) a26 = 2 := q_KsI ka26
      refine q_aload_n X 0 rfl dX1_nextScales_71 ?_
      refine q_aload_n X 0 rfl dX1_nextScales_72 ?_
      obtain ⟨r27, S28, c29, h⟩ := q_bE h
      refine q_cVI X (As := []) ea26 ma26 ka26 rfl (by decide) (c_X1_signedTwo c29) (q_cwV X tK_X1_signedTwo tM_X1_29 tI_X1_signedTwo tV_X1_signedTwo tN_X1 rfl rfl tD_X1_signedTwo ⟨Nat.le_of_ble_eq_true rfl, Nat.le_of_ble_eq_true rfl⟩) rfl rfl (by first | exact Nat.le_of_ble_eq_true rfl | (simp only [List.map, q_catR]; exact Nat.le_of_ble_eq_true rfl)) ⟨Nat.zero_le _, Nat.zero_le _⟩ dX1_nextScales_73 ?_
      obtain ⟨a30, ea30, ma30, ka30, h⟩ := q_atE h
      refine q_putI X 13 ea30 ma30 ka30 rfl tW_X1 (by decide) (by decide) tF_X1_94 tyX1 tyX1_ok nmX1 rfl (tyX1_ok 13 (by decide)) rfl rfl rfl dX1_nextScales_76 ?_
      have ma30 : a30 ∈ q_L (q_sI (S28) a30 13 (r27)) := q_LsI ma30
      have ka30 : q_K (q_sI (S28) a30 13 (r27)) a30 = 2 := q_KsI ka30
      refine q_goto X 125 (by decide) dX1_nextScales_79 ?_
      refine q_lv [] rfl ?_
      exact w_X1_nextScales_125 X hr hl _ h
  · rw [if_neg g4] at h
    refine q_aload_n X 0 rfl dX1_nextScales_34 ?_
    refine q_aload_n X 0 rfl dX1_nextScales_35 ?_
    obtain ⟨r31, S32, c33, h⟩ := q_bE h
    refine q_cVI X (As := []) ea1 ma1 ka1 rfl (by decide) (c_X1_signedTwo c33) (q_cwV X tK_X1_signedTwo tM_X1_29 tI_X1_signedTwo tV_X1_signedTwo tN_X1 rfl rfl tD_X1_signedTwo ⟨Nat.le_of_ble_eq_true rfl, Nat.le_of_ble_eq_true rfl⟩) rfl rfl (by first | exact Nat.le_of_ble_eq_true rfl | (simp only [List.map, q_catR]; exact Nat.le_of_ble_eq_true rfl)) ⟨Nat.zero_le _, Nat.zero_le _⟩ dX1_nextScales_36 ?_
    obtain ⟨a34, ea34, ma34, ka34, h⟩ := q_atE h
    refine q_putI X 10 ea34 ma34 ka34 rfl tW_X1 (by decide) (by decide) tF_X1_85 tyX1 tyX1_ok nmX1 rfl (tyX1_ok 10 (by decide)) rfl rfl rfl dX1_nextScales_39 ?_
    have ma34 : a34 ∈ q_L (q_sI (S32) a34 10 (r31)) := q_LsI ma34
    have ka34 : q_K (q_sI (S32) a34 10 (r31)) a34 = 2 := q_KsI ka34
    refine q_aload_n X 0 rfl dX1_nextScales_42 ?_
    refine q_aload_n X 0 rfl dX1_nextScales_43 ?_
    refine q_getI X 10 ea34 ma34 ka34 rfl tW_X1 (by decide) (by decide) tF_X1_85 rfl dX1_nextScales_44 ?_
    refine q_putI X 13 ea34 ma34 ka34 rfl tW_X1 (by decide) (by decide) tF_X1_94 tyX1 tyX1_ok nmX1 rfl (tyX1_ok 13 (by decide)) rfl rfl rfl dX1_nextScales_47 ?_
    have ma34 : a34 ∈ q_L (q_sI (q_sI (S32) a34 10 (r31)) a34 13 (q_I (q_sI (S32) a34 10 (r31)) a34 10)) := q_LsI ma34
    have ka34 : q_K (q_sI (q_sI (S32) a34 10 (r31)) a34 13 (q_I (q_sI (S32) a34 10 (r31)) a34 10)) a34 = 2 := q_KsI ka34
    obtain ⟨S35, eS35, h⟩ := q_letE h
    refine q_sub eS35 ?_
    have ma34 : a34 ∈ q_L S35 := by rw [eS35]; exact ma34
    have ka34 : q_K S35 a34 = 2 := by rw [eS35]; exact ka34
    refine q_goto X 125 (by decide) dX1_nextScales_50 ?_
    refine q_lv [] rfl ?_
    exact w_X1_nextScales_125 X hr hl _ h
theorem tD_X1_nextScales : yX1_nextScales.cls ≠ "java/lang/invoke/MethodHandle" ∧ yX1_nextScales.cls ≠ "java/lang/invoke/VarHandle" ∧ (parseMethodDescriptor yX1_nextScales.desc).map (fun d => d.parameters.length) = some 0 := by decide +kernel
theorem c_X1_nextScales {l : Launch} {D : va_G} {cy : Nat → ClassId} {n : Nat} {S Sv : q_S} {o : Nat}  (h : m_X1_nextScales n S o = some ((), Sv)) : q_MV l yX1_nextScales (q_ws yX1_nextScales cX1_nextScales 1 (none)) ({ frames := 2, cells := 0, slots := 0, locals := 45 } : Room) D cy [.ref o] S Sv := by
  exact q_MV_of (by decide +kernel) (Nat.le_of_ble_eq_true rfl) (fun p e s m args below meth c A X hr hl => w_X1_nextScales X hr hl h)
/-! TrueOutlines$Data.nextPart()Z -/
def m_X1_nextPart_48 (n : Nat) (S : q_S) (s0 : Int32) : Option (Int32 × q_S) := q_if (s0 = 0 ∨ s0 = 1) (some (s0, S))
set_option maxHeartbeats 4000000 in
set_option maxRecDepth 100000 in
theorem w_X1_nextPart_48 (X : q_X p s m args c cX1_nextPart 1 RX1 q_T D cy A) (hr : meth.sig.returnType = (some .boolean)) (hl : meth.locks = false)  {n : Nat} {Sv : q_S} {rv : Int32}  (S : q_S) (s0 : Int32) (h : m_X1_nextPart_48 n S s0 = some (rv, Sv)) : q_W p l e ({ frames := 3, cells := 0, slots := 0, locals := 68 } : Room) s m args below meth c (MQ below (va_Qi (fun (r : Int32) (u : q_S) => r = rv ∧ u = Sv) (q_B D cy A) A) args s 0 0 A) A D cy 1 0 0 S 48 [] [.int (s0)] := by
  unfold m_X1_nextPart_48 at h
  obtain ⟨g1, h⟩ := q_ifE h
  obtain ⟨ev, eS⟩ := q_end h
  exact q_iret X hr hl (q_bool g1) ev eS dX1_nextPart_48
def m_X1_nextPart (n : Nat) (S : q_S) (o : Nat)  : Option (Int32 × q_S) := q_at (S) (some o) 2 (fun a1 => q_b (m_X1_two n (S) a1) (fun r2 S3 => q_at (S3) (some o) 2 (fun a5 => q_b (m_X1_two n (q_sI (S3) a5 6 (r2)) a5) (fun r6 S7 => q_at (S7) (some o) 2 (fun a9 => q_b (m_X1_nextNumber n (q_sI (S7) a9 7 (r6)) a9) (fun r10 S11 => q_at (S11) (some o) 2 (fun a13 => q_b (m_X1_nextNumber n (q_sI (S11) a13 8 (r10)) a13) (fun r14 S15 => q_at (S15) (some o) 2 (fun a17 => q_b (m_X1_nextScales n (q_sI (S15) a17 9 (r14)) a17) (fun _ S18 => q_at (S18) (some o) 2 (fun a21 => (if (q_I (S18) a21 2) = 0 then m_X1_nextPart_48 n (S18) ((1 : Int32)) else m_X1_nextPart_48 n (S18) ((0 : Int32))))))))))))))
set_option maxHeartbeats 4000000 in
set_option maxRecDepth 100000 in
theorem w_X1_nextPart (X : q_X p s m args c cX1_nextPart 1 RX1 q_T D cy A) (hr : meth.sig.returnType = (some .boolean)) (hl : meth.locks = false)  {n : Nat} {S Sv : q_S} {rv : Int32} {o : Nat}  (h : m_X1_nextPart n S o = some (rv, Sv)) : q_W p l e ({ frames := 3, cells := 0, slots := 0, locals := 68 } : Room) s m args below meth c (MQ below (va_Qi (fun (r : Int32) (u : q_S) => r = rv ∧ u = Sv) (q_B D cy A) A) args s 0 0 A) A D cy 1 0 0 S 0 [(0, va_rf (some o))] [] := by
  unfold m_X1_nextPart at h
  refine q_aload_n X 0 rfl dX1_nextPart_0 ?_
  refine q_aload_n X 0 rfl dX1_nextPart_1 ?_
  obtain ⟨a1, ea1, ma1, ka1, h⟩ := q_atE h
  obtain ⟨r2, S3, c4, h⟩ := q_bE h
  refine q_cVI X (As := []) ea1 ma1 ka1 rfl (by decide) (c_X1_two c4) (q_cwV X tK_X1_two tM_X1_58 tI_X1_two tV_X1_two tN_X1 rfl rfl tD_X1_two ⟨Nat.le_of_ble_eq_true rfl, Nat.le_of_ble_eq_true rfl⟩) rfl rfl (by first | exact Nat.le_of_ble_eq_true rfl | (simp only [List.map, q_catR]; exact Nat.le_of_ble_eq_true rfl)) ⟨Nat.zero_le _, Nat.zero_le _⟩ dX1_nextPart_2 ?_
  obtain ⟨a5, ea5, ma5, ka5, h⟩ := q_atE h
  refine q_putI X 6 ea5 ma5 ka5 rfl tW_X1 (by decide) (by decide) tF_X1_60 tyX1 tyX1_ok nmX1 rfl (tyX1_ok 6 (by decide)) rfl rfl rfl dX1_nextPart_5 ?_
  have ma5 : a5 ∈ q_L (q_sI (S3) a5 6 (r2)) := q_LsI ma5
  have ka5 : q_K (q_sI (S3) a5 6 (r2)) a5 = 2 := q_KsI ka5
  refine q_aload_n X 0 rfl dX1_nextPart_8 ?_
  refine q_aload_n X 0 rfl dX1_nextPart_9 ?_
  obtain ⟨r6, S7, c8, h⟩ := q_bE h
  refine q_cVI X (As := []) ea5 ma5 ka5 rfl (by decide) (c_X1_two c8) (q_cwV X tK_X1_two tM_X1_58 tI_X1_two tV_X1_two tN_X1 rfl rfl tD_X1_two ⟨Nat.le_of_ble_eq_true rfl, Nat.le_of_ble_eq_true rfl⟩) rfl rfl (by first | exact Nat.le_of_ble_eq_true rfl | (simp only [List.map, q_catR]; exact Nat.le_of_ble_eq_true rfl)) ⟨Nat.zero_le _, Nat.zero_le _⟩ dX1_nextPart_10 ?_
  obtain ⟨a9, ea9, ma9, ka9, h⟩ := q_atE h
  refine q_putI X 7 ea9 ma9 ka9 rfl tW_X1 (by decide) (by decide) tF_X1_63 tyX1 tyX1_ok nmX1 rfl (tyX1_ok 7 (by decide)) rfl rfl rfl dX1_nextPart_13 ?_
  have ma9 : a9 ∈ q_L (q_sI (S7) a9 7 (r6)) := q_LsI ma9
  have ka9 : q_K (q_sI (S7) a9 7 (r6)) a9 = 2 := q_KsI ka9
  refine q_aload_n X 0 rfl dX1_nextPart_16 ?_
  refine q_aload_n X 0 rfl dX1_nextPart_17 ?_
  obtain ⟨r10, S11, c12, h⟩ := q_bE h
  refine q_cVI X (As := []) ea9 ma9 ka9 rfl (by decide) (c_X1_nextNumber c12) (q_cwV X tK_X1_nextNumber tM_X1_66 tI_X1_nextNumber tV_X1_nextNumber tN_X1 rfl rfl tD_X1_nextNumber ⟨Nat.le_of_ble_eq_true rfl, Nat.le_of_ble_eq_true rfl⟩) rfl rfl (by first | exact Nat.le_of_ble_eq_true rfl | (simp only [List.map, q_catR]; exact Nat.le_of_ble_eq_true rfl)) ⟨Nat.zero_le _, Nat.zero_le _⟩ dX1_nextPart_18 ?_
  obtain ⟨a13, ea13, ma13, ka13, h⟩ := q_atE h
  refine q_putI X 8 ea13 ma13 ka13 rfl tW_X1 (by decide) (by decide) tF_X1_69 tyX1 tyX1_ok nmX1 rfl (tyX1_ok 8 (by decide)) rfl rfl rfl dX1_nextPart_21 ?_
  have ma13 : a13 ∈ q_L (q_sI (S11) a13 8 (r10)) := q_LsI ma13
  have ka13 : q_K (q_sI (S11) a13 8 (r10)) a13 = 2 := q_KsI ka13
  refine q_aload_n X 0 rfl dX1_nextPart_24 ?_
  refine q_aload_n X 0 rfl dX1_nextPart_25 ?_
  obtain ⟨r14, S15, c16, h⟩ := q_bE h
  refine q_cVI X (As := []) ea13 ma13 ka13 rfl (by decide) (c_X1_nextNumber c16) (q_cwV X tK_X1_nextNumber tM_X1_66 tI_X1_nextNumber tV_X1_nextNumber tN_X1 rfl rfl tD_X1_nextNumber ⟨Nat.le_of_ble_eq_true rfl, Nat.le_of_ble_eq_true rfl⟩) rfl rfl (by first | exact Nat.le_of_ble_eq_true rfl | (simp only [List.map, q_catR]; exact Nat.le_of_ble_eq_true rfl)) ⟨Nat.zero_le _, Nat.zero_le _⟩ dX1_nextPart_26 ?_
  obtain ⟨a17, ea17, ma17, ka17, h⟩ := q_atE h
  refine q_putI X 9 ea17 ma17 ka17 rfl tW_X1 (by decide) (by decide) tF_X1_72 tyX1 tyX1_ok nmX1 rfl (tyX1_ok 9 (by decide)) rfl rfl rfl dX1_nextPart_29 ?_
  have ma17 : a17 ∈ q_L (q_sI (S15) a17 9 (r14)) := q_LsI ma17
  have ka17 : q_K (q_sI (S15) a17 9 (r14)) a17 = 2 := q_KsI ka17
  refine q_aload_n X 0 rfl dX1_nextPart_32 ?_
  obtain ⟨u20, S18, c19, h⟩ := q_bE h
  refine q_cVV X (As := []) ea17 ma17 ka17 rfl (by decide) (c_X1_nextScales c19) (q_cwV X tK_X1_nextScales tM_X1_75 tI_X1_nextScales tV_X1_nextScales tN_X1 rfl rfl tD_X1_nextScales ⟨Nat.le_of_ble_eq_true rfl, Nat.le_of_ble_eq_true rfl⟩) rfl rfl (by first | exact Nat.le_of_ble_eq_true rfl | (simp only [List.map, q_catR]; exact Nat.le_of_ble_eq_true rfl)) ⟨Nat.zero_le _, Nat.zero_le _⟩ dX1_nextPart_33 ?_
  refine q_aload_n X 0 rfl dX1_nextPart_36 ?_
  obtain ⟨a21, ea21, ma21, ka21, h⟩ := q_atE h
  refine q_getI X 2 ea21 ma21 ka21 rfl tW_X1 (by decide) (by decide) tF_X1_19 rfl dX1_nextPart_37 ?_
  refine q_if_ne X 47 (by decide) dX1_nextPart_40 (fun g22 => ?_) (fun g22 => ?_)
  · rw [if_neg g22] at h
    refine q_iconst X (0) (by decide) dX1_nextPart_47 ?_
    refine q_lv [] rfl ?_
    exact w_X1_nextPart_48 X hr hl _ _ h
  · rw [if_pos g22] at h
    refine q_iconst X (1) (by decide) dX1_nextPart_43 ?_
    refine q_goto X 48 (by decide) dX1_nextPart_44 ?_
    refine q_lv [] rfl ?_
    exact w_X1_nextPart_48 X hr hl _ _ h
theorem tD_X1_nextPart : yX1_nextPart.cls ≠ "java/lang/invoke/MethodHandle" ∧ yX1_nextPart.cls ≠ "java/lang/invoke/VarHandle" ∧ (parseMethodDescriptor yX1_nextPart.desc).map (fun d => d.parameters.length) = some 0 := by decide +kernel
theorem c_X1_nextPart {l : Launch} {D : va_G} {cy : Nat → ClassId} {n : Nat} {S Sv : q_S} {rv : Int32} {o : Nat}  (h : m_X1_nextPart n S o = some (rv, Sv)) : q_MI l yX1_nextPart (q_ws yX1_nextPart cX1_nextPart 1 ((some .boolean))) ({ frames := 3, cells := 0, slots := 0, locals := 68 } : Room) D cy [.ref o] S rv Sv := by
  exact q_MI_of (by decide +kernel) (Nat.le_of_ble_eq_true rfl) (fun p e s m args below meth c A X hr hl => w_X1_nextPart X hr hl h)
/-! TrueOutlines$Data.skip(I)V -/
def m_X1_skip_36 (n : Nat) (S : q_S) (s0 : Int32) (s1 : Option Nat) : Option (Unit × q_S) := q_at (S) (s1) 2 (fun a1 => q_if (s0 = 0 ∨ s0 = 1) (some ((), q_sI (S) a1 2 (s0))))
set_option maxHeartbeats 4000000 in
set_option maxRecDepth 100000 in
theorem w_X1_skip_36 (X : q_X p s m args c cX1_skip 2 RX1 q_T D cy A) (hr : meth.sig.returnType = none) (hl : meth.locks = false)  {n : Nat} {Sv : q_S}  (S : q_S) (s0 : Int32) (s1 : Option Nat) (h : m_X1_skip_36 n S s0 s1 = some ((), Sv)) : q_W p l e ({ frames := 0, cells := 0, slots := 0, locals := 0 } : Room) s m args below meth c (MQ below (va_Qv (fun (u : q_S) => u = Sv) (q_B D cy A) A) args s 0 0 A) A D cy 2 0 0 S 36 [] [.int (s0), va_rf (s1)] := by
  unfold m_X1_skip_36 at h
  obtain ⟨a1, ea1, ma1, ka1, h⟩ := q_atE h
  obtain ⟨g2, h⟩ := q_ifE h
  refine q_putI X 2 ea1 ma1 ka1 rfl tW_X1 (by decide) (by decide) tF_X1_19 tyX1 tyX1_ok nmX1 rfl (tyX1_ok 2 (by decide)) (q_bool g2) (q_boolF g2) rfl dX1_skip_36 ?_
  have ma1 : a1 ∈ q_L (q_sI (S) a1 2 (s0)) := q_LsI ma1
  have ka1 : q_K (q_sI (S) a1 2 (s0)) a1 = 2 := q_KsI ka1
  obtain ⟨ev, eS⟩ := q_end h
  exact q_vret X hr hl eS dX1_skip_39
def m_X1_skip_31 (n : Nat) (S : q_S) (s0 : Option Nat) : Option (Unit × q_S) := m_X1_skip_36 n (S) ((1 : Int32)) (s0)
set_option maxHeartbeats 4000000 in
set_option maxRecDepth 100000 in
theorem w_X1_skip_31 (X : q_X p s m args c cX1_skip 2 RX1 q_T D cy A) (hr : meth.sig.returnType = none) (hl : meth.locks = false)  {n : Nat} {Sv : q_S}  (S : q_S) (s0 : Option Nat) (h : m_X1_skip_31 n S s0 = some ((), Sv)) : q_W p l e ({ frames := 0, cells := 0, slots := 0, locals := 0 } : Room) s m args below meth c (MQ below (va_Qv (fun (u : q_S) => u = Sv) (q_B D cy A) A) args s 0 0 A) A D cy 2 0 0 S 31 [] [va_rf (s0)] := by
  unfold m_X1_skip_31 at h
  refine q_iconst X (1) (by decide) dX1_skip_31 ?_
  refine q_goto X 36 (by decide) dX1_skip_32 ?_
  exact w_X1_skip_36 X hr hl _ _ _ h
def m_X1_skip (n : Nat) (S : q_S) (o : Nat) (p0 : Int32) : Option (Unit × q_S) := q_at (S) (some o) 2 (fun a1 => (if (q_I (q_sJ (S) a1 3 ((q_J (S) a1 3) + (p0.toInt64))) a1 2) = 0 then (if (lg_cmp ((q_J (q_sJ (S) a1 3 ((q_J (S) a1 3) + (p0.toInt64))) a1 3)) ((q_J (q_sJ (S) a1 3 ((q_J (S) a1 3) + (p0.toInt64))) a1 4))) ≤ 0 then m_X1_skip_36 n (q_sJ (S) a1 3 ((q_J (S) a1 3) + (p0.toInt64))) ((0 : Int32)) (some o) else m_X1_skip_31 n (q_sJ (S) a1 3 ((q_J (S) a1 3) + (p0.toInt64))) (some o)) else m_X1_skip_31 n (q_sJ (S) a1 3 ((q_J (S) a1 3) + (p0.toInt64))) (some o)))
set_option maxHeartbeats 4000000 in
set_option maxRecDepth 100000 in
theorem w_X1_skip (X : q_X p s m args c cX1_skip 2 RX1 q_T D cy A) (hr : meth.sig.returnType = none) (hl : meth.locks = false)  {n : Nat} {S Sv : q_S} {o : Nat} {p0 : Int32} (h : m_X1_skip n S o p0 = some ((), Sv)) : q_W p l e ({ frames := 0, cells := 0, slots := 0, locals := 0 } : Room) s m args below meth c (MQ below (va_Qv (fun (u : q_S) => u = Sv) (q_B D cy A) A) args s 0 0 A) A D cy 2 0 0 S 0 [(0, va_rf (some o)), (1, .int (p0))] [] := by
  unfold m_X1_skip at h
  refine q_aload_n X 0 rfl dX1_skip_0 ?_
  refine q_dup X (q_catR _) dX1_skip_1 ?_
  obtain ⟨a1, ea1, ma1, ka1, h⟩ := q_atE h
  refine q_getJ X 3 ea1 ma1 ka1 rfl tW_X1 (by decide) (by decide) tF_X1_22 rfl dX1_skip_2 ?_
  refine q_iload_n X 1 rfl dX1_skip_5 ?_
  refine q_i2l X dX1_skip_6 ?_
  refine q_ladd X dX1_skip_7 ?_
  refine q_putJ X 3 ea1 ma1 ka1 rfl tW_X1 (by decide) (by decide) tF_X1_22 tyX1 tyX1_ok nmX1 rfl (tyX1_ok 3 (by decide)) rfl rfl rfl dX1_skip_8 ?_
  have ma1 : a1 ∈ q_L (q_sJ (S) a1 3 ((q_J (S) a1 3) + (p0.toInt64))) := q_LsJ ma1
  have ka1 : q_K (q_sJ (S) a1 3 ((q_J (S) a1 3) + (p0.toInt64))) a1 = 2 := q_KsJ ka1
  refine q_aload_n X 0 rfl dX1_skip_11 ?_
  refine q_aload_n X 0 rfl dX1_skip_12 ?_
  refine q_getI X 2 ea1 ma1 ka1 rfl tW_X1 (by decide) (by decide) tF_X1_19 rfl dX1_skip_13 ?_
  refine q_if_ne X 31 (by decide) dX1_skip_16 (fun g2 => ?_) (fun g2 => ?_)
  · rw [if_neg g2] at h
    refine q_lv [] rfl ?_
    exact w_X1_skip_31 X hr hl _ _ h
  · rw [if_pos g2] at h
    refine q_aload_n X 0 rfl dX1_skip_19 ?_
    refine q_getJ X 3 ea1 ma1 ka1 rfl tW_X1 (by decide) (by decide) tF_X1_22 rfl dX1_skip_20 ?_
    refine q_aload_n X 0 rfl dX1_skip_23 ?_
    refine q_getJ X 4 ea1 ma1 ka1 rfl tW_X1 (by decide) (by decide) tF_X1_26 rfl dX1_skip_24 ?_
    refine q_lcmp X dX1_skip_27 ?_
    refine q_if_le X 35 (by decide) dX1_skip_28 (fun g3 => ?_) (fun g3 => ?_)
    · rw [if_pos g3] at h
      refine q_iconst X (0) (by decide) dX1_skip_35 ?_
      refine q_lv [] rfl ?_
      exact w_X1_skip_36 X hr hl _ _ _ h
    · rw [if_neg g3] at h
      refine q_lv [] rfl ?_
      exact w_X1_skip_31 X hr hl _ _ h
theorem tD_X1_skip : yX1_skip.cls ≠ "java/lang/invoke/MethodHandle" ∧ yX1_skip.cls ≠ "java/lang/invoke/VarHandle" ∧ (parseMethodDescriptor yX1_skip.desc).map (fun d => d.parameters.length) = some 1 := by decide +kernel
theorem c_X1_skip {l : Launch} {D : va_G} {cy : Nat → ClassId} {n : Nat} {S Sv : q_S} {o : Nat} {p0 : Int32} (h : m_X1_skip n S o p0 = some ((), Sv)) : q_MV l yX1_skip (q_ws yX1_skip cX1_skip 2 (none)) ({ frames := 0, cells := 0, slots := 0, locals := 0 } : Room) D cy [.ref o, .int (p0)] S Sv := by
  exact q_MV_of (by decide +kernel) (Nat.le_of_ble_eq_true rfl) (fun p e s m args below meth c A X hr hl => w_X1_skip X hr hl h)
/-! TrueOutlines$Data.open(ZJJ)V -/
def m_X1_open (n : Nat) (S : q_S) (o : Nat) (p0 : Int32) (p1 : Int64) (p2 : Int64) : Option (Unit × q_S) := q_at (S) (some o) 2 (fun a1 => q_if (p0 = 0 ∨ p0 = 1) (q_if ((0 : Int32) = 0 ∨ (0 : Int32) = 1) (q_let (q_sI (q_sI (S) a1 1 (p0)) a1 2 ((0 : Int32))) (fun S4 => q_let (q_sJ (q_sJ (S4) a1 3 (p1)) a1 4 (p2)) (fun S5 => q_b (m_X1_signedTwo n (S5) a1) (fun r6 S7 => q_at (S7) (some o) 2 (fun a9 => q_b (m_X1_skip n (q_sI (S7) a9 5 (r6)) a9 ((8 : Int32))) (fun _ S10 => some ((), S10)))))))))
set_option maxHeartbeats 4000000 in
set_option maxRecDepth 100000 in
theorem w_X1_open (X : q_X p s m args c cX1_open 6 RX1 q_T D cy A) (hr : meth.sig.returnType = none) (hl : meth.locks = false)  {n : Nat} {S Sv : q_S} {o : Nat} {p0 : Int32} {p1 : Int64} {p2 : Int64} (h : m_X1_open n S o p0 p1 p2 = some ((), Sv)) : q_W p l e ({ frames := 2, cells := 0, slots := 0, locals := 45 } : Room) s m args below meth c (MQ below (va_Qv (fun (u : q_S) => u = Sv) (q_B D cy A) A) args s 0 0 A) A D cy 6 0 0 S 0 [(0, va_rf (some o)), (1, .int (p0)), (2, .long (p1)), (4, .long (p2))] [] := by
  unfold m_X1_open at h
  refine q_aload_n X 0 rfl dX1_open_0 ?_
  refine q_iload_n X 1 rfl dX1_open_1 ?_
  obtain ⟨a1, ea1, ma1, ka1, h⟩ := q_atE h
  obtain ⟨g2, h⟩ := q_ifE h
  refine q_putI X 1 ea1 ma1 ka1 rfl tW_X1 (by decide) (by decide) tF_X1_15 tyX1 tyX1_ok nmX1 rfl (tyX1_ok 1 (by decide)) (q_bool g2) (q_boolF g2) rfl dX1_open_2 ?_
  have ma1 : a1 ∈ q_L (q_sI (S) a1 1 (p0)) := q_LsI ma1
  have ka1 : q_K (q_sI (S) a1 1 (p0)) a1 = 2 := q_KsI ka1
  refine q_aload_n X 0 rfl dX1_open_5 ?_
  refine q_iconst X (0) (by decide) dX1_open_6 ?_
  obtain ⟨g3, h⟩ := q_ifE h
  refine q_putI X 2 ea1 ma1 ka1 rfl tW_X1 (by decide) (by decide) tF_X1_19 tyX1 tyX1_ok nmX1 rfl (tyX1_ok 2 (by decide)) (q_bool g3) (q_boolF g3) rfl dX1_open_7 ?_
  have ma1 : a1 ∈ q_L (q_sI (q_sI (S) a1 1 (p0)) a1 2 ((0 : Int32))) := q_LsI ma1
  have ka1 : q_K (q_sI (q_sI (S) a1 1 (p0)) a1 2 ((0 : Int32))) a1 = 2 := q_KsI ka1
  obtain ⟨S4, eS4, h⟩ := q_letE h
  refine q_sub eS4 ?_
  have ma1 : a1 ∈ q_L S4 := by rw [eS4]; exact ma1
  have ka1 : q_K S4 a1 = 2 := by rw [eS4]; exact ka1
  refine q_aload_n X 0 rfl dX1_open_10 ?_
  refine q_lload_n X 2 rfl dX1_open_11 ?_
  refine q_putJ X 3 ea1 ma1 ka1 rfl tW_X1 (by decide) (by decide) tF_X1_22 tyX1 tyX1_ok nmX1 rfl (tyX1_ok 3 (by decide)) rfl rfl rfl dX1_open_12 ?_
  have ma1 : a1 ∈ q_L (q_sJ (S4) a1 3 (p1)) := q_LsJ ma1
  have ka1 : q_K (q_sJ (S4) a1 3 (p1)) a1 = 2 := q_KsJ ka1
  refine q_aload_n X 0 rfl dX1_open_15 ?_
  refine q_lload X 3 rfl dX1_open_16 ?_
  refine q_putJ X 4 ea1 ma1 ka1 rfl tW_X1 (by decide) (by decide) tF_X1_26 tyX1 tyX1_ok nmX1 rfl (tyX1_ok 4 (by decide)) rfl rfl rfl dX1_open_18 ?_
  have ma1 : a1 ∈ q_L (q_sJ (q_sJ (S4) a1 3 (p1)) a1 4 (p2)) := q_LsJ ma1
  have ka1 : q_K (q_sJ (q_sJ (S4) a1 3 (p1)) a1 4 (p2)) a1 = 2 := q_KsJ ka1
  obtain ⟨S5, eS5, h⟩ := q_letE h
  refine q_sub eS5 ?_
  have ma1 : a1 ∈ q_L S5 := by rw [eS5]; exact ma1
  have ka1 : q_K S5 a1 = 2 := by rw [eS5]; exact ka1
  refine q_aload_n X 0 rfl dX1_open_21 ?_
  refine q_aload_n X 0 rfl dX1_open_22 ?_
  obtain ⟨r6, S7, c8, h⟩ := q_bE h
  refine q_cVI X (As := []) ea1 ma1 ka1 rfl (by decide) (c_X1_signedTwo c8) (q_cwV X tK_X1_signedTwo tM_X1_29 tI_X1_signedTwo tV_X1_signedTwo tN_X1 rfl rfl tD_X1_signedTwo ⟨Nat.le_of_ble_eq_true rfl, Nat.le_of_ble_eq_true rfl⟩) rfl rfl (by first | exact Nat.le_of_ble_eq_true rfl | (simp only [List.map, q_catR]; exact Nat.le_of_ble_eq_true rfl)) ⟨Nat.zero_le _, Nat.zero_le _⟩ dX1_open_23 ?_
  obtain ⟨a9, ea9, ma9, ka9, h⟩ := q_atE h
  refine q_putI X 5 ea9 ma9 ka9 rfl tW_X1 (by decide) (by decide) tF_X1_33 tyX1 tyX1_ok nmX1 rfl (tyX1_ok 5 (by decide)) rfl rfl rfl dX1_open_26 ?_
  have ma9 : a9 ∈ q_L (q_sI (S7) a9 5 (r6)) := q_LsI ma9
  have ka9 : q_K (q_sI (S7) a9 5 (r6)) a9 = 2 := q_KsI ka9
  refine q_aload_n X 0 rfl dX1_open_29 ?_
  refine q_bipush X (8) (by decide) dX1_open_30 ?_
  obtain ⟨u12, S10, c11, h⟩ := q_bE h
  refine q_cVV X (As := [.int ((8 : Int32))]) ea9 ma9 ka9 rfl (by decide) (c_X1_skip c11) (q_cwV X tK_X1_skip tM_X1_37 tI_X1_skip tV_X1_skip tN_X1 rfl rfl tD_X1_skip ⟨Nat.le_of_ble_eq_true rfl, Nat.le_of_ble_eq_true rfl⟩) rfl rfl (by first | exact Nat.le_of_ble_eq_true rfl | (simp only [List.map, q_catR]; exact Nat.le_of_ble_eq_true rfl)) ⟨Nat.zero_le _, Nat.zero_le _⟩ dX1_open_32 ?_
  obtain ⟨ev, eS⟩ := q_end h
  exact q_vret X hr hl eS dX1_open_35
theorem tD_X1_open : yX1_open.cls ≠ "java/lang/invoke/MethodHandle" ∧ yX1_open.cls ≠ "java/lang/invoke/VarHandle" ∧ (parseMethodDescriptor yX1_open.desc).map (fun d => d.parameters.length) = some 3 := by decide +kernel
theorem c_X1_open {l : Launch} {D : va_G} {cy : Nat → ClassId} {n : Nat} {S Sv : q_S} {o : Nat} {p0 : Int32} {p1 : Int64} {p2 : Int64} (h : m_X1_open n S o p0 p1 p2 = some ((), Sv)) : q_MV l yX1_open (q_ws yX1_open cX1_open 6 (none)) ({ frames := 2, cells := 0, slots := 0, locals := 45 } : Room) D cy [.ref o, .int (p0), .long (p1), .long (p2)] S Sv := by
  exact q_MV_of (by decide +kernel) (Nat.le_of_ble_eq_true rfl) (fun p e s m args below meth c A X hr hl => w_X1_open X hr hl h)
/-! TrueOutlines$Signs.open(ILTrueOutlines$Data;)V -/
def m_X6_open_89 (n : Nat) (S : q_S) : Option (Unit × q_S) := some ((), S)
set_option maxHeartbeats 4000000 in
set_option maxRecDepth 100000 in
theorem w_X6_open_89 (X : q_X p s m args c cX6_open 7 RX6 q_T D cy A) (hr : meth.sig.returnType = none) (hl : meth.locks = false)  {n : Nat} {Sv : q_S}  (S : q_S) (h : m_X6_open_89 n S = some ((), Sv)) : q_W p l e ({ frames := 3, cells := 0, slots := 0, locals := 71 } : Room) s m args below meth c (MQ below (va_Qv (fun (u : q_S) => u = Sv) (q_B D cy A) A) args s 0 0 A) A D cy 7 0 0 S 89 [] [] := by
  unfold m_X6_open_89 at h
  obtain ⟨ev, eS⟩ := q_end h
  exact q_vret X hr hl eS dX6_open_89
def m_X6_open_32 (n : Nat) (S : q_S) (l2 : Option Nat) : Option (Unit × q_S) := q_at (S) (l2) 2 (fun a1 => q_b (m_X1_open n (S) a1 ((0 : Int32)) ((0 : Int64)) ((0 : Int64))) (fun _ S2 => m_X6_open_89 n (S2)))
set_option maxHeartbeats 4000000 in
set_option maxRecDepth 100000 in
theorem w_X6_open_32 (X : q_X p s m args c cX6_open 7 RX6 q_T D cy A) (hr : meth.sig.returnType = none) (hl : meth.locks = false)  {n : Nat} {Sv : q_S}  (S : q_S) (l2 : Option Nat) (h : m_X6_open_32 n S l2 = some ((), Sv)) : q_W p l e ({ frames := 3, cells := 0, slots := 0, locals := 71 } : Room) s m args below meth c (MQ below (va_Qv (fun (u : q_S) => u = Sv) (q_B D cy A) A) args s 0 0 A) A D cy 7 0 0 S 32 [(2, va_rf (l2))] [] := by
  unfold m_X6_open_32 at h
  refine q_aload_n X 0 rfl dX6_open_32 ?_
  refine q_iconst X (0) (by decide) dX6_open_33 ?_
  refine q_lconst X (0) (by decide) dX6_open_34 ?_
  refine q_lconst X (0) (by decide) dX6_open_35 ?_
  obtain ⟨a1, ea1, ma1, ka1, h⟩ := q_atE h
  obtain ⟨u4, S2, c3, h⟩ := q_bE h
  refine q_cVV X (As := [.int ((0 : Int32)), .long ((0 : Int64)), .long ((0 : Int64))]) ea1 ma1 ka1 rfl (by decide) (c_X1_open c3) (q_cwV X tK_X1_open tM_X6_101 tI_X1_open tV_X1_open tN_X1 rfl rfl tD_X1_open ⟨Nat.le_of_ble_eq_true rfl, Nat.le_of_ble_eq_true rfl⟩) rfl rfl (by first | exact Nat.le_of_ble_eq_true rfl | (simp only [List.map, q_catR]; exact Nat.le_of_ble_eq_true rfl)) ⟨Nat.zero_le _, Nat.zero_le _⟩ dX6_open_36 ?_
  refine q_goto X 89 (by decide) dX6_open_39 ?_
  refine q_lv [] rfl ?_
  exact w_X6_open_89 X hr hl _ h
def m_X6_open_55 (n : Nat) (S : q_S) (l0 : Option Nat) (l3 : Int64) (l5 : Int64) (s0 : Int32) (s1 : Option Nat) : Option (Unit × q_S) := q_at (S) (l0) 7 (fun a1 => q_at (S) (q_R (S) a1 9) 8 (fun a2 => q_b (m_X7_end n (S) a2) (fun r3 S4 => q_b (m_J9_min_f86c9 n (S4) (((q_I (S) a2 3).toInt64) + l5) (r3)) (fun r6 S7 => q_at (S7) (s1) 2 (fun a9 => q_b (m_X1_open n (S7) a9 (s0) (((q_I (S) a2 3).toInt64) + l3) (r6)) (fun _ S10 => m_X6_open_89 n (S10)))))))
set_option maxHeartbeats 4000000 in
set_option maxRecDepth 100000 in
theorem w_X6_open_55 (X : q_X p s m args c cX6_open 7 RX6 q_T D cy A) (hr : meth.sig.returnType = none) (hl : meth.locks = false)  {n : Nat} {Sv : q_S}  (S : q_S) (l0 : Option Nat) (l3 : Int64) (l5 : Int64) (s0 : Int32) (s1 : Option Nat) (h : m_X6_open_55 n S l0 l3 l5 s0 s1 = some ((), Sv)) : q_W p l e ({ frames := 3, cells := 0, slots := 0, locals := 71 } : Room) s m args below meth c (MQ below (va_Qv (fun (u : q_S) => u = Sv) (q_B D cy A) A) args s 0 0 A) A D cy 7 0 0 S 55 [(0, va_rf (l0)), (3, .long (l3)), (5, .long (l5))] [.int (s0), va_rf (s1)] := by
  unfold m_X6_open_55 at h
  refine q_aload_n X 0 rfl dX6_open_55 ?_
  obtain ⟨a1, ea1, ma1, ka1, h⟩ := q_atE h
  refine q_getR X 9 ea1 ma1 ka1 rfl tW_X6 (by decide) (by decide) tF_X6_41 rfl dX6_open_56 ?_
  obtain ⟨a2, ea2, ma2, ka2, h⟩ := q_atE h
  refine q_getIN X 3 ea2 ma2 ka2 rfl tW_X7 (by decide) (by decide) "TrueOutlines" tF_X6_105 rfl dX6_open_59 ?_
  refine q_i2l X dX6_open_62 ?_
  refine q_lload_n X 1 rfl dX6_open_63 ?_
  refine q_ladd X dX6_open_64 ?_
  refine q_aload_n X 0 rfl dX6_open_65 ?_
  refine q_getR X 9 ea1 ma1 ka1 rfl tW_X6 (by decide) (by decide) tF_X6_41 rfl dX6_open_66 ?_
  refine q_getIN X 3 ea2 ma2 ka2 rfl tW_X7 (by decide) (by decide) "TrueOutlines" tF_X6_105 rfl dX6_open_69 ?_
  refine q_i2l X dX6_open_72 ?_
  refine q_lload X 2 rfl dX6_open_73 ?_
  refine q_ladd X dX6_open_75 ?_
  refine q_aload_n X 0 rfl dX6_open_76 ?_
  refine q_getR X 9 ea1 ma1 ka1 rfl tW_X6 (by decide) (by decide) tF_X6_41 rfl dX6_open_77 ?_
  obtain ⟨r3, S4, c5, h⟩ := q_bE h
  refine q_cVJ X (As := []) ea2 ma2 ka2 rfl (by decide) (c_X7_end c5) (q_cwV X tK_X7_end tM_X6_108 tI_X7_end tV_X7_end tN_X7 rfl rfl tD_X7_end ⟨Nat.le_of_ble_eq_true rfl, Nat.le_of_ble_eq_true rfl⟩) rfl rfl (by first | exact Nat.le_of_ble_eq_true rfl | (simp only [List.map, q_catR]; exact Nat.le_of_ble_eq_true rfl)) ⟨Nat.zero_le _, Nat.zero_le _⟩ dX6_open_80 ?_
  obtain ⟨r6, S7, c8, h⟩ := q_bE h
  refine q_cSJ X (As := [.long (((q_I (S) a2 3).toInt64) + l5), .long (r3)]) (c_J9_min_f86c9 c8) (q_cwS X tK_J9_min_f86c9 tM_X6_112 tS_J9_min_f86c9 tN_J9 rfl rfl tD_J9_min_f86c9 ⟨Nat.le_of_ble_eq_true rfl, Nat.le_of_ble_eq_true rfl⟩) rfl rfl (by first | exact Nat.le_of_ble_eq_true rfl | (simp only [List.map, q_catR]; exact Nat.le_of_ble_eq_true rfl)) ⟨Nat.zero_le _, Nat.zero_le _⟩ dX6_open_83 ?_
  obtain ⟨a9, ea9, ma9, ka9, h⟩ := q_atE h
  obtain ⟨u12, S10, c11, h⟩ := q_bE h
  refine q_cVV X (As := [.int (s0), .long (((q_I (S) a2 3).toInt64) + l3), .long (r6)]) ea9 ma9 ka9 rfl (by decide) (c_X1_open c11) (q_cwV X tK_X1_open tM_X6_101 tI_X1_open tV_X1_open tN_X1 rfl rfl tD_X1_open ⟨Nat.le_of_ble_eq_true rfl, Nat.le_of_ble_eq_true rfl⟩) rfl rfl (by first | exact Nat.le_of_ble_eq_true rfl | (simp only [List.map, q_catR]; exact Nat.le_of_ble_eq_true rfl)) ⟨Nat.zero_le _, Nat.zero_le _⟩ dX6_open_86 ?_
  refine q_lv [] rfl ?_
  exact w_X6_open_89 X hr hl _ h
def m_X6_open (n : Nat) (S : q_S) (o : Nat) (p0 : Int32) (p1 : Option Nat) : Option (Unit × q_S) := q_at (S) (some o) 7 (fun a1 => q_b (m_X6_placeAt n (S) a1 (p0)) (fun r2 S3 => q_at (S3) (some o) 7 (fun a5 => q_b (m_X6_placeAt n (S3) a5 (p0 + (1 : Int32))) (fun r6 S7 => (if (lg_cmp (r2) ((-1 : Int64))) = 0 then m_X6_open_32 n (S7) (p1) else (if (lg_cmp (r6) ((-1 : Int64))) = 0 then m_X6_open_32 n (S7) (p1) else (if (lg_cmp (r2) (r6)) = 0 then m_X6_open_55 n (S7) (some o) (r2) (r6) ((1 : Int32)) (p1) else m_X6_open_55 n (S7) (some o) (r2) (r6) ((0 : Int32)) (p1))))))))
set_option maxHeartbeats 4000000 in
set_option maxRecDepth 100000 in
theorem w_X6_open (X : q_X p s m args c cX6_open 7 RX6 q_T D cy A) (hr : meth.sig.returnType = none) (hl : meth.locks = false)  {n : Nat} {S Sv : q_S} {o : Nat} {p0 : Int32} {p1 : Option Nat} (h : m_X6_open n S o p0 p1 = some ((), Sv)) : q_W p l e ({ frames := 3, cells := 0, slots := 0, locals := 71 } : Room) s m args below meth c (MQ below (va_Qv (fun (u : q_S) => u = Sv) (q_B D cy A) A) args s 0 0 A) A D cy 7 0 0 S 0 [(0, va_rf (some o)), (1, .int (p0)), (2, va_rf (p1))] [] := by
  unfold m_X6_open at h
  refine q_aload_n X 0 rfl dX6_open_0 ?_
  refine q_iload_n X 1 rfl dX6_open_1 ?_
  obtain ⟨a1, ea1, ma1, ka1, h⟩ := q_atE h
  obtain ⟨r2, S3, c4, h⟩ := q_bE h
  refine q_cVJ X (As := [.int (p0)]) ea1 ma1 ka1 rfl (by decide) (c_X6_placeAt c4) (q_cwV X tK_X6_placeAt tM_X6_97 tI_X6_placeAt tV_X6_placeAt tN_X6 rfl rfl tD_X6_placeAt ⟨Nat.le_of_ble_eq_true rfl, Nat.le_of_ble_eq_true rfl⟩) rfl rfl (by first | exact Nat.le_of_ble_eq_true rfl | (simp only [List.map, q_catR]; exact Nat.le_of_ble_eq_true rfl)) ⟨Nat.zero_le _, Nat.zero_le _⟩ dX6_open_2 ?_
  refine q_lstore_n X 3 [(3, .long (r2)), (0, va_rf (some o)), (1, .int (p0)), (2, va_rf (p1))] rfl (by decide) (by first | rfl | simp [List.filter, q_catR]) dX6_open_5 ?_
  refine q_aload_n X 1 rfl dX6_open_6 ?_
  refine q_iload_n X 2 rfl dX6_open_7 ?_
  refine q_iconst X (1) (by decide) dX6_open_8 ?_
  refine q_iadd X dX6_open_9 ?_
  obtain ⟨a5, ea5, ma5, ka5, h⟩ := q_atE h
  obtain ⟨r6, S7, c8, h⟩ := q_bE h
  refine q_cVJ X (As := [.int (p0 + (1 : Int32))]) ea5 ma5 ka5 rfl (by decide) (c_X6_placeAt c8) (q_cwV X tK_X6_placeAt tM_X6_97 tI_X6_placeAt tV_X6_placeAt tN_X6 rfl rfl tD_X6_placeAt ⟨Nat.le_of_ble_eq_true rfl, Nat.le_of_ble_eq_true rfl⟩) rfl rfl (by first | exact Nat.le_of_ble_eq_true rfl | (simp only [List.map, q_catR]; exact Nat.le_of_ble_eq_true rfl)) ⟨Nat.zero_le _, Nat.zero_le _⟩ dX6_open_10 ?_
  refine q_lstore X 5 [(5, .long (r6)), (3, .long (r2)), (0, va_rf (some o)), (1, .int (p0)), (2, va_rf (p1))] (by decide) (by first | rfl | simp [List.filter, q_catR]) dX6_open_13 ?_
  refine q_lload_n X 1 rfl dX6_open_15 ?_
  refine q_ldc2_w X (-1) tC_X6_95 dX6_open_16 ?_
  refine q_lcmp X dX6_open_19 ?_
  refine q_if_eq X 32 (by decide) dX6_open_20 (fun g9 => ?_) (fun g9 => ?_)
  · rw [if_pos g9] at h
    refine q_lv [4] rfl ?_
    exact w_X6_open_32 X hr hl _ _ h
  · rw [if_neg g9] at h
    refine q_lload X 0 rfl dX6_open_23 ?_
    refine q_ldc2_w X (-1) tC_X6_95 dX6_open_25 ?_
    refine q_lcmp X dX6_open_28 ?_
    refine q_if_ne X 42 (by decide) dX6_open_29 (fun g10 => ?_) (fun g10 => ?_)
    · rw [if_neg g10] at h
      refine q_aload_n X 4 rfl dX6_open_42 ?_
      refine q_lload_n X 1 rfl dX6_open_43 ?_
      refine q_lload X 0 rfl dX6_open_44 ?_
      refine q_lcmp X dX6_open_46 ?_
      refine q_if_ne X 54 (by decide) dX6_open_47 (fun g11 => ?_) (fun g11 => ?_)
      · rw [if_neg g11] at h
        refine q_iconst X (0) (by decide) dX6_open_54 ?_
        refine q_lv [2, 1, 0] rfl ?_
        exact w_X6_open_55 X hr hl _ _ _ _ _ _ h
      · rw [if_pos g11] at h
        refine q_iconst X (1) (by decide) dX6_open_50 ?_
        refine q_goto X 55 (by decide) dX6_open_51 ?_
        refine q_lv [2, 1, 0] rfl ?_
        exact w_X6_open_55 X hr hl _ _ _ _ _ _ h
    · rw [if_pos g10] at h
      refine q_lv [4] rfl ?_
      exact w_X6_open_32 X hr hl _ _ h
theorem tD_X6_open : yX6_open.cls ≠ "java/lang/invoke/MethodHandle" ∧ yX6_open.cls ≠ "java/lang/invoke/VarHandle" ∧ (parseMethodDescriptor yX6_open.desc).map (fun d => d.parameters.length) = some 2 := by decide +kernel
theorem c_X6_open {l : Launch} {D : va_G} {cy : Nat → ClassId} {n : Nat} {S Sv : q_S} {o : Nat} {p0 : Int32} {p1 : Option Nat} (h : m_X6_open n S o p0 p1 = some ((), Sv)) : q_MV l yX6_open (q_ws yX6_open cX6_open 7 (none)) ({ frames := 3, cells := 0, slots := 0, locals := 71 } : Room) D cy [.ref o, .int (p0), va_rf (p1)] S Sv := by
  cases p1 <;> exact q_MV_of (by decide +kernel) (Nat.le_of_ble_eq_true rfl) (fun p e s m args below meth c A X hr hl => w_X6_open X hr hl h)
/-! TrueOutlines$Signs.markPartsOf(I)V -/
def m_X6_markPartsOf_29 (n : Nat) (S : q_S) : Option (Unit × q_S) := some ((), S)
set_option maxHeartbeats 4000000 in
set_option maxRecDepth 100000 in
theorem w_X6_markPartsOf_29 (X : q_X p s m args c cX6_markPartsOf 4 RX6 q_T D cy A) (hr : meth.sig.returnType = none) (hl : meth.locks = false)  {n : Nat} {Sv : q_S}  (S : q_S) (h : m_X6_markPartsOf_29 n S = some ((), Sv)) : q_W p l e ({ frames := 4, cells := 0, slots := 0, locals := 97 } : Room) s m args below meth c (MQ below (va_Qv (fun (u : q_S) => u = Sv) (q_B D cy A) A) args s 0 0 A) A D cy 4 0 0 S 29 [] [] := by
  unfold m_X6_markPartsOf_29 at h
  obtain ⟨ev, eS⟩ := q_end h
  exact q_vret X hr hl eS dX6_markPartsOf_29
def m_X6_markPartsOf_80 (n : Nat) (S : q_S) : Option (Unit × q_S) := some ((), S)
set_option maxHeartbeats 4000000 in
set_option maxRecDepth 100000 in
theorem w_X6_markPartsOf_80 (X : q_X p s m args c cX6_markPartsOf 4 RX6 q_T D cy A) (hr : meth.sig.returnType = none) (hl : meth.locks = false)  {n : Nat} {Sv : q_S}  (S : q_S) (h : m_X6_markPartsOf_80 n S = some ((), Sv)) : q_W p l e ({ frames := 4, cells := 0, slots := 0, locals := 97 } : Room) s m args below meth c (MQ below (va_Qv (fun (u : q_S) => u = Sv) (q_B D cy A) A) args s 0 0 A) A D cy 4 0 0 S 80 [] [] := by
  unfold m_X6_markPartsOf_80 at h
  obtain ⟨ev, eS⟩ := q_end h
  exact q_vret X hr hl eS dX6_markPartsOf_80
def m_X6_markPartsOf_34 (n : Nat) : Nat → q_S → Option Nat → Int32 → Int32 → Option (Unit × q_S)
  | 0, _, _, _, _ => none
  | k + 1, S, l0, l2, l3 => (if (1600 : Int32) ≤ l3 then m_X6_markPartsOf_80 n (S) else (if l2 = 0 then m_X6_markPartsOf_80 n (S) else q_at (S) (l0) 7 (fun a3 => q_at (S) (q_R (S) a3 1) 2 (fun a4 => q_b (m_X1_nextPart n (S) a4) (fun r5 S6 => (if r5 = 0 then m_X6_markPartsOf_80 n (S6) else q_at (S6) (l0) 7 (fun a9 => q_at (S6) (q_R (S6) a9 1) 2 (fun a10 => q_b (m_X6_mark n (S6) a9 (q_I (S6) a10 7)) (fun _ S11 => q_at (S11) (l0) 7 (fun a14 => q_at (S11) (q_R (S11) a14 1) 2 (fun a15 => q_b (m_X1_hasMore n (S11) a15) (fun r16 S17 => m_X6_markPartsOf_34 n k (S17) (l0) (r16) (l3 + (1))))))))))))))
set_option maxHeartbeats 4000000 in
set_option maxRecDepth 100000 in
theorem w_X6_markPartsOf_34 (X : q_X p s m args c cX6_markPartsOf 4 RX6 q_T D cy A) (hr : meth.sig.returnType = none) (hl : meth.locks = false)  {n : Nat} {Sv : q_S}  : ∀ (k : Nat) (S : q_S) (l0 : Option Nat) (l2 : Int32) (l3 : Int32), m_X6_markPartsOf_34 n k S l0 l2 l3 = some ((), Sv) → q_W p l e ({ frames := 4, cells := 0, slots := 0, locals := 97 } : Room) s m args below meth c (MQ below (va_Qv (fun (u : q_S) => u = Sv) (q_B D cy A) A) args s 0 0 A) A D cy 4 0 0 S 34 [(0, va_rf (l0)), (2, .int (l2)), (3, .int (l3))] [] := by
  intro k
  induction k with
  | zero => intro S l0 l2 l3 h; rw [m_X6_markPartsOf_34] at h; cases h
  | succ k ih =>
    intro S l0 l2 l3 h
    rw [m_X6_markPartsOf_34] at h
    refine q_iload_n X 2 rfl dX6_markPartsOf_34 ?_
    refine q_sipush X (1600) (by decide) dX6_markPartsOf_35 ?_
    refine q_icmp_ge X 80 (by decide) dX6_markPartsOf_38 (fun g1 => ?_) (fun g1 => ?_)
    · rw [if_pos g1] at h
      refine q_lv [] rfl ?_
      exact w_X6_markPartsOf_80 X hr hl _ h
    · rw [if_neg g1] at h
      refine q_iload_n X 1 rfl dX6_markPartsOf_41 ?_
      refine q_if_eq X 80 (by decide) dX6_markPartsOf_42 (fun g2 => ?_) (fun g2 => ?_)
      · rw [if_pos g2] at h
        refine q_lv [] rfl ?_
        exact w_X6_markPartsOf_80 X hr hl _ h
      · rw [if_neg g2] at h
        refine q_aload_n X 0 rfl dX6_markPartsOf_45 ?_
        obtain ⟨a3, ea3, ma3, ka3, h⟩ := q_atE h
        refine q_getR X 1 ea3 ma3 ka3 rfl tW_X6 (by decide) (by decide) tF_X6_28 rfl dX6_markPartsOf_46 ?_
        obtain ⟨a4, ea4, ma4, ka4, h⟩ := q_atE h
        obtain ⟨r5, S6, c7, h⟩ := q_bE h
        refine q_cVI X (As := []) ea4 ma4 ka4 rfl (by decide) (c_X1_nextPart c7) (q_cwV X tK_X1_nextPart tM_X6_139 tI_X1_nextPart tV_X1_nextPart tN_X1 rfl rfl tD_X1_nextPart ⟨Nat.le_of_ble_eq_true rfl, Nat.le_of_ble_eq_true rfl⟩) rfl rfl (by first | exact Nat.le_of_ble_eq_true rfl | (simp only [List.map, q_catR]; exact Nat.le_of_ble_eq_true rfl)) ⟨Nat.zero_le _, Nat.zero_le _⟩ dX6_markPartsOf_49 ?_
        refine q_if_eq X 80 (by decide) dX6_markPartsOf_52 (fun g8 => ?_) (fun g8 => ?_)
        · rw [if_pos g8] at h
          refine q_lv [] rfl ?_
          exact w_X6_markPartsOf_80 X hr hl _ h
        · rw [if_neg g8] at h
          refine q_aload_n X 0 rfl dX6_markPartsOf_55 ?_
          refine q_aload_n X 0 rfl dX6_markPartsOf_56 ?_
          obtain ⟨a9, ea9, ma9, ka9, h⟩ := q_atE h
          refine q_getR X 1 ea9 ma9 ka9 rfl tW_X6 (by decide) (by decide) tF_X6_28 rfl dX6_markPartsOf_57 ?_
          obtain ⟨a10, ea10, ma10, ka10, h⟩ := q_atE h
          refine q_getIN X 7 ea10 ma10 ka10 rfl tW_X1 (by decide) (by decide) "TrueOutlines" tF_X6_142 rfl dX6_markPartsOf_60 ?_
          obtain ⟨u13, S11, c12, h⟩ := q_bE h
          refine q_cVV X (As := [.int (q_I (S6) a10 7)]) ea9 ma9 ka9 rfl (by decide) (c_X6_mark c12) (q_cwV X tK_X6_mark tM_X6_122 tI_X6_mark tV_X6_mark tN_X6 rfl rfl tD_X6_mark ⟨Nat.le_of_ble_eq_true rfl, Nat.le_of_ble_eq_true rfl⟩) rfl rfl (by first | exact Nat.le_of_ble_eq_true rfl | (simp only [List.map, q_catR]; exact Nat.le_of_ble_eq_true rfl)) ⟨Nat.zero_le _, Nat.zero_le _⟩ dX6_markPartsOf_63 ?_
          refine q_aload_n X 0 rfl dX6_markPartsOf_66 ?_
          obtain ⟨a14, ea14, ma14, ka14, h⟩ := q_atE h
          refine q_getR X 1 ea14 ma14 ka14 rfl tW_X6 (by decide) (by decide) tF_X6_28 rfl dX6_markPartsOf_67 ?_
          obtain ⟨a15, ea15, ma15, ka15, h⟩ := q_atE h
          obtain ⟨r16, S17, c18, h⟩ := q_bE h
          refine q_cVI X (As := []) ea15 ma15 ka15 rfl (by decide) (c_X1_hasMore c18) (q_cwV X tK_X1_hasMore tM_X6_145 tI_X1_hasMore tV_X1_hasMore tN_X1 rfl rfl tD_X1_hasMore ⟨Nat.le_of_ble_eq_true rfl, Nat.le_of_ble_eq_true rfl⟩) rfl rfl (by first | exact Nat.le_of_ble_eq_true rfl | (simp only [List.map, q_catR]; exact Nat.le_of_ble_eq_true rfl)) ⟨Nat.zero_le _, Nat.zero_le _⟩ dX6_markPartsOf_70 ?_
          refine q_istore_n X 2 [(2, .int (r16)), (0, va_rf (l0)), (3, .int (l3))] rfl (by decide) (by first | rfl | simp [List.filter, q_catR]) dX6_markPartsOf_73 ?_
          refine q_iinc X 3 2 (l3 + (1)) [(3, .int (l3 + (1))), (2, .int (r16)), (0, va_rf (l0))] rfl (congrArg (fun z => l3 + z) (show Int32.ofInt (1) = (1) by decide)) (by decide) (by first | rfl | simp [List.filter, q_catR]) dX6_markPartsOf_74 ?_
          refine q_goto X 34 (by decide) dX6_markPartsOf_77 ?_
          refine q_lv [2, 1, 0] rfl ?_
          exact ih _ _ _ _ h
def m_X6_markPartsOf (n : Nat) (S : q_S) (o : Nat) (p0 : Int32) : Option (Unit × q_S) := q_at (S) (some o) 7 (fun a1 => q_b (m_X6_open n (S) a1 (p0) (q_R (S) a1 1)) (fun _ S2 => q_at (S2) (some o) 7 (fun a5 => q_at (S2) (q_R (S2) a5 1) 2 (fun a6 => q_b (m_X1_isEmpty n (S2) a6) (fun r7 S8 => (if r7 = 0 then q_at (S8) (some o) 7 (fun a11 => q_at (S8) (q_R (S8) a11 1) 2 (fun a12 => q_b (m_X1_hasParts n (S8) a12) (fun r13 S14 => (if r13 = 0 then m_X6_markPartsOf_29 n (S14) else m_X6_markPartsOf_34 n n (S14) (some o) ((1 : Int32)) ((0 : Int32)))))) else m_X6_markPartsOf_29 n (S8)))))))
set_option maxHeartbeats 4000000 in
set_option maxRecDepth 100000 in
theorem w_X6_markPartsOf (X : q_X p s m args c cX6_markPartsOf 4 RX6 q_T D cy A) (hr : meth.sig.returnType = none) (hl : meth.locks = false)  {n : Nat} {S Sv : q_S} {o : Nat} {p0 : Int32} (h : m_X6_markPartsOf n S o p0 = some ((), Sv)) : q_W p l e ({ frames := 4, cells := 0, slots := 0, locals := 97 } : Room) s m args below meth c (MQ below (va_Qv (fun (u : q_S) => u = Sv) (q_B D cy A) A) args s 0 0 A) A D cy 4 0 0 S 0 [(0, va_rf (some o)), (1, .int (p0))] [] := by
  unfold m_X6_markPartsOf at h
  refine q_aload_n X 0 rfl dX6_markPartsOf_0 ?_
  refine q_iload_n X 1 rfl dX6_markPartsOf_1 ?_
  refine q_aload_n X 0 rfl dX6_markPartsOf_2 ?_
  obtain ⟨a1, ea1, ma1, ka1, h⟩ := q_atE h
  refine q_getR X 1 ea1 ma1 ka1 rfl tW_X6 (by decide) (by decide) tF_X6_28 rfl dX6_markPartsOf_3 ?_
  obtain ⟨u4, S2, c3, h⟩ := q_bE h
  refine q_cVV X (As := [.int (p0), va_rf (q_R (S) a1 1)]) ea1 ma1 ka1 rfl (by decide) (c_X6_open c3) (q_cwV X tK_X6_open tM_X6_129 tI_X6_open tV_X6_open tN_X6 rfl rfl tD_X6_open ⟨Nat.le_of_ble_eq_true rfl, Nat.le_of_ble_eq_true rfl⟩) rfl rfl (by first | exact Nat.le_of_ble_eq_true rfl | (simp only [List.map, q_catR]; exact Nat.le_of_ble_eq_true rfl)) ⟨Nat.zero_le _, Nat.zero_le _⟩ dX6_markPartsOf_6 ?_
  refine q_aload_n X 0 rfl dX6_markPartsOf_9 ?_
  obtain ⟨a5, ea5, ma5, ka5, h⟩ := q_atE h
  refine q_getR X 1 ea5 ma5 ka5 rfl tW_X6 (by decide) (by decide) tF_X6_28 rfl dX6_markPartsOf_10 ?_
  obtain ⟨a6, ea6, ma6, ka6, h⟩ := q_atE h
  obtain ⟨r7, S8, c9, h⟩ := q_bE h
  refine q_cVI X (As := []) ea6 ma6 ka6 rfl (by decide) (c_X1_isEmpty c9) (q_cwV X tK_X1_isEmpty tM_X6_132 tI_X1_isEmpty tV_X1_isEmpty tN_X1 rfl rfl tD_X1_isEmpty ⟨Nat.le_of_ble_eq_true rfl, Nat.le_of_ble_eq_true rfl⟩) rfl rfl (by first | exact Nat.le_of_ble_eq_true rfl | (simp only [List.map, q_catR]; exact Nat.le_of_ble_eq_true rfl)) ⟨Nat.zero_le _, Nat.zero_le _⟩ dX6_markPartsOf_13 ?_
  refine q_if_ne X 29 (by decide) dX6_markPartsOf_16 (fun g10 => ?_) (fun g10 => ?_)
  · rw [if_neg g10] at h
    refine q_lv [] rfl ?_
    exact w_X6_markPartsOf_29 X hr hl _ h
  · rw [if_pos g10] at h
    refine q_aload_n X 0 rfl dX6_markPartsOf_19 ?_
    obtain ⟨a11, ea11, ma11, ka11, h⟩ := q_atE h
    refine q_getR X 1 ea11 ma11 ka11 rfl tW_X6 (by decide) (by decide) tF_X6_28 rfl dX6_markPartsOf_20 ?_
    obtain ⟨a12, ea12, ma12, ka12, h⟩ := q_atE h
    obtain ⟨r13, S14, c15, h⟩ := q_bE h
    refine q_cVI X (As := []) ea12 ma12 ka12 rfl (by decide) (c_X1_hasParts c15) (q_cwV X tK_X1_hasParts tM_X6_136 tI_X1_hasParts tV_X1_hasParts tN_X1 rfl rfl tD_X1_hasParts ⟨Nat.le_of_ble_eq_true rfl, Nat.le_of_ble_eq_true rfl⟩) rfl rfl (by first | exact Nat.le_of_ble_eq_true rfl | (simp only [List.map, q_catR]; exact Nat.le_of_ble_eq_true rfl)) ⟨Nat.zero_le _, Nat.zero_le _⟩ dX6_markPartsOf_23 ?_
    refine q_if_ne X 30 (by decide) dX6_markPartsOf_26 (fun g16 => ?_) (fun g16 => ?_)
    · rw [if_neg g16] at h
      refine q_iconst X (1) (by decide) dX6_markPartsOf_30 ?_
      refine q_istore_n X 2 [(2, .int ((1 : Int32))), (0, va_rf (some o)), (1, .int (p0))] rfl (by decide) (by first | rfl | simp [List.filter, q_catR]) dX6_markPartsOf_31 ?_
      refine q_iconst X (0) (by decide) dX6_markPartsOf_32 ?_
      refine q_istore_n X 3 [(3, .int ((0 : Int32))), (2, .int ((1 : Int32))), (0, va_rf (some o)), (1, .int (p0))] rfl (by decide) (by first | rfl | simp [List.filter, q_catR]) dX6_markPartsOf_33 ?_
      refine q_lv [2, 1, 0] rfl ?_
      exact w_X6_markPartsOf_34 X hr hl n _ _ _ _ h
    · rw [if_pos g16] at h
      refine q_lv [] rfl ?_
      exact w_X6_markPartsOf_29 X hr hl _ h
theorem tD_X6_markPartsOf : yX6_markPartsOf.cls ≠ "java/lang/invoke/MethodHandle" ∧ yX6_markPartsOf.cls ≠ "java/lang/invoke/VarHandle" ∧ (parseMethodDescriptor yX6_markPartsOf.desc).map (fun d => d.parameters.length) = some 1 := by decide +kernel
theorem c_X6_markPartsOf {l : Launch} {D : va_G} {cy : Nat → ClassId} {n : Nat} {S Sv : q_S} {o : Nat} {p0 : Int32} (h : m_X6_markPartsOf n S o p0 = some ((), Sv)) : q_MV l yX6_markPartsOf (q_ws yX6_markPartsOf cX6_markPartsOf 4 (none)) ({ frames := 4, cells := 0, slots := 0, locals := 97 } : Room) D cy [.ref o, .int (p0)] S Sv := by
  exact q_MV_of (by decide +kernel) (Nat.le_of_ble_eq_true rfl) (fun p e s m args below meth c A X hr hl => w_X6_markPartsOf X hr hl h)
end MM
