section MM
variable {p : Program} {l : Launch} {e : Env} {s : State} {m : MethodId} {args : Array Value} {below : List Frame} {meth : Method} {c : Code} {A : Nat → Prop} {D : va_G} {cy : Nat → ClassId}
/-! TrueOutlinesModel.argument(II)I -/
def m_X12_argument_87 (n : Nat) (S : q_S) (s0 : Int32) : Option (Int32 × q_S) := some (s0, S)
set_option maxHeartbeats 4000000 in
set_option maxRecDepth 100000 in
theorem w_X12_argument_87 (X : q_X p s m args c cX12_argument 5 RX12 q_T D cy A) (hr : meth.sig.returnType = (some .int)) (hl : meth.locks = false)  {n : Nat} {Sv : q_S} {rv : Int32}  (S : q_S) (s0 : Int32) (h : m_X12_argument_87 n S s0 = some (rv, Sv)) : q_W p l e ({ frames := 2, cells := 0, slots := 0, locals := 49 } : Room) s m args below meth c (MQ below (va_Qi (fun (r : Int32) (u : q_S) => r = rv ∧ u = Sv) (q_B D cy A) A) args s 0 0 A) A D cy 5 0 0 S 87 [] [.int (s0)] := by
  unfold m_X12_argument_87 at h
  obtain ⟨ev, eS⟩ := q_end h
  exact q_iret X hr hl rfl ev eS dX12_argument_87
def m_X12_argument_86 (n : Nat) (S : q_S) (l3 : Int32) : Option (Int32 × q_S) := m_X12_argument_87 n (S) (l3)
set_option maxHeartbeats 4000000 in
set_option maxRecDepth 100000 in
theorem w_X12_argument_86 (X : q_X p s m args c cX12_argument 5 RX12 q_T D cy A) (hr : meth.sig.returnType = (some .int)) (hl : meth.locks = false)  {n : Nat} {Sv : q_S} {rv : Int32}  (S : q_S) (l3 : Int32) (h : m_X12_argument_86 n S l3 = some (rv, Sv)) : q_W p l e ({ frames := 2, cells := 0, slots := 0, locals := 49 } : Room) s m args below meth c (MQ below (va_Qi (fun (r : Int32) (u : q_S) => r = rv ∧ u = Sv) (q_B D cy A) A) args s 0 0 A) A D cy 5 0 0 S 86 [(3, .int (l3))] [] := by
  unfold m_X12_argument_86 at h
  refine q_iload_n X 0 rfl dX12_argument_86 ?_
  refine q_lv [] rfl ?_
  exact w_X12_argument_87 X hr hl _ _ h
def m_X12_argument_82 (n : Nat) (S : q_S) (s0 : Int32) (s1 : Int32) : Option (Int32 × q_S) := m_X12_argument_87 n (S) (s1 - s0)
set_option maxHeartbeats 4000000 in
set_option maxRecDepth 100000 in
theorem w_X12_argument_82 (X : q_X p s m args c cX12_argument 5 RX12 q_T D cy A) (hr : meth.sig.returnType = (some .int)) (hl : meth.locks = false)  {n : Nat} {Sv : q_S} {rv : Int32}  (S : q_S) (s0 : Int32) (s1 : Int32) (h : m_X12_argument_82 n S s0 s1 = some (rv, Sv)) : q_W p l e ({ frames := 2, cells := 0, slots := 0, locals := 49 } : Room) s m args below meth c (MQ below (va_Qi (fun (r : Int32) (u : q_S) => r = rv ∧ u = Sv) (q_B D cy A) A) args s 0 0 A) A D cy 5 0 0 S 82 [] [.int (s0), .int (s1)] := by
  unfold m_X12_argument_82 at h
  refine q_isub X dX12_argument_82 ?_
  refine q_goto X 87 (by decide) dX12_argument_83 ?_
  exact w_X12_argument_87 X hr hl _ _ h
def m_X12_argument_54 (n : Nat) (S : q_S) (l2 : Int32) (l3 : Int32) (s0 : Int32) : Option (Int32 × q_S) := (if (l2 &&& (2 : Int32)) = 0 then m_X12_argument_86 n (S) (l3) else (if s0 = 0 then m_X12_argument_86 n (S) (l3) else (if (l2 &&& (1 : Int32)) = 0 then m_X12_argument_82 n (S) ((256 : Int32)) (l3) else m_X12_argument_82 n (S) ((65536 : Int32)) (l3))))
set_option maxHeartbeats 4000000 in
set_option maxRecDepth 100000 in
theorem w_X12_argument_54 (X : q_X p s m args c cX12_argument 5 RX12 q_T D cy A) (hr : meth.sig.returnType = (some .int)) (hl : meth.locks = false)  {n : Nat} {Sv : q_S} {rv : Int32}  (S : q_S) (l2 : Int32) (l3 : Int32) (s0 : Int32) (h : m_X12_argument_54 n S l2 l3 s0 = some (rv, Sv)) : q_W p l e ({ frames := 2, cells := 0, slots := 0, locals := 49 } : Room) s m args below meth c (MQ below (va_Qi (fun (r : Int32) (u : q_S) => r = rv ∧ u = Sv) (q_B D cy A) A) args s 0 0 A) A D cy 5 0 0 S 54 [(2, .int (l2)), (3, .int (l3))] [.int (s0)] := by
  unfold m_X12_argument_54 at h
  refine q_istore X 4 [(4, .int (s0)), (2, .int (l2)), (3, .int (l3))] (by decide) (by first | rfl | simp [List.filter, q_catR]) dX12_argument_54 ?_
  refine q_iload_n X 1 rfl dX12_argument_56 ?_
  refine q_iconst X (2) (by decide) dX12_argument_57 ?_
  refine q_iand X dX12_argument_58 ?_
  refine q_if_eq X 86 (by decide) dX12_argument_59 (fun g1 => ?_) (fun g1 => ?_)
  · rw [if_pos g1] at h
    refine q_lv [2] rfl ?_
    exact w_X12_argument_86 X hr hl _ _ h
  · rw [if_neg g1] at h
    refine q_iload X 0 rfl dX12_argument_62 ?_
    refine q_if_eq X 86 (by decide) dX12_argument_64 (fun g2 => ?_) (fun g2 => ?_)
    · rw [if_pos g2] at h
      refine q_lv [2] rfl ?_
      exact w_X12_argument_86 X hr hl _ _ h
    · rw [if_neg g2] at h
      refine q_iload_n X 2 rfl dX12_argument_67 ?_
      refine q_iload_n X 1 rfl dX12_argument_68 ?_
      refine q_iconst X (1) (by decide) dX12_argument_69 ?_
      refine q_iand X dX12_argument_70 ?_
      refine q_if_eq X 79 (by decide) dX12_argument_71 (fun g3 => ?_) (fun g3 => ?_)
      · rw [if_pos g3] at h
        refine q_sipush X (256) (by decide) dX12_argument_79 ?_
        refine q_lv [] rfl ?_
        exact w_X12_argument_82 X hr hl _ _ _ h
      · rw [if_neg g3] at h
        refine q_ldc X (65536) tC_X12_124 dX12_argument_74 ?_
        refine q_goto X 82 (by decide) dX12_argument_76 ?_
        refine q_lv [] rfl ?_
        exact w_X12_argument_82 X hr hl _ _ _ h
def m_X12_argument_21 (n : Nat) (S : q_S) (l2 : Int32) (s0 : Int32) : Option (Int32 × q_S) := (if (l2 &&& (1 : Int32)) = 0 then (if s0 ≤ (127 : Int32) then m_X12_argument_54 n (S) (l2) (s0) ((0 : Int32)) else m_X12_argument_54 n (S) (l2) (s0) ((1 : Int32))) else (if s0 ≤ (32767 : Int32) then m_X12_argument_54 n (S) (l2) (s0) ((0 : Int32)) else m_X12_argument_54 n (S) (l2) (s0) ((1 : Int32))))
set_option maxHeartbeats 4000000 in
set_option maxRecDepth 100000 in
theorem w_X12_argument_21 (X : q_X p s m args c cX12_argument 5 RX12 q_T D cy A) (hr : meth.sig.returnType = (some .int)) (hl : meth.locks = false)  {n : Nat} {Sv : q_S} {rv : Int32}  (S : q_S) (l2 : Int32) (s0 : Int32) (h : m_X12_argument_21 n S l2 s0 = some (rv, Sv)) : q_W p l e ({ frames := 2, cells := 0, slots := 0, locals := 49 } : Room) s m args below meth c (MQ below (va_Qi (fun (r : Int32) (u : q_S) => r = rv ∧ u = Sv) (q_B D cy A) A) args s 0 0 A) A D cy 5 0 0 S 21 [(2, .int (l2))] [.int (s0)] := by
  unfold m_X12_argument_21 at h
  refine q_istore_n X 3 [(3, .int (s0)), (2, .int (l2))] rfl (by decide) (by first | rfl | simp [List.filter, q_catR]) dX12_argument_21 ?_
  refine q_iload_n X 1 rfl dX12_argument_22 ?_
  refine q_iconst X (1) (by decide) dX12_argument_23 ?_
  refine q_iand X dX12_argument_24 ?_
  refine q_if_eq X 43 (by decide) dX12_argument_25 (fun g1 => ?_) (fun g1 => ?_)
  · rw [if_pos g1] at h
    refine q_iload_n X 0 rfl dX12_argument_43 ?_
    refine q_bipush X (127) (by decide) dX12_argument_44 ?_
    refine q_icmp_le X 53 (by decide) dX12_argument_46 (fun g2 => ?_) (fun g2 => ?_)
    · rw [if_pos g2] at h
      refine q_iconst X (0) (by decide) dX12_argument_53 ?_
      refine q_lv [1, 0] rfl ?_
      exact w_X12_argument_54 X hr hl _ _ _ _ h
    · rw [if_neg g2] at h
      refine q_iconst X (1) (by decide) dX12_argument_49 ?_
      refine q_goto X 54 (by decide) dX12_argument_50 ?_
      refine q_lv [1, 0] rfl ?_
      exact w_X12_argument_54 X hr hl _ _ _ _ h
  · rw [if_neg g1] at h
    refine q_iload_n X 0 rfl dX12_argument_28 ?_
    refine q_sipush X (32767) (by decide) dX12_argument_29 ?_
    refine q_icmp_le X 39 (by decide) dX12_argument_32 (fun g3 => ?_) (fun g3 => ?_)
    · rw [if_pos g3] at h
      refine q_iconst X (0) (by decide) dX12_argument_39 ?_
      refine q_goto X 54 (by decide) dX12_argument_40 ?_
      refine q_lv [1, 0] rfl ?_
      exact w_X12_argument_54 X hr hl _ _ _ _ h
    · rw [if_neg g3] at h
      refine q_iconst X (1) (by decide) dX12_argument_35 ?_
      refine q_goto X 54 (by decide) dX12_argument_36 ?_
      refine q_lv [1, 0] rfl ?_
      exact w_X12_argument_54 X hr hl _ _ _ _ h
def m_X12_argument (n : Nat) (S : q_S) (o : Nat) (p0 : Int32) (p1 : Int32) : Option (Int32 × q_S) := (if (p1 &&& (1 : Int32)) = 0 then q_at (S) (some o) 13 (fun a2 => q_b (m_X12_data n (S) a2 (p0) ((1 : Int32))) (fun r3 S4 => m_X12_argument_21 n (S4) (p1) (r3))) else q_at (S) (some o) 13 (fun a6 => q_b (m_X12_data n (S) a6 (p0) ((2 : Int32))) (fun r7 S8 => m_X12_argument_21 n (S8) (p1) (r7))))
set_option maxHeartbeats 4000000 in
set_option maxRecDepth 100000 in
theorem w_X12_argument (X : q_X p s m args c cX12_argument 5 RX12 q_T D cy A) (hr : meth.sig.returnType = (some .int)) (hl : meth.locks = false)  {n : Nat} {S Sv : q_S} {rv : Int32} {o : Nat} {p0 : Int32} {p1 : Int32} (h : m_X12_argument n S o p0 p1 = some (rv, Sv)) : q_W p l e ({ frames := 2, cells := 0, slots := 0, locals := 49 } : Room) s m args below meth c (MQ below (va_Qi (fun (r : Int32) (u : q_S) => r = rv ∧ u = Sv) (q_B D cy A) A) args s 0 0 A) A D cy 5 0 0 S 0 [(0, va_rf (some o)), (1, .int (p0)), (2, .int (p1))] [] := by
  unfold m_X12_argument at h
  refine q_iload_n X 2 rfl dX12_argument_0 ?_
  refine q_iconst X (1) (by decide) dX12_argument_1 ?_
  refine q_iand X dX12_argument_2 ?_
  refine q_if_eq X 15 (by decide) dX12_argument_3 (fun g1 => ?_) (fun g1 => ?_)
  · rw [if_pos g1] at h
    refine q_aload_n X 0 rfl dX12_argument_15 ?_
    refine q_iload_n X 1 rfl dX12_argument_16 ?_
    refine q_iconst X (1) (by decide) dX12_argument_17 ?_
    obtain ⟨a2, ea2, ma2, ka2, h⟩ := q_atE h
    obtain ⟨r3, S4, c5, h⟩ := q_bE h
    refine q_cVI X (As := [.int (p0), .int ((1 : Int32))]) ea2 ma2 ka2 rfl (by decide) (c_X12_data c5) (q_cwV X tK_X12_data tM_X12_199 tI_X12_data tV_X12_data tN_X12 rfl rfl tD_X12_data ⟨Nat.le_of_ble_eq_true rfl, Nat.le_of_ble_eq_true rfl⟩) rfl rfl (by first | exact Nat.le_of_ble_eq_true rfl | (simp only [List.map, q_catR]; exact Nat.le_of_ble_eq_true rfl)) ⟨Nat.zero_le _, Nat.zero_le _⟩ dX12_argument_18 ?_
    refine q_lv [2] rfl ?_
    exact w_X12_argument_21 X hr hl _ _ _ h
  · rw [if_neg g1] at h
    refine q_aload_n X 0 rfl dX12_argument_6 ?_
    refine q_iload_n X 1 rfl dX12_argument_7 ?_
    refine q_iconst X (2) (by decide) dX12_argument_8 ?_
    obtain ⟨a6, ea6, ma6, ka6, h⟩ := q_atE h
    obtain ⟨r7, S8, c9, h⟩ := q_bE h
    refine q_cVI X (As := [.int (p0), .int ((2 : Int32))]) ea6 ma6 ka6 rfl (by decide) (c_X12_data c9) (q_cwV X tK_X12_data tM_X12_199 tI_X12_data tV_X12_data tN_X12 rfl rfl tD_X12_data ⟨Nat.le_of_ble_eq_true rfl, Nat.le_of_ble_eq_true rfl⟩) rfl rfl (by first | exact Nat.le_of_ble_eq_true rfl | (simp only [List.map, q_catR]; exact Nat.le_of_ble_eq_true rfl)) ⟨Nat.zero_le _, Nat.zero_le _⟩ dX12_argument_9 ?_
    refine q_goto X 21 (by decide) dX12_argument_12 ?_
    refine q_lv [2] rfl ?_
    exact w_X12_argument_21 X hr hl _ _ _ h
theorem tD_X12_argument : yX12_argument.cls ≠ "java/lang/invoke/MethodHandle" ∧ yX12_argument.cls ≠ "java/lang/invoke/VarHandle" ∧ (parseMethodDescriptor yX12_argument.desc).map (fun d => d.parameters.length) = some 2 := by decide +kernel
theorem c_X12_argument {l : Launch} {D : va_G} {cy : Nat → ClassId} {n : Nat} {S Sv : q_S} {rv : Int32} {o : Nat} {p0 : Int32} {p1 : Int32} (h : m_X12_argument n S o p0 p1 = some (rv, Sv)) : q_MI l yX12_argument (q_ws yX12_argument cX12_argument 5 ((some .int))) ({ frames := 2, cells := 0, slots := 0, locals := 49 } : Room) D cy [.ref o, .int (p0), .int (p1)] S rv Sv := by
  exact q_MI_of (by decide +kernel) (Nat.le_of_ble_eq_true rfl) (fun p e s m args below meth c A X hr hl => w_X12_argument X hr hl h)
/-! TrueOutlinesModel.at(I)I -/
def m_X12_at_31 (n : Nat) (S : q_S) (s0 : Int32) : Option (Int32 × q_S) := some (s0, S)
set_option maxHeartbeats 4000000 in
set_option maxRecDepth 100000 in
theorem w_X12_at_31 (X : q_X p s m args c cX12_at 2 RX12 q_T D cy A) (hr : meth.sig.returnType = (some .int)) (hl : meth.locks = false)  {n : Nat} {Sv : q_S} {rv : Int32}  (S : q_S) (s0 : Int32) (h : m_X12_at_31 n S s0 = some (rv, Sv)) : q_W p l e ({ frames := 1, cells := 0, slots := 0, locals := 25 } : Room) s m args below meth c (MQ below (va_Qi (fun (r : Int32) (u : q_S) => r = rv ∧ u = Sv) (q_B D cy A) A) args s 0 0 A) A D cy 2 0 0 S 31 [] [.int (s0)] := by
  unfold m_X12_at_31 at h
  obtain ⟨ev, eS⟩ := q_end h
  exact q_iret X hr hl rfl ev eS dX12_at_31
def m_X12_at (n : Nat) (S : q_S) (o : Nat) (p0 : Int32) : Option (Int32 × q_S) := q_at (S) (some o) 13 (fun a1 => q_b (m_X12_in n (q_sI (S) a1 0 ((0 : Int32))) (p0.toInt64) ((0 : Int64)) (((q_I (q_sI (S) a1 0 ((0 : Int32))) a1 38) - (1 : Int32)).toInt64)) (fun r2 S3 => (if r2 = 0 then m_X12_at_31 n (S3) ((-1 : Int32)) else q_at (S3) (some o) 13 (fun a6 => q_at (S3) (q_R (S3) a6 39) 100 (fun a7 => q_if (q_in (p0) (q_N (S3) a7) = true) (m_X12_at_31 n (S3) (q_I (S3) a7 (p0).toNatClampNeg)))))))
set_option maxHeartbeats 4000000 in
set_option maxRecDepth 100000 in
theorem w_X12_at (X : q_X p s m args c cX12_at 2 RX12 q_T D cy A) (hr : meth.sig.returnType = (some .int)) (hl : meth.locks = false)  {n : Nat} {S Sv : q_S} {rv : Int32} {o : Nat} {p0 : Int32} (h : m_X12_at n S o p0 = some (rv, Sv)) : q_W p l e ({ frames := 1, cells := 0, slots := 0, locals := 25 } : Room) s m args below meth c (MQ below (va_Qi (fun (r : Int32) (u : q_S) => r = rv ∧ u = Sv) (q_B D cy A) A) args s 0 0 A) A D cy 2 0 0 S 0 [(0, va_rf (some o)), (1, .int (p0))] [] := by
  unfold m_X12_at at h
  refine q_aload_n X 0 rfl dX12_at_0 ?_
  refine q_iconst X (0) (by decide) dX12_at_1 ?_
  obtain ⟨a1, ea1, ma1, ka1, h⟩ := q_atE h
  refine q_putI X 0 ea1 ma1 ka1 rfl tW_X12 (by decide) (by decide) tF_X12_96 tyX12 tyX12_ok nmX12 rfl (tyX12_ok 0 (by decide)) rfl rfl rfl dX12_at_2 ?_
  have ma1 : a1 ∈ q_L (q_sI (S) a1 0 ((0 : Int32))) := q_LsI ma1
  have ka1 : q_K (q_sI (S) a1 0 ((0 : Int32))) a1 = 13 := q_KsI ka1
  refine q_iload_n X 1 rfl dX12_at_5 ?_
  refine q_i2l X dX12_at_6 ?_
  refine q_lconst X (0) (by decide) dX12_at_7 ?_
  refine q_aload_n X 0 rfl dX12_at_8 ?_
  refine q_getI X 38 ea1 ma1 ka1 rfl tW_X12 (by decide) (by decide) tF_X12_306 rfl dX12_at_9 ?_
  refine q_iconst X (1) (by decide) dX12_at_12 ?_
  refine q_isub X dX12_at_13 ?_
  refine q_i2l X dX12_at_14 ?_
  obtain ⟨r2, S3, c4, h⟩ := q_bE h
  refine q_cSI X (As := [.long (p0.toInt64), .long ((0 : Int64)), .long (((q_I (q_sI (S) a1 0 ((0 : Int32))) a1 38) - (1 : Int32)).toInt64)]) (c_X12_in c4) (q_cwS X tK_X12_in tM_X12_102 tS_X12_in tN_X12 rfl rfl tD_X12_in ⟨Nat.le_of_ble_eq_true rfl, Nat.le_of_ble_eq_true rfl⟩) rfl rfl (by first | exact Nat.le_of_ble_eq_true rfl | (simp only [List.map, q_catR]; exact Nat.le_of_ble_eq_true rfl)) ⟨Nat.zero_le _, Nat.zero_le _⟩ dX12_at_15 ?_
  refine q_if_eq X 30 (by decide) dX12_at_18 (fun g5 => ?_) (fun g5 => ?_)
  · rw [if_pos g5] at h
    refine q_iconst X (-1) (by decide) dX12_at_30 ?_
    refine q_lv [] rfl ?_
    exact w_X12_at_31 X hr hl _ _ h
  · rw [if_neg g5] at h
    refine q_aload_n X 0 rfl dX12_at_21 ?_
    obtain ⟨a6, ea6, ma6, ka6, h⟩ := q_atE h
    refine q_getR X 39 ea6 ma6 ka6 rfl tW_X12 (by decide) (by decide) tF_X12_90 rfl dX12_at_22 ?_
    refine q_iload_n X 1 rfl dX12_at_25 ?_
    obtain ⟨a7, ea7, ma7, ka7, h⟩ := q_atE h
    obtain ⟨g8, h⟩ := q_ifE h
    refine q_iaload X ea7 ma7 ka7 (q_inE g8) dX12_at_26 ?_
    refine q_goto X 31 (by decide) dX12_at_27 ?_
    refine q_lv [] rfl ?_
    exact w_X12_at_31 X hr hl _ _ h
theorem tD_X12_at : yX12_at.cls ≠ "java/lang/invoke/MethodHandle" ∧ yX12_at.cls ≠ "java/lang/invoke/VarHandle" ∧ (parseMethodDescriptor yX12_at.desc).map (fun d => d.parameters.length) = some 1 := by decide +kernel
theorem c_X12_at {l : Launch} {D : va_G} {cy : Nat → ClassId} {n : Nat} {S Sv : q_S} {rv : Int32} {o : Nat} {p0 : Int32} (h : m_X12_at n S o p0 = some (rv, Sv)) : q_MI l yX12_at (q_ws yX12_at cX12_at 2 ((some .int))) ({ frames := 1, cells := 0, slots := 0, locals := 25 } : Room) D cy [.ref o, .int (p0)] S rv Sv := by
  exact q_MI_of (by decide +kernel) (Nat.le_of_ble_eq_true rfl) (fun p e s m args below meth c A X hr hl => w_X12_at X hr hl h)
/-! TrueOutlinesModel.two(IJ)I -/
def m_X12_two (n : Nat) (S : q_S) (o : Nat) (p0 : Int32) (p1 : Int64) : Option (Int32 × q_S) := q_at (S) (some o) 13 (fun a1 => q_b (m_X12_number n (S) a1 (p0) (p1) ((2 : Int32))) (fun r2 S3 => some (r2.toInt32, S3)))
set_option maxHeartbeats 4000000 in
set_option maxRecDepth 100000 in
theorem w_X12_two (X : q_X p s m args c cX12_two 4 RX12 q_T D cy A) (hr : meth.sig.returnType = (some .int)) (hl : meth.locks = false)  {n : Nat} {S Sv : q_S} {rv : Int32} {o : Nat} {p0 : Int32} {p1 : Int64} (h : m_X12_two n S o p0 p1 = some (rv, Sv)) : q_W p l e ({ frames := 1, cells := 0, slots := 0, locals := 27 } : Room) s m args below meth c (MQ below (va_Qi (fun (r : Int32) (u : q_S) => r = rv ∧ u = Sv) (q_B D cy A) A) args s 0 0 A) A D cy 4 0 0 S 0 [(0, va_rf (some o)), (1, .int (p0)), (2, .long (p1))] [] := by
  unfold m_X12_two at h
  refine q_aload_n X 0 rfl dX12_two_0 ?_
  refine q_iload_n X 1 rfl dX12_two_1 ?_
  refine q_lload_n X 2 rfl dX12_two_2 ?_
  refine q_iconst X (2) (by decide) dX12_two_3 ?_
  obtain ⟨a1, ea1, ma1, ka1, h⟩ := q_atE h
  obtain ⟨r2, S3, c4, h⟩ := q_bE h
  refine q_cVJ X (As := [.int (p0), .long (p1), .int ((2 : Int32))]) ea1 ma1 ka1 rfl (by decide) (c_X12_number c4) (q_cwV X tK_X12_number tM_X12_120 tI_X12_number tV_X12_number tN_X12 rfl rfl tD_X12_number ⟨Nat.le_of_ble_eq_true rfl, Nat.le_of_ble_eq_true rfl⟩) rfl rfl (by first | exact Nat.le_of_ble_eq_true rfl | (simp only [List.map, q_catR]; exact Nat.le_of_ble_eq_true rfl)) ⟨Nat.zero_le _, Nat.zero_le _⟩ dX12_two_4 ?_
  refine q_l2i X dX12_two_7 ?_
  obtain ⟨ev, eS⟩ := q_end h
  exact q_iret X hr hl rfl ev eS dX12_two_8
theorem tD_X12_two : yX12_two.cls ≠ "java/lang/invoke/MethodHandle" ∧ yX12_two.cls ≠ "java/lang/invoke/VarHandle" ∧ (parseMethodDescriptor yX12_two.desc).map (fun d => d.parameters.length) = some 2 := by decide +kernel
theorem c_X12_two {l : Launch} {D : va_G} {cy : Nat → ClassId} {n : Nat} {S Sv : q_S} {rv : Int32} {o : Nat} {p0 : Int32} {p1 : Int64} (h : m_X12_two n S o p0 p1 = some (rv, Sv)) : q_MI l yX12_two (q_ws yX12_two cX12_two 4 ((some .int))) ({ frames := 1, cells := 0, slots := 0, locals := 27 } : Room) D cy [.ref o, .int (p0), .long (p1)] S rv Sv := by
  exact q_MI_of (by decide +kernel) (Nat.le_of_ble_eq_true rfl) (fun p e s m args below meth c A X hr hl => w_X12_two X hr hl h)
/-! TrueOutlinesModel.signs()I -/
def m_X12_signs_45 (n : Nat) (S : q_S) (s0 : Int32) : Option (Int32 × q_S) := some (s0, S)
set_option maxHeartbeats 4000000 in
set_option maxRecDepth 100000 in
theorem w_X12_signs_45 (X : q_X p s m args c cX12_signs 2 RX12 q_T D cy A) (hr : meth.sig.returnType = (some .int)) (hl : meth.locks = false)  {n : Nat} {Sv : q_S} {rv : Int32}  (S : q_S) (s0 : Int32) (h : m_X12_signs_45 n S s0 = some (rv, Sv)) : q_W p l e ({ frames := 2, cells := 0, slots := 0, locals := 50 } : Room) s m args below meth c (MQ below (va_Qi (fun (r : Int32) (u : q_S) => r = rv ∧ u = Sv) (q_B D cy A) A) args s 0 0 A) A D cy 2 0 0 S 45 [] [.int (s0)] := by
  unfold m_X12_signs_45 at h
  obtain ⟨ev, eS⟩ := q_end h
  exact q_iret X hr hl rfl ev eS dX12_signs_45
def m_X12_signs (n : Nat) (S : q_S) (o : Nat)  : Option (Int32 × q_S) := q_at (S) (some o) 13 (fun a1 => q_if ((0 : Int32) = 0 ∨ (0 : Int32) = 1) (q_b (m_X12_find n (q_sI (S) a1 8 ((0 : Int32))) a1 ((1835104368 : Int64))) (fun r3 S4 => q_at (S4) (some o) 13 (fun a6 => q_b (m_X12_two n (S4) a6 (r3) ((4 : Int64))) (fun r7 S8 => q_at (S8) (some o) 13 (fun a10 => (if (q_I (S8) a10 8) = 0 then (if r7 ≤ (200 : Int32) then m_X12_signs_45 n (S8) (r7) else m_X12_signs_45 n (S8) ((200 : Int32))) else m_X12_signs_45 n (S8) ((0 : Int32)))))))))
set_option maxHeartbeats 4000000 in
set_option maxRecDepth 100000 in
theorem w_X12_signs (X : q_X p s m args c cX12_signs 2 RX12 q_T D cy A) (hr : meth.sig.returnType = (some .int)) (hl : meth.locks = false)  {n : Nat} {S Sv : q_S} {rv : Int32} {o : Nat}  (h : m_X12_signs n S o = some (rv, Sv)) : q_W p l e ({ frames := 2, cells := 0, slots := 0, locals := 50 } : Room) s m args below meth c (MQ below (va_Qi (fun (r : Int32) (u : q_S) => r = rv ∧ u = Sv) (q_B D cy A) A) args s 0 0 A) A D cy 2 0 0 S 0 [(0, va_rf (some o))] [] := by
  unfold m_X12_signs at h
  refine q_aload_n X 0 rfl dX12_signs_0 ?_
  refine q_iconst X (0) (by decide) dX12_signs_1 ?_
  obtain ⟨a1, ea1, ma1, ka1, h⟩ := q_atE h
  obtain ⟨g2, h⟩ := q_ifE h
  refine q_putI X 8 ea1 ma1 ka1 rfl tW_X12 (by decide) (by decide) tF_X12_114 tyX12 tyX12_ok nmX12 rfl (tyX12_ok 8 (by decide)) (q_bool g2) (q_boolF g2) rfl dX12_signs_2 ?_
  have ma1 : a1 ∈ q_L (q_sI (S) a1 8 ((0 : Int32))) := q_LsI ma1
  have ka1 : q_K (q_sI (S) a1 8 ((0 : Int32))) a1 = 13 := q_KsI ka1
  refine q_aload_n X 0 rfl dX12_signs_5 ?_
  refine q_aload_n X 0 rfl dX12_signs_6 ?_
  refine q_ldc2_w X (1835104368) tC_X12_165 dX12_signs_7 ?_
  obtain ⟨r3, S4, c5, h⟩ := q_bE h
  refine q_cVI X (As := [.long ((1835104368 : Int64))]) ea1 ma1 ka1 rfl (by decide) (c_X12_find c5) (q_cwV X tK_X12_find tM_X12_127 tI_X12_find tV_X12_find tN_X12 rfl rfl tD_X12_find ⟨Nat.le_of_ble_eq_true rfl, Nat.le_of_ble_eq_true rfl⟩) rfl rfl (by first | exact Nat.le_of_ble_eq_true rfl | (simp only [List.map, q_catR]; exact Nat.le_of_ble_eq_true rfl)) ⟨Nat.zero_le _, Nat.zero_le _⟩ dX12_signs_10 ?_
  refine q_ldc2_w X (4) tC_X12_167 dX12_signs_13 ?_
  obtain ⟨a6, ea6, ma6, ka6, h⟩ := q_atE h
  obtain ⟨r7, S8, c9, h⟩ := q_bE h
  refine q_cVI X (As := [.int (r3), .long ((4 : Int64))]) ea6 ma6 ka6 rfl (by decide) (c_X12_two c9) (q_cwV X tK_X12_two tM_X12_169 tI_X12_two tV_X12_two tN_X12 rfl rfl tD_X12_two ⟨Nat.le_of_ble_eq_true rfl, Nat.le_of_ble_eq_true rfl⟩) rfl rfl (by first | exact Nat.le_of_ble_eq_true rfl | (simp only [List.map, q_catR]; exact Nat.le_of_ble_eq_true rfl)) ⟨Nat.zero_le _, Nat.zero_le _⟩ dX12_signs_16 ?_
  refine q_istore_n X 1 [(1, .int (r7)), (0, va_rf (some o))] rfl (by decide) (by first | rfl | simp [List.filter, q_catR]) dX12_signs_19 ?_
  refine q_aload_n X 1 rfl dX12_signs_20 ?_
  obtain ⟨a10, ea10, ma10, ka10, h⟩ := q_atE h
  refine q_getI X 8 ea10 ma10 ka10 rfl tW_X12 (by decide) (by decide) tF_X12_114 rfl dX12_signs_21 ?_
  refine q_if_eq X 31 (by decide) dX12_signs_24 (fun g11 => ?_) (fun g11 => ?_)
  · rw [if_pos g11] at h
    refine q_iload_n X 0 rfl dX12_signs_31 ?_
    refine q_sipush X (200) (by decide) dX12_signs_32 ?_
    refine q_icmp_le X 44 (by decide) dX12_signs_35 (fun g12 => ?_) (fun g12 => ?_)
    · rw [if_pos g12] at h
      refine q_iload_n X 0 rfl dX12_signs_44 ?_
      refine q_lv [] rfl ?_
      exact w_X12_signs_45 X hr hl _ _ h
    · rw [if_neg g12] at h
      refine q_sipush X (200) (by decide) dX12_signs_38 ?_
      refine q_goto X 45 (by decide) dX12_signs_41 ?_
      refine q_lv [] rfl ?_
      exact w_X12_signs_45 X hr hl _ _ h
  · rw [if_neg g11] at h
    refine q_iconst X (0) (by decide) dX12_signs_27 ?_
    refine q_goto X 45 (by decide) dX12_signs_28 ?_
    refine q_lv [] rfl ?_
    exact w_X12_signs_45 X hr hl _ _ h
theorem tD_X12_signs : yX12_signs.cls ≠ "java/lang/invoke/MethodHandle" ∧ yX12_signs.cls ≠ "java/lang/invoke/VarHandle" ∧ (parseMethodDescriptor yX12_signs.desc).map (fun d => d.parameters.length) = some 0 := by decide +kernel
theorem c_X12_signs {l : Launch} {D : va_G} {cy : Nat → ClassId} {n : Nat} {S Sv : q_S} {rv : Int32} {o : Nat}  (h : m_X12_signs n S o = some (rv, Sv)) : q_MI l yX12_signs (q_ws yX12_signs cX12_signs 2 ((some .int))) ({ frames := 2, cells := 0, slots := 0, locals := 50 } : Room) D cy [.ref o] S rv Sv := by
  exact q_MI_of (by decide +kernel) (Nat.le_of_ble_eq_true rfl) (fun p e s m args below meth c A X hr hl => w_X12_signs X hr hl h)
/-! TrueOutlinesModel.count(I)I -/
def m_X12_count_96 (n : Nat) (S : q_S) (s0 : Int32) : Option (Int32 × q_S) := some (s0, S)
set_option maxHeartbeats 4000000 in
set_option maxRecDepth 100000 in
theorem w_X12_count_96 (X : q_X p s m args c cX12_count 4 RX12 q_T D cy A) (hr : meth.sig.returnType = (some .int)) (hl : meth.locks = false)  {n : Nat} {Sv : q_S} {rv : Int32}  (S : q_S) (s0 : Int32) (h : m_X12_count_96 n S s0 = some (rv, Sv)) : q_W p l e ({ frames := 3, cells := 0, slots := 0, locals := 71 } : Room) s m args below meth c (MQ below (va_Qi (fun (r : Int32) (u : q_S) => r = rv ∧ u = Sv) (q_B D cy A) A) args s 0 0 A) A D cy 4 0 0 S 96 [] [.int (s0)] := by
  unfold m_X12_count_96 at h
  obtain ⟨ev, eS⟩ := q_end h
  exact q_iret X hr hl rfl ev eS dX12_count_96
def m_X12_count_31 (n : Nat) (k9 : q_S → Option Nat → Int32 → Int32 → Int32 → Option (Int32 × q_S)) (S : q_S) (l0 : Option Nat) (l1 : Int32) (l3 : Int32) (s0 : Int32) (s1 : Int32) : Option (Int32 × q_S) := k9 (S) (l0) (l1) (s1 + s0) (l3 + (1))
set_option maxHeartbeats 4000000 in
set_option maxRecDepth 100000 in
theorem w_X12_count_31 (X : q_X p s m args c cX12_count 4 RX12 q_T D cy A) (hr : meth.sig.returnType = (some .int)) (hl : meth.locks = false)  {n : Nat} {Sv : q_S} {rv : Int32}  {k9 : q_S → Option Nat → Int32 → Int32 → Int32 → Option (Int32 × q_S)} (hk9 : ∀ (S : q_S) (z0 : Option Nat) (z1 : Int32) (z2 : Int32) (z3 : Int32), k9 S z0 z1 z2 z3 = some (rv, Sv) → q_W p l e ({ frames := 3, cells := 0, slots := 0, locals := 71 } : Room) s m args below meth c (MQ below (va_Qi (fun (r : Int32) (u : q_S) => r = rv ∧ u = Sv) (q_B D cy A) A) args s 0 0 A) A D cy 4 0 0 S 9 [(0, va_rf (z0)), (1, .int (z1)), (2, .int (z2)), (3, .int (z3))] []) (S : q_S) (l0 : Option Nat) (l1 : Int32) (l3 : Int32) (s0 : Int32) (s1 : Int32) (h : m_X12_count_31 n k9 S l0 l1 l3 s0 s1 = some (rv, Sv)) : q_W p l e ({ frames := 3, cells := 0, slots := 0, locals := 71 } : Room) s m args below meth c (MQ below (va_Qi (fun (r : Int32) (u : q_S) => r = rv ∧ u = Sv) (q_B D cy A) A) args s 0 0 A) A D cy 4 0 0 S 31 [(0, va_rf (l0)), (1, .int (l1)), (3, .int (l3))] [.int (s0), .int (s1)] := by
  unfold m_X12_count_31 at h
  refine q_iadd X dX12_count_31 ?_
  refine q_istore_n X 2 [(2, .int (s1 + s0)), (0, va_rf (l0)), (1, .int (l1)), (3, .int (l3))] rfl (by decide) (by first | rfl | simp [List.filter, q_catR]) dX12_count_32 ?_
  refine q_iinc X 3 3 (l3 + (1)) [(3, .int (l3 + (1))), (2, .int (s1 + s0)), (0, va_rf (l0)), (1, .int (l1))] rfl (congrArg (fun z => l3 + z) (show Int32.ofInt (1) = (1) by decide)) (by decide) (by first | rfl | simp [List.filter, q_catR]) dX12_count_33 ?_
  refine q_goto X 9 (by decide) dX12_count_36 ?_
  refine q_lv [2, 3, 1, 0] rfl ?_
  exact hk9 _ _ _ _ _ h
def m_X12_count_9 (n : Nat) : Nat → q_S → Option Nat → Int32 → Int32 → Int32 → Option (Int32 × q_S)
  | 0, _, _, _, _, _ => none
  | k + 1, S, l0, l1, l2, l3 => (if (200 : Int32) ≤ l3 then (if l1 = 0 then q_at (S) (l0) 13 (fun a13 => m_X12_count_96 n (S) (q_I (S) a13 3)) else (if l1 = (1 : Int32) then q_at (S) (l0) 13 (fun a9 => q_b (m_X12_signs n (S) a9) (fun r10 S11 => m_X12_count_96 n (S11) (r10))) else (if l1 = (2 : Int32) then m_X12_count_96 n (S) (l2) else (if l1 = (3 : Int32) then q_at (S) (l0) 13 (fun a8 => m_X12_count_96 n (S) (q_I (S) a8 14)) else (if l1 = (4 : Int32) then q_at (S) (l0) 13 (fun a7 => m_X12_count_96 n (S) (q_I (S) a7 18)) else m_X12_count_96 n (S) ((-1 : Int32))))))) else q_at (S) (l0) 13 (fun a14 => q_at (S) (q_R (S) a14 9) 102 (fun a15 => q_if (q_in (l3) (q_N (S) a15) = true) ((if (q_I (S) a15 (l3).toNatClampNeg) = 0 then m_X12_count_31 n (m_X12_count_9 n k) (S) (l0) (l1) (l3) ((0 : Int32)) (l2) else m_X12_count_31 n (m_X12_count_9 n k) (S) (l0) (l1) (l3) ((1 : Int32)) (l2))))))
set_option maxHeartbeats 4000000 in
set_option maxRecDepth 100000 in
theorem w_X12_count_9 (X : q_X p s m args c cX12_count 4 RX12 q_T D cy A) (hr : meth.sig.returnType = (some .int)) (hl : meth.locks = false)  {n : Nat} {Sv : q_S} {rv : Int32}  : ∀ (k : Nat) (S : q_S) (l0 : Option Nat) (l1 : Int32) (l2 : Int32) (l3 : Int32), m_X12_count_9 n k S l0 l1 l2 l3 = some (rv, Sv) → q_W p l e ({ frames := 3, cells := 0, slots := 0, locals := 71 } : Room) s m args below meth c (MQ below (va_Qi (fun (r : Int32) (u : q_S) => r = rv ∧ u = Sv) (q_B D cy A) A) args s 0 0 A) A D cy 4 0 0 S 9 [(0, va_rf (l0)), (1, .int (l1)), (2, .int (l2)), (3, .int (l3))] [] := by
  intro k
  induction k with
  | zero => intro S l0 l1 l2 l3 h; rw [m_X12_count_9] at h; cases h
  | succ k ih =>
    intro S l0 l1 l2 l3 h
    rw [m_X12_count_9] at h
    refine q_iload_n X 3 rfl dX12_count_9 ?_
    refine q_sipush X (200) (by decide) dX12_count_10 ?_
    refine q_icmp_ge X 39 (by decide) dX12_count_13 (fun g1 => ?_) (fun g1 => ?_)
    · rw [if_pos g1] at h
      refine q_iload_n X 1 rfl dX12_count_39 ?_
      refine q_if_ne X 50 (by decide) dX12_count_40 (fun g2 => ?_) (fun g2 => ?_)
      · rw [if_neg g2] at h
        refine q_iload_n X 1 rfl dX12_count_50 ?_
        refine q_iconst X (1) (by decide) dX12_count_51 ?_
        refine q_icmp_ne X 62 (by decide) dX12_count_52 (fun g3 => ?_) (fun g3 => ?_)
        · rw [if_neg g3] at h
          refine q_iload_n X 1 rfl dX12_count_62 ?_
          refine q_iconst X (2) (by decide) dX12_count_63 ?_
          refine q_icmp_ne X 71 (by decide) dX12_count_64 (fun g4 => ?_) (fun g4 => ?_)
          · rw [if_neg g4] at h
            refine q_iload_n X 1 rfl dX12_count_71 ?_
            refine q_iconst X (3) (by decide) dX12_count_72 ?_
            refine q_icmp_ne X 83 (by decide) dX12_count_73 (fun g5 => ?_) (fun g5 => ?_)
            · rw [if_neg g5] at h
              refine q_iload_n X 1 rfl dX12_count_83 ?_
              refine q_iconst X (4) (by decide) dX12_count_84 ?_
              refine q_icmp_ne X 95 (by decide) dX12_count_85 (fun g6 => ?_) (fun g6 => ?_)
              · rw [if_neg g6] at h
                refine q_iconst X (-1) (by decide) dX12_count_95 ?_
                refine q_lv [] rfl ?_
                exact w_X12_count_96 X hr hl _ _ h
              · rw [if_pos g6] at h
                refine q_aload_n X 0 rfl dX12_count_88 ?_
                obtain ⟨a7, ea7, ma7, ka7, h⟩ := q_atE h
                refine q_getI X 18 ea7 ma7 ka7 rfl tW_X12 (by decide) (by decide) tF_X12_139 rfl dX12_count_89 ?_
                refine q_goto X 96 (by decide) dX12_count_92 ?_
                refine q_lv [] rfl ?_
                exact w_X12_count_96 X hr hl _ _ h
            · rw [if_pos g5] at h
              refine q_aload_n X 0 rfl dX12_count_76 ?_
              obtain ⟨a8, ea8, ma8, ka8, h⟩ := q_atE h
              refine q_getI X 14 ea8 ma8 ka8 rfl tW_X12 (by decide) (by decide) tF_X12_136 rfl dX12_count_77 ?_
              refine q_goto X 96 (by decide) dX12_count_80 ?_
              refine q_lv [] rfl ?_
              exact w_X12_count_96 X hr hl _ _ h
          · rw [if_pos g4] at h
            refine q_iload_n X 2 rfl dX12_count_67 ?_
            refine q_goto X 96 (by decide) dX12_count_68 ?_
            refine q_lv [] rfl ?_
            exact w_X12_count_96 X hr hl _ _ h
        · rw [if_pos g3] at h
          refine q_aload_n X 0 rfl dX12_count_55 ?_
          obtain ⟨a9, ea9, ma9, ka9, h⟩ := q_atE h
          obtain ⟨r10, S11, c12, h⟩ := q_bE h
          refine q_cVI X (As := []) ea9 ma9 ka9 rfl (by decide) (c_X12_signs c12) (q_cwV X tK_X12_signs tM_X12_173 tI_X12_signs tV_X12_signs tN_X12 rfl rfl tD_X12_signs ⟨Nat.le_of_ble_eq_true rfl, Nat.le_of_ble_eq_true rfl⟩) rfl rfl (by first | exact Nat.le_of_ble_eq_true rfl | (simp only [List.map, q_catR]; exact Nat.le_of_ble_eq_true rfl)) ⟨Nat.zero_le _, Nat.zero_le _⟩ dX12_count_56 ?_
          refine q_goto X 96 (by decide) dX12_count_59 ?_
          refine q_lv [] rfl ?_
          exact w_X12_count_96 X hr hl _ _ h
      · rw [if_pos g2] at h
        refine q_aload_n X 0 rfl dX12_count_43 ?_
        obtain ⟨a13, ea13, ma13, ka13, h⟩ := q_atE h
        refine q_getI X 3 ea13 ma13 ka13 rfl tW_X12 (by decide) (by decide) tF_X12_111 rfl dX12_count_44 ?_
        refine q_goto X 96 (by decide) dX12_count_47 ?_
        refine q_lv [] rfl ?_
        exact w_X12_count_96 X hr hl _ _ h
    · rw [if_neg g1] at h
      refine q_iload_n X 2 rfl dX12_count_16 ?_
      refine q_aload_n X 0 rfl dX12_count_17 ?_
      obtain ⟨a14, ea14, ma14, ka14, h⟩ := q_atE h
      refine q_getR X 9 ea14 ma14 ka14 rfl tW_X12 (by decide) (by decide) tF_X12_26 rfl dX12_count_18 ?_
      refine q_iload_n X 3 rfl dX12_count_21 ?_
      obtain ⟨a15, ea15, ma15, ka15, h⟩ := q_atE h
      obtain ⟨g16, h⟩ := q_ifE h
      refine q_zaload X ea15 ma15 ka15 (q_inE g16) dX12_count_22 ?_
      refine q_if_eq X 30 (by decide) dX12_count_23 (fun g17 => ?_) (fun g17 => ?_)
      · rw [if_pos g17] at h
        refine q_iconst X (0) (by decide) dX12_count_30 ?_
        refine q_lv [0, 1, 3] rfl ?_
        exact w_X12_count_31 X hr hl ih _ _ _ _ _ _ h
      · rw [if_neg g17] at h
        refine q_iconst X (1) (by decide) dX12_count_26 ?_
        refine q_goto X 31 (by decide) dX12_count_27 ?_
        refine q_lv [0, 1, 3] rfl ?_
        exact w_X12_count_31 X hr hl ih _ _ _ _ _ _ h
def m_X12_count (n : Nat) (S : q_S) (o : Nat) (p0 : Int32) : Option (Int32 × q_S) := q_at (S) (some o) 13 (fun a1 => m_X12_count_9 n n (q_sI (S) a1 0 ((0 : Int32))) (some o) (p0) ((0 : Int32)) ((0 : Int32)))
set_option maxHeartbeats 4000000 in
set_option maxRecDepth 100000 in
theorem w_X12_count (X : q_X p s m args c cX12_count 4 RX12 q_T D cy A) (hr : meth.sig.returnType = (some .int)) (hl : meth.locks = false)  {n : Nat} {S Sv : q_S} {rv : Int32} {o : Nat} {p0 : Int32} (h : m_X12_count n S o p0 = some (rv, Sv)) : q_W p l e ({ frames := 3, cells := 0, slots := 0, locals := 71 } : Room) s m args below meth c (MQ below (va_Qi (fun (r : Int32) (u : q_S) => r = rv ∧ u = Sv) (q_B D cy A) A) args s 0 0 A) A D cy 4 0 0 S 0 [(0, va_rf (some o)), (1, .int (p0))] [] := by
  unfold m_X12_count at h
  refine q_aload_n X 0 rfl dX12_count_0 ?_
  refine q_iconst X (0) (by decide) dX12_count_1 ?_
  obtain ⟨a1, ea1, ma1, ka1, h⟩ := q_atE h
  refine q_putI X 0 ea1 ma1 ka1 rfl tW_X12 (by decide) (by decide) tF_X12_96 tyX12 tyX12_ok nmX12 rfl (tyX12_ok 0 (by decide)) rfl rfl rfl dX12_count_2 ?_
  have ma1 : a1 ∈ q_L (q_sI (S) a1 0 ((0 : Int32))) := q_LsI ma1
  have ka1 : q_K (q_sI (S) a1 0 ((0 : Int32))) a1 = 13 := q_KsI ka1
  refine q_iconst X (0) (by decide) dX12_count_5 ?_
  refine q_istore_n X 2 [(2, .int ((0 : Int32))), (0, va_rf (some o)), (1, .int (p0))] rfl (by decide) (by first | rfl | simp [List.filter, q_catR]) dX12_count_6 ?_
  refine q_iconst X (0) (by decide) dX12_count_7 ?_
  refine q_istore_n X 3 [(3, .int ((0 : Int32))), (2, .int ((0 : Int32))), (0, va_rf (some o)), (1, .int (p0))] rfl (by decide) (by first | rfl | simp [List.filter, q_catR]) dX12_count_8 ?_
  refine q_lv [2, 3, 1, 0] rfl ?_
  exact w_X12_count_9 X hr hl n _ _ _ _ _ h
theorem tD_X12_count : yX12_count.cls ≠ "java/lang/invoke/MethodHandle" ∧ yX12_count.cls ≠ "java/lang/invoke/VarHandle" ∧ (parseMethodDescriptor yX12_count.desc).map (fun d => d.parameters.length) = some 1 := by decide +kernel
theorem c_X12_count {l : Launch} {D : va_G} {cy : Nat → ClassId} {n : Nat} {S Sv : q_S} {rv : Int32} {o : Nat} {p0 : Int32} (h : m_X12_count n S o p0 = some (rv, Sv)) : q_MI l yX12_count (q_ws yX12_count cX12_count 4 ((some .int))) ({ frames := 3, cells := 0, slots := 0, locals := 71 } : Room) D cy [.ref o, .int (p0)] S rv Sv := by
  exact q_MI_of (by decide +kernel) (Nat.le_of_ble_eq_true rfl) (fun p e s m args below meth c A X hr hl => w_X12_count X hr hl h)
/-! TrueOutlinesModel.isSign(I)Z -/
def m_X12_isSign (n : Nat) (S : q_S) (o : Nat) (p0 : Int32) : Option (Int32 × q_S) := q_at (S) (some o) 13 (fun a1 => q_b (m_X12_signs n (S) a1) (fun r2 S3 => q_b (m_X12_in n (S3) (p0.toInt64) ((0 : Int64)) ((r2 - (1 : Int32)).toInt64)) (fun r5 S6 => q_if (r5 = 0 ∨ r5 = 1) (some (r5, S6)))))
set_option maxHeartbeats 4000000 in
set_option maxRecDepth 100000 in
theorem w_X12_isSign (X : q_X p s m args c cX12_isSign 2 RX12 q_T D cy A) (hr : meth.sig.returnType = (some .boolean)) (hl : meth.locks = false)  {n : Nat} {S Sv : q_S} {rv : Int32} {o : Nat} {p0 : Int32} (h : m_X12_isSign n S o p0 = some (rv, Sv)) : q_W p l e ({ frames := 3, cells := 0, slots := 0, locals := 71 } : Room) s m args below meth c (MQ below (va_Qi (fun (r : Int32) (u : q_S) => r = rv ∧ u = Sv) (q_B D cy A) A) args s 0 0 A) A D cy 2 0 0 S 0 [(0, va_rf (some o)), (1, .int (p0))] [] := by
  unfold m_X12_isSign at h
  refine q_iload_n X 1 rfl dX12_isSign_0 ?_
  refine q_i2l X dX12_isSign_1 ?_
  refine q_lconst X (0) (by decide) dX12_isSign_2 ?_
  refine q_aload_n X 0 rfl dX12_isSign_3 ?_
  obtain ⟨a1, ea1, ma1, ka1, h⟩ := q_atE h
  obtain ⟨r2, S3, c4, h⟩ := q_bE h
  refine q_cVI X (As := []) ea1 ma1 ka1 rfl (by decide) (c_X12_signs c4) (q_cwV X tK_X12_signs tM_X12_173 tI_X12_signs tV_X12_signs tN_X12 rfl rfl tD_X12_signs ⟨Nat.le_of_ble_eq_true rfl, Nat.le_of_ble_eq_true rfl⟩) rfl rfl (by first | exact Nat.le_of_ble_eq_true rfl | (simp only [List.map, q_catR]; exact Nat.le_of_ble_eq_true rfl)) ⟨Nat.zero_le _, Nat.zero_le _⟩ dX12_isSign_4 ?_
  refine q_iconst X (1) (by decide) dX12_isSign_7 ?_
  refine q_isub X dX12_isSign_8 ?_
  refine q_i2l X dX12_isSign_9 ?_
  obtain ⟨r5, S6, c7, h⟩ := q_bE h
  refine q_cSI X (As := [.long (p0.toInt64), .long ((0 : Int64)), .long ((r2 - (1 : Int32)).toInt64)]) (c_X12_in c7) (q_cwS X tK_X12_in tM_X12_102 tS_X12_in tN_X12 rfl rfl tD_X12_in ⟨Nat.le_of_ble_eq_true rfl, Nat.le_of_ble_eq_true rfl⟩) rfl rfl (by first | exact Nat.le_of_ble_eq_true rfl | (simp only [List.map, q_catR]; exact Nat.le_of_ble_eq_true rfl)) ⟨Nat.zero_le _, Nat.zero_le _⟩ dX12_isSign_10 ?_
  obtain ⟨g8, h⟩ := q_ifE h
  obtain ⟨ev, eS⟩ := q_end h
  exact q_iret X hr hl (q_bool g8) ev eS dX12_isSign_13
theorem tD_X12_isSign : yX12_isSign.cls ≠ "java/lang/invoke/MethodHandle" ∧ yX12_isSign.cls ≠ "java/lang/invoke/VarHandle" ∧ (parseMethodDescriptor yX12_isSign.desc).map (fun d => d.parameters.length) = some 1 := by decide +kernel
theorem c_X12_isSign {l : Launch} {D : va_G} {cy : Nat → ClassId} {n : Nat} {S Sv : q_S} {rv : Int32} {o : Nat} {p0 : Int32} (h : m_X12_isSign n S o p0 = some (rv, Sv)) : q_MI l yX12_isSign (q_ws yX12_isSign cX12_isSign 2 ((some .boolean))) ({ frames := 3, cells := 0, slots := 0, locals := 71 } : Room) D cy [.ref o, .int (p0)] S rv Sv := by
  exact q_MI_of (by decide +kernel) (Nat.le_of_ble_eq_true rfl) (fun p e s m args below meth c A X hr hl => w_X12_isSign X hr hl h)
/-! TrueOutlinesModel.locaAt(I)J -/
def m_X12_locaAt_71 (n : Nat) (S : q_S) (s0 : Int64) : Option (Int64 × q_S) := some (s0, S)
set_option maxHeartbeats 4000000 in
set_option maxRecDepth 100000 in
theorem w_X12_locaAt_71 (X : q_X p s m args c cX12_locaAt 3 RX12 q_T D cy A) (hr : meth.sig.returnType = (some .long)) (hl : meth.locks = false)  {n : Nat} {Sv : q_S} {rv : Int64}  (S : q_S) (s0 : Int64) (h : m_X12_locaAt_71 n S s0 = some (rv, Sv)) : q_W p l e ({ frames := 2, cells := 0, slots := 0, locals := 50 } : Room) s m args below meth c (MQ below (va_Ql (fun (r : Int64) (u : q_S) => r = rv ∧ u = Sv) (q_B D cy A) A) args s 0 0 A) A D cy 3 0 0 S 71 [] [.long (s0)] := by
  unfold m_X12_locaAt_71 at h
  obtain ⟨ev, eS⟩ := q_end h
  exact q_lret X hr hl ev eS dX12_locaAt_71
def m_X12_locaAt_23 (n : Nat) (S : q_S) (l0 : Option Nat) (l1 : Int32) (s0 : Int32) : Option (Int64 × q_S) := (if s0 = 0 then q_at (S) (l0) 13 (fun a2 => q_b (m_X12_find n (S) a2 ((1819239265 : Int64))) (fun r3 S4 => q_at (S4) (l0) 13 (fun a6 => q_b (m_X12_two n (S4) a6 (r3) ((2 : Int64) * (l1.toInt64))) (fun r7 S8 => m_X12_locaAt_71 n (S8) ((2 : Int64) * (r7.toInt64)))))) else q_at (S) (l0) 13 (fun a10 => q_b (m_X12_find n (S) a10 ((1819239265 : Int64))) (fun r11 S12 => q_at (S12) (l0) 13 (fun a14 => q_b (m_X12_number n (S12) a14 (r11) ((4 : Int64) * (l1.toInt64)) ((4 : Int32))) (fun r15 S16 => m_X12_locaAt_71 n (S16) (r15))))))
set_option maxHeartbeats 4000000 in
set_option maxRecDepth 100000 in
theorem w_X12_locaAt_23 (X : q_X p s m args c cX12_locaAt 3 RX12 q_T D cy A) (hr : meth.sig.returnType = (some .long)) (hl : meth.locks = false)  {n : Nat} {Sv : q_S} {rv : Int64}  (S : q_S) (l0 : Option Nat) (l1 : Int32) (s0 : Int32) (h : m_X12_locaAt_23 n S l0 l1 s0 = some (rv, Sv)) : q_W p l e ({ frames := 2, cells := 0, slots := 0, locals := 50 } : Room) s m args below meth c (MQ below (va_Ql (fun (r : Int64) (u : q_S) => r = rv ∧ u = Sv) (q_B D cy A) A) args s 0 0 A) A D cy 3 0 0 S 23 [(0, va_rf (l0)), (1, .int (l1))] [.int (s0)] := by
  unfold m_X12_locaAt_23 at h
  refine q_istore_n X 2 [(2, .int (s0)), (0, va_rf (l0)), (1, .int (l1))] rfl (by decide) (by first | rfl | simp [List.filter, q_catR]) dX12_locaAt_23 ?_
  refine q_iload_n X 0 rfl dX12_locaAt_24 ?_
  refine q_if_eq X 49 (by decide) dX12_locaAt_25 (fun g1 => ?_) (fun g1 => ?_)
  · rw [if_pos g1] at h
    refine q_ldc2_w X (2) tC_X12_181 dX12_locaAt_49 ?_
    refine q_aload_n X 1 rfl dX12_locaAt_52 ?_
    refine q_aload_n X 1 rfl dX12_locaAt_53 ?_
    refine q_ldc2_w X (1819239265) tC_X12_179 dX12_locaAt_54 ?_
    obtain ⟨a2, ea2, ma2, ka2, h⟩ := q_atE h
    obtain ⟨r3, S4, c5, h⟩ := q_bE h
    refine q_cVI X (As := [.long ((1819239265 : Int64))]) ea2 ma2 ka2 rfl (by decide) (c_X12_find c5) (q_cwV X tK_X12_find tM_X12_127 tI_X12_find tV_X12_find tN_X12 rfl rfl tD_X12_find ⟨Nat.le_of_ble_eq_true rfl, Nat.le_of_ble_eq_true rfl⟩) rfl rfl (by first | exact Nat.le_of_ble_eq_true rfl | (simp only [List.map, q_catR]; exact Nat.le_of_ble_eq_true rfl)) ⟨Nat.zero_le _, Nat.zero_le _⟩ dX12_locaAt_57 ?_
    refine q_ldc2_w X (2) tC_X12_181 dX12_locaAt_60 ?_
    refine q_iload_n X 2 rfl dX12_locaAt_63 ?_
    refine q_i2l X dX12_locaAt_64 ?_
    refine q_lmul X dX12_locaAt_65 ?_
    obtain ⟨a6, ea6, ma6, ka6, h⟩ := q_atE h
    obtain ⟨r7, S8, c9, h⟩ := q_bE h
    refine q_cVI X (As := [.int (r3), .long ((2 : Int64) * (l1.toInt64))]) ea6 ma6 ka6 rfl (by decide) (c_X12_two c9) (q_cwV X tK_X12_two tM_X12_169 tI_X12_two tV_X12_two tN_X12 rfl rfl tD_X12_two ⟨Nat.le_of_ble_eq_true rfl, Nat.le_of_ble_eq_true rfl⟩) rfl rfl (by first | exact Nat.le_of_ble_eq_true rfl | (simp only [List.map, q_catR]; exact Nat.le_of_ble_eq_true rfl)) ⟨Nat.zero_le _, Nat.zero_le _⟩ dX12_locaAt_66 ?_
    refine q_i2l X dX12_locaAt_69 ?_
    refine q_lmul X dX12_locaAt_70 ?_
    refine q_lv [] rfl ?_
    exact w_X12_locaAt_71 X hr hl _ _ h
  · rw [if_neg g1] at h
    refine q_aload_n X 1 rfl dX12_locaAt_28 ?_
    refine q_aload_n X 1 rfl dX12_locaAt_29 ?_
    refine q_ldc2_w X (1819239265) tC_X12_179 dX12_locaAt_30 ?_
    obtain ⟨a10, ea10, ma10, ka10, h⟩ := q_atE h
    obtain ⟨r11, S12, c13, h⟩ := q_bE h
    refine q_cVI X (As := [.long ((1819239265 : Int64))]) ea10 ma10 ka10 rfl (by decide) (c_X12_find c13) (q_cwV X tK_X12_find tM_X12_127 tI_X12_find tV_X12_find tN_X12 rfl rfl tD_X12_find ⟨Nat.le_of_ble_eq_true rfl, Nat.le_of_ble_eq_true rfl⟩) rfl rfl (by first | exact Nat.le_of_ble_eq_true rfl | (simp only [List.map, q_catR]; exact Nat.le_of_ble_eq_true rfl)) ⟨Nat.zero_le _, Nat.zero_le _⟩ dX12_locaAt_33 ?_
    refine q_ldc2_w X (4) tC_X12_167 dX12_locaAt_36 ?_
    refine q_iload_n X 2 rfl dX12_locaAt_39 ?_
    refine q_i2l X dX12_locaAt_40 ?_
    refine q_lmul X dX12_locaAt_41 ?_
    refine q_iconst X (4) (by decide) dX12_locaAt_42 ?_
    obtain ⟨a14, ea14, ma14, ka14, h⟩ := q_atE h
    obtain ⟨r15, S16, c17, h⟩ := q_bE h
    refine q_cVJ X (As := [.int (r11), .long ((4 : Int64) * (l1.toInt64)), .int ((4 : Int32))]) ea14 ma14 ka14 rfl (by decide) (c_X12_number c17) (q_cwV X tK_X12_number tM_X12_120 tI_X12_number tV_X12_number tN_X12 rfl rfl tD_X12_number ⟨Nat.le_of_ble_eq_true rfl, Nat.le_of_ble_eq_true rfl⟩) rfl rfl (by first | exact Nat.le_of_ble_eq_true rfl | (simp only [List.map, q_catR]; exact Nat.le_of_ble_eq_true rfl)) ⟨Nat.zero_le _, Nat.zero_le _⟩ dX12_locaAt_43 ?_
    refine q_goto X 71 (by decide) dX12_locaAt_46 ?_
    refine q_lv [] rfl ?_
    exact w_X12_locaAt_71 X hr hl _ _ h
def m_X12_locaAt (n : Nat) (S : q_S) (o : Nat) (p0 : Int32) : Option (Int64 × q_S) := q_at (S) (some o) 13 (fun a1 => q_b (m_X12_find n (S) a1 ((1751474532 : Int64))) (fun r2 S3 => q_at (S3) (some o) 13 (fun a5 => q_b (m_X12_two n (S3) a5 (r2) ((50 : Int64))) (fun r6 S7 => (if r6 = (1 : Int32) then m_X12_locaAt_23 n (S7) (some o) (p0) ((1 : Int32)) else m_X12_locaAt_23 n (S7) (some o) (p0) ((0 : Int32)))))))
set_option maxHeartbeats 4000000 in
set_option maxRecDepth 100000 in
theorem w_X12_locaAt (X : q_X p s m args c cX12_locaAt 3 RX12 q_T D cy A) (hr : meth.sig.returnType = (some .long)) (hl : meth.locks = false)  {n : Nat} {S Sv : q_S} {rv : Int64} {o : Nat} {p0 : Int32} (h : m_X12_locaAt n S o p0 = some (rv, Sv)) : q_W p l e ({ frames := 2, cells := 0, slots := 0, locals := 50 } : Room) s m args below meth c (MQ below (va_Ql (fun (r : Int64) (u : q_S) => r = rv ∧ u = Sv) (q_B D cy A) A) args s 0 0 A) A D cy 3 0 0 S 0 [(0, va_rf (some o)), (1, .int (p0))] [] := by
  unfold m_X12_locaAt at h
  refine q_aload_n X 0 rfl dX12_locaAt_0 ?_
  refine q_aload_n X 0 rfl dX12_locaAt_1 ?_
  refine q_ldc2_w X (1751474532) tC_X12_125 dX12_locaAt_2 ?_
  obtain ⟨a1, ea1, ma1, ka1, h⟩ := q_atE h
  obtain ⟨r2, S3, c4, h⟩ := q_bE h
  refine q_cVI X (As := [.long ((1751474532 : Int64))]) ea1 ma1 ka1 rfl (by decide) (c_X12_find c4) (q_cwV X tK_X12_find tM_X12_127 tI_X12_find tV_X12_find tN_X12 rfl rfl tD_X12_find ⟨Nat.le_of_ble_eq_true rfl, Nat.le_of_ble_eq_true rfl⟩) rfl rfl (by first | exact Nat.le_of_ble_eq_true rfl | (simp only [List.map, q_catR]; exact Nat.le_of_ble_eq_true rfl)) ⟨Nat.zero_le _, Nat.zero_le _⟩ dX12_locaAt_5 ?_
  refine q_ldc2_w X (50) tC_X12_177 dX12_locaAt_8 ?_
  obtain ⟨a5, ea5, ma5, ka5, h⟩ := q_atE h
  obtain ⟨r6, S7, c8, h⟩ := q_bE h
  refine q_cVI X (As := [.int (r2), .long ((50 : Int64))]) ea5 ma5 ka5 rfl (by decide) (c_X12_two c8) (q_cwV X tK_X12_two tM_X12_169 tI_X12_two tV_X12_two tN_X12 rfl rfl tD_X12_two ⟨Nat.le_of_ble_eq_true rfl, Nat.le_of_ble_eq_true rfl⟩) rfl rfl (by first | exact Nat.le_of_ble_eq_true rfl | (simp only [List.map, q_catR]; exact Nat.le_of_ble_eq_true rfl)) ⟨Nat.zero_le _, Nat.zero_le _⟩ dX12_locaAt_11 ?_
  refine q_iconst X (1) (by decide) dX12_locaAt_14 ?_
  refine q_icmp_ne X 22 (by decide) dX12_locaAt_15 (fun g9 => ?_) (fun g9 => ?_)
  · rw [if_neg g9] at h
    refine q_iconst X (0) (by decide) dX12_locaAt_22 ?_
    exact w_X12_locaAt_23 X hr hl _ _ _ _ h
  · rw [if_pos g9] at h
    refine q_iconst X (1) (by decide) dX12_locaAt_18 ?_
    refine q_goto X 23 (by decide) dX12_locaAt_19 ?_
    exact w_X12_locaAt_23 X hr hl _ _ _ _ h
theorem tD_X12_locaAt : yX12_locaAt.cls ≠ "java/lang/invoke/MethodHandle" ∧ yX12_locaAt.cls ≠ "java/lang/invoke/VarHandle" ∧ (parseMethodDescriptor yX12_locaAt.desc).map (fun d => d.parameters.length) = some 1 := by decide +kernel
theorem c_X12_locaAt {l : Launch} {D : va_G} {cy : Nat → ClassId} {n : Nat} {S Sv : q_S} {rv : Int64} {o : Nat} {p0 : Int32} (h : m_X12_locaAt n S o p0 = some (rv, Sv)) : q_MJ l yX12_locaAt (q_ws yX12_locaAt cX12_locaAt 3 ((some .long))) ({ frames := 2, cells := 0, slots := 0, locals := 50 } : Room) D cy [.ref o, .int (p0)] S rv Sv := by
  exact q_MJ_of (by decide +kernel) (Nat.le_of_ble_eq_true rfl) (fun p e s m args below meth c A X hr hl => w_X12_locaAt X hr hl h)
/-! TrueOutlinesModel.lookData(I)Z -/
def m_X12_lookData_90 (n : Nat) (S : q_S) (s0 : Int32) : Option (Int32 × q_S) := q_if (s0 = 0 ∨ s0 = 1) (some (s0, S))
set_option maxHeartbeats 4000000 in
set_option maxRecDepth 100000 in
theorem w_X12_lookData_90 (X : q_X p s m args c cX12_lookData 6 RX12 q_T D cy A) (hr : meth.sig.returnType = (some .boolean)) (hl : meth.locks = false)  {n : Nat} {Sv : q_S} {rv : Int32}  (S : q_S) (s0 : Int32) (h : m_X12_lookData_90 n S s0 = some (rv, Sv)) : q_W p l e ({ frames := 3, cells := 0, slots := 0, locals := 72 } : Room) s m args below meth c (MQ below (va_Qi (fun (r : Int32) (u : q_S) => r = rv ∧ u = Sv) (q_B D cy A) A) args s 0 0 A) A D cy 6 0 0 S 90 [] [.int (s0)] := by
  unfold m_X12_lookData_90 at h
  obtain ⟨g1, h⟩ := q_ifE h
  obtain ⟨ev, eS⟩ := q_end h
  exact q_iret X hr hl (q_bool g1) ev eS dX12_lookData_90
def m_X12_lookData_75 (n : Nat) (S : q_S) (l0 : Option Nat) (s0 : Int32) (s1 : Option Nat) : Option (Int32 × q_S) := q_at (S) (s1) 13 (fun a1 => q_at (q_sI (S) a1 22 (s0)) (l0) 13 (fun a2 => (if (q_I (q_sI (S) a1 22 (s0)) a2 8) = 0 then m_X12_lookData_90 n (q_sI (S) a1 22 (s0)) ((1 : Int32)) else m_X12_lookData_90 n (q_sI (S) a1 22 (s0)) ((0 : Int32)))))
set_option maxHeartbeats 4000000 in
set_option maxRecDepth 100000 in
theorem w_X12_lookData_75 (X : q_X p s m args c cX12_lookData 6 RX12 q_T D cy A) (hr : meth.sig.returnType = (some .boolean)) (hl : meth.locks = false)  {n : Nat} {Sv : q_S} {rv : Int32}  (S : q_S) (l0 : Option Nat) (s0 : Int32) (s1 : Option Nat) (h : m_X12_lookData_75 n S l0 s0 s1 = some (rv, Sv)) : q_W p l e ({ frames := 3, cells := 0, slots := 0, locals := 72 } : Room) s m args below meth c (MQ below (va_Qi (fun (r : Int32) (u : q_S) => r = rv ∧ u = Sv) (q_B D cy A) A) args s 0 0 A) A D cy 6 0 0 S 75 [(0, va_rf (l0))] [.int (s0), va_rf (s1)] := by
  unfold m_X12_lookData_75 at h
  obtain ⟨a1, ea1, ma1, ka1, h⟩ := q_atE h
  refine q_putI X 22 ea1 ma1 ka1 rfl tW_X12 (by decide) (by decide) tF_X12_194 tyX12 tyX12_ok nmX12 rfl (tyX12_ok 22 (by decide)) rfl rfl rfl dX12_lookData_75 ?_
  have ma1 : a1 ∈ q_L (q_sI (S) a1 22 (s0)) := q_LsI ma1
  have ka1 : q_K (q_sI (S) a1 22 (s0)) a1 = 13 := q_KsI ka1
  refine q_aload_n X 0 rfl dX12_lookData_78 ?_
  obtain ⟨a2, ea2, ma2, ka2, h⟩ := q_atE h
  refine q_getI X 8 ea2 ma2 ka2 rfl tW_X12 (by decide) (by decide) tF_X12_114 rfl dX12_lookData_79 ?_
  refine q_if_ne X 89 (by decide) dX12_lookData_82 (fun g3 => ?_) (fun g3 => ?_)
  · rw [if_neg g3] at h
    refine q_iconst X (0) (by decide) dX12_lookData_89 ?_
    refine q_lv [] rfl ?_
    exact w_X12_lookData_90 X hr hl _ _ h
  · rw [if_pos g3] at h
    refine q_iconst X (1) (by decide) dX12_lookData_85 ?_
    refine q_goto X 90 (by decide) dX12_lookData_86 ?_
    refine q_lv [] rfl ?_
    exact w_X12_lookData_90 X hr hl _ _ h
def m_X12_lookData_53 (n : Nat) (S : q_S) (l0 : Option Nat) (l4 : Int64) (s0 : Int32) (s1 : Option Nat) : Option (Int32 × q_S) := q_at (S) (s1) 13 (fun a1 => (if (lg_cmp (l4) ((1600 : Int64))) ≤ 0 then m_X12_lookData_75 n (q_sI (S) a1 21 (s0)) (l0) (l4.toInt32) (l0) else m_X12_lookData_75 n (q_sI (S) a1 21 (s0)) (l0) ((1601 : Int32)) (l0)))
set_option maxHeartbeats 4000000 in
set_option maxRecDepth 100000 in
theorem w_X12_lookData_53 (X : q_X p s m args c cX12_lookData 6 RX12 q_T D cy A) (hr : meth.sig.returnType = (some .boolean)) (hl : meth.locks = false)  {n : Nat} {Sv : q_S} {rv : Int32}  (S : q_S) (l0 : Option Nat) (l4 : Int64) (s0 : Int32) (s1 : Option Nat) (h : m_X12_lookData_53 n S l0 l4 s0 s1 = some (rv, Sv)) : q_W p l e ({ frames := 3, cells := 0, slots := 0, locals := 72 } : Room) s m args below meth c (MQ below (va_Qi (fun (r : Int32) (u : q_S) => r = rv ∧ u = Sv) (q_B D cy A) A) args s 0 0 A) A D cy 6 0 0 S 53 [(0, va_rf (l0)), (4, .long (l4))] [.int (s0), va_rf (s1)] := by
  unfold m_X12_lookData_53 at h
  obtain ⟨a1, ea1, ma1, ka1, h⟩ := q_atE h
  refine q_putI X 21 ea1 ma1 ka1 rfl tW_X12 (by decide) (by decide) tF_X12_191 tyX12 tyX12_ok nmX12 rfl (tyX12_ok 21 (by decide)) rfl rfl rfl dX12_lookData_53 ?_
  have ma1 : a1 ∈ q_L (q_sI (S) a1 21 (s0)) := q_LsI ma1
  have ka1 : q_K (q_sI (S) a1 21 (s0)) a1 = 13 := q_KsI ka1
  refine q_aload_n X 0 rfl dX12_lookData_56 ?_
  refine q_lload X 1 rfl dX12_lookData_57 ?_
  refine q_ldc2_w X (1600) tC_X12_189 dX12_lookData_59 ?_
  refine q_lcmp X dX12_lookData_62 ?_
  refine q_if_le X 72 (by decide) dX12_lookData_63 (fun g2 => ?_) (fun g2 => ?_)
  · rw [if_pos g2] at h
    refine q_lload X 1 rfl dX12_lookData_72 ?_
    refine q_l2i X dX12_lookData_74 ?_
    refine q_lv [0] rfl ?_
    exact w_X12_lookData_75 X hr hl _ _ _ _ h
  · rw [if_neg g2] at h
    refine q_sipush X (1601) (by decide) dX12_lookData_66 ?_
    refine q_goto X 75 (by decide) dX12_lookData_69 ?_
    refine q_lv [0] rfl ?_
    exact w_X12_lookData_75 X hr hl _ _ _ _ h
def m_X12_lookData_33 (n : Nat) (S : q_S) (l0 : Option Nat) (l2 : Int64) (l4 : Int64) (s0 : Int32) (s1 : Option Nat) : Option (Int32 × q_S) := q_at (S) (s1) 13 (fun a1 => q_if (s0 = 0 ∨ s0 = 1) ((if (lg_cmp (l2) ((1600 : Int64))) ≤ 0 then m_X12_lookData_53 n (q_sI (S) a1 23 (s0)) (l0) (l4) (l2.toInt32) (l0) else m_X12_lookData_53 n (q_sI (S) a1 23 (s0)) (l0) (l4) ((1601 : Int32)) (l0))))
set_option maxHeartbeats 4000000 in
set_option maxRecDepth 100000 in
theorem w_X12_lookData_33 (X : q_X p s m args c cX12_lookData 6 RX12 q_T D cy A) (hr : meth.sig.returnType = (some .boolean)) (hl : meth.locks = false)  {n : Nat} {Sv : q_S} {rv : Int32}  (S : q_S) (l0 : Option Nat) (l2 : Int64) (l4 : Int64) (s0 : Int32) (s1 : Option Nat) (h : m_X12_lookData_33 n S l0 l2 l4 s0 s1 = some (rv, Sv)) : q_W p l e ({ frames := 3, cells := 0, slots := 0, locals := 72 } : Room) s m args below meth c (MQ below (va_Qi (fun (r : Int32) (u : q_S) => r = rv ∧ u = Sv) (q_B D cy A) A) args s 0 0 A) A D cy 6 0 0 S 33 [(0, va_rf (l0)), (2, .long (l2)), (4, .long (l4))] [.int (s0), va_rf (s1)] := by
  unfold m_X12_lookData_33 at h
  obtain ⟨a1, ea1, ma1, ka1, h⟩ := q_atE h
  obtain ⟨g2, h⟩ := q_ifE h
  refine q_putI X 23 ea1 ma1 ka1 rfl tW_X12 (by decide) (by decide) tF_X12_186 tyX12 tyX12_ok nmX12 rfl (tyX12_ok 23 (by decide)) (q_bool g2) (q_boolF g2) rfl dX12_lookData_33 ?_
  have ma1 : a1 ∈ q_L (q_sI (S) a1 23 (s0)) := q_LsI ma1
  have ka1 : q_K (q_sI (S) a1 23 (s0)) a1 = 13 := q_KsI ka1
  refine q_aload_n X 0 rfl dX12_lookData_36 ?_
  refine q_lload_n X 1 rfl dX12_lookData_37 ?_
  refine q_ldc2_w X (1600) tC_X12_189 dX12_lookData_38 ?_
  refine q_lcmp X dX12_lookData_41 ?_
  refine q_if_le X 51 (by decide) dX12_lookData_42 (fun g3 => ?_) (fun g3 => ?_)
  · rw [if_pos g3] at h
    refine q_lload_n X 1 rfl dX12_lookData_51 ?_
    refine q_l2i X dX12_lookData_52 ?_
    refine q_lv [0, 2] rfl ?_
    exact w_X12_lookData_53 X hr hl _ _ _ _ _ h
  · rw [if_neg g3] at h
    refine q_sipush X (1601) (by decide) dX12_lookData_45 ?_
    refine q_goto X 53 (by decide) dX12_lookData_48 ?_
    refine q_lv [0, 2] rfl ?_
    exact w_X12_lookData_53 X hr hl _ _ _ _ _ h
def m_X12_lookData (n : Nat) (S : q_S) (o : Nat) (p0 : Int32) : Option (Int32 × q_S) := q_at (S) (some o) 13 (fun a1 => q_if ((0 : Int32) = 0 ∨ (0 : Int32) = 1) (q_b (m_X12_locaAt n (q_sI (S) a1 8 ((0 : Int32))) a1 (p0)) (fun r3 S4 => q_at (S4) (some o) 13 (fun a6 => q_b (m_X12_locaAt n (S4) a6 (p0 + (1 : Int32))) (fun r7 S8 => (if (lg_cmp (r3) (r7)) = 0 then m_X12_lookData_33 n (S8) (some o) (r3) (r7) ((1 : Int32)) (some o) else m_X12_lookData_33 n (S8) (some o) (r3) (r7) ((0 : Int32)) (some o)))))))
set_option maxHeartbeats 4000000 in
set_option maxRecDepth 100000 in
theorem w_X12_lookData (X : q_X p s m args c cX12_lookData 6 RX12 q_T D cy A) (hr : meth.sig.returnType = (some .boolean)) (hl : meth.locks = false)  {n : Nat} {S Sv : q_S} {rv : Int32} {o : Nat} {p0 : Int32} (h : m_X12_lookData n S o p0 = some (rv, Sv)) : q_W p l e ({ frames := 3, cells := 0, slots := 0, locals := 72 } : Room) s m args below meth c (MQ below (va_Qi (fun (r : Int32) (u : q_S) => r = rv ∧ u = Sv) (q_B D cy A) A) args s 0 0 A) A D cy 6 0 0 S 0 [(0, va_rf (some o)), (1, .int (p0))] [] := by
  unfold m_X12_lookData at h
  refine q_aload_n X 0 rfl dX12_lookData_0 ?_
  refine q_iconst X (0) (by decide) dX12_lookData_1 ?_
  obtain ⟨a1, ea1, ma1, ka1, h⟩ := q_atE h
  obtain ⟨g2, h⟩ := q_ifE h
  refine q_putI X 8 ea1 ma1 ka1 rfl tW_X12 (by decide) (by decide) tF_X12_114 tyX12 tyX12_ok nmX12 rfl (tyX12_ok 8 (by decide)) (q_bool g2) (q_boolF g2) rfl dX12_lookData_2 ?_
  have ma1 : a1 ∈ q_L (q_sI (S) a1 8 ((0 : Int32))) := q_LsI ma1
  have ka1 : q_K (q_sI (S) a1 8 ((0 : Int32))) a1 = 13 := q_KsI ka1
  refine q_aload_n X 0 rfl dX12_lookData_5 ?_
  refine q_iload_n X 1 rfl dX12_lookData_6 ?_
  obtain ⟨r3, S4, c5, h⟩ := q_bE h
  refine q_cVJ X (As := [.int (p0)]) ea1 ma1 ka1 rfl (by decide) (c_X12_locaAt c5) (q_cwV X tK_X12_locaAt tM_X12_183 tI_X12_locaAt tV_X12_locaAt tN_X12 rfl rfl tD_X12_locaAt ⟨Nat.le_of_ble_eq_true rfl, Nat.le_of_ble_eq_true rfl⟩) rfl rfl (by first | exact Nat.le_of_ble_eq_true rfl | (simp only [List.map, q_catR]; exact Nat.le_of_ble_eq_true rfl)) ⟨Nat.zero_le _, Nat.zero_le _⟩ dX12_lookData_7 ?_
  refine q_lstore_n X 2 [(2, .long (r3)), (0, va_rf (some o)), (1, .int (p0))] rfl (by decide) (by first | rfl | simp [List.filter, q_catR]) dX12_lookData_10 ?_
  refine q_aload_n X 1 rfl dX12_lookData_11 ?_
  refine q_iload_n X 2 rfl dX12_lookData_12 ?_
  refine q_iconst X (1) (by decide) dX12_lookData_13 ?_
  refine q_iadd X dX12_lookData_14 ?_
  obtain ⟨a6, ea6, ma6, ka6, h⟩ := q_atE h
  obtain ⟨r7, S8, c9, h⟩ := q_bE h
  refine q_cVJ X (As := [.int (p0 + (1 : Int32))]) ea6 ma6 ka6 rfl (by decide) (c_X12_locaAt c9) (q_cwV X tK_X12_locaAt tM_X12_183 tI_X12_locaAt tV_X12_locaAt tN_X12 rfl rfl tD_X12_locaAt ⟨Nat.le_of_ble_eq_true rfl, Nat.le_of_ble_eq_true rfl⟩) rfl rfl (by first | exact Nat.le_of_ble_eq_true rfl | (simp only [List.map, q_catR]; exact Nat.le_of_ble_eq_true rfl)) ⟨Nat.zero_le _, Nat.zero_le _⟩ dX12_lookData_15 ?_
  refine q_lstore X 4 [(4, .long (r7)), (2, .long (r3)), (0, va_rf (some o)), (1, .int (p0))] (by decide) (by first | rfl | simp [List.filter, q_catR]) dX12_lookData_18 ?_
  refine q_aload_n X 2 rfl dX12_lookData_20 ?_
  refine q_lload_n X 1 rfl dX12_lookData_21 ?_
  refine q_lload X 0 rfl dX12_lookData_22 ?_
  refine q_lcmp X dX12_lookData_24 ?_
  refine q_if_ne X 32 (by decide) dX12_lookData_25 (fun g10 => ?_) (fun g10 => ?_)
  · rw [if_neg g10] at h
    refine q_iconst X (0) (by decide) dX12_lookData_32 ?_
    refine q_lv [2, 1, 0] rfl ?_
    exact w_X12_lookData_33 X hr hl _ _ _ _ _ _ h
  · rw [if_pos g10] at h
    refine q_iconst X (1) (by decide) dX12_lookData_28 ?_
    refine q_goto X 33 (by decide) dX12_lookData_29 ?_
    refine q_lv [2, 1, 0] rfl ?_
    exact w_X12_lookData_33 X hr hl _ _ _ _ _ _ h
theorem tD_X12_lookData : yX12_lookData.cls ≠ "java/lang/invoke/MethodHandle" ∧ yX12_lookData.cls ≠ "java/lang/invoke/VarHandle" ∧ (parseMethodDescriptor yX12_lookData.desc).map (fun d => d.parameters.length) = some 1 := by decide +kernel
theorem c_X12_lookData {l : Launch} {D : va_G} {cy : Nat → ClassId} {n : Nat} {S Sv : q_S} {rv : Int32} {o : Nat} {p0 : Int32} (h : m_X12_lookData n S o p0 = some (rv, Sv)) : q_MI l yX12_lookData (q_ws yX12_lookData cX12_lookData 6 ((some .boolean))) ({ frames := 3, cells := 0, slots := 0, locals := 72 } : Room) D cy [.ref o, .int (p0)] S rv Sv := by
  exact q_MI_of (by decide +kernel) (Nat.le_of_ble_eq_true rfl) (fun p e s m args below meth c A X hr hl => w_X12_lookData X hr hl h)
/-! TrueOutlinesModel.readPart(II)I -/
def m_X12_readPart_284 (n : Nat) (S : q_S) (l2 : Int32) (l3 : Int32) : Option (Int32 × q_S) := some (l3 - l2, S)
set_option maxHeartbeats 4000000 in
set_option maxRecDepth 100000 in
theorem w_X12_readPart_284 (X : q_X p s m args c cX12_readPart 7 RX12 q_T D cy A) (hr : meth.sig.returnType = (some .int)) (hl : meth.locks = false)  {n : Nat} {Sv : q_S} {rv : Int32}  (S : q_S) (l2 : Int32) (l3 : Int32) (h : m_X12_readPart_284 n S l2 l3 = some (rv, Sv)) : q_W p l e ({ frames := 3, cells := 0, slots := 0, locals := 73 } : Room) s m args below meth c (MQ below (va_Qi (fun (r : Int32) (u : q_S) => r = rv ∧ u = Sv) (q_B D cy A) A) args s 0 0 A) A D cy 7 0 0 S 284 [(2, .int (l2)), (3, .int (l3))] [] := by
  unfold m_X12_readPart_284 at h
  refine q_iload_n X 1 rfl dX12_readPart_284 ?_
  refine q_iload_n X 0 rfl dX12_readPart_285 ?_
  refine q_isub X dX12_readPart_286 ?_
  obtain ⟨ev, eS⟩ := q_end h
  exact q_iret X hr hl rfl ev eS dX12_readPart_287
def m_X12_readPart_244 (n : Nat) : Nat → q_S → Option Nat → Int32 → Int32 → Int32 → Int32 → Option (Int32 × q_S)
  | 0, _, _, _, _, _, _ => none
  | k + 1, S, l0, l1, l2, l3, l6 => (if (4 : Int32) ≤ l6 then m_X12_readPart_284 n (S) (l2) (l3 + (8)) else q_at (S) (l0) 13 (fun a2 => q_b (m_X12_data n (S) a2 (l3 + ((2 : Int32) * l6)) ((2 : Int32))) (fun r3 S4 => q_b (m_X12_signed n (S4) (r3)) (fun r6 S7 => q_at (S7) (q_R (S) a2 35) 100 (fun a9 => q_if (q_in (((4 : Int32) * l1) + l6) (q_N (S7) a9) = true) (m_X12_readPart_244 n k (q_sI (S7) a9 (((4 : Int32) * l1) + l6).toNatClampNeg (r6)) (l0) (l1) (l2) (l3) (l6 + (1))))))))
set_option maxHeartbeats 4000000 in
set_option maxRecDepth 100000 in
theorem w_X12_readPart_244 (X : q_X p s m args c cX12_readPart 7 RX12 q_T D cy A) (hr : meth.sig.returnType = (some .int)) (hl : meth.locks = false)  {n : Nat} {Sv : q_S} {rv : Int32}  : ∀ (k : Nat) (S : q_S) (l0 : Option Nat) (l1 : Int32) (l2 : Int32) (l3 : Int32) (l6 : Int32), m_X12_readPart_244 n k S l0 l1 l2 l3 l6 = some (rv, Sv) → q_W p l e ({ frames := 3, cells := 0, slots := 0, locals := 73 } : Room) s m args below meth c (MQ below (va_Qi (fun (r : Int32) (u : q_S) => r = rv ∧ u = Sv) (q_B D cy A) A) args s 0 0 A) A D cy 7 0 0 S 244 [(0, va_rf (l0)), (1, .int (l1)), (2, .int (l2)), (3, .int (l3)), (6, .int (l6))] [] := by
  intro k
  induction k with
  | zero => intro S l0 l1 l2 l3 l6 h; rw [m_X12_readPart_244] at h; cases h
  | succ k ih =>
    intro S l0 l1 l2 l3 l6 h
    rw [m_X12_readPart_244] at h
    refine q_iload X 4 rfl dX12_readPart_244 ?_
    refine q_iconst X (4) (by decide) dX12_readPart_246 ?_
    refine q_icmp_ge X 281 (by decide) dX12_readPart_247 (fun g1 => ?_) (fun g1 => ?_)
    · rw [if_pos g1] at h
      refine q_iinc X 3 3 (l3 + (8)) [(3, .int (l3 + (8))), (0, va_rf (l0)), (1, .int (l1)), (2, .int (l2)), (6, .int (l6))] rfl (congrArg (fun z => l3 + z) (show Int32.ofInt (8) = (8) by decide)) (by decide) (by first | rfl | simp [List.filter, q_catR]) dX12_readPart_281 ?_
      refine q_lv [3, 0] rfl ?_
      exact w_X12_readPart_284 X hr hl _ _ _ h
    · rw [if_neg g1] at h
      refine q_aload_n X 0 rfl dX12_readPart_250 ?_
      obtain ⟨a2, ea2, ma2, ka2, h⟩ := q_atE h
      refine q_getR X 35 ea2 ma2 ka2 rfl tW_X12 (by decide) (by decide) tF_X12_84 rfl dX12_readPart_251 ?_
      refine q_iconst X (4) (by decide) dX12_readPart_254 ?_
      refine q_iload_n X 1 rfl dX12_readPart_255 ?_
      refine q_imul X dX12_readPart_256 ?_
      refine q_iload X 4 rfl dX12_readPart_257 ?_
      refine q_iadd X dX12_readPart_259 ?_
      refine q_aload_n X 0 rfl dX12_readPart_260 ?_
      refine q_iload_n X 3 rfl dX12_readPart_261 ?_
      refine q_iconst X (2) (by decide) dX12_readPart_262 ?_
      refine q_iload X 4 rfl dX12_readPart_263 ?_
      refine q_imul X dX12_readPart_265 ?_
      refine q_iadd X dX12_readPart_266 ?_
      refine q_iconst X (2) (by decide) dX12_readPart_267 ?_
      obtain ⟨r3, S4, c5, h⟩ := q_bE h
      refine q_cVI X (As := [.int (l3 + ((2 : Int32) * l6)), .int ((2 : Int32))]) ea2 ma2 ka2 rfl (by decide) (c_X12_data c5) (q_cwV X tK_X12_data tM_X12_199 tI_X12_data tV_X12_data tN_X12 rfl rfl tD_X12_data ⟨Nat.le_of_ble_eq_true rfl, Nat.le_of_ble_eq_true rfl⟩) rfl rfl (by first | exact Nat.le_of_ble_eq_true rfl | (simp only [List.map, q_catR]; exact Nat.le_of_ble_eq_true rfl)) ⟨Nat.zero_le _, Nat.zero_le _⟩ dX12_readPart_268 ?_
      obtain ⟨r6, S7, c8, h⟩ := q_bE h
      refine q_cSI X (As := [.int (r3)]) (c_X12_signed c8) (q_cwS X tK_X12_signed tM_X12_210 tS_X12_signed tN_X12 rfl rfl tD_X12_signed ⟨Nat.le_of_ble_eq_true rfl, Nat.le_of_ble_eq_true rfl⟩) rfl rfl (by first | exact Nat.le_of_ble_eq_true rfl | (simp only [List.map, q_catR]; exact Nat.le_of_ble_eq_true rfl)) ⟨Nat.zero_le _, Nat.zero_le _⟩ dX12_readPart_271 ?_
      obtain ⟨a9, ea9, ma9, ka9, h⟩ := q_atE h
      obtain ⟨g10, h⟩ := q_ifE h
      refine q_iastore X ea9 ma9 ka9 (q_inE g10) dX12_readPart_274 ?_
      have ma9 : a9 ∈ q_L (q_sI (S7) a9 (((4 : Int32) * l1) + l6).toNatClampNeg (r6)) := q_LsI ma9
      have ka9 : q_K (q_sI (S7) a9 (((4 : Int32) * l1) + l6).toNatClampNeg (r6)) a9 = 100 := q_KsI ka9
      refine q_iinc X 6 4 (l6 + (1)) [(6, .int (l6 + (1))), (0, va_rf (l0)), (1, .int (l1)), (2, .int (l2)), (3, .int (l3))] rfl (congrArg (fun z => l6 + z) (show Int32.ofInt (1) = (1) by decide)) (by decide) (by first | rfl | simp [List.filter, q_catR]) dX12_readPart_275 ?_
      refine q_goto X 244 (by decide) dX12_readPart_278 ?_
      refine q_lv [1, 2, 3, 4, 0] rfl ?_
      exact ih _ _ _ _ _ _ h
def m_X12_readPart_39 (n : Nat) (S : q_S) (l0 : Option Nat) (l1 : Int32) (l2 : Int32) (l3 : Int32) (l4 : Int32) (s0 : Int32) : Option (Int32 × q_S) := q_at (S) (l0) 13 (fun a1 => q_at (S) (q_R (S) a1 32) 100 (fun a2 => q_if (q_in (l1) (q_N (S) a2) = true) (q_b (m_X12_argument n (q_sI (S) a2 (l1).toNatClampNeg (l4)) a1 (l3) (l4)) (fun r4 S5 => q_at (S5) (q_R (q_sI (S) a2 (l1).toNatClampNeg (l4)) a1 33) 100 (fun a7 => q_if (q_in (l1) (q_N (S5) a7) = true) (q_at (q_sI (S5) a7 (l1).toNatClampNeg (r4)) (l0) 13 (fun a9 => q_b (m_X12_argument n (q_sI (S5) a7 (l1).toNatClampNeg (r4)) a9 (l3 + s0) (l4)) (fun r10 S11 => q_at (S11) (q_R (q_sI (S5) a7 (l1).toNatClampNeg (r4)) a9 34) 100 (fun a13 => q_if (q_in (l1) (q_N (S11) a13) = true) (q_at (q_sI (S11) a13 (l1).toNatClampNeg (r10)) (l0) 13 (fun a15 => q_at (q_sI (S11) a13 (l1).toNatClampNeg (r10)) (q_R (q_sI (S11) a13 (l1).toNatClampNeg (r10)) a15 35) 100 (fun a16 => q_if (q_in ((4 : Int32) * l1) (q_N (q_sI (S11) a13 (l1).toNatClampNeg (r10)) a16) = true) (q_let (q_sI (q_sI (S11) a13 (l1).toNatClampNeg (r10)) a16 ((4 : Int32) * l1).toNatClampNeg ((16384 : Int32))) (fun S18 => q_at (S18) (q_R (S18) a15 35) 100 (fun a19 => q_if (q_in (((4 : Int32) * l1) + (1 : Int32)) (q_N (S18) a19) = true) (q_at (q_sI (S18) a19 (((4 : Int32) * l1) + (1 : Int32)).toNatClampNeg ((0 : Int32))) (q_R (q_sI (S18) a19 (((4 : Int32) * l1) + (1 : Int32)).toNatClampNeg ((0 : Int32))) a15 35) 100 (fun a21 => q_if (q_in (((4 : Int32) * l1) + (2 : Int32)) (q_N (q_sI (S18) a19 (((4 : Int32) * l1) + (1 : Int32)).toNatClampNeg ((0 : Int32))) a21) = true) (q_let (q_sI (q_sI (S18) a19 (((4 : Int32) * l1) + (1 : Int32)).toNatClampNeg ((0 : Int32))) a21 (((4 : Int32) * l1) + (2 : Int32)).toNatClampNeg ((0 : Int32))) (fun S23 => q_at (S23) (q_R (S23) a15 35) 100 (fun a24 => q_if (q_in (((4 : Int32) * l1) + (3 : Int32)) (q_N (S23) a24) = true) ((if (l4 &&& (8 : Int32)) = 0 then (if (l4 &&& (64 : Int32)) = 0 then (if (l4 &&& (128 : Int32)) = 0 then m_X12_readPart_284 n (q_sI (S23) a24 (((4 : Int32) * l1) + (3 : Int32)).toNatClampNeg ((16384 : Int32))) (l2) (l3 + ((2 : Int32) * s0)) else m_X12_readPart_244 n n (q_sI (S23) a24 (((4 : Int32) * l1) + (3 : Int32)).toNatClampNeg ((16384 : Int32))) (l0) (l1) (l2) (l3 + ((2 : Int32) * s0)) ((0 : Int32))) else q_b (m_X12_data n (q_sI (S23) a24 (((4 : Int32) * l1) + (3 : Int32)).toNatClampNeg ((16384 : Int32))) a15 (l3 + ((2 : Int32) * s0)) ((2 : Int32))) (fun r29 S30 => q_b (m_X12_signed n (S30) (r29)) (fun r32 S33 => q_at (S33) (q_R (q_sI (S23) a24 (((4 : Int32) * l1) + (3 : Int32)).toNatClampNeg ((16384 : Int32))) a15 35) 100 (fun a35 => q_if (q_in ((4 : Int32) * l1) (q_N (S33) a35) = true) (q_at (q_sI (S33) a35 ((4 : Int32) * l1).toNatClampNeg (r32)) (l0) 13 (fun a37 => q_b (m_X12_data n (q_sI (S33) a35 ((4 : Int32) * l1).toNatClampNeg (r32)) a37 ((l3 + ((2 : Int32) * s0)) + (2 : Int32)) ((2 : Int32))) (fun r38 S39 => q_b (m_X12_signed n (S39) (r38)) (fun r41 S42 => q_at (S42) (q_R (q_sI (S33) a35 ((4 : Int32) * l1).toNatClampNeg (r32)) a37 35) 100 (fun a44 => q_if (q_in (((4 : Int32) * l1) + (3 : Int32)) (q_N (S42) a44) = true) (m_X12_readPart_284 n (q_sI (S42) a44 (((4 : Int32) * l1) + (3 : Int32)).toNatClampNeg (r41)) (l2) ((l3 + ((2 : Int32) * s0)) + (4)))))))))))) else q_b (m_X12_data n (q_sI (S23) a24 (((4 : Int32) * l1) + (3 : Int32)).toNatClampNeg ((16384 : Int32))) a15 (l3 + ((2 : Int32) * s0)) ((2 : Int32))) (fun r46 S47 => q_b (m_X12_signed n (S47) (r46)) (fun r49 S50 => q_at (S50) (q_R (q_sI (S23) a24 (((4 : Int32) * l1) + (3 : Int32)).toNatClampNeg ((16384 : Int32))) a15 35) 100 (fun a52 => q_if (q_in ((4 : Int32) * l1) (q_N (S50) a52) = true) (q_at (q_sI (S50) a52 ((4 : Int32) * l1).toNatClampNeg (r49)) (l0) 13 (fun a54 => q_at (q_sI (S50) a52 ((4 : Int32) * l1).toNatClampNeg (r49)) (q_R (q_sI (S50) a52 ((4 : Int32) * l1).toNatClampNeg (r49)) a54 35) 100 (fun a55 => q_if (q_in ((4 : Int32) * l1) (q_N (q_sI (S50) a52 ((4 : Int32) * l1).toNatClampNeg (r49)) a55) = true) (q_if (q_in (((4 : Int32) * l1) + (3 : Int32)) (q_N (q_sI (S50) a52 ((4 : Int32) * l1).toNatClampNeg (r49)) a55) = true) (q_let (q_sI (q_sI (S50) a52 ((4 : Int32) * l1).toNatClampNeg (r49)) a55 (((4 : Int32) * l1) + (3 : Int32)).toNatClampNeg (q_I (q_sI (S50) a52 ((4 : Int32) * l1).toNatClampNeg (r49)) a55 ((4 : Int32) * l1).toNatClampNeg)) (fun S58 => m_X12_readPart_284 n (S58) (l2) ((l3 + ((2 : Int32) * s0)) + (2)))))))))))))))))))))))))))))))))
set_option maxHeartbeats 4000000 in
set_option maxRecDepth 100000 in
theorem w_X12_readPart_39 (X : q_X p s m args c cX12_readPart 7 RX12 q_T D cy A) (hr : meth.sig.returnType = (some .int)) (hl : meth.locks = false)  {n : Nat} {Sv : q_S} {rv : Int32}  (S : q_S) (l0 : Option Nat) (l1 : Int32) (l2 : Int32) (l3 : Int32) (l4 : Int32) (s0 : Int32) (h : m_X12_readPart_39 n S l0 l1 l2 l3 l4 s0 = some (rv, Sv)) : q_W p l e ({ frames := 3, cells := 0, slots := 0, locals := 73 } : Room) s m args below meth c (MQ below (va_Qi (fun (r : Int32) (u : q_S) => r = rv ∧ u = Sv) (q_B D cy A) A) args s 0 0 A) A D cy 7 0 0 S 39 [(0, va_rf (l0)), (1, .int (l1)), (2, .int (l2)), (3, .int (l3)), (4, .int (l4))] [.int (s0)] := by
  unfold m_X12_readPart_39 at h
  refine q_istore X 5 [(5, .int (s0)), (0, va_rf (l0)), (1, .int (l1)), (2, .int (l2)), (3, .int (l3)), (4, .int (l4))] (by decide) (by first | rfl | simp [List.filter, q_catR]) dX12_readPart_39 ?_
  refine q_aload_n X 1 rfl dX12_readPart_41 ?_
  obtain ⟨a1, ea1, ma1, ka1, h⟩ := q_atE h
  refine q_getR X 32 ea1 ma1 ka1 rfl tW_X12 (by decide) (by decide) tF_X12_75 rfl dX12_readPart_42 ?_
  refine q_iload_n X 2 rfl dX12_readPart_45 ?_
  refine q_iload X 5 rfl dX12_readPart_46 ?_
  obtain ⟨a2, ea2, ma2, ka2, h⟩ := q_atE h
  obtain ⟨g3, h⟩ := q_ifE h
  refine q_iastore X ea2 ma2 ka2 (q_inE g3) dX12_readPart_48 ?_
  have ma1 : a1 ∈ q_L (q_sI (S) a2 (l1).toNatClampNeg (l4)) := q_LsI ma1
  have ka1 : q_K (q_sI (S) a2 (l1).toNatClampNeg (l4)) a1 = 13 := q_KsI ka1
  have ma2 : a2 ∈ q_L (q_sI (S) a2 (l1).toNatClampNeg (l4)) := q_LsI ma2
  have ka2 : q_K (q_sI (S) a2 (l1).toNatClampNeg (l4)) a2 = 100 := q_KsI ka2
  refine q_aload_n X 1 rfl dX12_readPart_49 ?_
  refine q_getR X 33 ea1 ma1 ka1 rfl tW_X12 (by decide) (by decide) tF_X12_78 rfl dX12_readPart_50 ?_
  refine q_iload_n X 2 rfl dX12_readPart_53 ?_
  refine q_aload_n X 1 rfl dX12_readPart_54 ?_
  refine q_iload_n X 4 rfl dX12_readPart_55 ?_
  refine q_iload X 5 rfl dX12_readPart_56 ?_
  obtain ⟨r4, S5, c6, h⟩ := q_bE h
  refine q_cVI X (As := [.int (l3), .int (l4)]) ea1 ma1 ka1 rfl (by decide) (c_X12_argument c6) (q_cwV X tK_X12_argument tM_X12_223 tI_X12_argument tV_X12_argument tN_X12 rfl rfl tD_X12_argument ⟨Nat.le_of_ble_eq_true rfl, Nat.le_of_ble_eq_true rfl⟩) rfl rfl (by first | exact Nat.le_of_ble_eq_true rfl | (simp only [List.map, q_catR]; exact Nat.le_of_ble_eq_true rfl)) ⟨Nat.zero_le _, Nat.zero_le _⟩ dX12_readPart_58 ?_
  obtain ⟨a7, ea7, ma7, ka7, h⟩ := q_atE h
  obtain ⟨g8, h⟩ := q_ifE h
  refine q_iastore X ea7 ma7 ka7 (q_inE g8) dX12_readPart_61 ?_
  have ma7 : a7 ∈ q_L (q_sI (S5) a7 (l1).toNatClampNeg (r4)) := q_LsI ma7
  have ka7 : q_K (q_sI (S5) a7 (l1).toNatClampNeg (r4)) a7 = 100 := q_KsI ka7
  refine q_aload_n X 1 rfl dX12_readPart_62 ?_
  obtain ⟨a9, ea9, ma9, ka9, h⟩ := q_atE h
  refine q_getR X 34 ea9 ma9 ka9 rfl tW_X12 (by decide) (by decide) tF_X12_81 rfl dX12_readPart_63 ?_
  refine q_iload_n X 2 rfl dX12_readPart_66 ?_
  refine q_aload_n X 1 rfl dX12_readPart_67 ?_
  refine q_iload_n X 4 rfl dX12_readPart_68 ?_
  refine q_iload X 0 rfl dX12_readPart_69 ?_
  refine q_iadd X dX12_readPart_71 ?_
  refine q_iload X 5 rfl dX12_readPart_72 ?_
  obtain ⟨r10, S11, c12, h⟩ := q_bE h
  refine q_cVI X (As := [.int (l3 + s0), .int (l4)]) ea9 ma9 ka9 rfl (by decide) (c_X12_argument c12) (q_cwV X tK_X12_argument tM_X12_223 tI_X12_argument tV_X12_argument tN_X12 rfl rfl tD_X12_argument ⟨Nat.le_of_ble_eq_true rfl, Nat.le_of_ble_eq_true rfl⟩) rfl rfl (by first | exact Nat.le_of_ble_eq_true rfl | (simp only [List.map, q_catR]; exact Nat.le_of_ble_eq_true rfl)) ⟨Nat.zero_le _, Nat.zero_le _⟩ dX12_readPart_74 ?_
  obtain ⟨a13, ea13, ma13, ka13, h⟩ := q_atE h
  obtain ⟨g14, h⟩ := q_ifE h
  refine q_iastore X ea13 ma13 ka13 (q_inE g14) dX12_readPart_77 ?_
  have ma13 : a13 ∈ q_L (q_sI (S11) a13 (l1).toNatClampNeg (r10)) := q_LsI ma13
  have ka13 : q_K (q_sI (S11) a13 (l1).toNatClampNeg (r10)) a13 = 100 := q_KsI ka13
  refine q_iload_n X 4 rfl dX12_readPart_78 ?_
  refine q_iconst X (2) (by decide) dX12_readPart_79 ?_
  refine q_iload X 0 rfl dX12_readPart_80 ?_
  refine q_imul X dX12_readPart_82 ?_
  refine q_iadd X dX12_readPart_83 ?_
  refine q_istore_n X 3 [(3, .int (l3 + ((2 : Int32) * s0))), (5, .int (s0)), (0, va_rf (l0)), (1, .int (l1)), (2, .int (l2)), (4, .int (l4))] rfl (by decide) (by first | rfl | simp [List.filter, q_catR]) dX12_readPart_84 ?_
  refine q_aload_n X 2 rfl dX12_readPart_85 ?_
  obtain ⟨a15, ea15, ma15, ka15, h⟩ := q_atE h
  refine q_getR X 35 ea15 ma15 ka15 rfl tW_X12 (by decide) (by decide) tF_X12_84 rfl dX12_readPart_86 ?_
  refine q_iconst X (4) (by decide) dX12_readPart_89 ?_
  refine q_iload_n X 3 rfl dX12_readPart_90 ?_
  refine q_imul X dX12_readPart_91 ?_
  refine q_sipush X (16384) (by decide) dX12_readPart_92 ?_
  obtain ⟨a16, ea16, ma16, ka16, h⟩ := q_atE h
  obtain ⟨g17, h⟩ := q_ifE h
  refine q_iastore X ea16 ma16 ka16 (q_inE g17) dX12_readPart_95 ?_
  have ma13 : a13 ∈ q_L (q_sI (q_sI (S11) a13 (l1).toNatClampNeg (r10)) a16 ((4 : Int32) * l1).toNatClampNeg ((16384 : Int32))) := q_LsI ma13
  have ka13 : q_K (q_sI (q_sI (S11) a13 (l1).toNatClampNeg (r10)) a16 ((4 : Int32) * l1).toNatClampNeg ((16384 : Int32))) a13 = 100 := q_KsI ka13
  have ma15 : a15 ∈ q_L (q_sI (q_sI (S11) a13 (l1).toNatClampNeg (r10)) a16 ((4 : Int32) * l1).toNatClampNeg ((16384 : Int32))) := q_LsI ma15
  have ka15 : q_K (q_sI (q_sI (S11) a13 (l1).toNatClampNeg (r10)) a16 ((4 : Int32) * l1).toNatClampNeg ((16384 : Int32))) a15 = 13 := q_KsI ka15
  have ma16 : a16 ∈ q_L (q_sI (q_sI (S11) a13 (l1).toNatClampNeg (r10)) a16 ((4 : Int32) * l1).toNatClampNeg ((16384 : Int32))) := q_LsI ma16
  have ka16 : q_K (q_sI (q_sI (S11) a13 (l1).toNatClampNeg (r10)) a16 ((4 : Int32) * l1).toNatClampNeg ((16384 : Int32))) a16 = 100 := q_KsI ka16
  obtain ⟨S18, eS18, h⟩ := q_letE h
  refine q_sub eS18 ?_
  have ma13 : a13 ∈ q_L S18 := by rw [eS18]; exact ma13
  have ka13 : q_K S18 a13 = 100 := by rw [eS18]; exact ka13
  have ma15 : a15 ∈ q_L S18 := by rw [eS18]; exact ma15
  have ka15 : q_K S18 a15 = 13 := by rw [eS18]; exact ka15
  have ma16 : a16 ∈ q_L S18 := by rw [eS18]; exact ma16
  have ka16 : q_K S18 a16 = 100 := by rw [eS18]; exact ka16
  refine q_aload_n X 2 rfl dX12_readPart_96 ?_
  refine q_getR X 35 ea15 ma15 ka15 rfl tW_X12 (by decide) (by decide) tF_X12_84 rfl dX12_readPart_97 ?_
  refine q_iconst X (4) (by decide) dX12_readPart_100 ?_
  refine q_iload_n X 3 rfl dX12_readPart_101 ?_
  refine q_imul X dX12_readPart_102 ?_
  refine q_iconst X (1) (by decide) dX12_readPart_103 ?_
  refine q_iadd X dX12_readPart_104 ?_
  refine q_iconst X (0) (by decide) dX12_readPart_105 ?_
  obtain ⟨a19, ea19, ma19, ka19, h⟩ := q_atE h
  obtain ⟨g20, h⟩ := q_ifE h
  refine q_iastore X ea19 ma19 ka19 (q_inE g20) dX12_readPart_106 ?_
  have ma13 : a13 ∈ q_L (q_sI (S18) a19 (((4 : Int32) * l1) + (1 : Int32)).toNatClampNeg ((0 : Int32))) := q_LsI ma13
  have ka13 : q_K (q_sI (S18) a19 (((4 : Int32) * l1) + (1 : Int32)).toNatClampNeg ((0 : Int32))) a13 = 100 := q_KsI ka13
  have ma15 : a15 ∈ q_L (q_sI (S18) a19 (((4 : Int32) * l1) + (1 : Int32)).toNatClampNeg ((0 : Int32))) := q_LsI ma15
  have ka15 : q_K (q_sI (S18) a19 (((4 : Int32) * l1) + (1 : Int32)).toNatClampNeg ((0 : Int32))) a15 = 13 := q_KsI ka15
  have ma16 : a16 ∈ q_L (q_sI (S18) a19 (((4 : Int32) * l1) + (1 : Int32)).toNatClampNeg ((0 : Int32))) := q_LsI ma16
  have ka16 : q_K (q_sI (S18) a19 (((4 : Int32) * l1) + (1 : Int32)).toNatClampNeg ((0 : Int32))) a16 = 100 := q_KsI ka16
  have ma19 : a19 ∈ q_L (q_sI (S18) a19 (((4 : Int32) * l1) + (1 : Int32)).toNatClampNeg ((0 : Int32))) := q_LsI ma19
  have ka19 : q_K (q_sI (S18) a19 (((4 : Int32) * l1) + (1 : Int32)).toNatClampNeg ((0 : Int32))) a19 = 100 := q_KsI ka19
  refine q_aload_n X 2 rfl dX12_readPart_107 ?_
  refine q_getR X 35 ea15 ma15 ka15 rfl tW_X12 (by decide) (by decide) tF_X12_84 rfl dX12_readPart_108 ?_
  refine q_iconst X (4) (by decide) dX12_readPart_111 ?_
  refine q_iload_n X 3 rfl dX12_readPart_112 ?_
  refine q_imul X dX12_readPart_113 ?_
  refine q_iconst X (2) (by decide) dX12_readPart_114 ?_
  refine q_iadd X dX12_readPart_115 ?_
  refine q_iconst X (0) (by decide) dX12_readPart_116 ?_
  obtain ⟨a21, ea21, ma21, ka21, h⟩ := q_atE h
  obtain ⟨g22, h⟩ := q_ifE h
  refine q_iastore X ea21 ma21 ka21 (q_inE g22) dX12_readPart_117 ?_
  have ma13 : a13 ∈ q_L (q_sI (q_sI (S18) a19 (((4 : Int32) * l1) + (1 : Int32)).toNatClampNeg ((0 : Int32))) a21 (((4 : Int32) * l1) + (2 : Int32)).toNatClampNeg ((0 : Int32))) := q_LsI ma13
  have ka13 : q_K (q_sI (q_sI (S18) a19 (((4 : Int32) * l1) + (1 : Int32)).toNatClampNeg ((0 : Int32))) a21 (((4 : Int32) * l1) + (2 : Int32)).toNatClampNeg ((0 : Int32))) a13 = 100 := q_KsI ka13
  have ma15 : a15 ∈ q_L (q_sI (q_sI (S18) a19 (((4 : Int32) * l1) + (1 : Int32)).toNatClampNeg ((0 : Int32))) a21 (((4 : Int32) * l1) + (2 : Int32)).toNatClampNeg ((0 : Int32))) := q_LsI ma15
  have ka15 : q_K (q_sI (q_sI (S18) a19 (((4 : Int32) * l1) + (1 : Int32)).toNatClampNeg ((0 : Int32))) a21 (((4 : Int32) * l1) + (2 : Int32)).toNatClampNeg ((0 : Int32))) a15 = 13 := q_KsI ka15
  have ma16 : a16 ∈ q_L (q_sI (q_sI (S18) a19 (((4 : Int32) * l1) + (1 : Int32)).toNatClampNeg ((0 : Int32))) a21 (((4 : Int32) * l1) + (2 : Int32)).toNatClampNeg ((0 : Int32))) := q_LsI ma16
  have ka16 : q_K (q_sI (q_sI (S18) a19 (((4 : Int32) * l1) + (1 : Int32)).toNatClampNeg ((0 : Int32))) a21 (((4 : Int32) * l1) + (2 : Int32)).toNatClampNeg ((0 : Int32))) a16 = 100 := q_KsI ka16
  have ma19 : a19 ∈ q_L (q_sI (q_sI (S18) a19 (((4 : Int32) * l1) + (1 : Int32)).toNatClampNeg ((0 : Int32))) a21 (((4 : Int32) * l1) + (2 : Int32)).toNatClampNeg ((0 : Int32))) := q_LsI ma19
  have ka19 : q_K (q_sI (q_sI (S18) a19 (((4 : Int32) * l1) + (1 : Int32)).toNatClampNeg ((0 : Int32))) a21 (((4 : Int32) * l1) + (2 : Int32)).toNatClampNeg ((0 : Int32))) a19 = 100 := q_KsI ka19
  have ma21 : a21 ∈ q_L (q_sI (q_sI (S18) a19 (((4 : Int32) * l1) + (1 : Int32)).toNatClampNeg ((0 : Int32))) a21 (((4 : Int32) * l1) + (2 : Int32)).toNatClampNeg ((0 : Int32))) := q_LsI ma21
  have ka21 : q_K (q_sI (q_sI (S18) a19 (((4 : Int32) * l1) + (1 : Int32)).toNatClampNeg ((0 : Int32))) a21 (((4 : Int32) * l1) + (2 : Int32)).toNatClampNeg ((0 : Int32))) a21 = 100 := q_KsI ka21
  obtain ⟨S23, eS23, h⟩ := q_letE h
  refine q_sub eS23 ?_
  have ma13 : a13 ∈ q_L S23 := by rw [eS23]; exact ma13
  have ka13 : q_K S23 a13 = 100 := by rw [eS23]; exact ka13
  have ma15 : a15 ∈ q_L S23 := by rw [eS23]; exact ma15
  have ka15 : q_K S23 a15 = 13 := by rw [eS23]; exact ka15
  have ma16 : a16 ∈ q_L S23 := by rw [eS23]; exact ma16
  have ka16 : q_K S23 a16 = 100 := by rw [eS23]; exact ka16
  have ma19 : a19 ∈ q_L S23 := by rw [eS23]; exact ma19
  have ka19 : q_K S23 a19 = 100 := by rw [eS23]; exact ka19
  have ma21 : a21 ∈ q_L S23 := by rw [eS23]; exact ma21
  have ka21 : q_K S23 a21 = 100 := by rw [eS23]; exact ka21
  refine q_aload_n X 2 rfl dX12_readPart_118 ?_
  refine q_getR X 35 ea15 ma15 ka15 rfl tW_X12 (by decide) (by decide) tF_X12_84 rfl dX12_readPart_119 ?_
  refine q_iconst X (4) (by decide) dX12_readPart_122 ?_
  refine q_iload_n X 3 rfl dX12_readPart_123 ?_
  refine q_imul X dX12_readPart_124 ?_
  refine q_iconst X (3) (by decide) dX12_readPart_125 ?_
  refine q_iadd X dX12_readPart_126 ?_
  refine q_sipush X (16384) (by decide) dX12_readPart_127 ?_
  obtain ⟨a24, ea24, ma24, ka24, h⟩ := q_atE h
  obtain ⟨g25, h⟩ := q_ifE h
  refine q_iastore X ea24 ma24 ka24 (q_inE g25) dX12_readPart_130 ?_
  have ma13 : a13 ∈ q_L (q_sI (S23) a24 (((4 : Int32) * l1) + (3 : Int32)).toNatClampNeg ((16384 : Int32))) := q_LsI ma13
  have ka13 : q_K (q_sI (S23) a24 (((4 : Int32) * l1) + (3 : Int32)).toNatClampNeg ((16384 : Int32))) a13 = 100 := q_KsI ka13
  have ma15 : a15 ∈ q_L (q_sI (S23) a24 (((4 : Int32) * l1) + (3 : Int32)).toNatClampNeg ((16384 : Int32))) := q_LsI ma15
  have ka15 : q_K (q_sI (S23) a24 (((4 : Int32) * l1) + (3 : Int32)).toNatClampNeg ((16384 : Int32))) a15 = 13 := q_KsI ka15
  have ma16 : a16 ∈ q_L (q_sI (S23) a24 (((4 : Int32) * l1) + (3 : Int32)).toNatClampNeg ((16384 : Int32))) := q_LsI ma16
  have ka16 : q_K (q_sI (S23) a24 (((4 : Int32) * l1) + (3 : Int32)).toNatClampNeg ((16384 : Int32))) a16 = 100 := q_KsI ka16
  have ma19 : a19 ∈ q_L (q_sI (S23) a24 (((4 : Int32) * l1) + (3 : Int32)).toNatClampNeg ((16384 : Int32))) := q_LsI ma19
  have ka19 : q_K (q_sI (S23) a24 (((4 : Int32) * l1) + (3 : Int32)).toNatClampNeg ((16384 : Int32))) a19 = 100 := q_KsI ka19
  have ma21 : a21 ∈ q_L (q_sI (S23) a24 (((4 : Int32) * l1) + (3 : Int32)).toNatClampNeg ((16384 : Int32))) := q_LsI ma21
  have ka21 : q_K (q_sI (S23) a24 (((4 : Int32) * l1) + (3 : Int32)).toNatClampNeg ((16384 : Int32))) a21 = 100 := q_KsI ka21
  have ma24 : a24 ∈ q_L (q_sI (S23) a24 (((4 : Int32) * l1) + (3 : Int32)).toNatClampNeg ((16384 : Int32))) := q_LsI ma24
  have ka24 : q_K (q_sI (S23) a24 (((4 : Int32) * l1) + (3 : Int32)).toNatClampNeg ((16384 : Int32))) a24 = 100 := q_KsI ka24
  refine q_iload X 5 rfl dX12_readPart_131 ?_
  refine q_bipush X (8) (by decide) dX12_readPart_133 ?_
  refine q_iand X dX12_readPart_135 ?_
  refine q_if_eq X 180 (by decide) dX12_readPart_136 (fun g26 => ?_) (fun g26 => ?_)
  · rw [if_pos g26] at h
    refine q_iload X 5 rfl dX12_readPart_180 ?_
    refine q_bipush X (64) (by decide) dX12_readPart_182 ?_
    refine q_iand X dX12_readPart_184 ?_
    refine q_if_eq X 232 (by decide) dX12_readPart_185 (fun g27 => ?_) (fun g27 => ?_)
    · rw [if_pos g27] at h
      refine q_iload X 5 rfl dX12_readPart_232 ?_
      refine q_sipush X (128) (by decide) dX12_readPart_234 ?_
      refine q_iand X dX12_readPart_237 ?_
      refine q_if_eq X 284 (by decide) dX12_readPart_238 (fun g28 => ?_) (fun g28 => ?_)
      · rw [if_pos g28] at h
        refine q_lv [4, 0] rfl ?_
        exact w_X12_readPart_284 X hr hl _ _ _ h
      · rw [if_neg g28] at h
        refine q_iconst X (0) (by decide) dX12_readPart_241 ?_
        refine q_istore X 6 [(6, .int ((0 : Int32))), (3, .int (l3 + ((2 : Int32) * s0))), (5, .int (s0)), (0, va_rf (l0)), (1, .int (l1)), (2, .int (l2)), (4, .int (l4))] (by decide) (by first | rfl | simp [List.filter, q_catR]) dX12_readPart_242 ?_
        refine q_lv [3, 4, 5, 1, 0] rfl ?_
        exact w_X12_readPart_244 X hr hl n _ _ _ _ _ _ h
    · rw [if_neg g27] at h
      refine q_aload_n X 2 rfl dX12_readPart_188 ?_
      refine q_getR X 35 ea15 ma15 ka15 rfl tW_X12 (by decide) (by decide) tF_X12_84 rfl dX12_readPart_189 ?_
      refine q_iconst X (4) (by decide) dX12_readPart_192 ?_
      refine q_iload_n X 3 rfl dX12_readPart_193 ?_
      refine q_imul X dX12_readPart_194 ?_
      refine q_aload_n X 2 rfl dX12_readPart_195 ?_
      refine q_iload_n X 0 rfl dX12_readPart_196 ?_
      refine q_iconst X (2) (by decide) dX12_readPart_197 ?_
      obtain ⟨r29, S30, c31, h⟩ := q_bE h
      refine q_cVI X (As := [.int (l3 + ((2 : Int32) * s0)), .int ((2 : Int32))]) ea15 ma15 ka15 rfl (by decide) (c_X12_data c31) (q_cwV X tK_X12_data tM_X12_199 tI_X12_data tV_X12_data tN_X12 rfl rfl tD_X12_data ⟨Nat.le_of_ble_eq_true rfl, Nat.le_of_ble_eq_true rfl⟩) rfl rfl (by first | exact Nat.le_of_ble_eq_true rfl | (simp only [List.map, q_catR]; exact Nat.le_of_ble_eq_true rfl)) ⟨Nat.zero_le _, Nat.zero_le _⟩ dX12_readPart_198 ?_
      obtain ⟨r32, S33, c34, h⟩ := q_bE h
      refine q_cSI X (As := [.int (r29)]) (c_X12_signed c34) (q_cwS X tK_X12_signed tM_X12_210 tS_X12_signed tN_X12 rfl rfl tD_X12_signed ⟨Nat.le_of_ble_eq_true rfl, Nat.le_of_ble_eq_true rfl⟩) rfl rfl (by first | exact Nat.le_of_ble_eq_true rfl | (simp only [List.map, q_catR]; exact Nat.le_of_ble_eq_true rfl)) ⟨Nat.zero_le _, Nat.zero_le _⟩ dX12_readPart_201 ?_
      obtain ⟨a35, ea35, ma35, ka35, h⟩ := q_atE h
      obtain ⟨g36, h⟩ := q_ifE h
      refine q_iastore X ea35 ma35 ka35 (q_inE g36) dX12_readPart_204 ?_
      have ma35 : a35 ∈ q_L (q_sI (S33) a35 ((4 : Int32) * l1).toNatClampNeg (r32)) := q_LsI ma35
      have ka35 : q_K (q_sI (S33) a35 ((4 : Int32) * l1).toNatClampNeg (r32)) a35 = 100 := q_KsI ka35
      refine q_aload_n X 2 rfl dX12_readPart_205 ?_
      obtain ⟨a37, ea37, ma37, ka37, h⟩ := q_atE h
      refine q_getR X 35 ea37 ma37 ka37 rfl tW_X12 (by decide) (by decide) tF_X12_84 rfl dX12_readPart_206 ?_
      refine q_iconst X (4) (by decide) dX12_readPart_209 ?_
      refine q_iload_n X 3 rfl dX12_readPart_210 ?_
      refine q_imul X dX12_readPart_211 ?_
      refine q_iconst X (3) (by decide) dX12_readPart_212 ?_
      refine q_iadd X dX12_readPart_213 ?_
      refine q_aload_n X 2 rfl dX12_readPart_214 ?_
      refine q_iload_n X 0 rfl dX12_readPart_215 ?_
      refine q_iconst X (2) (by decide) dX12_readPart_216 ?_
      refine q_iadd X dX12_readPart_217 ?_
      refine q_iconst X (2) (by decide) dX12_readPart_218 ?_
      obtain ⟨r38, S39, c40, h⟩ := q_bE h
      refine q_cVI X (As := [.int ((l3 + ((2 : Int32) * s0)) + (2 : Int32)), .int ((2 : Int32))]) ea37 ma37 ka37 rfl (by decide) (c_X12_data c40) (q_cwV X tK_X12_data tM_X12_199 tI_X12_data tV_X12_data tN_X12 rfl rfl tD_X12_data ⟨Nat.le_of_ble_eq_true rfl, Nat.le_of_ble_eq_true rfl⟩) rfl rfl (by first | exact Nat.le_of_ble_eq_true rfl | (simp only [List.map, q_catR]; exact Nat.le_of_ble_eq_true rfl)) ⟨Nat.zero_le _, Nat.zero_le _⟩ dX12_readPart_219 ?_
      obtain ⟨r41, S42, c43, h⟩ := q_bE h
      refine q_cSI X (As := [.int (r38)]) (c_X12_signed c43) (q_cwS X tK_X12_signed tM_X12_210 tS_X12_signed tN_X12 rfl rfl tD_X12_signed ⟨Nat.le_of_ble_eq_true rfl, Nat.le_of_ble_eq_true rfl⟩) rfl rfl (by first | exact Nat.le_of_ble_eq_true rfl | (simp only [List.map, q_catR]; exact Nat.le_of_ble_eq_true rfl)) ⟨Nat.zero_le _, Nat.zero_le _⟩ dX12_readPart_222 ?_
      obtain ⟨a44, ea44, ma44, ka44, h⟩ := q_atE h
      obtain ⟨g45, h⟩ := q_ifE h
      refine q_iastore X ea44 ma44 ka44 (q_inE g45) dX12_readPart_225 ?_
      have ma44 : a44 ∈ q_L (q_sI (S42) a44 (((4 : Int32) * l1) + (3 : Int32)).toNatClampNeg (r41)) := q_LsI ma44
      have ka44 : q_K (q_sI (S42) a44 (((4 : Int32) * l1) + (3 : Int32)).toNatClampNeg (r41)) a44 = 100 := q_KsI ka44
      refine q_iinc X 3 0 ((l3 + ((2 : Int32) * s0)) + (4)) [(3, .int ((l3 + ((2 : Int32) * s0)) + (4))), (5, .int (s0)), (0, va_rf (l0)), (1, .int (l1)), (2, .int (l2)), (4, .int (l4))] rfl (congrArg (fun z => (l3 + ((2 : Int32) * s0)) + z) (show Int32.ofInt (4) = (4) by decide)) (by decide) (by first | rfl | simp [List.filter, q_catR]) dX12_readPart_226 ?_
      refine q_goto X 284 (by decide) dX12_readPart_229 ?_
      refine q_lv [4, 0] rfl ?_
      exact w_X12_readPart_284 X hr hl _ _ _ h
  · rw [if_neg g26] at h
    refine q_aload_n X 2 rfl dX12_readPart_139 ?_
    refine q_getR X 35 ea15 ma15 ka15 rfl tW_X12 (by decide) (by decide) tF_X12_84 rfl dX12_readPart_140 ?_
    refine q_iconst X (4) (by decide) dX12_readPart_143 ?_
    refine q_iload_n X 3 rfl dX12_readPart_144 ?_
    refine q_imul X dX12_readPart_145 ?_
    refine q_aload_n X 2 rfl dX12_readPart_146 ?_
    refine q_iload_n X 0 rfl dX12_readPart_147 ?_
    refine q_iconst X (2) (by decide) dX12_readPart_148 ?_
    obtain ⟨r46, S47, c48, h⟩ := q_bE h
    refine q_cVI X (As := [.int (l3 + ((2 : Int32) * s0)), .int ((2 : Int32))]) ea15 ma15 ka15 rfl (by decide) (c_X12_data c48) (q_cwV X tK_X12_data tM_X12_199 tI_X12_data tV_X12_data tN_X12 rfl rfl tD_X12_data ⟨Nat.le_of_ble_eq_true rfl, Nat.le_of_ble_eq_true rfl⟩) rfl rfl (by first | exact Nat.le_of_ble_eq_true rfl | (simp only [List.map, q_catR]; exact Nat.le_of_ble_eq_true rfl)) ⟨Nat.zero_le _, Nat.zero_le _⟩ dX12_readPart_149 ?_
    obtain ⟨r49, S50, c51, h⟩ := q_bE h
    refine q_cSI X (As := [.int (r46)]) (c_X12_signed c51) (q_cwS X tK_X12_signed tM_X12_210 tS_X12_signed tN_X12 rfl rfl tD_X12_signed ⟨Nat.le_of_ble_eq_true rfl, Nat.le_of_ble_eq_true rfl⟩) rfl rfl (by first | exact Nat.le_of_ble_eq_true rfl | (simp only [List.map, q_catR]; exact Nat.le_of_ble_eq_true rfl)) ⟨Nat.zero_le _, Nat.zero_le _⟩ dX12_readPart_152 ?_
    obtain ⟨a52, ea52, ma52, ka52, h⟩ := q_atE h
    obtain ⟨g53, h⟩ := q_ifE h
    refine q_iastore X ea52 ma52 ka52 (q_inE g53) dX12_readPart_155 ?_
    have ma52 : a52 ∈ q_L (q_sI (S50) a52 ((4 : Int32) * l1).toNatClampNeg (r49)) := q_LsI ma52
    have ka52 : q_K (q_sI (S50) a52 ((4 : Int32) * l1).toNatClampNeg (r49)) a52 = 100 := q_KsI ka52
    refine q_aload_n X 2 rfl dX12_readPart_156 ?_
    obtain ⟨a54, ea54, ma54, ka54, h⟩ := q_atE h
    refine q_getR X 35 ea54 ma54 ka54 rfl tW_X12 (by decide) (by decide) tF_X12_84 rfl dX12_readPart_157 ?_
    refine q_iconst X (4) (by decide) dX12_readPart_160 ?_
    refine q_iload_n X 3 rfl dX12_readPart_161 ?_
    refine q_imul X dX12_readPart_162 ?_
    refine q_iconst X (3) (by decide) dX12_readPart_163 ?_
    refine q_iadd X dX12_readPart_164 ?_
    refine q_aload_n X 2 rfl dX12_readPart_165 ?_
    refine q_getR X 35 ea54 ma54 ka54 rfl tW_X12 (by decide) (by decide) tF_X12_84 rfl dX12_readPart_166 ?_
    refine q_iconst X (4) (by decide) dX12_readPart_169 ?_
    refine q_iload_n X 3 rfl dX12_readPart_170 ?_
    refine q_imul X dX12_readPart_171 ?_
    obtain ⟨a55, ea55, ma55, ka55, h⟩ := q_atE h
    obtain ⟨g56, h⟩ := q_ifE h
    refine q_iaload X ea55 ma55 ka55 (q_inE g56) dX12_readPart_172 ?_
    obtain ⟨g57, h⟩ := q_ifE h
    refine q_iastore X ea55 ma55 ka55 (q_inE g57) dX12_readPart_173 ?_
    have ma52 : a52 ∈ q_L (q_sI (q_sI (S50) a52 ((4 : Int32) * l1).toNatClampNeg (r49)) a55 (((4 : Int32) * l1) + (3 : Int32)).toNatClampNeg (q_I (q_sI (S50) a52 ((4 : Int32) * l1).toNatClampNeg (r49)) a55 ((4 : Int32) * l1).toNatClampNeg)) := q_LsI ma52
    have ka52 : q_K (q_sI (q_sI (S50) a52 ((4 : Int32) * l1).toNatClampNeg (r49)) a55 (((4 : Int32) * l1) + (3 : Int32)).toNatClampNeg (q_I (q_sI (S50) a52 ((4 : Int32) * l1).toNatClampNeg (r49)) a55 ((4 : Int32) * l1).toNatClampNeg)) a52 = 100 := q_KsI ka52
    have ma54 : a54 ∈ q_L (q_sI (q_sI (S50) a52 ((4 : Int32) * l1).toNatClampNeg (r49)) a55 (((4 : Int32) * l1) + (3 : Int32)).toNatClampNeg (q_I (q_sI (S50) a52 ((4 : Int32) * l1).toNatClampNeg (r49)) a55 ((4 : Int32) * l1).toNatClampNeg)) := q_LsI ma54
    have ka54 : q_K (q_sI (q_sI (S50) a52 ((4 : Int32) * l1).toNatClampNeg (r49)) a55 (((4 : Int32) * l1) + (3 : Int32)).toNatClampNeg (q_I (q_sI (S50) a52 ((4 : Int32) * l1).toNatClampNeg (r49)) a55 ((4 : Int32) * l1).toNatClampNeg)) a54 = 13 := q_KsI ka54
    have ma55 : a55 ∈ q_L (q_sI (q_sI (S50) a52 ((4 : Int32) * l1).toNatClampNeg (r49)) a55 (((4 : Int32) * l1) + (3 : Int32)).toNatClampNeg (q_I (q_sI (S50) a52 ((4 : Int32) * l1).toNatClampNeg (r49)) a55 ((4 : Int32) * l1).toNatClampNeg)) := q_LsI ma55
    have ka55 : q_K (q_sI (q_sI (S50) a52 ((4 : Int32) * l1).toNatClampNeg (r49)) a55 (((4 : Int32) * l1) + (3 : Int32)).toNatClampNeg (q_I (q_sI (S50) a52 ((4 : Int32) * l1).toNatClampNeg (r49)) a55 ((4 : Int32) * l1).toNatClampNeg)) a55 = 100 := q_KsI ka55
    refine q_iinc X 3 0 ((l3 + ((2 : Int32) * s0)) + (2)) [(3, .int ((l3 + ((2 : Int32) * s0)) + (2))), (5, .int (s0)), (0, va_rf (l0)), (1, .int (l1)), (2, .int (l2)), (4, .int (l4))] rfl (congrArg (fun z => (l3 + ((2 : Int32) * s0)) + z) (show Int32.ofInt (2) = (2) by decide)) (by decide) (by first | rfl | simp [List.filter, q_catR]) dX12_readPart_174 ?_
    obtain ⟨S58, eS58, h⟩ := q_letE h
    refine q_sub eS58 ?_
    have ma52 : a52 ∈ q_L S58 := by rw [eS58]; exact ma52
    have ka52 : q_K S58 a52 = 100 := by rw [eS58]; exact ka52
    have ma54 : a54 ∈ q_L S58 := by rw [eS58]; exact ma54
    have ka54 : q_K S58 a54 = 13 := by rw [eS58]; exact ka54
    have ma55 : a55 ∈ q_L S58 := by rw [eS58]; exact ma55
    have ka55 : q_K S58 a55 = 100 := by rw [eS58]; exact ka55
    refine q_goto X 284 (by decide) dX12_readPart_177 ?_
    refine q_lv [4, 0] rfl ?_
    exact w_X12_readPart_284 X hr hl _ _ _ h
def m_X12_readPart (n : Nat) (S : q_S) (o : Nat) (p0 : Int32) (p1 : Int32) : Option (Int32 × q_S) := q_at (S) (some o) 13 (fun a1 => q_b (m_X12_data n (S) a1 (p1) ((2 : Int32))) (fun r2 S3 => q_at (S3) (some o) 13 (fun a5 => q_b (m_X12_data n (S3) a5 (p1 + (2 : Int32)) ((2 : Int32))) (fun r6 S7 => q_at (S7) (q_R (S3) a5 30) 100 (fun a9 => q_if (q_in (p0) (q_N (S7) a9) = true) ((if (r2 &&& (1 : Int32)) = 0 then m_X12_readPart_39 n (q_sI (S7) a9 (p0).toNatClampNeg (r6)) (some o) (p0) (p1) (p1 + (4)) (r2) ((1 : Int32)) else m_X12_readPart_39 n (q_sI (S7) a9 (p0).toNatClampNeg (r6)) (some o) (p0) (p1) (p1 + (4)) (r2) ((2 : Int32)))))))))
set_option maxHeartbeats 4000000 in
set_option maxRecDepth 100000 in
theorem w_X12_readPart (X : q_X p s m args c cX12_readPart 7 RX12 q_T D cy A) (hr : meth.sig.returnType = (some .int)) (hl : meth.locks = false)  {n : Nat} {S Sv : q_S} {rv : Int32} {o : Nat} {p0 : Int32} {p1 : Int32} (h : m_X12_readPart n S o p0 p1 = some (rv, Sv)) : q_W p l e ({ frames := 3, cells := 0, slots := 0, locals := 73 } : Room) s m args below meth c (MQ below (va_Qi (fun (r : Int32) (u : q_S) => r = rv ∧ u = Sv) (q_B D cy A) A) args s 0 0 A) A D cy 7 0 0 S 0 [(0, va_rf (some o)), (1, .int (p0)), (2, .int (p1))] [] := by
  unfold m_X12_readPart at h
  refine q_iload_n X 2 rfl dX12_readPart_0 ?_
  refine q_istore_n X 3 [(3, .int (p1)), (0, va_rf (some o)), (1, .int (p0)), (2, .int (p1))] rfl (by decide) (by first | rfl | simp [List.filter, q_catR]) dX12_readPart_1 ?_
  refine q_aload_n X 1 rfl dX12_readPart_2 ?_
  refine q_iload_n X 0 rfl dX12_readPart_3 ?_
  refine q_iconst X (2) (by decide) dX12_readPart_4 ?_
  obtain ⟨a1, ea1, ma1, ka1, h⟩ := q_atE h
  obtain ⟨r2, S3, c4, h⟩ := q_bE h
  refine q_cVI X (As := [.int (p1), .int ((2 : Int32))]) ea1 ma1 ka1 rfl (by decide) (c_X12_data c4) (q_cwV X tK_X12_data tM_X12_199 tI_X12_data tV_X12_data tN_X12 rfl rfl tD_X12_data ⟨Nat.le_of_ble_eq_true rfl, Nat.le_of_ble_eq_true rfl⟩) rfl rfl (by first | exact Nat.le_of_ble_eq_true rfl | (simp only [List.map, q_catR]; exact Nat.le_of_ble_eq_true rfl)) ⟨Nat.zero_le _, Nat.zero_le _⟩ dX12_readPart_5 ?_
  refine q_istore X 4 [(4, .int (r2)), (3, .int (p1)), (0, va_rf (some o)), (1, .int (p0)), (2, .int (p1))] (by decide) (by first | rfl | simp [List.filter, q_catR]) dX12_readPart_8 ?_
  refine q_aload_n X 2 rfl dX12_readPart_10 ?_
  obtain ⟨a5, ea5, ma5, ka5, h⟩ := q_atE h
  refine q_getR X 30 ea5 ma5 ka5 rfl tW_X12 (by decide) (by decide) tF_X12_69 rfl dX12_readPart_11 ?_
  refine q_iload_n X 3 rfl dX12_readPart_14 ?_
  refine q_aload_n X 2 rfl dX12_readPart_15 ?_
  refine q_iload_n X 1 rfl dX12_readPart_16 ?_
  refine q_iconst X (2) (by decide) dX12_readPart_17 ?_
  refine q_iadd X dX12_readPart_18 ?_
  refine q_iconst X (2) (by decide) dX12_readPart_19 ?_
  obtain ⟨r6, S7, c8, h⟩ := q_bE h
  refine q_cVI X (As := [.int (p1 + (2 : Int32)), .int ((2 : Int32))]) ea5 ma5 ka5 rfl (by decide) (c_X12_data c8) (q_cwV X tK_X12_data tM_X12_199 tI_X12_data tV_X12_data tN_X12 rfl rfl tD_X12_data ⟨Nat.le_of_ble_eq_true rfl, Nat.le_of_ble_eq_true rfl⟩) rfl rfl (by first | exact Nat.le_of_ble_eq_true rfl | (simp only [List.map, q_catR]; exact Nat.le_of_ble_eq_true rfl)) ⟨Nat.zero_le _, Nat.zero_le _⟩ dX12_readPart_20 ?_
  obtain ⟨a9, ea9, ma9, ka9, h⟩ := q_atE h
  obtain ⟨g10, h⟩ := q_ifE h
  refine q_iastore X ea9 ma9 ka9 (q_inE g10) dX12_readPart_23 ?_
  have ma9 : a9 ∈ q_L (q_sI (S7) a9 (p0).toNatClampNeg (r6)) := q_LsI ma9
  have ka9 : q_K (q_sI (S7) a9 (p0).toNatClampNeg (r6)) a9 = 100 := q_KsI ka9
  refine q_iinc X 3 1 (p1 + (4)) [(3, .int (p1 + (4))), (4, .int (r2)), (0, va_rf (some o)), (1, .int (p0)), (2, .int (p1))] rfl (congrArg (fun z => p1 + z) (show Int32.ofInt (4) = (4) by decide)) (by decide) (by first | rfl | simp [List.filter, q_catR]) dX12_readPart_24 ?_
  refine q_iload X 1 rfl dX12_readPart_27 ?_
  refine q_iconst X (1) (by decide) dX12_readPart_29 ?_
  refine q_iand X dX12_readPart_30 ?_
  refine q_if_eq X 38 (by decide) dX12_readPart_31 (fun g11 => ?_) (fun g11 => ?_)
  · rw [if_pos g11] at h
    refine q_iconst X (1) (by decide) dX12_readPart_38 ?_
    refine q_lv [2, 3, 4, 0, 1] rfl ?_
    exact w_X12_readPart_39 X hr hl _ _ _ _ _ _ _ h
  · rw [if_neg g11] at h
    refine q_iconst X (2) (by decide) dX12_readPart_34 ?_
    refine q_goto X 39 (by decide) dX12_readPart_35 ?_
    refine q_lv [2, 3, 4, 0, 1] rfl ?_
    exact w_X12_readPart_39 X hr hl _ _ _ _ _ _ _ h
theorem tD_X12_readPart : yX12_readPart.cls ≠ "java/lang/invoke/MethodHandle" ∧ yX12_readPart.cls ≠ "java/lang/invoke/VarHandle" ∧ (parseMethodDescriptor yX12_readPart.desc).map (fun d => d.parameters.length) = some 2 := by decide +kernel
theorem c_X12_readPart {l : Launch} {D : va_G} {cy : Nat → ClassId} {n : Nat} {S Sv : q_S} {rv : Int32} {o : Nat} {p0 : Int32} {p1 : Int32} (h : m_X12_readPart n S o p0 p1 = some (rv, Sv)) : q_MI l yX12_readPart (q_ws yX12_readPart cX12_readPart 7 ((some .int))) ({ frames := 3, cells := 0, slots := 0, locals := 73 } : Room) D cy [.ref o, .int (p0), .int (p1)] S rv Sv := by
  exact q_MI_of (by decide +kernel) (Nat.le_of_ble_eq_true rfl) (fun p e s m args below meth c A X hr hl => w_X12_readPart X hr hl h)
/-! TrueOutlinesModel.useParts(I)Z -/
def m_X12_useParts_147 (n : Nat) (S : q_S) (l2 : Int32) : Option (Int32 × q_S) := q_if (l2 = 0 ∨ l2 = 1) (some (l2, S))
set_option maxHeartbeats 4000000 in
set_option maxRecDepth 100000 in
theorem w_X12_useParts_147 (X : q_X p s m args c cX12_useParts 7 RX12 q_T D cy A) (hr : meth.sig.returnType = (some .boolean)) (hl : meth.locks = false)  {n : Nat} {Sv : q_S} {rv : Int32}  (S : q_S) (l2 : Int32) (h : m_X12_useParts_147 n S l2 = some (rv, Sv)) : q_W p l e ({ frames := 4, cells := 0, slots := 0, locals := 99 } : Room) s m args below meth c (MQ below (va_Qi (fun (r : Int32) (u : q_S) => r = rv ∧ u = Sv) (q_B D cy A) A) args s 0 0 A) A D cy 7 0 0 S 147 [(2, .int (l2))] [] := by
  unfold m_X12_useParts_147 at h
  refine q_iload_n X 0 rfl dX12_useParts_147 ?_
  obtain ⟨g1, h⟩ := q_ifE h
  obtain ⟨ev, eS⟩ := q_end h
  exact q_iret X hr hl (q_bool g1) ev eS dX12_useParts_148
def m_X12_useParts_143 (n : Nat) (k39 : q_S → Option Nat → Int32 → Int32 → Int32 → Option (Int32 × q_S)) (S : q_S) (l0 : Option Nat) (l2 : Int32) (l4 : Int32) (s0 : Int32) : Option (Int32 × q_S) := k39 (S) (l0) (l2) (s0) (l4)
set_option maxHeartbeats 4000000 in
set_option maxRecDepth 100000 in
theorem w_X12_useParts_143 (X : q_X p s m args c cX12_useParts 7 RX12 q_T D cy A) (hr : meth.sig.returnType = (some .boolean)) (hl : meth.locks = false)  {n : Nat} {Sv : q_S} {rv : Int32}  {k39 : q_S → Option Nat → Int32 → Int32 → Int32 → Option (Int32 × q_S)} (hk39 : ∀ (S : q_S) (z0 : Option Nat) (z1 : Int32) (z2 : Int32) (z3 : Int32), k39 S z0 z1 z2 z3 = some (rv, Sv) → q_W p l e ({ frames := 4, cells := 0, slots := 0, locals := 99 } : Room) s m args below meth c (MQ below (va_Qi (fun (r : Int32) (u : q_S) => r = rv ∧ u = Sv) (q_B D cy A) A) args s 0 0 A) A D cy 7 0 0 S 39 [(0, va_rf (z0)), (2, .int (z1)), (3, .int (z2)), (4, .int (z3))] []) (S : q_S) (l0 : Option Nat) (l2 : Int32) (l4 : Int32) (s0 : Int32) (h : m_X12_useParts_143 n k39 S l0 l2 l4 s0 = some (rv, Sv)) : q_W p l e ({ frames := 4, cells := 0, slots := 0, locals := 99 } : Room) s m args below meth c (MQ below (va_Qi (fun (r : Int32) (u : q_S) => r = rv ∧ u = Sv) (q_B D cy A) A) args s 0 0 A) A D cy 7 0 0 S 143 [(0, va_rf (l0)), (2, .int (l2)), (4, .int (l4))] [.int (s0)] := by
  unfold m_X12_useParts_143 at h
  refine q_istore_n X 3 [(3, .int (s0)), (0, va_rf (l0)), (2, .int (l2)), (4, .int (l4))] rfl (by decide) (by first | rfl | simp [List.filter, q_catR]) dX12_useParts_143 ?_
  refine q_goto X 39 (by decide) dX12_useParts_144 ?_
  refine q_lv [1, 2, 0, 3] rfl ?_
  exact hk39 _ _ _ _ _ h
def m_X12_useParts_125 (n : Nat) (k39 : q_S → Option Nat → Int32 → Int32 → Int32 → Option (Int32 × q_S)) (S : q_S) (l0 : Option Nat) (l2 : Int32) (l4 : Int32) : Option (Int32 × q_S) := q_at (S) (l0) 13 (fun a1 => q_at (S) (q_R (S) a1 32) 100 (fun a2 => q_if (q_in ((7 : Int32)) (q_N (S) a2) = true) ((if ((q_I (S) a2 ((7 : Int32)).toNatClampNeg) &&& (32 : Int32)) = 0 then m_X12_useParts_143 n k39 (S) (l0) (l2) (l4) ((0 : Int32)) else m_X12_useParts_143 n k39 (S) (l0) (l2) (l4) ((1 : Int32))))))
set_option maxHeartbeats 4000000 in
set_option maxRecDepth 100000 in
theorem w_X12_useParts_125 (X : q_X p s m args c cX12_useParts 7 RX12 q_T D cy A) (hr : meth.sig.returnType = (some .boolean)) (hl : meth.locks = false)  {n : Nat} {Sv : q_S} {rv : Int32}  {k39 : q_S → Option Nat → Int32 → Int32 → Int32 → Option (Int32 × q_S)} (hk39 : ∀ (S : q_S) (z0 : Option Nat) (z1 : Int32) (z2 : Int32) (z3 : Int32), k39 S z0 z1 z2 z3 = some (rv, Sv) → q_W p l e ({ frames := 4, cells := 0, slots := 0, locals := 99 } : Room) s m args below meth c (MQ below (va_Qi (fun (r : Int32) (u : q_S) => r = rv ∧ u = Sv) (q_B D cy A) A) args s 0 0 A) A D cy 7 0 0 S 39 [(0, va_rf (z0)), (2, .int (z1)), (3, .int (z2)), (4, .int (z3))] []) (S : q_S) (l0 : Option Nat) (l2 : Int32) (l4 : Int32) (h : m_X12_useParts_125 n k39 S l0 l2 l4 = some (rv, Sv)) : q_W p l e ({ frames := 4, cells := 0, slots := 0, locals := 99 } : Room) s m args below meth c (MQ below (va_Qi (fun (r : Int32) (u : q_S) => r = rv ∧ u = Sv) (q_B D cy A) A) args s 0 0 A) A D cy 7 0 0 S 125 [(0, va_rf (l0)), (2, .int (l2)), (4, .int (l4))] [] := by
  unfold m_X12_useParts_125 at h
  refine q_aload_n X 0 rfl dX12_useParts_125 ?_
  obtain ⟨a1, ea1, ma1, ka1, h⟩ := q_atE h
  refine q_getR X 32 ea1 ma1 ka1 rfl tW_X12 (by decide) (by decide) tF_X12_75 rfl dX12_useParts_126 ?_
  refine q_bipush X (7) (by decide) dX12_useParts_129 ?_
  obtain ⟨a2, ea2, ma2, ka2, h⟩ := q_atE h
  obtain ⟨g3, h⟩ := q_ifE h
  refine q_iaload X ea2 ma2 ka2 (q_inE g3) dX12_useParts_131 ?_
  refine q_bipush X (32) (by decide) dX12_useParts_132 ?_
  refine q_iand X dX12_useParts_134 ?_
  refine q_if_eq X 142 (by decide) dX12_useParts_135 (fun g4 => ?_) (fun g4 => ?_)
  · rw [if_pos g4] at h
    refine q_iconst X (0) (by decide) dX12_useParts_142 ?_
    exact w_X12_useParts_143 X hr hl hk39 _ _ _ _ _ h
  · rw [if_neg g4] at h
    refine q_iconst X (1) (by decide) dX12_useParts_138 ?_
    refine q_goto X 143 (by decide) dX12_useParts_139 ?_
    exact w_X12_useParts_143 X hr hl hk39 _ _ _ _ _ h
def m_X12_useParts_111 (n : Nat) (k39 : q_S → Option Nat → Int32 → Int32 → Int32 → Option (Int32 × q_S)) (S : q_S) (l0 : Option Nat) (l4 : Int32) (l5 : Int32) (l6 : Int32) (s0 : Int32) : Option (Int32 × q_S) := (if l6 = 0 then m_X12_useParts_125 n k39 (S) (l0) (s0) (l4) else q_at (S) (l0) 13 (fun a2 => q_at (S) (q_R (S) a2 9) 102 (fun a3 => q_if (q_in (l5) (q_N (S) a3) = true) (m_X12_useParts_125 n k39 (q_sI (S) a3 (l5).toNatClampNeg (vp_nar .boolean ((1 : Int32)))) (l0) (s0) (l4)))))
set_option maxHeartbeats 4000000 in
set_option maxRecDepth 100000 in
theorem w_X12_useParts_111 (X : q_X p s m args c cX12_useParts 7 RX12 q_T D cy A) (hr : meth.sig.returnType = (some .boolean)) (hl : meth.locks = false)  {n : Nat} {Sv : q_S} {rv : Int32}  {k39 : q_S → Option Nat → Int32 → Int32 → Int32 → Option (Int32 × q_S)} (hk39 : ∀ (S : q_S) (z0 : Option Nat) (z1 : Int32) (z2 : Int32) (z3 : Int32), k39 S z0 z1 z2 z3 = some (rv, Sv) → q_W p l e ({ frames := 4, cells := 0, slots := 0, locals := 99 } : Room) s m args below meth c (MQ below (va_Qi (fun (r : Int32) (u : q_S) => r = rv ∧ u = Sv) (q_B D cy A) A) args s 0 0 A) A D cy 7 0 0 S 39 [(0, va_rf (z0)), (2, .int (z1)), (3, .int (z2)), (4, .int (z3))] []) (S : q_S) (l0 : Option Nat) (l4 : Int32) (l5 : Int32) (l6 : Int32) (s0 : Int32) (h : m_X12_useParts_111 n k39 S l0 l4 l5 l6 s0 = some (rv, Sv)) : q_W p l e ({ frames := 4, cells := 0, slots := 0, locals := 99 } : Room) s m args below meth c (MQ below (va_Qi (fun (r : Int32) (u : q_S) => r = rv ∧ u = Sv) (q_B D cy A) A) args s 0 0 A) A D cy 7 0 0 S 111 [(0, va_rf (l0)), (4, .int (l4)), (5, .int (l5)), (6, .int (l6))] [.int (s0)] := by
  unfold m_X12_useParts_111 at h
  refine q_istore_n X 2 [(2, .int (s0)), (0, va_rf (l0)), (4, .int (l4)), (5, .int (l5)), (6, .int (l6))] rfl (by decide) (by first | rfl | simp [List.filter, q_catR]) dX12_useParts_111 ?_
  refine q_iload X 4 rfl dX12_useParts_112 ?_
  refine q_if_eq X 125 (by decide) dX12_useParts_114 (fun g1 => ?_) (fun g1 => ?_)
  · rw [if_pos g1] at h
    refine q_lv [1, 0, 2] rfl ?_
    exact w_X12_useParts_125 X hr hl hk39 _ _ _ _ h
  · rw [if_neg g1] at h
    refine q_aload_n X 1 rfl dX12_useParts_117 ?_
    obtain ⟨a2, ea2, ma2, ka2, h⟩ := q_atE h
    refine q_getR X 9 ea2 ma2 ka2 rfl tW_X12 (by decide) (by decide) tF_X12_26 rfl dX12_useParts_118 ?_
    refine q_iload X 3 rfl dX12_useParts_121 ?_
    refine q_iconst X (1) (by decide) dX12_useParts_123 ?_
    obtain ⟨a3, ea3, ma3, ka3, h⟩ := q_atE h
    obtain ⟨g4, h⟩ := q_ifE h
    refine q_zastore X ea3 ma3 ka3 (q_inE g4) dX12_useParts_124 ?_
    have ma2 : a2 ∈ q_L (q_sI (S) a3 (l5).toNatClampNeg (vp_nar .boolean ((1 : Int32)))) := q_LsI ma2
    have ka2 : q_K (q_sI (S) a3 (l5).toNatClampNeg (vp_nar .boolean ((1 : Int32)))) a2 = 13 := q_KsI ka2
    have ma3 : a3 ∈ q_L (q_sI (S) a3 (l5).toNatClampNeg (vp_nar .boolean ((1 : Int32)))) := q_LsI ma3
    have ka3 : q_K (q_sI (S) a3 (l5).toNatClampNeg (vp_nar .boolean ((1 : Int32)))) a3 = 102 := q_KsI ka3
    refine q_lv [1, 0, 2] rfl ?_
    exact w_X12_useParts_125 X hr hl hk39 _ _ _ _ h
def m_X12_useParts_106 (n : Nat) (k39 : q_S → Option Nat → Int32 → Int32 → Int32 → Option (Int32 × q_S)) (S : q_S) (l0 : Option Nat) (l4 : Int32) (l5 : Int32) (l6 : Int32) : Option (Int32 × q_S) := m_X12_useParts_111 n k39 (S) (l0) (l4) (l5) (l6) ((1 : Int32))
set_option maxHeartbeats 4000000 in
set_option maxRecDepth 100000 in
theorem w_X12_useParts_106 (X : q_X p s m args c cX12_useParts 7 RX12 q_T D cy A) (hr : meth.sig.returnType = (some .boolean)) (hl : meth.locks = false)  {n : Nat} {Sv : q_S} {rv : Int32}  {k39 : q_S → Option Nat → Int32 → Int32 → Int32 → Option (Int32 × q_S)} (hk39 : ∀ (S : q_S) (z0 : Option Nat) (z1 : Int32) (z2 : Int32) (z3 : Int32), k39 S z0 z1 z2 z3 = some (rv, Sv) → q_W p l e ({ frames := 4, cells := 0, slots := 0, locals := 99 } : Room) s m args below meth c (MQ below (va_Qi (fun (r : Int32) (u : q_S) => r = rv ∧ u = Sv) (q_B D cy A) A) args s 0 0 A) A D cy 7 0 0 S 39 [(0, va_rf (z0)), (2, .int (z1)), (3, .int (z2)), (4, .int (z3))] []) (S : q_S) (l0 : Option Nat) (l4 : Int32) (l5 : Int32) (l6 : Int32) (h : m_X12_useParts_106 n k39 S l0 l4 l5 l6 = some (rv, Sv)) : q_W p l e ({ frames := 4, cells := 0, slots := 0, locals := 99 } : Room) s m args below meth c (MQ below (va_Qi (fun (r : Int32) (u : q_S) => r = rv ∧ u = Sv) (q_B D cy A) A) args s 0 0 A) A D cy 7 0 0 S 106 [(0, va_rf (l0)), (4, .int (l4)), (5, .int (l5)), (6, .int (l6))] [] := by
  unfold m_X12_useParts_106 at h
  refine q_iconst X (1) (by decide) dX12_useParts_106 ?_
  refine q_goto X 111 (by decide) dX12_useParts_107 ?_
  exact w_X12_useParts_111 X hr hl hk39 _ _ _ _ _ _ h
def m_X12_useParts_110 (n : Nat) (k39 : q_S → Option Nat → Int32 → Int32 → Int32 → Option (Int32 × q_S)) (S : q_S) (l0 : Option Nat) (l4 : Int32) (l5 : Int32) (l6 : Int32) : Option (Int32 × q_S) := m_X12_useParts_111 n k39 (S) (l0) (l4) (l5) (l6) ((0 : Int32))
set_option maxHeartbeats 4000000 in
set_option maxRecDepth 100000 in
theorem w_X12_useParts_110 (X : q_X p s m args c cX12_useParts 7 RX12 q_T D cy A) (hr : meth.sig.returnType = (some .boolean)) (hl : meth.locks = false)  {n : Nat} {Sv : q_S} {rv : Int32}  {k39 : q_S → Option Nat → Int32 → Int32 → Int32 → Option (Int32 × q_S)} (hk39 : ∀ (S : q_S) (z0 : Option Nat) (z1 : Int32) (z2 : Int32) (z3 : Int32), k39 S z0 z1 z2 z3 = some (rv, Sv) → q_W p l e ({ frames := 4, cells := 0, slots := 0, locals := 99 } : Room) s m args below meth c (MQ below (va_Qi (fun (r : Int32) (u : q_S) => r = rv ∧ u = Sv) (q_B D cy A) A) args s 0 0 A) A D cy 7 0 0 S 39 [(0, va_rf (z0)), (2, .int (z1)), (3, .int (z2)), (4, .int (z3))] []) (S : q_S) (l0 : Option Nat) (l4 : Int32) (l5 : Int32) (l6 : Int32) (h : m_X12_useParts_110 n k39 S l0 l4 l5 l6 = some (rv, Sv)) : q_W p l e ({ frames := 4, cells := 0, slots := 0, locals := 99 } : Room) s m args below meth c (MQ below (va_Qi (fun (r : Int32) (u : q_S) => r = rv ∧ u = Sv) (q_B D cy A) A) args s 0 0 A) A D cy 7 0 0 S 110 [(0, va_rf (l0)), (4, .int (l4)), (5, .int (l5)), (6, .int (l6))] [] := by
  unfold m_X12_useParts_110 at h
  refine q_iconst X (0) (by decide) dX12_useParts_110 ?_
  exact w_X12_useParts_111 X hr hl hk39 _ _ _ _ _ _ h
def m_X12_useParts_39 (n : Nat) : Nat → q_S → Option Nat → Int32 → Int32 → Int32 → Option (Int32 × q_S)
  | 0, _, _, _, _, _ => none
  | k + 1, S, l0, l2, l3, l4 => (if l3 = 0 then m_X12_useParts_147 n (S) (l2) else q_at (S) (l0) 13 (fun a2 => (if (q_I (S) a2 8) = 0 then q_b (m_X12_readPart n (S) a2 ((7 : Int32)) (l4)) (fun r4 S5 => q_at (S5) (l0) 13 (fun a7 => (if (q_I (S5) a7 8) = 0 then q_at (S5) (q_R (S5) a7 30) 100 (fun a9 => q_if (q_in ((7 : Int32)) (q_N (S5) a9) = true) (q_b (m_X12_isSign n (S5) a7 (q_I (S5) a9 ((7 : Int32)).toNatClampNeg)) (fun r11 S12 => (if l2 = 0 then (if r11 = 0 then m_X12_useParts_110 n (m_X12_useParts_39 n k) (S12) (l0) (l4 + r4) (q_I (S5) a9 ((7 : Int32)).toNatClampNeg) (r11) else q_at (S12) (l0) 13 (fun a16 => q_at (S12) (q_R (S12) a16 9) 102 (fun a17 => q_if (q_in (q_I (S5) a9 ((7 : Int32)).toNatClampNeg) (q_N (S12) a17) = true) ((if (q_I (S12) a17 (q_I (S5) a9 ((7 : Int32)).toNatClampNeg).toNatClampNeg) = 0 then m_X12_useParts_106 n (m_X12_useParts_39 n k) (S12) (l0) (l4 + r4) (q_I (S5) a9 ((7 : Int32)).toNatClampNeg) (r11) else m_X12_useParts_110 n (m_X12_useParts_39 n k) (S12) (l0) (l4 + r4) (q_I (S5) a9 ((7 : Int32)).toNatClampNeg) (r11)))))) else m_X12_useParts_106 n (m_X12_useParts_39 n k) (S12) (l0) (l4 + r4) (q_I (S5) a9 ((7 : Int32)).toNatClampNeg) (r11))))) else m_X12_useParts_39 n k (S5) (l0) (l2) (l3) (l4 + r4)))) else m_X12_useParts_147 n (S) (l2))))
set_option maxHeartbeats 4000000 in
set_option maxRecDepth 100000 in
theorem w_X12_useParts_39 (X : q_X p s m args c cX12_useParts 7 RX12 q_T D cy A) (hr : meth.sig.returnType = (some .boolean)) (hl : meth.locks = false)  {n : Nat} {Sv : q_S} {rv : Int32}  : ∀ (k : Nat) (S : q_S) (l0 : Option Nat) (l2 : Int32) (l3 : Int32) (l4 : Int32), m_X12_useParts_39 n k S l0 l2 l3 l4 = some (rv, Sv) → q_W p l e ({ frames := 4, cells := 0, slots := 0, locals := 99 } : Room) s m args below meth c (MQ below (va_Qi (fun (r : Int32) (u : q_S) => r = rv ∧ u = Sv) (q_B D cy A) A) args s 0 0 A) A D cy 7 0 0 S 39 [(0, va_rf (l0)), (2, .int (l2)), (3, .int (l3)), (4, .int (l4))] [] := by
  intro k
  induction k with
  | zero => intro S l0 l2 l3 l4 h; rw [m_X12_useParts_39] at h; cases h
  | succ k ih =>
    intro S l0 l2 l3 l4 h
    rw [m_X12_useParts_39] at h
    refine q_iload_n X 2 rfl dX12_useParts_39 ?_
    refine q_if_eq X 147 (by decide) dX12_useParts_40 (fun g1 => ?_) (fun g1 => ?_)
    · rw [if_pos g1] at h
      refine q_lv [1] rfl ?_
      exact w_X12_useParts_147 X hr hl _ _ h
    · rw [if_neg g1] at h
      refine q_aload_n X 0 rfl dX12_useParts_43 ?_
      obtain ⟨a2, ea2, ma2, ka2, h⟩ := q_atE h
      refine q_getI X 8 ea2 ma2 ka2 rfl tW_X12 (by decide) (by decide) tF_X12_114 rfl dX12_useParts_44 ?_
      refine q_if_ne X 147 (by decide) dX12_useParts_47 (fun g3 => ?_) (fun g3 => ?_)
      · rw [if_neg g3] at h
        refine q_lv [1] rfl ?_
        exact w_X12_useParts_147 X hr hl _ _ h
      · rw [if_pos g3] at h
        refine q_iload X 3 rfl dX12_useParts_50 ?_
        refine q_aload_n X 0 rfl dX12_useParts_52 ?_
        refine q_bipush X (7) (by decide) dX12_useParts_53 ?_
        refine q_iload X 3 rfl dX12_useParts_55 ?_
        obtain ⟨r4, S5, c6, h⟩ := q_bE h
        refine q_cVI X (As := [.int ((7 : Int32)), .int (l4)]) ea2 ma2 ka2 rfl (by decide) (c_X12_readPart c6) (q_cwV X tK_X12_readPart tM_X12_236 tI_X12_readPart tV_X12_readPart tN_X12 rfl rfl tD_X12_readPart ⟨Nat.le_of_ble_eq_true rfl, Nat.le_of_ble_eq_true rfl⟩) rfl rfl (by first | exact Nat.le_of_ble_eq_true rfl | (simp only [List.map, q_catR]; exact Nat.le_of_ble_eq_true rfl)) ⟨Nat.zero_le _, Nat.zero_le _⟩ dX12_useParts_57 ?_
        refine q_iadd X dX12_useParts_60 ?_
        refine q_istore X 4 [(4, .int (l4 + r4)), (0, va_rf (l0)), (2, .int (l2)), (3, .int (l3))] (by decide) (by first | rfl | simp [List.filter, q_catR]) dX12_useParts_61 ?_
        refine q_aload_n X 1 rfl dX12_useParts_63 ?_
        obtain ⟨a7, ea7, ma7, ka7, h⟩ := q_atE h
        refine q_getI X 8 ea7 ma7 ka7 rfl tW_X12 (by decide) (by decide) tF_X12_114 rfl dX12_useParts_64 ?_
        refine q_if_ne X 39 (by decide) dX12_useParts_67 (fun g8 => ?_) (fun g8 => ?_)
        · rw [if_neg g8] at h
          refine q_lv [1, 2, 3, 0] rfl ?_
          exact ih _ _ _ _ _ h
        · rw [if_pos g8] at h
          refine q_aload_n X 1 rfl dX12_useParts_70 ?_
          refine q_getR X 30 ea7 ma7 ka7 rfl tW_X12 (by decide) (by decide) tF_X12_69 rfl dX12_useParts_71 ?_
          refine q_bipush X (7) (by decide) dX12_useParts_74 ?_
          obtain ⟨a9, ea9, ma9, ka9, h⟩ := q_atE h
          obtain ⟨g10, h⟩ := q_ifE h
          refine q_iaload X ea9 ma9 ka9 (q_inE g10) dX12_useParts_76 ?_
          refine q_istore X 5 [(5, .int (q_I (S5) a9 ((7 : Int32)).toNatClampNeg)), (4, .int (l4 + r4)), (0, va_rf (l0)), (2, .int (l2)), (3, .int (l3))] (by decide) (by first | rfl | simp [List.filter, q_catR]) dX12_useParts_77 ?_
          refine q_aload_n X 2 rfl dX12_useParts_79 ?_
          refine q_iload X 0 rfl dX12_useParts_80 ?_
          obtain ⟨r11, S12, c13, h⟩ := q_bE h
          refine q_cVI X (As := [.int (q_I (S5) a9 ((7 : Int32)).toNatClampNeg)]) ea7 ma7 ka7 rfl (by decide) (c_X12_isSign c13) (q_cwV X tK_X12_isSign tM_X12_239 tI_X12_isSign tV_X12_isSign tN_X12 rfl rfl tD_X12_isSign ⟨Nat.le_of_ble_eq_true rfl, Nat.le_of_ble_eq_true rfl⟩) rfl rfl (by first | exact Nat.le_of_ble_eq_true rfl | (simp only [List.map, q_catR]; exact Nat.le_of_ble_eq_true rfl)) ⟨Nat.zero_le _, Nat.zero_le _⟩ dX12_useParts_82 ?_
          refine q_istore X 6 [(6, .int (r11)), (5, .int (q_I (S5) a9 ((7 : Int32)).toNatClampNeg)), (4, .int (l4 + r4)), (0, va_rf (l0)), (2, .int (l2)), (3, .int (l3))] (by decide) (by first | rfl | simp [List.filter, q_catR]) dX12_useParts_85 ?_
          refine q_iload_n X 4 rfl dX12_useParts_87 ?_
          refine q_if_ne X 106 (by decide) dX12_useParts_88 (fun g14 => ?_) (fun g14 => ?_)
          · rw [if_neg g14] at h
            refine q_lv [3, 2, 1, 0] rfl ?_
            exact w_X12_useParts_106 X hr hl ih _ _ _ _ _ h
          · rw [if_pos g14] at h
            refine q_iload X 0 rfl dX12_useParts_91 ?_
            refine q_if_eq X 110 (by decide) dX12_useParts_93 (fun g15 => ?_) (fun g15 => ?_)
            · rw [if_pos g15] at h
              refine q_lv [3, 2, 1, 0] rfl ?_
              exact w_X12_useParts_110 X hr hl ih _ _ _ _ _ h
            · rw [if_neg g15] at h
              refine q_aload_n X 3 rfl dX12_useParts_96 ?_
              obtain ⟨a16, ea16, ma16, ka16, h⟩ := q_atE h
              refine q_getR X 9 ea16 ma16 ka16 rfl tW_X12 (by decide) (by decide) tF_X12_26 rfl dX12_useParts_97 ?_
              refine q_iload X 1 rfl dX12_useParts_100 ?_
              obtain ⟨a17, ea17, ma17, ka17, h⟩ := q_atE h
              obtain ⟨g18, h⟩ := q_ifE h
              refine q_zaload X ea17 ma17 ka17 (q_inE g18) dX12_useParts_102 ?_
              refine q_if_ne X 110 (by decide) dX12_useParts_103 (fun g19 => ?_) (fun g19 => ?_)
              · rw [if_neg g19] at h
                refine q_lv [3, 2, 1, 0] rfl ?_
                exact w_X12_useParts_110 X hr hl ih _ _ _ _ _ h
              · rw [if_pos g19] at h
                refine q_lv [3, 2, 1, 0] rfl ?_
                exact w_X12_useParts_106 X hr hl ih _ _ _ _ _ h
def m_X12_useParts_34 (n : Nat) (S : q_S) (l0 : Option Nat) (l2 : Int32) (s0 : Int32) : Option (Int32 × q_S) := m_X12_useParts_39 n n (S) (l0) (l2) (s0) ((10 : Int32))
set_option maxHeartbeats 4000000 in
set_option maxRecDepth 100000 in
theorem w_X12_useParts_34 (X : q_X p s m args c cX12_useParts 7 RX12 q_T D cy A) (hr : meth.sig.returnType = (some .boolean)) (hl : meth.locks = false)  {n : Nat} {Sv : q_S} {rv : Int32}  (S : q_S) (l0 : Option Nat) (l2 : Int32) (s0 : Int32) (h : m_X12_useParts_34 n S l0 l2 s0 = some (rv, Sv)) : q_W p l e ({ frames := 4, cells := 0, slots := 0, locals := 99 } : Room) s m args below meth c (MQ below (va_Qi (fun (r : Int32) (u : q_S) => r = rv ∧ u = Sv) (q_B D cy A) A) args s 0 0 A) A D cy 7 0 0 S 34 [(0, va_rf (l0)), (2, .int (l2))] [.int (s0)] := by
  unfold m_X12_useParts_34 at h
  refine q_istore_n X 3 [(3, .int (s0)), (0, va_rf (l0)), (2, .int (l2))] rfl (by decide) (by first | rfl | simp [List.filter, q_catR]) dX12_useParts_34 ?_
  refine q_bipush X (10) (by decide) dX12_useParts_35 ?_
  refine q_istore X 4 [(4, .int ((10 : Int32))), (3, .int (s0)), (0, va_rf (l0)), (2, .int (l2))] (by decide) (by first | rfl | simp [List.filter, q_catR]) dX12_useParts_37 ?_
  refine q_lv [2, 3, 1, 0] rfl ?_
  exact w_X12_useParts_39 X hr hl n _ _ _ _ _ h
def m_X12_useParts_33 (n : Nat) (S : q_S) (l0 : Option Nat) (l2 : Int32) : Option (Int32 × q_S) := m_X12_useParts_34 n (S) (l0) (l2) ((0 : Int32))
set_option maxHeartbeats 4000000 in
set_option maxRecDepth 100000 in
theorem w_X12_useParts_33 (X : q_X p s m args c cX12_useParts 7 RX12 q_T D cy A) (hr : meth.sig.returnType = (some .boolean)) (hl : meth.locks = false)  {n : Nat} {Sv : q_S} {rv : Int32}  (S : q_S) (l0 : Option Nat) (l2 : Int32) (h : m_X12_useParts_33 n S l0 l2 = some (rv, Sv)) : q_W p l e ({ frames := 4, cells := 0, slots := 0, locals := 99 } : Room) s m args below meth c (MQ below (va_Qi (fun (r : Int32) (u : q_S) => r = rv ∧ u = Sv) (q_B D cy A) A) args s 0 0 A) A D cy 7 0 0 S 33 [(0, va_rf (l0)), (2, .int (l2))] [] := by
  unfold m_X12_useParts_33 at h
  refine q_iconst X (0) (by decide) dX12_useParts_33 ?_
  exact w_X12_useParts_34 X hr hl _ _ _ _ h
def m_X12_useParts (n : Nat) (S : q_S) (o : Nat) (p0 : Int32) : Option (Int32 × q_S) := q_at (S) (some o) 13 (fun a1 => q_b (m_X12_lookData n (S) a1 (p0)) (fun r2 S3 => (if r2 = 0 then m_X12_useParts_33 n (S3) (some o) ((0 : Int32)) else q_at (S3) (some o) 13 (fun a6 => (if (q_I (S3) a6 23) = 0 then q_b (m_X12_data n (S3) a6 ((0 : Int32)) ((2 : Int32))) (fun r8 S9 => q_b (m_X12_signed n (S9) (r8)) (fun r11 S12 => (if 0 ≤ r11 then m_X12_useParts_33 n (S12) (some o) ((0 : Int32)) else m_X12_useParts_34 n (S12) (some o) ((0 : Int32)) ((1 : Int32))))) else m_X12_useParts_33 n (S3) (some o) ((0 : Int32)))))))
set_option maxHeartbeats 4000000 in
set_option maxRecDepth 100000 in
theorem w_X12_useParts (X : q_X p s m args c cX12_useParts 7 RX12 q_T D cy A) (hr : meth.sig.returnType = (some .boolean)) (hl : meth.locks = false)  {n : Nat} {S Sv : q_S} {rv : Int32} {o : Nat} {p0 : Int32} (h : m_X12_useParts n S o p0 = some (rv, Sv)) : q_W p l e ({ frames := 4, cells := 0, slots := 0, locals := 99 } : Room) s m args below meth c (MQ below (va_Qi (fun (r : Int32) (u : q_S) => r = rv ∧ u = Sv) (q_B D cy A) A) args s 0 0 A) A D cy 7 0 0 S 0 [(0, va_rf (some o)), (1, .int (p0))] [] := by
  unfold m_X12_useParts at h
  refine q_iconst X (0) (by decide) dX12_useParts_0 ?_
  refine q_istore_n X 2 [(2, .int ((0 : Int32))), (0, va_rf (some o)), (1, .int (p0))] rfl (by decide) (by first | rfl | simp [List.filter, q_catR]) dX12_useParts_1 ?_
  refine q_aload_n X 1 rfl dX12_useParts_2 ?_
  refine q_iload_n X 2 rfl dX12_useParts_3 ?_
  obtain ⟨a1, ea1, ma1, ka1, h⟩ := q_atE h
  obtain ⟨r2, S3, c4, h⟩ := q_bE h
  refine q_cVI X (As := [.int (p0)]) ea1 ma1 ka1 rfl (by decide) (c_X12_lookData c4) (q_cwV X tK_X12_lookData tM_X12_216 tI_X12_lookData tV_X12_lookData tN_X12 rfl rfl tD_X12_lookData ⟨Nat.le_of_ble_eq_true rfl, Nat.le_of_ble_eq_true rfl⟩) rfl rfl (by first | exact Nat.le_of_ble_eq_true rfl | (simp only [List.map, q_catR]; exact Nat.le_of_ble_eq_true rfl)) ⟨Nat.zero_le _, Nat.zero_le _⟩ dX12_useParts_4 ?_
  refine q_if_eq X 33 (by decide) dX12_useParts_7 (fun g5 => ?_) (fun g5 => ?_)
  · rw [if_pos g5] at h
    refine q_lv [1, 0] rfl ?_
    exact w_X12_useParts_33 X hr hl _ _ _ h
  · rw [if_neg g5] at h
    refine q_aload_n X 1 rfl dX12_useParts_10 ?_
    obtain ⟨a6, ea6, ma6, ka6, h⟩ := q_atE h
    refine q_getI X 23 ea6 ma6 ka6 rfl tW_X12 (by decide) (by decide) tF_X12_186 rfl dX12_useParts_11 ?_
    refine q_if_ne X 33 (by decide) dX12_useParts_14 (fun g7 => ?_) (fun g7 => ?_)
    · rw [if_neg g7] at h
      refine q_lv [1, 0] rfl ?_
      exact w_X12_useParts_33 X hr hl _ _ _ h
    · rw [if_pos g7] at h
      refine q_aload_n X 1 rfl dX12_useParts_17 ?_
      refine q_iconst X (0) (by decide) dX12_useParts_18 ?_
      refine q_iconst X (2) (by decide) dX12_useParts_19 ?_
      obtain ⟨r8, S9, c10, h⟩ := q_bE h
      refine q_cVI X (As := [.int ((0 : Int32)), .int ((2 : Int32))]) ea6 ma6 ka6 rfl (by decide) (c_X12_data c10) (q_cwV X tK_X12_data tM_X12_199 tI_X12_data tV_X12_data tN_X12 rfl rfl tD_X12_data ⟨Nat.le_of_ble_eq_true rfl, Nat.le_of_ble_eq_true rfl⟩) rfl rfl (by first | exact Nat.le_of_ble_eq_true rfl | (simp only [List.map, q_catR]; exact Nat.le_of_ble_eq_true rfl)) ⟨Nat.zero_le _, Nat.zero_le _⟩ dX12_useParts_20 ?_
      obtain ⟨r11, S12, c13, h⟩ := q_bE h
      refine q_cSI X (As := [.int (r8)]) (c_X12_signed c13) (q_cwS X tK_X12_signed tM_X12_210 tS_X12_signed tN_X12 rfl rfl tD_X12_signed ⟨Nat.le_of_ble_eq_true rfl, Nat.le_of_ble_eq_true rfl⟩) rfl rfl (by first | exact Nat.le_of_ble_eq_true rfl | (simp only [List.map, q_catR]; exact Nat.le_of_ble_eq_true rfl)) ⟨Nat.zero_le _, Nat.zero_le _⟩ dX12_useParts_23 ?_
      refine q_if_ge X 33 (by decide) dX12_useParts_26 (fun g14 => ?_) (fun g14 => ?_)
      · rw [if_pos g14] at h
        refine q_lv [1, 0] rfl ?_
        exact w_X12_useParts_33 X hr hl _ _ _ h
      · rw [if_neg g14] at h
        refine q_iconst X (1) (by decide) dX12_useParts_29 ?_
        refine q_goto X 34 (by decide) dX12_useParts_30 ?_
        refine q_lv [1, 0] rfl ?_
        exact w_X12_useParts_34 X hr hl _ _ _ _ h
theorem tD_X12_useParts : yX12_useParts.cls ≠ "java/lang/invoke/MethodHandle" ∧ yX12_useParts.cls ≠ "java/lang/invoke/VarHandle" ∧ (parseMethodDescriptor yX12_useParts.desc).map (fun d => d.parameters.length) = some 1 := by decide +kernel
theorem c_X12_useParts {l : Launch} {D : va_G} {cy : Nat → ClassId} {n : Nat} {S Sv : q_S} {rv : Int32} {o : Nat} {p0 : Int32} (h : m_X12_useParts n S o p0 = some (rv, Sv)) : q_MI l yX12_useParts (q_ws yX12_useParts cX12_useParts 7 ((some .boolean))) ({ frames := 4, cells := 0, slots := 0, locals := 99 } : Room) D cy [.ref o, .int (p0)] S rv Sv := by
  exact q_MI_of (by decide +kernel) (Nat.le_of_ble_eq_true rfl) (fun p e s m args below meth c A X hr hl => w_X12_useParts X hr hl h)
end MM
