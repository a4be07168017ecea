section MM
variable {p : Program} {l : Launch} {e : Env} {s : State} {m : MethodId} {args : Array Value} {below : List Frame} {meth : Method} {c : Code} {A : Nat → Prop} {D : va_G} {cy : Nat → ClassId}
/-! TrueOutlinesModel.sum(I)J -/
def m_X12_sum_32 (n : Nat) (S : q_S) (s0 : Int64) : Option (Int64 × q_S) := some (s0, S)
set_option maxHeartbeats 4000000 in
set_option maxRecDepth 100000 in
theorem w_X12_sum_32 (X : q_X p s m args c cX12_sum 2 RX12 q_T D cy A) (hr : meth.sig.returnType = (some .long)) (hl : meth.locks = false)  {n : Nat} {Sv : q_S} {rv : Int64}  (S : q_S) (s0 : Int64) (h : m_X12_sum_32 n S s0 = some (rv, Sv)) : q_W p l e ({ frames := 2, cells := 0, slots := 0, locals := 49 } : Room) s m args below meth c (MQ below (va_Ql (fun (r : Int64) (u : q_S) => r = rv ∧ u = Sv) (q_B D cy A) A) args s 0 0 A) A D cy 2 0 0 S 32 [] [.long (s0)] := by
  unfold m_X12_sum_32 at h
  obtain ⟨ev, eS⟩ := q_end h
  exact q_lret X hr hl ev eS dX12_sum_32
def m_X12_sum (n : Nat) (S : q_S) (o : Nat) (p0 : Int32) : Option (Int64 × q_S) := q_at (S) (some o) 13 (fun a1 => q_b (m_X12_in n (q_sI (S) a1 0 ((0 : Int32))) (p0.toInt64) ((0 : Int64)) (((q_I (q_sI (S) a1 0 ((0 : Int32))) a1 3) - (1 : Int32)).toInt64)) (fun r2 S3 => (if r2 = 0 then m_X12_sum_32 n (S3) ((-1 : Int64)) else q_at (S3) (some o) 13 (fun a6 => q_b (m_X12_sumOf n (S3) a6 (p0)) (fun r7 S8 => m_X12_sum_32 n (S8) (r7))))))
set_option maxHeartbeats 4000000 in
set_option maxRecDepth 100000 in
theorem w_X12_sum (X : q_X p s m args c cX12_sum 2 RX12 q_T D cy A) (hr : meth.sig.returnType = (some .long)) (hl : meth.locks = false)  {n : Nat} {S Sv : q_S} {rv : Int64} {o : Nat} {p0 : Int32} (h : m_X12_sum n S o p0 = some (rv, Sv)) : q_W p l e ({ frames := 2, cells := 0, slots := 0, locals := 49 } : Room) s m args below meth c (MQ below (va_Ql (fun (r : Int64) (u : q_S) => r = rv ∧ u = Sv) (q_B D cy A) A) args s 0 0 A) A D cy 2 0 0 S 0 [(0, va_rf (some o)), (1, .int (p0))] [] := by
  unfold m_X12_sum at h
  refine q_aload_n X 0 rfl dX12_sum_0 ?_
  refine q_iconst X (0) (by decide) dX12_sum_1 ?_
  obtain ⟨a1, ea1, ma1, ka1, h⟩ := q_atE h
  refine q_putI X 0 ea1 ma1 ka1 rfl tW_X12 (by decide) (by decide) tF_X12_96 tyX12 tyX12_ok nmX12 rfl (tyX12_ok 0 (by decide)) rfl rfl rfl dX12_sum_2 ?_
  have ma1 : a1 ∈ q_L (q_sI (S) a1 0 ((0 : Int32))) := q_LsI ma1
  have ka1 : q_K (q_sI (S) a1 0 ((0 : Int32))) a1 = 13 := q_KsI ka1
  refine q_iload_n X 1 rfl dX12_sum_5 ?_
  refine q_i2l X dX12_sum_6 ?_
  refine q_lconst X (0) (by decide) dX12_sum_7 ?_
  refine q_aload_n X 0 rfl dX12_sum_8 ?_
  refine q_getI X 3 ea1 ma1 ka1 rfl tW_X12 (by decide) (by decide) tF_X12_111 rfl dX12_sum_9 ?_
  refine q_iconst X (1) (by decide) dX12_sum_12 ?_
  refine q_isub X dX12_sum_13 ?_
  refine q_i2l X dX12_sum_14 ?_
  obtain ⟨r2, S3, c4, h⟩ := q_bE h
  refine q_cSI X (As := [.long (p0.toInt64), .long ((0 : Int64)), .long (((q_I (q_sI (S) a1 0 ((0 : Int32))) a1 3) - (1 : Int32)).toInt64)]) (c_X12_in c4) (q_cwS X tK_X12_in tM_X12_102 tS_X12_in tN_X12 rfl rfl tD_X12_in ⟨Nat.le_of_ble_eq_true rfl, Nat.le_of_ble_eq_true rfl⟩) rfl rfl (by first | exact Nat.le_of_ble_eq_true rfl | (simp only [List.map, q_catR]; exact Nat.le_of_ble_eq_true rfl)) ⟨Nat.zero_le _, Nat.zero_le _⟩ dX12_sum_15 ?_
  refine q_if_eq X 29 (by decide) dX12_sum_18 (fun g5 => ?_) (fun g5 => ?_)
  · rw [if_pos g5] at h
    refine q_ldc2_w X (-1) tC_X12_163 dX12_sum_29 ?_
    refine q_lv [] rfl ?_
    exact w_X12_sum_32 X hr hl _ _ h
  · rw [if_neg g5] at h
    refine q_aload_n X 0 rfl dX12_sum_21 ?_
    refine q_iload_n X 1 rfl dX12_sum_22 ?_
    obtain ⟨a6, ea6, ma6, ka6, h⟩ := q_atE h
    obtain ⟨r7, S8, c9, h⟩ := q_bE h
    refine q_cVJ X (As := [.int (p0)]) ea6 ma6 ka6 rfl (by decide) (c_X12_sumOf c9) (q_cwV X tK_X12_sumOf tM_X12_156 tI_X12_sumOf tV_X12_sumOf tN_X12 rfl rfl tD_X12_sumOf ⟨Nat.le_of_ble_eq_true rfl, Nat.le_of_ble_eq_true rfl⟩) rfl rfl (by first | exact Nat.le_of_ble_eq_true rfl | (simp only [List.map, q_catR]; exact Nat.le_of_ble_eq_true rfl)) ⟨Nat.zero_le _, Nat.zero_le _⟩ dX12_sum_23 ?_
    refine q_goto X 32 (by decide) dX12_sum_26 ?_
    refine q_lv [] rfl ?_
    exact w_X12_sum_32 X hr hl _ _ h
theorem tD_X12_sum : yX12_sum.cls ≠ "java/lang/invoke/MethodHandle" ∧ yX12_sum.cls ≠ "java/lang/invoke/VarHandle" ∧ (parseMethodDescriptor yX12_sum.desc).map (fun d => d.parameters.length) = some 1 := by decide +kernel
theorem c_X12_sum {l : Launch} {D : va_G} {cy : Nat → ClassId} {n : Nat} {S Sv : q_S} {rv : Int64} {o : Nat} {p0 : Int32} (h : m_X12_sum n S o p0 = some (rv, Sv)) : q_MJ l yX12_sum (q_ws yX12_sum cX12_sum 2 ((some .long))) ({ frames := 2, cells := 0, slots := 0, locals := 49 } : Room) D cy [.ref o, .int (p0)] S rv Sv := by
  exact q_MJ_of (by decide +kernel) (Nat.le_of_ble_eq_true rfl) (fun p e s m args below meth c A X hr hl => w_X12_sum X hr hl h)
/-! TrueOutlinesModel.sumWritten(II)J -/
def m_X12_sumWritten_5 (n : Nat) : Nat → q_S → Option Nat → Int32 → Int32 → Int64 → Int32 → Option (Int64 × q_S)
  | 0, _, _, _, _, _, _ => none
  | k + 1, S, l0, l1, l2, l3, l5 => (if l2 ≤ l5 then some (l3 &&& (4294967295 : Int64), S) else q_at (S) (l0) 13 (fun a2 => q_at (S) (q_R (S) a2 39) 100 (fun a3 => q_if (q_in (l5) (q_N (S) a3) = true) (q_if (¬ (4 : Int32) = 0) (m_X12_sumWritten_5 n k (S) (l0) (l1) (l2) (l3 + (((q_I (S) a3 (l5).toNatClampNeg).toInt64) <<< ((((24 : Int32) - ((8 : Int32) * ((l5 - l1) - (l5 - l1) / (4 : Int32) * (4 : Int32))))).toInt64 &&& 63))) (l5 + (1)))))))
set_option maxHeartbeats 4000000 in
set_option maxRecDepth 100000 in
theorem w_X12_sumWritten_5 (X : q_X p s m args c cX12_sumWritten 6 RX12 q_T D cy A) (hr : meth.sig.returnType = (some .long)) (hl : meth.locks = false)  {n : Nat} {Sv : q_S} {rv : Int64}  : ∀ (k : Nat) (S : q_S) (l0 : Option Nat) (l1 : Int32) (l2 : Int32) (l3 : Int64) (l5 : Int32), m_X12_sumWritten_5 n k S l0 l1 l2 l3 l5 = some (rv, Sv) → q_W p l e ({ frames := 0, cells := 0, slots := 0, locals := 0 } : Room) s m args below meth c (MQ below (va_Ql (fun (r : Int64) (u : q_S) => r = rv ∧ u = Sv) (q_B D cy A) A) args s 0 0 A) A D cy 6 0 0 S 5 [(0, va_rf (l0)), (1, .int (l1)), (2, .int (l2)), (3, .long (l3)), (5, .int (l5))] [] := by
  intro k
  induction k with
  | zero => intro S l0 l1 l2 l3 l5 h; rw [m_X12_sumWritten_5] at h; cases h
  | succ k ih =>
    intro S l0 l1 l2 l3 l5 h
    rw [m_X12_sumWritten_5] at h
    refine q_iload X 4 rfl dX12_sumWritten_5 ?_
    refine q_iload_n X 2 rfl dX12_sumWritten_7 ?_
    refine q_icmp_ge X 41 (by decide) dX12_sumWritten_8 (fun g1 => ?_) (fun g1 => ?_)
    · rw [if_pos g1] at h
      refine q_lload_n X 3 rfl dX12_sumWritten_41 ?_
      refine q_ldc2_w X (4294967295) tC_X12_131 dX12_sumWritten_42 ?_
      refine q_land X dX12_sumWritten_45 ?_
      obtain ⟨ev, eS⟩ := q_end h
      exact q_lret X hr hl ev eS dX12_sumWritten_46
    · rw [if_neg g1] at h
      refine q_lload_n X 3 rfl dX12_sumWritten_11 ?_
      refine q_aload_n X 0 rfl dX12_sumWritten_12 ?_
      obtain ⟨a2, ea2, ma2, ka2, h⟩ := q_atE h
      refine q_getR X 39 ea2 ma2 ka2 rfl tW_X12 (by decide) (by decide) tF_X12_90 rfl dX12_sumWritten_13 ?_
      refine q_iload X 4 rfl dX12_sumWritten_16 ?_
      obtain ⟨a3, ea3, ma3, ka3, h⟩ := q_atE h
      obtain ⟨g4, h⟩ := q_ifE h
      refine q_iaload X ea3 ma3 ka3 (q_inE g4) dX12_sumWritten_18 ?_
      refine q_i2l X dX12_sumWritten_19 ?_
      refine q_bipush X (24) (by decide) dX12_sumWritten_20 ?_
      refine q_bipush X (8) (by decide) dX12_sumWritten_22 ?_
      refine q_iload X 4 rfl dX12_sumWritten_24 ?_
      refine q_iload_n X 1 rfl dX12_sumWritten_26 ?_
      refine q_isub X dX12_sumWritten_27 ?_
      refine q_iconst X (4) (by decide) dX12_sumWritten_28 ?_
      obtain ⟨g5, h⟩ := q_ifE h
      refine q_irem X g5 dX12_sumWritten_29 ?_
      refine q_imul X dX12_sumWritten_30 ?_
      refine q_isub X dX12_sumWritten_31 ?_
      refine q_lshl X dX12_sumWritten_32 ?_
      refine q_ladd X dX12_sumWritten_33 ?_
      refine q_lstore_n X 3 [(3, .long (l3 + (((q_I (S) a3 (l5).toNatClampNeg).toInt64) <<< ((((24 : Int32) - ((8 : Int32) * ((l5 - l1) - (l5 - l1) / (4 : Int32) * (4 : Int32))))).toInt64 &&& 63)))), (0, va_rf (l0)), (1, .int (l1)), (2, .int (l2)), (5, .int (l5))] rfl (by decide) (by first | rfl | simp [List.filter, q_catR]) dX12_sumWritten_34 ?_
      refine q_iinc X 5 4 (l5 + (1)) [(5, .int (l5 + (1))), (3, .long (l3 + (((q_I (S) a3 (l5).toNatClampNeg).toInt64) <<< ((((24 : Int32) - ((8 : Int32) * ((l5 - l1) - (l5 - l1) / (4 : Int32) * (4 : Int32))))).toInt64 &&& 63)))), (0, va_rf (l0)), (1, .int (l1)), (2, .int (l2))] rfl (congrArg (fun z => l5 + z) (show Int32.ofInt (1) = (1) by decide)) (by decide) (by first | rfl | simp [List.filter, q_catR]) dX12_sumWritten_35 ?_
      refine q_goto X 5 (by decide) dX12_sumWritten_38 ?_
      refine q_lv [2, 3, 4, 1, 0] rfl ?_
      exact ih _ _ _ _ _ _ h
def m_X12_sumWritten (n : Nat) (S : q_S) (o : Nat) (p0 : Int32) (p1 : Int32) : Option (Int64 × q_S) := m_X12_sumWritten_5 n n (S) (some o) (p0) (p1) ((0 : Int64)) (p0)
set_option maxHeartbeats 4000000 in
set_option maxRecDepth 100000 in
theorem w_X12_sumWritten (X : q_X p s m args c cX12_sumWritten 6 RX12 q_T D cy A) (hr : meth.sig.returnType = (some .long)) (hl : meth.locks = false)  {n : Nat} {S Sv : q_S} {rv : Int64} {o : Nat} {p0 : Int32} {p1 : Int32} (h : m_X12_sumWritten n S o p0 p1 = some (rv, Sv)) : q_W p l e ({ frames := 0, cells := 0, slots := 0, locals := 0 } : Room) s m args below meth c (MQ below (va_Ql (fun (r : Int64) (u : q_S) => r = rv ∧ u = Sv) (q_B D cy A) A) args s 0 0 A) A D cy 6 0 0 S 0 [(0, va_rf (some o)), (1, .int (p0)), (2, .int (p1))] [] := by
  unfold m_X12_sumWritten at h
  refine q_lconst X (0) (by decide) dX12_sumWritten_0 ?_
  refine q_lstore_n X 3 [(3, .long ((0 : Int64))), (0, va_rf (some o)), (1, .int (p0)), (2, .int (p1))] rfl (by decide) (by first | rfl | simp [List.filter, q_catR]) dX12_sumWritten_1 ?_
  refine q_iload_n X 2 rfl dX12_sumWritten_2 ?_
  refine q_istore X 5 [(5, .int (p0)), (3, .long ((0 : Int64))), (0, va_rf (some o)), (1, .int (p0)), (2, .int (p1))] (by decide) (by first | rfl | simp [List.filter, q_catR]) dX12_sumWritten_3 ?_
  refine q_lv [2, 3, 4, 1, 0] rfl ?_
  exact w_X12_sumWritten_5 X hr hl n _ _ _ _ _ _ h
theorem tD_X12_sumWritten : yX12_sumWritten.cls ≠ "java/lang/invoke/MethodHandle" ∧ yX12_sumWritten.cls ≠ "java/lang/invoke/VarHandle" ∧ (parseMethodDescriptor yX12_sumWritten.desc).map (fun d => d.parameters.length) = some 2 := by decide +kernel
theorem c_X12_sumWritten {l : Launch} {D : va_G} {cy : Nat → ClassId} {n : Nat} {S Sv : q_S} {rv : Int64} {o : Nat} {p0 : Int32} {p1 : Int32} (h : m_X12_sumWritten n S o p0 p1 = some (rv, Sv)) : q_MJ l yX12_sumWritten (q_ws yX12_sumWritten cX12_sumWritten 6 ((some .long))) ({ frames := 0, cells := 0, slots := 0, locals := 0 } : Room) D cy [.ref o, .int (p0), .int (p1)] S rv Sv := by
  exact q_MJ_of (by decide +kernel) (Nat.le_of_ble_eq_true rfl) (fun p e s m args below meth c A X hr hl => w_X12_sumWritten X hr hl h)
/-! TrueOutlinesModel.told(II)I -/
def m_X12_told_82 (n : Nat) (S : q_S) (s0 : Int32) : Option (Int32 × q_S) := some (s0, S)
set_option maxHeartbeats 4000000 in
set_option maxRecDepth 100000 in
theorem w_X12_told_82 (X : q_X p s m args c cX12_told 3 RX12 q_T D cy A) (hr : meth.sig.returnType = (some .int)) (hl : meth.locks = false)  {n : Nat} {Sv : q_S} {rv : Int32}  (S : q_S) (s0 : Int32) (h : m_X12_told_82 n S s0 = some (rv, Sv)) : q_W p l e ({ frames := 1, cells := 0, slots := 0, locals := 25 } : Room) s m args below meth c (MQ below (va_Qi (fun (r : Int32) (u : q_S) => r = rv ∧ u = Sv) (q_B D cy A) A) args s 0 0 A) A D cy 3 0 0 S 82 [] [.int (s0)] := by
  unfold m_X12_told_82 at h
  obtain ⟨ev, eS⟩ := q_end h
  exact q_iret X hr hl rfl ev eS dX12_told_82
def m_X12_told_37 (n : Nat) (S : q_S) (l0 : Option Nat) (l1 : Int32) (l2 : Int32) (s0 : Int32) (s1 : Option Nat) : Option (Int32 × q_S) := q_at (S) (s1) 13 (fun a1 => q_at (q_sI (S) a1 0 (s0)) (l0) 13 (fun a2 => (if (q_I (q_sI (S) a1 0 (s0)) a2 0) ≤ 0 then (if l1 = (-1 : Int32) then m_X12_told_82 n (q_sI (S) a1 0 (s0)) (q_I (q_sI (S) a1 0 (s0)) a2 11) else (if l2 = 0 then q_at (q_sI (S) a1 0 (s0)) (q_R (q_sI (S) a1 0 (s0)) a2 12) 100 (fun a8 => q_if (q_in (l1) (q_N (q_sI (S) a1 0 (s0)) a8) = true) (m_X12_told_82 n (q_sI (S) a1 0 (s0)) (q_I (q_sI (S) a1 0 (s0)) a8 (l1).toNatClampNeg))) else q_at (q_sI (S) a1 0 (s0)) (q_R (q_sI (S) a1 0 (s0)) a2 13) 100 (fun a6 => q_if (q_in (l1) (q_N (q_sI (S) a1 0 (s0)) a6) = true) (m_X12_told_82 n (q_sI (S) a1 0 (s0)) (q_I (q_sI (S) a1 0 (s0)) a6 (l1).toNatClampNeg))))) else m_X12_told_82 n (q_sI (S) a1 0 (s0)) ((0 : Int32)))))
set_option maxHeartbeats 4000000 in
set_option maxRecDepth 100000 in
theorem w_X12_told_37 (X : q_X p s m args c cX12_told 3 RX12 q_T D cy A) (hr : meth.sig.returnType = (some .int)) (hl : meth.locks = false)  {n : Nat} {Sv : q_S} {rv : Int32}  (S : q_S) (l0 : Option Nat) (l1 : Int32) (l2 : Int32) (s0 : Int32) (s1 : Option Nat) (h : m_X12_told_37 n S l0 l1 l2 s0 s1 = some (rv, Sv)) : q_W p l e ({ frames := 1, cells := 0, slots := 0, locals := 25 } : Room) s m args below meth c (MQ below (va_Qi (fun (r : Int32) (u : q_S) => r = rv ∧ u = Sv) (q_B D cy A) A) args s 0 0 A) A D cy 3 0 0 S 37 [(0, va_rf (l0)), (1, .int (l1)), (2, .int (l2))] [.int (s0), va_rf (s1)] := by
  unfold m_X12_told_37 at h
  obtain ⟨a1, ea1, ma1, ka1, h⟩ := q_atE h
  refine q_putI X 0 ea1 ma1 ka1 rfl tW_X12 (by decide) (by decide) tF_X12_96 tyX12 tyX12_ok nmX12 rfl (tyX12_ok 0 (by decide)) rfl rfl rfl dX12_told_37 ?_
  have ma1 : a1 ∈ q_L (q_sI (S) a1 0 (s0)) := q_LsI ma1
  have ka1 : q_K (q_sI (S) a1 0 (s0)) a1 = 13 := q_KsI ka1
  refine q_aload_n X 0 rfl dX12_told_40 ?_
  obtain ⟨a2, ea2, ma2, ka2, h⟩ := q_atE h
  refine q_getI X 0 ea2 ma2 ka2 rfl tW_X12 (by decide) (by decide) tF_X12_96 rfl dX12_told_41 ?_
  refine q_if_le X 51 (by decide) dX12_told_44 (fun g3 => ?_) (fun g3 => ?_)
  · rw [if_pos g3] at h
    refine q_iload_n X 1 rfl dX12_told_51 ?_
    refine q_iconst X (-1) (by decide) dX12_told_52 ?_
    refine q_icmp_ne X 63 (by decide) dX12_told_53 (fun g4 => ?_) (fun g4 => ?_)
    · rw [if_neg g4] at h
      refine q_iload_n X 2 rfl dX12_told_63 ?_
      refine q_if_ne X 76 (by decide) dX12_told_64 (fun g5 => ?_) (fun g5 => ?_)
      · rw [if_neg g5] at h
        refine q_aload_n X 0 rfl dX12_told_76 ?_
        refine q_getR X 13 ea2 ma2 ka2 rfl tW_X12 (by decide) (by decide) tF_X12_36 rfl dX12_told_77 ?_
        refine q_iload_n X 1 rfl dX12_told_80 ?_
        obtain ⟨a6, ea6, ma6, ka6, h⟩ := q_atE h
        obtain ⟨g7, h⟩ := q_ifE h
        refine q_iaload X ea6 ma6 ka6 (q_inE g7) dX12_told_81 ?_
        refine q_lv [] rfl ?_
        exact w_X12_told_82 X hr hl _ _ h
      · rw [if_pos g5] at h
        refine q_aload_n X 0 rfl dX12_told_67 ?_
        refine q_getR X 12 ea2 ma2 ka2 rfl tW_X12 (by decide) (by decide) tF_X12_33 rfl dX12_told_68 ?_
        refine q_iload_n X 1 rfl dX12_told_71 ?_
        obtain ⟨a8, ea8, ma8, ka8, h⟩ := q_atE h
        obtain ⟨g9, h⟩ := q_ifE h
        refine q_iaload X ea8 ma8 ka8 (q_inE g9) dX12_told_72 ?_
        refine q_goto X 82 (by decide) dX12_told_73 ?_
        refine q_lv [] rfl ?_
        exact w_X12_told_82 X hr hl _ _ h
    · rw [if_pos g4] at h
      refine q_aload_n X 0 rfl dX12_told_56 ?_
      refine q_getI X 11 ea2 ma2 ka2 rfl tW_X12 (by decide) (by decide) tF_X12_133 rfl dX12_told_57 ?_
      refine q_goto X 82 (by decide) dX12_told_60 ?_
      refine q_lv [] rfl ?_
      exact w_X12_told_82 X hr hl _ _ h
  · rw [if_neg g3] at h
    refine q_iconst X (0) (by decide) dX12_told_47 ?_
    refine q_goto X 82 (by decide) dX12_told_48 ?_
    refine q_lv [] rfl ?_
    exact w_X12_told_82 X hr hl _ _ h
def m_X12_told_32 (n : Nat) (S : q_S) (l0 : Option Nat) (l1 : Int32) (l2 : Int32) (s0 : Option Nat) : Option (Int32 × q_S) := m_X12_told_37 n (S) (l0) (l1) (l2) ((0 : Int32)) (s0)
set_option maxHeartbeats 4000000 in
set_option maxRecDepth 100000 in
theorem w_X12_told_32 (X : q_X p s m args c cX12_told 3 RX12 q_T D cy A) (hr : meth.sig.returnType = (some .int)) (hl : meth.locks = false)  {n : Nat} {Sv : q_S} {rv : Int32}  (S : q_S) (l0 : Option Nat) (l1 : Int32) (l2 : Int32) (s0 : Option Nat) (h : m_X12_told_32 n S l0 l1 l2 s0 = some (rv, Sv)) : q_W p l e ({ frames := 1, cells := 0, slots := 0, locals := 25 } : Room) s m args below meth c (MQ below (va_Qi (fun (r : Int32) (u : q_S) => r = rv ∧ u = Sv) (q_B D cy A) A) args s 0 0 A) A D cy 3 0 0 S 32 [(0, va_rf (l0)), (1, .int (l1)), (2, .int (l2))] [va_rf (s0)] := by
  unfold m_X12_told_32 at h
  refine q_iconst X (0) (by decide) dX12_told_32 ?_
  refine q_goto X 37 (by decide) dX12_told_33 ?_
  exact w_X12_told_37 X hr hl _ _ _ _ _ _ h
def m_X12_told_36 (n : Nat) (S : q_S) (l0 : Option Nat) (l1 : Int32) (l2 : Int32) (s0 : Option Nat) : Option (Int32 × q_S) := m_X12_told_37 n (S) (l0) (l1) (l2) ((1 : Int32)) (s0)
set_option maxHeartbeats 4000000 in
set_option maxRecDepth 100000 in
theorem w_X12_told_36 (X : q_X p s m args c cX12_told 3 RX12 q_T D cy A) (hr : meth.sig.returnType = (some .int)) (hl : meth.locks = false)  {n : Nat} {Sv : q_S} {rv : Int32}  (S : q_S) (l0 : Option Nat) (l1 : Int32) (l2 : Int32) (s0 : Option Nat) (h : m_X12_told_36 n S l0 l1 l2 s0 = some (rv, Sv)) : q_W p l e ({ frames := 1, cells := 0, slots := 0, locals := 25 } : Room) s m args below meth c (MQ below (va_Qi (fun (r : Int32) (u : q_S) => r = rv ∧ u = Sv) (q_B D cy A) A) args s 0 0 A) A D cy 3 0 0 S 36 [(0, va_rf (l0)), (1, .int (l1)), (2, .int (l2))] [va_rf (s0)] := by
  unfold m_X12_told_36 at h
  refine q_iconst X (1) (by decide) dX12_told_36 ?_
  exact w_X12_told_37 X hr hl _ _ _ _ _ _ h
def m_X12_told (n : Nat) (S : q_S) (o : Nat) (p0 : Int32) (p1 : Int32) : Option (Int32 × q_S) := (if p0 = (-1 : Int32) then m_X12_told_32 n (S) (some o) (p0) (p1) (some o) else q_at (S) (some o) 13 (fun a2 => q_b (m_X12_in n (S) (p0.toInt64) ((0 : Int64)) (((q_I (S) a2 11) - (1 : Int32)).toInt64)) (fun r3 S4 => (if r3 = 0 then m_X12_told_36 n (S4) (some o) (p0) (p1) (some o) else q_b (m_X12_in n (S4) (p1.toInt64) ((0 : Int64)) ((1 : Int64))) (fun r7 S8 => (if r7 = 0 then m_X12_told_36 n (S8) (some o) (p0) (p1) (some o) else m_X12_told_32 n (S8) (some o) (p0) (p1) (some o)))))))
set_option maxHeartbeats 4000000 in
set_option maxRecDepth 100000 in
theorem w_X12_told (X : q_X p s m args c cX12_told 3 RX12 q_T D cy A) (hr : meth.sig.returnType = (some .int)) (hl : meth.locks = false)  {n : Nat} {S Sv : q_S} {rv : Int32} {o : Nat} {p0 : Int32} {p1 : Int32} (h : m_X12_told n S o p0 p1 = some (rv, Sv)) : q_W p l e ({ frames := 1, cells := 0, slots := 0, locals := 25 } : Room) s m args below meth c (MQ below (va_Qi (fun (r : Int32) (u : q_S) => r = rv ∧ u = Sv) (q_B D cy A) A) args s 0 0 A) A D cy 3 0 0 S 0 [(0, va_rf (some o)), (1, .int (p0)), (2, .int (p1))] [] := by
  unfold m_X12_told at h
  refine q_aload_n X 0 rfl dX12_told_0 ?_
  refine q_iload_n X 1 rfl dX12_told_1 ?_
  refine q_iconst X (-1) (by decide) dX12_told_2 ?_
  refine q_icmp_eq X 32 (by decide) dX12_told_3 (fun g1 => ?_) (fun g1 => ?_)
  · rw [if_pos g1] at h
    exact w_X12_told_32 X hr hl _ _ _ _ _ h
  · rw [if_neg g1] at h
    refine q_iload_n X 1 rfl dX12_told_6 ?_
    refine q_i2l X dX12_told_7 ?_
    refine q_lconst X (0) (by decide) dX12_told_8 ?_
    refine q_aload_n X 0 rfl dX12_told_9 ?_
    obtain ⟨a2, ea2, ma2, ka2, h⟩ := q_atE h
    refine q_getI X 11 ea2 ma2 ka2 rfl tW_X12 (by decide) (by decide) tF_X12_133 rfl dX12_told_10 ?_
    refine q_iconst X (1) (by decide) dX12_told_13 ?_
    refine q_isub X dX12_told_14 ?_
    refine q_i2l X dX12_told_15 ?_
    obtain ⟨r3, S4, c5, h⟩ := q_bE h
    refine q_cSI X (As := [.long (p0.toInt64), .long ((0 : Int64)), .long (((q_I (S) a2 11) - (1 : Int32)).toInt64)]) (c_X12_in c5) (q_cwS X tK_X12_in tM_X12_102 tS_X12_in tN_X12 rfl rfl tD_X12_in ⟨Nat.le_of_ble_eq_true rfl, Nat.le_of_ble_eq_true rfl⟩) rfl rfl (by first | exact Nat.le_of_ble_eq_true rfl | (simp only [List.map, q_catR]; exact Nat.le_of_ble_eq_true rfl)) ⟨Nat.zero_le _, Nat.zero_le _⟩ dX12_told_16 ?_
    refine q_if_eq X 36 (by decide) dX12_told_19 (fun g6 => ?_) (fun g6 => ?_)
    · rw [if_pos g6] at h
      exact w_X12_told_36 X hr hl _ _ _ _ _ h
    · rw [if_neg g6] at h
      refine q_iload_n X 2 rfl dX12_told_22 ?_
      refine q_i2l X dX12_told_23 ?_
      refine q_lconst X (0) (by decide) dX12_told_24 ?_
      refine q_lconst X (1) (by decide) dX12_told_25 ?_
      obtain ⟨r7, S8, c9, h⟩ := q_bE h
      refine q_cSI X (As := [.long (p1.toInt64), .long ((0 : Int64)), .long ((1 : Int64))]) (c_X12_in c9) (q_cwS X tK_X12_in tM_X12_102 tS_X12_in tN_X12 rfl rfl tD_X12_in ⟨Nat.le_of_ble_eq_true rfl, Nat.le_of_ble_eq_true rfl⟩) rfl rfl (by first | exact Nat.le_of_ble_eq_true rfl | (simp only [List.map, q_catR]; exact Nat.le_of_ble_eq_true rfl)) ⟨Nat.zero_le _, Nat.zero_le _⟩ dX12_told_26 ?_
      refine q_if_eq X 36 (by decide) dX12_told_29 (fun g10 => ?_) (fun g10 => ?_)
      · rw [if_pos g10] at h
        exact w_X12_told_36 X hr hl _ _ _ _ _ h
      · rw [if_neg g10] at h
        exact w_X12_told_32 X hr hl _ _ _ _ _ h
theorem tD_X12_told : yX12_told.cls ≠ "java/lang/invoke/MethodHandle" ∧ yX12_told.cls ≠ "java/lang/invoke/VarHandle" ∧ (parseMethodDescriptor yX12_told.desc).map (fun d => d.parameters.length) = some 2 := by decide +kernel
theorem c_X12_told {l : Launch} {D : va_G} {cy : Nat → ClassId} {n : Nat} {S Sv : q_S} {rv : Int32} {o : Nat} {p0 : Int32} {p1 : Int32} (h : m_X12_told n S o p0 p1 = some (rv, Sv)) : q_MI l yX12_told (q_ws yX12_told cX12_told 3 ((some .int))) ({ frames := 1, cells := 0, slots := 0, locals := 25 } : Room) D cy [.ref o, .int (p0), .int (p1)] S rv Sv := by
  exact q_MI_of (by decide +kernel) (Nat.le_of_ble_eq_true rfl) (fun p e s m args below meth c A X hr hl => w_X12_told X hr hl h)
/-! TrueOutlinesModel.width(I)I -/
def m_X12_width_86 (n : Nat) (S : q_S) (s0 : Int32) : Option (Int32 × q_S) := some (s0, S)
set_option maxHeartbeats 4000000 in
set_option maxRecDepth 100000 in
theorem w_X12_width_86 (X : q_X p s m args c cX12_width 4 RX12 q_T D cy A) (hr : meth.sig.returnType = (some .int)) (hl : meth.locks = false)  {n : Nat} {Sv : q_S} {rv : Int32}  (S : q_S) (s0 : Int32) (h : m_X12_width_86 n S s0 = some (rv, Sv)) : q_W p l e ({ frames := 4, cells := 0, slots := 0, locals := 92 } : Room) s m args below meth c (MQ below (va_Qi (fun (r : Int32) (u : q_S) => r = rv ∧ u = Sv) (q_B D cy A) A) args s 0 0 A) A D cy 4 0 0 S 86 [] [.int (s0)] := by
  unfold m_X12_width_86 at h
  obtain ⟨ev, eS⟩ := q_end h
  exact q_iret X hr hl rfl ev eS dX12_width_86
def m_X12_width_73 (n : Nat) (S : q_S) (l0 : Option Nat) (s0 : Int32) : Option (Int32 × q_S) := q_at (S) (l0) 13 (fun a1 => (if (q_I (S) a1 8) = 0 then m_X12_width_86 n (S) (s0) else m_X12_width_86 n (S) ((0 : Int32))))
set_option maxHeartbeats 4000000 in
set_option maxRecDepth 100000 in
theorem w_X12_width_73 (X : q_X p s m args c cX12_width 4 RX12 q_T D cy A) (hr : meth.sig.returnType = (some .int)) (hl : meth.locks = false)  {n : Nat} {Sv : q_S} {rv : Int32}  (S : q_S) (l0 : Option Nat) (s0 : Int32) (h : m_X12_width_73 n S l0 s0 = some (rv, Sv)) : q_W p l e ({ frames := 4, cells := 0, slots := 0, locals := 92 } : Room) s m args below meth c (MQ below (va_Qi (fun (r : Int32) (u : q_S) => r = rv ∧ u = Sv) (q_B D cy A) A) args s 0 0 A) A D cy 4 0 0 S 73 [(0, va_rf (l0))] [.int (s0)] := by
  unfold m_X12_width_73 at h
  refine q_istore_n X 3 [(3, .int (s0)), (0, va_rf (l0))] rfl (by decide) (by first | rfl | simp [List.filter, q_catR]) dX12_width_73 ?_
  refine q_aload_n X 1 rfl dX12_width_74 ?_
  obtain ⟨a1, ea1, ma1, ka1, h⟩ := q_atE h
  refine q_getI X 8 ea1 ma1 ka1 rfl tW_X12 (by decide) (by decide) tF_X12_114 rfl dX12_width_75 ?_
  refine q_if_eq X 85 (by decide) dX12_width_78 (fun g2 => ?_) (fun g2 => ?_)
  · rw [if_pos g2] at h
    refine q_iload_n X 0 rfl dX12_width_85 ?_
    refine q_lv [] rfl ?_
    exact w_X12_width_86 X hr hl _ _ h
  · rw [if_neg g2] at h
    refine q_iconst X (0) (by decide) dX12_width_81 ?_
    refine q_goto X 86 (by decide) dX12_width_82 ?_
    refine q_lv [] rfl ?_
    exact w_X12_width_86 X hr hl _ _ h
def m_X12_width_68 (n : Nat) (S : q_S) (l0 : Option Nat) (s0 : Int32) (s1 : Int64) (s2 : Int32) (s3 : Option Nat) : Option (Int32 × q_S) := q_at (S) (s3) 13 (fun a1 => q_b (m_X12_two n (S) a1 (s2) (s1 * (s0.toInt64))) (fun r2 S3 => m_X12_width_73 n (S3) (l0) (r2)))
set_option maxHeartbeats 4000000 in
set_option maxRecDepth 100000 in
theorem w_X12_width_68 (X : q_X p s m args c cX12_width 4 RX12 q_T D cy A) (hr : meth.sig.returnType = (some .int)) (hl : meth.locks = false)  {n : Nat} {Sv : q_S} {rv : Int32}  (S : q_S) (l0 : Option Nat) (s0 : Int32) (s1 : Int64) (s2 : Int32) (s3 : Option Nat) (h : m_X12_width_68 n S l0 s0 s1 s2 s3 = some (rv, Sv)) : q_W p l e ({ frames := 4, cells := 0, slots := 0, locals := 92 } : Room) s m args below meth c (MQ below (va_Qi (fun (r : Int32) (u : q_S) => r = rv ∧ u = Sv) (q_B D cy A) A) args s 0 0 A) A D cy 4 0 0 S 68 [(0, va_rf (l0))] [.int (s0), .long (s1), .int (s2), va_rf (s3)] := by
  unfold m_X12_width_68 at h
  refine q_i2l X dX12_width_68 ?_
  refine q_lmul X dX12_width_69 ?_
  obtain ⟨a1, ea1, ma1, ka1, h⟩ := q_atE h
  obtain ⟨r2, S3, c4, h⟩ := q_bE h
  refine q_cVI X (As := [.int (s2), .long (s1 * (s0.toInt64))]) ea1 ma1 ka1 rfl (by decide) (c_X12_two c4) (q_cwV X tK_X12_two tM_X12_169 tI_X12_two tV_X12_two tN_X12 rfl rfl tD_X12_two ⟨Nat.le_of_ble_eq_true rfl, Nat.le_of_ble_eq_true rfl⟩) rfl rfl (by first | exact Nat.le_of_ble_eq_true rfl | (simp only [List.map, q_catR]; exact Nat.le_of_ble_eq_true rfl)) ⟨Nat.zero_le _, Nat.zero_le _⟩ dX12_width_70 ?_
  exact w_X12_width_73 X hr hl _ _ _ h
def m_X12_width (n : Nat) (S : q_S) (o : Nat) (p0 : Int32) : Option (Int32 × q_S) := q_at (S) (some o) 13 (fun a1 => q_b (m_X12_isSign n (q_sI (S) a1 0 ((0 : Int32))) a1 (p0)) (fun r2 S3 => (if r2 = 0 then some ((0 : Int32), S3) else q_at (S3) (some o) 13 (fun a6 => q_if ((0 : Int32) = 0 ∨ (0 : Int32) = 1) (q_b (m_X12_find n (q_sI (S3) a6 8 ((0 : Int32))) a6 ((1751672161 : Int64))) (fun r8 S9 => q_at (S9) (some o) 13 (fun a11 => q_b (m_X12_two n (S9) a11 (r8) ((34 : Int64))) (fun r12 S13 => (if r12 = 0 then m_X12_width_73 n (S13) (some o) ((0 : Int32)) else q_at (S13) (some o) 13 (fun a16 => q_b (m_X12_find n (S13) a16 ((1752003704 : Int64))) (fun r17 S18 => (if (r12 - (1 : Int32)) ≤ p0 then m_X12_width_68 n (S18) (some o) (r12 - (1 : Int32)) ((4 : Int64)) (r17) (some o) else m_X12_width_68 n (S18) (some o) (p0) ((4 : Int64)) (r17) (some o)))))))))))))
set_option maxHeartbeats 4000000 in
set_option maxRecDepth 100000 in
theorem w_X12_width (X : q_X p s m args c cX12_width 4 RX12 q_T D cy A) (hr : meth.sig.returnType = (some .int)) (hl : meth.locks = false)  {n : Nat} {S Sv : q_S} {rv : Int32} {o : Nat} {p0 : Int32} (h : m_X12_width n S o p0 = some (rv, Sv)) : q_W p l e ({ frames := 4, cells := 0, slots := 0, locals := 92 } : Room) s m args below meth c (MQ below (va_Qi (fun (r : Int32) (u : q_S) => r = rv ∧ u = Sv) (q_B D cy A) A) args s 0 0 A) A D cy 4 0 0 S 0 [(0, va_rf (some o)), (1, .int (p0))] [] := by
  unfold m_X12_width at h
  refine q_aload_n X 0 rfl dX12_width_0 ?_
  refine q_iconst X (0) (by decide) dX12_width_1 ?_
  obtain ⟨a1, ea1, ma1, ka1, h⟩ := q_atE h
  refine q_putI X 0 ea1 ma1 ka1 rfl tW_X12 (by decide) (by decide) tF_X12_96 tyX12 tyX12_ok nmX12 rfl (tyX12_ok 0 (by decide)) rfl rfl rfl dX12_width_2 ?_
  have ma1 : a1 ∈ q_L (q_sI (S) a1 0 ((0 : Int32))) := q_LsI ma1
  have ka1 : q_K (q_sI (S) a1 0 ((0 : Int32))) a1 = 13 := q_KsI ka1
  refine q_aload_n X 0 rfl dX12_width_5 ?_
  refine q_iload_n X 1 rfl dX12_width_6 ?_
  obtain ⟨r2, S3, c4, h⟩ := q_bE h
  refine q_cVI X (As := [.int (p0)]) ea1 ma1 ka1 rfl (by decide) (c_X12_isSign c4) (q_cwV X tK_X12_isSign tM_X12_239 tI_X12_isSign tV_X12_isSign tN_X12 rfl rfl tD_X12_isSign ⟨Nat.le_of_ble_eq_true rfl, Nat.le_of_ble_eq_true rfl⟩) rfl rfl (by first | exact Nat.le_of_ble_eq_true rfl | (simp only [List.map, q_catR]; exact Nat.le_of_ble_eq_true rfl)) ⟨Nat.zero_le _, Nat.zero_le _⟩ dX12_width_7 ?_
  refine q_if_ne X 15 (by decide) dX12_width_10 (fun g5 => ?_) (fun g5 => ?_)
  · rw [if_neg g5] at h
    refine q_aload_n X 0 rfl dX12_width_15 ?_
    refine q_iconst X (0) (by decide) dX12_width_16 ?_
    obtain ⟨a6, ea6, ma6, ka6, h⟩ := q_atE h
    obtain ⟨g7, h⟩ := q_ifE h
    refine q_putI X 8 ea6 ma6 ka6 rfl tW_X12 (by decide) (by decide) tF_X12_114 tyX12 tyX12_ok nmX12 rfl (tyX12_ok 8 (by decide)) (q_bool g7) (q_boolF g7) rfl dX12_width_17 ?_
    have ma6 : a6 ∈ q_L (q_sI (S3) a6 8 ((0 : Int32))) := q_LsI ma6
    have ka6 : q_K (q_sI (S3) a6 8 ((0 : Int32))) a6 = 13 := q_KsI ka6
    refine q_aload_n X 0 rfl dX12_width_20 ?_
    refine q_aload_n X 0 rfl dX12_width_21 ?_
    refine q_ldc2_w X (1751672161) tC_X12_284 dX12_width_22 ?_
    obtain ⟨r8, S9, c10, h⟩ := q_bE h
    refine q_cVI X (As := [.long ((1751672161 : Int64))]) ea6 ma6 ka6 rfl (by decide) (c_X12_find c10) (q_cwV X tK_X12_find tM_X12_127 tI_X12_find tV_X12_find tN_X12 rfl rfl tD_X12_find ⟨Nat.le_of_ble_eq_true rfl, Nat.le_of_ble_eq_true rfl⟩) rfl rfl (by first | exact Nat.le_of_ble_eq_true rfl | (simp only [List.map, q_catR]; exact Nat.le_of_ble_eq_true rfl)) ⟨Nat.zero_le _, Nat.zero_le _⟩ dX12_width_25 ?_
    refine q_ldc2_w X (34) tC_X12_286 dX12_width_28 ?_
    obtain ⟨a11, ea11, ma11, ka11, h⟩ := q_atE h
    obtain ⟨r12, S13, c14, h⟩ := q_bE h
    refine q_cVI X (As := [.int (r8), .long ((34 : Int64))]) ea11 ma11 ka11 rfl (by decide) (c_X12_two c14) (q_cwV X tK_X12_two tM_X12_169 tI_X12_two tV_X12_two tN_X12 rfl rfl tD_X12_two ⟨Nat.le_of_ble_eq_true rfl, Nat.le_of_ble_eq_true rfl⟩) rfl rfl (by first | exact Nat.le_of_ble_eq_true rfl | (simp only [List.map, q_catR]; exact Nat.le_of_ble_eq_true rfl)) ⟨Nat.zero_le _, Nat.zero_le _⟩ dX12_width_31 ?_
    refine q_istore_n X 2 [(2, .int (r12)), (0, va_rf (some o)), (1, .int (p0))] rfl (by decide) (by first | rfl | simp [List.filter, q_catR]) dX12_width_34 ?_
    refine q_iload_n X 0 rfl dX12_width_35 ?_
    refine q_if_ne X 43 (by decide) dX12_width_36 (fun g15 => ?_) (fun g15 => ?_)
    · rw [if_neg g15] at h
      refine q_aload_n X 1 rfl dX12_width_43 ?_
      refine q_aload_n X 1 rfl dX12_width_44 ?_
      refine q_ldc2_w X (1752003704) tC_X12_288 dX12_width_45 ?_
      obtain ⟨a16, ea16, ma16, ka16, h⟩ := q_atE h
      obtain ⟨r17, S18, c19, h⟩ := q_bE h
      refine q_cVI X (As := [.long ((1752003704 : Int64))]) ea16 ma16 ka16 rfl (by decide) (c_X12_find c19) (q_cwV X tK_X12_find tM_X12_127 tI_X12_find tV_X12_find tN_X12 rfl rfl tD_X12_find ⟨Nat.le_of_ble_eq_true rfl, Nat.le_of_ble_eq_true rfl⟩) rfl rfl (by first | exact Nat.le_of_ble_eq_true rfl | (simp only [List.map, q_catR]; exact Nat.le_of_ble_eq_true rfl)) ⟨Nat.zero_le _, Nat.zero_le _⟩ dX12_width_48 ?_
      refine q_ldc2_w X (4) tC_X12_167 dX12_width_51 ?_
      refine q_iload_n X 2 rfl dX12_width_54 ?_
      refine q_iload_n X 0 rfl dX12_width_55 ?_
      refine q_iconst X (1) (by decide) dX12_width_56 ?_
      refine q_isub X dX12_width_57 ?_
      refine q_icmp_ge X 65 (by decide) dX12_width_58 (fun g20 => ?_) (fun g20 => ?_)
      · rw [if_pos g20] at h
        refine q_iload_n X 0 rfl dX12_width_65 ?_
        refine q_iconst X (1) (by decide) dX12_width_66 ?_
        refine q_isub X dX12_width_67 ?_
        refine q_lv [1] rfl ?_
        exact w_X12_width_68 X hr hl _ _ _ _ _ _ h
      · rw [if_neg g20] at h
        refine q_iload_n X 2 rfl dX12_width_61 ?_
        refine q_goto X 68 (by decide) dX12_width_62 ?_
        refine q_lv [1] rfl ?_
        exact w_X12_width_68 X hr hl _ _ _ _ _ _ h
    · rw [if_pos g15] at h
      refine q_iconst X (0) (by decide) dX12_width_39 ?_
      refine q_goto X 73 (by decide) dX12_width_40 ?_
      refine q_lv [1] rfl ?_
      exact w_X12_width_73 X hr hl _ _ _ h
  · rw [if_pos g5] at h
    refine q_iconst X (0) (by decide) dX12_width_13 ?_
    obtain ⟨ev, eS⟩ := q_end h
    exact q_iret X hr hl rfl ev eS dX12_width_14
theorem tD_X12_width : yX12_width.cls ≠ "java/lang/invoke/MethodHandle" ∧ yX12_width.cls ≠ "java/lang/invoke/VarHandle" ∧ (parseMethodDescriptor yX12_width.desc).map (fun d => d.parameters.length) = some 1 := by decide +kernel
theorem c_X12_width {l : Launch} {D : va_G} {cy : Nat → ClassId} {n : Nat} {S Sv : q_S} {rv : Int32} {o : Nat} {p0 : Int32} (h : m_X12_width n S o p0 = some (rv, Sv)) : q_MI l yX12_width (q_ws yX12_width cX12_width 4 ((some .int))) ({ frames := 4, cells := 0, slots := 0, locals := 92 } : Room) D cy [.ref o, .int (p0)] S rv Sv := by
  exact q_MI_of (by decide +kernel) (Nat.le_of_ble_eq_true rfl) (fun p e s m args below meth c A X hr hl => w_X12_width X hr hl h)
/-! TrueOutlinesModel.write()I -/
def m_X12_write_116 (n : Nat) (S : q_S) : Option (Int32 × q_S) := some ((-1 : Int32), S)
set_option maxHeartbeats 4000000 in
set_option maxRecDepth 100000 in
theorem w_X12_write_116 (X : q_X p s m args c cX12_write 10 RX12 q_T D cy A) (hr : meth.sig.returnType = (some .int)) (hl : meth.locks = false)  {n : Nat} {Sv : q_S} {rv : Int32}  (S : q_S) (h : m_X12_write_116 n S = some (rv, Sv)) : q_W p l e ({ frames := 6, cells := 0, slots := 0, locals := 143 } : Room) s m args below meth c (MQ below (va_Qi (fun (r : Int32) (u : q_S) => r = rv ∧ u = Sv) (q_B D cy A) A) args s 0 0 A) A D cy 10 0 0 S 116 [] [] := by
  unfold m_X12_write_116 at h
  refine q_iconst X (-1) (by decide) dX12_write_116 ?_
  obtain ⟨ev, eS⟩ := q_end h
  exact q_iret X hr hl rfl ev eS dX12_write_117
def m_X12_write_355 (n : Nat) (k205 : q_S → Option Nat → Int32 → Int32 → Int32 → Int32 → Int32 → Option (Int32 × q_S)) (S : q_S) (l0 : Option Nat) (l1 : Int32) (l2 : Int32) (l4 : Int32) (l6 : Int32) (l7 : Int32) (l8 : Int32) (s0 : Int32) : Option (Int32 × q_S) := q_at (S) (l0) 13 (fun a1 => q_at (S) (q_R (S) a1 4) 101 (fun a2 => q_if (q_in (l7) (q_N (S) a2) = true) (q_b (m_X12_setFour n (S) a1 ((12 : Int32) + ((16 : Int32) * l6)) (q_J (S) a2 (l7).toNatClampNeg)) (fun _ S4 => q_at (S4) (l0) 13 (fun a7 => q_b (m_X12_sumWritten n (S4) a7 (l8) (q_I (S4) a7 38)) (fun r8 S9 => q_at (S9) (l0) 13 (fun a11 => q_b (m_X12_setFour n (S9) a11 ((16 : Int32) + ((16 : Int32) * l6)) (r8)) (fun _ S12 => q_at (S12) (l0) 13 (fun a15 => q_b (m_X12_setFour n (S12) a15 ((20 : Int32) + ((16 : Int32) * l6)) (l8.toInt64)) (fun _ S16 => q_at (S16) (l0) 13 (fun a19 => q_b (m_X12_setFour n (S16) a19 ((24 : Int32) + ((16 : Int32) * l6)) (((q_I (S16) a19 38) - l8).toInt64)) (fun _ S20 => k205 (S20) (l0) (l1) (l2) (l4) (s0) (l6 + (1))))))))))))))
set_option maxHeartbeats 4000000 in
set_option maxRecDepth 100000 in
theorem w_X12_write_355 (X : q_X p s m args c cX12_write 10 RX12 q_T D cy A) (hr : meth.sig.returnType = (some .int)) (hl : meth.locks = false)  {n : Nat} {Sv : q_S} {rv : Int32}  {k205 : q_S → Option Nat → Int32 → Int32 → Int32 → Int32 → Int32 → Option (Int32 × q_S)} (hk205 : ∀ (S : q_S) (z0 : Option Nat) (z1 : Int32) (z2 : Int32) (z3 : Int32) (z4 : Int32) (z5 : Int32), k205 S z0 z1 z2 z3 z4 z5 = some (rv, Sv) → q_W p l e ({ frames := 6, cells := 0, slots := 0, locals := 143 } : Room) s m args below meth c (MQ below (va_Qi (fun (r : Int32) (u : q_S) => r = rv ∧ u = Sv) (q_B D cy A) A) args s 0 0 A) A D cy 10 0 0 S 205 [(0, va_rf (z0)), (1, .int (z1)), (2, .int (z2)), (4, .int (z3)), (5, .int (z4)), (6, .int (z5))] []) (S : q_S) (l0 : Option Nat) (l1 : Int32) (l2 : Int32) (l4 : Int32) (l6 : Int32) (l7 : Int32) (l8 : Int32) (s0 : Int32) (h : m_X12_write_355 n k205 S l0 l1 l2 l4 l6 l7 l8 s0 = some (rv, Sv)) : q_W p l e ({ frames := 6, cells := 0, slots := 0, locals := 143 } : Room) s m args below meth c (MQ below (va_Qi (fun (r : Int32) (u : q_S) => r = rv ∧ u = Sv) (q_B D cy A) A) args s 0 0 A) A D cy 10 0 0 S 355 [(0, va_rf (l0)), (1, .int (l1)), (2, .int (l2)), (4, .int (l4)), (6, .int (l6)), (7, .int (l7)), (8, .int (l8))] [.int (s0)] := by
  unfold m_X12_write_355 at h
  refine q_istore X 5 [(5, .int (s0)), (0, va_rf (l0)), (1, .int (l1)), (2, .int (l2)), (4, .int (l4)), (6, .int (l6)), (7, .int (l7)), (8, .int (l8))] (by decide) (by first | rfl | simp [List.filter, q_catR]) dX12_write_355 ?_
  refine q_aload_n X 1 rfl dX12_write_357 ?_
  refine q_bipush X (12) (by decide) dX12_write_358 ?_
  refine q_bipush X (16) (by decide) dX12_write_360 ?_
  refine q_iload X 5 rfl dX12_write_362 ?_
  refine q_imul X dX12_write_364 ?_
  refine q_iadd X dX12_write_365 ?_
  refine q_aload_n X 1 rfl dX12_write_366 ?_
  obtain ⟨a1, ea1, ma1, ka1, h⟩ := q_atE h
  refine q_getR X 4 ea1 ma1 ka1 rfl tW_X12 (by decide) (by decide) tF_X12_13 rfl dX12_write_367 ?_
  refine q_iload X 6 rfl dX12_write_370 ?_
  obtain ⟨a2, ea2, ma2, ka2, h⟩ := q_atE h
  obtain ⟨g3, h⟩ := q_ifE h
  refine q_laload X ea2 ma2 ka2 (q_inE g3) dX12_write_372 ?_
  obtain ⟨u6, S4, c5, h⟩ := q_bE h
  refine q_cVV X (As := [.int ((12 : Int32) + ((16 : Int32) * l6)), .long (q_J (S) a2 (l7).toNatClampNeg)]) ea1 ma1 ka1 rfl (by decide) (c_X12_setFour c5) (q_cwV X tK_X12_setFour tM_X12_335 tI_X12_setFour tV_X12_setFour tN_X12 rfl rfl tD_X12_setFour ⟨Nat.le_of_ble_eq_true rfl, Nat.le_of_ble_eq_true rfl⟩) rfl rfl (by first | exact Nat.le_of_ble_eq_true rfl | (simp only [List.map, q_catR]; exact Nat.le_of_ble_eq_true rfl)) ⟨Nat.zero_le _, Nat.zero_le _⟩ dX12_write_373 ?_
  refine q_aload_n X 1 rfl dX12_write_376 ?_
  refine q_bipush X (16) (by decide) dX12_write_377 ?_
  refine q_bipush X (16) (by decide) dX12_write_379 ?_
  refine q_iload X 5 rfl dX12_write_381 ?_
  refine q_imul X dX12_write_383 ?_
  refine q_iadd X dX12_write_384 ?_
  refine q_aload_n X 1 rfl dX12_write_385 ?_
  refine q_iload X 7 rfl dX12_write_386 ?_
  refine q_aload_n X 1 rfl dX12_write_388 ?_
  obtain ⟨a7, ea7, ma7, ka7, h⟩ := q_atE h
  refine q_getI X 38 ea7 ma7 ka7 rfl tW_X12 (by decide) (by decide) tF_X12_306 rfl dX12_write_389 ?_
  obtain ⟨r8, S9, c10, h⟩ := q_bE h
  refine q_cVJ X (As := [.int (l8), .int (q_I (S4) a7 38)]) ea7 ma7 ka7 rfl (by decide) (c_X12_sumWritten c10) (q_cwV X tK_X12_sumWritten tM_X12_339 tI_X12_sumWritten tV_X12_sumWritten tN_X12 rfl rfl tD_X12_sumWritten ⟨Nat.le_of_ble_eq_true rfl, Nat.le_of_ble_eq_true rfl⟩) rfl rfl (by first | exact Nat.le_of_ble_eq_true rfl | (simp only [List.map, q_catR]; exact Nat.le_of_ble_eq_true rfl)) ⟨Nat.zero_le _, Nat.zero_le _⟩ dX12_write_392 ?_
  obtain ⟨a11, ea11, ma11, ka11, h⟩ := q_atE h
  obtain ⟨u14, S12, c13, h⟩ := q_bE h
  refine q_cVV X (As := [.int ((16 : Int32) + ((16 : Int32) * l6)), .long (r8)]) ea11 ma11 ka11 rfl (by decide) (c_X12_setFour c13) (q_cwV X tK_X12_setFour tM_X12_335 tI_X12_setFour tV_X12_setFour tN_X12 rfl rfl tD_X12_setFour ⟨Nat.le_of_ble_eq_true rfl, Nat.le_of_ble_eq_true rfl⟩) rfl rfl (by first | exact Nat.le_of_ble_eq_true rfl | (simp only [List.map, q_catR]; exact Nat.le_of_ble_eq_true rfl)) ⟨Nat.zero_le _, Nat.zero_le _⟩ dX12_write_395 ?_
  refine q_aload_n X 1 rfl dX12_write_398 ?_
  refine q_bipush X (20) (by decide) dX12_write_399 ?_
  refine q_bipush X (16) (by decide) dX12_write_401 ?_
  refine q_iload X 5 rfl dX12_write_403 ?_
  refine q_imul X dX12_write_405 ?_
  refine q_iadd X dX12_write_406 ?_
  refine q_iload X 7 rfl dX12_write_407 ?_
  refine q_i2l X dX12_write_409 ?_
  obtain ⟨a15, ea15, ma15, ka15, h⟩ := q_atE h
  obtain ⟨u18, S16, c17, h⟩ := q_bE h
  refine q_cVV X (As := [.int ((20 : Int32) + ((16 : Int32) * l6)), .long (l8.toInt64)]) ea15 ma15 ka15 rfl (by decide) (c_X12_setFour c17) (q_cwV X tK_X12_setFour tM_X12_335 tI_X12_setFour tV_X12_setFour tN_X12 rfl rfl tD_X12_setFour ⟨Nat.le_of_ble_eq_true rfl, Nat.le_of_ble_eq_true rfl⟩) rfl rfl (by first | exact Nat.le_of_ble_eq_true rfl | (simp only [List.map, q_catR]; exact Nat.le_of_ble_eq_true rfl)) ⟨Nat.zero_le _, Nat.zero_le _⟩ dX12_write_410 ?_
  refine q_aload_n X 1 rfl dX12_write_413 ?_
  refine q_bipush X (24) (by decide) dX12_write_414 ?_
  refine q_bipush X (16) (by decide) dX12_write_416 ?_
  refine q_iload X 5 rfl dX12_write_418 ?_
  refine q_imul X dX12_write_420 ?_
  refine q_iadd X dX12_write_421 ?_
  refine q_aload_n X 1 rfl dX12_write_422 ?_
  obtain ⟨a19, ea19, ma19, ka19, h⟩ := q_atE h
  refine q_getI X 38 ea19 ma19 ka19 rfl tW_X12 (by decide) (by decide) tF_X12_306 rfl dX12_write_423 ?_
  refine q_iload X 7 rfl dX12_write_426 ?_
  refine q_isub X dX12_write_428 ?_
  refine q_i2l X dX12_write_429 ?_
  obtain ⟨u22, S20, c21, h⟩ := q_bE h
  refine q_cVV X (As := [.int ((24 : Int32) + ((16 : Int32) * l6)), .long (((q_I (S16) a19 38) - l8).toInt64)]) ea19 ma19 ka19 rfl (by decide) (c_X12_setFour c21) (q_cwV X tK_X12_setFour tM_X12_335 tI_X12_setFour tV_X12_setFour tN_X12 rfl rfl tD_X12_setFour ⟨Nat.le_of_ble_eq_true rfl, Nat.le_of_ble_eq_true rfl⟩) rfl rfl (by first | exact Nat.le_of_ble_eq_true rfl | (simp only [List.map, q_catR]; exact Nat.le_of_ble_eq_true rfl)) ⟨Nat.zero_le _, Nat.zero_le _⟩ dX12_write_430 ?_
  refine q_iinc X 6 5 (l6 + (1)) [(6, .int (l6 + (1))), (5, .int (s0)), (0, va_rf (l0)), (1, .int (l1)), (2, .int (l2)), (4, .int (l4)), (7, .int (l7)), (8, .int (l8))] rfl (congrArg (fun z => l6 + z) (show Int32.ofInt (1) = (1) by decide)) (by decide) (by first | rfl | simp [List.filter, q_catR]) dX12_write_433 ?_
  refine q_goto X 205 (by decide) dX12_write_436 ?_
  refine q_lv [2, 3, 4, 5, 1, 0] rfl ?_
  exact hk205 _ _ _ _ _ _ _ h
def m_X12_write_339 (n : Nat) (k205 : q_S → Option Nat → Int32 → Int32 → Int32 → Int32 → Int32 → Option (Int32 × q_S)) (S : q_S) (l0 : Option Nat) (l1 : Int32) (l2 : Int32) (l4 : Int32) (l5 : Int32) (l6 : Int32) (l7 : Int32) (l8 : Int32) : Option (Int32 × q_S) := (if l7 = l1 then m_X12_write_355 n k205 (S) (l0) (l1) (l2) (l4) (l6) (l7) (l8) (l8 + (8 : Int32)) else m_X12_write_355 n k205 (S) (l0) (l1) (l2) (l4) (l6) (l7) (l8) (l5))
set_option maxHeartbeats 4000000 in
set_option maxRecDepth 100000 in
theorem w_X12_write_339 (X : q_X p s m args c cX12_write 10 RX12 q_T D cy A) (hr : meth.sig.returnType = (some .int)) (hl : meth.locks = false)  {n : Nat} {Sv : q_S} {rv : Int32}  {k205 : q_S → Option Nat → Int32 → Int32 → Int32 → Int32 → Int32 → Option (Int32 × q_S)} (hk205 : ∀ (S : q_S) (z0 : Option Nat) (z1 : Int32) (z2 : Int32) (z3 : Int32) (z4 : Int32) (z5 : Int32), k205 S z0 z1 z2 z3 z4 z5 = some (rv, Sv) → q_W p l e ({ frames := 6, cells := 0, slots := 0, locals := 143 } : Room) s m args below meth c (MQ below (va_Qi (fun (r : Int32) (u : q_S) => r = rv ∧ u = Sv) (q_B D cy A) A) args s 0 0 A) A D cy 10 0 0 S 205 [(0, va_rf (z0)), (1, .int (z1)), (2, .int (z2)), (4, .int (z3)), (5, .int (z4)), (6, .int (z5))] []) (S : q_S) (l0 : Option Nat) (l1 : Int32) (l2 : Int32) (l4 : Int32) (l5 : Int32) (l6 : Int32) (l7 : Int32) (l8 : Int32) (h : m_X12_write_339 n k205 S l0 l1 l2 l4 l5 l6 l7 l8 = some (rv, Sv)) : q_W p l e ({ frames := 6, cells := 0, slots := 0, locals := 143 } : Room) s m args below meth c (MQ below (va_Qi (fun (r : Int32) (u : q_S) => r = rv ∧ u = Sv) (q_B D cy A) A) args s 0 0 A) A D cy 10 0 0 S 339 [(0, va_rf (l0)), (1, .int (l1)), (2, .int (l2)), (4, .int (l4)), (5, .int (l5)), (6, .int (l6)), (7, .int (l7)), (8, .int (l8))] [] := by
  unfold m_X12_write_339 at h
  refine q_iload X 6 rfl dX12_write_339 ?_
  refine q_iload_n X 1 rfl dX12_write_341 ?_
  refine q_icmp_ne X 353 (by decide) dX12_write_342 (fun g1 => ?_) (fun g1 => ?_)
  · rw [if_neg g1] at h
    refine q_iload X 4 rfl dX12_write_353 ?_
    refine q_lv [0, 1, 2, 3, 5, 6, 7] rfl ?_
    exact w_X12_write_355 X hr hl hk205 _ _ _ _ _ _ _ _ _ h
  · rw [if_pos g1] at h
    refine q_iload X 7 rfl dX12_write_345 ?_
    refine q_bipush X (8) (by decide) dX12_write_347 ?_
    refine q_iadd X dX12_write_349 ?_
    refine q_goto X 355 (by decide) dX12_write_350 ?_
    refine q_lv [0, 1, 2, 3, 5, 6, 7] rfl ?_
    exact w_X12_write_355 X hr hl hk205 _ _ _ _ _ _ _ _ _ h
def m_X12_write_330 (n : Nat) (k205 : q_S → Option Nat → Int32 → Int32 → Int32 → Int32 → Int32 → Option (Int32 × q_S)) (k278 : q_S → Option Nat → Int32 → Int32 → Int32 → Int32 → Int32 → Int32 → Int32 → Int32 → Option (Int32 × q_S)) (S : q_S) (l0 : Option Nat) (l1 : Int32) (l2 : Int32) (l4 : Int32) (l5 : Int32) (l6 : Int32) (l7 : Int32) (l8 : Int32) (l9 : Int32) (s0 : Int32) (s1 : Option Nat) : Option (Int32 × q_S) := q_at (S) (s1) 13 (fun a1 => q_b (m_X12_put n (S) a1 (s0)) (fun _ S2 => k278 (S2) (l0) (l1) (l2) (l4) (l5) (l6) (l7) (l8) (l9 + (1))))
set_option maxHeartbeats 4000000 in
set_option maxRecDepth 100000 in
theorem w_X12_write_330 (X : q_X p s m args c cX12_write 10 RX12 q_T D cy A) (hr : meth.sig.returnType = (some .int)) (hl : meth.locks = false)  {n : Nat} {Sv : q_S} {rv : Int32}  {k205 : q_S → Option Nat → Int32 → Int32 → Int32 → Int32 → Int32 → Option (Int32 × q_S)} {k278 : q_S → Option Nat → Int32 → Int32 → Int32 → Int32 → Int32 → Int32 → Int32 → Int32 → Option (Int32 × q_S)} (hk205 : ∀ (S : q_S) (z0 : Option Nat) (z1 : Int32) (z2 : Int32) (z3 : Int32) (z4 : Int32) (z5 : Int32), k205 S z0 z1 z2 z3 z4 z5 = some (rv, Sv) → q_W p l e ({ frames := 6, cells := 0, slots := 0, locals := 143 } : Room) s m args below meth c (MQ below (va_Qi (fun (r : Int32) (u : q_S) => r = rv ∧ u = Sv) (q_B D cy A) A) args s 0 0 A) A D cy 10 0 0 S 205 [(0, va_rf (z0)), (1, .int (z1)), (2, .int (z2)), (4, .int (z3)), (5, .int (z4)), (6, .int (z5))] []) (hk278 : ∀ (S : q_S) (z0 : Option Nat) (z1 : Int32) (z2 : Int32) (z3 : Int32) (z4 : Int32) (z5 : Int32) (z6 : Int32) (z7 : Int32) (z8 : Int32), k278 S z0 z1 z2 z3 z4 z5 z6 z7 z8 = some (rv, Sv) → q_W p l e ({ frames := 6, cells := 0, slots := 0, locals := 143 } : Room) s m args below meth c (MQ below (va_Qi (fun (r : Int32) (u : q_S) => r = rv ∧ u = Sv) (q_B D cy A) A) args s 0 0 A) A D cy 10 0 0 S 278 [(0, va_rf (z0)), (1, .int (z1)), (2, .int (z2)), (4, .int (z3)), (5, .int (z4)), (6, .int (z5)), (7, .int (z6)), (8, .int (z7)), (9, .int (z8))] []) (S : q_S) (l0 : Option Nat) (l1 : Int32) (l2 : Int32) (l4 : Int32) (l5 : Int32) (l6 : Int32) (l7 : Int32) (l8 : Int32) (l9 : Int32) (s0 : Int32) (s1 : Option Nat) (h : m_X12_write_330 n k205 k278 S l0 l1 l2 l4 l5 l6 l7 l8 l9 s0 s1 = some (rv, Sv)) : q_W p l e ({ frames := 6, cells := 0, slots := 0, locals := 143 } : Room) s m args below meth c (MQ below (va_Qi (fun (r : Int32) (u : q_S) => r = rv ∧ u = Sv) (q_B D cy A) A) args s 0 0 A) A D cy 10 0 0 S 330 [(0, va_rf (l0)), (1, .int (l1)), (2, .int (l2)), (4, .int (l4)), (5, .int (l5)), (6, .int (l6)), (7, .int (l7)), (8, .int (l8)), (9, .int (l9))] [.int (s0), va_rf (s1)] := by
  unfold m_X12_write_330 at h
  obtain ⟨a1, ea1, ma1, ka1, h⟩ := q_atE h
  obtain ⟨u4, S2, c3, h⟩ := q_bE h
  refine q_cVV X (As := [.int (s0)]) ea1 ma1 ka1 rfl (by decide) (c_X12_put c3) (q_cwV X tK_X12_put tM_X12_312 tI_X12_put tV_X12_put tN_X12 rfl rfl tD_X12_put ⟨Nat.le_of_ble_eq_true rfl, Nat.le_of_ble_eq_true rfl⟩) rfl rfl (by first | exact Nat.le_of_ble_eq_true rfl | (simp only [List.map, q_catR]; exact Nat.le_of_ble_eq_true rfl)) ⟨Nat.zero_le _, Nat.zero_le _⟩ dX12_write_330 ?_
  refine q_iinc X 9 8 (l9 + (1)) [(9, .int (l9 + (1))), (0, va_rf (l0)), (1, .int (l1)), (2, .int (l2)), (4, .int (l4)), (5, .int (l5)), (6, .int (l6)), (7, .int (l7)), (8, .int (l8))] rfl (congrArg (fun z => l9 + z) (show Int32.ofInt (1) = (1) by decide)) (by decide) (by first | rfl | simp [List.filter, q_catR]) dX12_write_333 ?_
  refine q_goto X 278 (by decide) dX12_write_336 ?_
  refine q_lv [1, 2, 3, 4, 5, 6, 7, 8, 0] rfl ?_
  exact hk278 _ _ _ _ _ _ _ _ _ _ h
def m_X12_write_315 (n : Nat) (k205 : q_S → Option Nat → Int32 → Int32 → Int32 → Int32 → Int32 → Option (Int32 × q_S)) (k278 : q_S → Option Nat → Int32 → Int32 → Int32 → Int32 → Int32 → Int32 → Int32 → Int32 → Option (Int32 × q_S)) (S : q_S) (l0 : Option Nat) (l1 : Int32) (l2 : Int32) (l4 : Int32) (l5 : Int32) (l6 : Int32) (l7 : Int32) (l8 : Int32) (l9 : Int32) (s0 : Option Nat) : Option (Int32 × q_S) := q_at (S) (l0) 13 (fun a1 => q_at (S) (q_R (S) a1 6) 100 (fun a2 => q_if (q_in (l7) (q_N (S) a2) = true) (q_at (S) (q_R (S) a1 1) 100 (fun a4 => q_if (q_in ((q_I (S) a2 (l7).toNatClampNeg) + l9) (q_N (S) a4) = true) (m_X12_write_330 n k205 k278 (S) (l0) (l1) (l2) (l4) (l5) (l6) (l7) (l8) (l9) (q_I (S) a4 ((q_I (S) a2 (l7).toNatClampNeg) + l9).toNatClampNeg) (s0))))))
set_option maxHeartbeats 4000000 in
set_option maxRecDepth 100000 in
theorem w_X12_write_315 (X : q_X p s m args c cX12_write 10 RX12 q_T D cy A) (hr : meth.sig.returnType = (some .int)) (hl : meth.locks = false)  {n : Nat} {Sv : q_S} {rv : Int32}  {k205 : q_S → Option Nat → Int32 → Int32 → Int32 → Int32 → Int32 → Option (Int32 × q_S)} {k278 : q_S → Option Nat → Int32 → Int32 → Int32 → Int32 → Int32 → Int32 → Int32 → Int32 → Option (Int32 × q_S)} (hk205 : ∀ (S : q_S) (z0 : Option Nat) (z1 : Int32) (z2 : Int32) (z3 : Int32) (z4 : Int32) (z5 : Int32), k205 S z0 z1 z2 z3 z4 z5 = some (rv, Sv) → q_W p l e ({ frames := 6, cells := 0, slots := 0, locals := 143 } : Room) s m args below meth c (MQ below (va_Qi (fun (r : Int32) (u : q_S) => r = rv ∧ u = Sv) (q_B D cy A) A) args s 0 0 A) A D cy 10 0 0 S 205 [(0, va_rf (z0)), (1, .int (z1)), (2, .int (z2)), (4, .int (z3)), (5, .int (z4)), (6, .int (z5))] []) (hk278 : ∀ (S : q_S) (z0 : Option Nat) (z1 : Int32) (z2 : Int32) (z3 : Int32) (z4 : Int32) (z5 : Int32) (z6 : Int32) (z7 : Int32) (z8 : Int32), k278 S z0 z1 z2 z3 z4 z5 z6 z7 z8 = some (rv, Sv) → q_W p l e ({ frames := 6, cells := 0, slots := 0, locals := 143 } : Room) s m args below meth c (MQ below (va_Qi (fun (r : Int32) (u : q_S) => r = rv ∧ u = Sv) (q_B D cy A) A) args s 0 0 A) A D cy 10 0 0 S 278 [(0, va_rf (z0)), (1, .int (z1)), (2, .int (z2)), (4, .int (z3)), (5, .int (z4)), (6, .int (z5)), (7, .int (z6)), (8, .int (z7)), (9, .int (z8))] []) (S : q_S) (l0 : Option Nat) (l1 : Int32) (l2 : Int32) (l4 : Int32) (l5 : Int32) (l6 : Int32) (l7 : Int32) (l8 : Int32) (l9 : Int32) (s0 : Option Nat) (h : m_X12_write_315 n k205 k278 S l0 l1 l2 l4 l5 l6 l7 l8 l9 s0 = some (rv, Sv)) : q_W p l e ({ frames := 6, cells := 0, slots := 0, locals := 143 } : Room) s m args below meth c (MQ below (va_Qi (fun (r : Int32) (u : q_S) => r = rv ∧ u = Sv) (q_B D cy A) A) args s 0 0 A) A D cy 10 0 0 S 315 [(0, va_rf (l0)), (1, .int (l1)), (2, .int (l2)), (4, .int (l4)), (5, .int (l5)), (6, .int (l6)), (7, .int (l7)), (8, .int (l8)), (9, .int (l9))] [va_rf (s0)] := by
  unfold m_X12_write_315 at h
  refine q_aload_n X 0 rfl dX12_write_315 ?_
  obtain ⟨a1, ea1, ma1, ka1, h⟩ := q_atE h
  refine q_getR X 1 ea1 ma1 ka1 rfl tW_X12 (by decide) (by decide) tF_X12_7 rfl dX12_write_316 ?_
  refine q_aload_n X 0 rfl dX12_write_319 ?_
  refine q_getR X 6 ea1 ma1 ka1 rfl tW_X12 (by decide) (by decide) tF_X12_20 rfl dX12_write_320 ?_
  refine q_iload X 6 rfl dX12_write_323 ?_
  obtain ⟨a2, ea2, ma2, ka2, h⟩ := q_atE h
  obtain ⟨g3, h⟩ := q_ifE h
  refine q_iaload X ea2 ma2 ka2 (q_inE g3) dX12_write_325 ?_
  refine q_iload X 8 rfl dX12_write_326 ?_
  refine q_iadd X dX12_write_328 ?_
  obtain ⟨a4, ea4, ma4, ka4, h⟩ := q_atE h
  obtain ⟨g5, h⟩ := q_ifE h
  refine q_iaload X ea4 ma4 ka4 (q_inE g5) dX12_write_329 ?_
  exact w_X12_write_330 X hr hl hk205 hk278 _ _ _ _ _ _ _ _ _ _ _ _ h
def m_X12_write_278 (n : Nat) (k205 : q_S → Option Nat → Int32 → Int32 → Int32 → Int32 → Int32 → Option (Int32 × q_S)) : Nat → q_S → Option Nat → Int32 → Int32 → Int32 → Int32 → Int32 → Int32 → Int32 → Int32 → Option (Int32 × q_S)
  | 0, _, _, _, _, _, _, _, _, _, _ => none
  | k + 1, S, l0, l1, l2, l4, l5, l6, l7, l8, l9 => q_at (S) (l0) 13 (fun a1 => q_at (S) (q_R (S) a1 7) 100 (fun a2 => q_if (q_in (l7) (q_N (S) a2) = true) ((if (q_I (S) a2 (l7).toNatClampNeg) ≤ l9 then m_X12_write_339 n k205 (S) (l0) (l1) (l2) (l4) (l5) (l6) (l7) (l8) else (if l7 = l1 then (if l9 < (8 : Int32) then m_X12_write_315 n k205 (m_X12_write_278 n k205 k) (S) (l0) (l1) (l2) (l4) (l5) (l6) (l7) (l8) (l9) (l0) else (if (12 : Int32) ≤ l9 then m_X12_write_315 n k205 (m_X12_write_278 n k205 k) (S) (l0) (l1) (l2) (l4) (l5) (l6) (l7) (l8) (l9) (l0) else m_X12_write_330 n k205 (m_X12_write_278 n k205 k) (S) (l0) (l1) (l2) (l4) (l5) (l6) (l7) (l8) (l9) ((0 : Int32)) (l0))) else m_X12_write_315 n k205 (m_X12_write_278 n k205 k) (S) (l0) (l1) (l2) (l4) (l5) (l6) (l7) (l8) (l9) (l0))))))
set_option maxHeartbeats 4000000 in
set_option maxRecDepth 100000 in
theorem w_X12_write_278 (X : q_X p s m args c cX12_write 10 RX12 q_T D cy A) (hr : meth.sig.returnType = (some .int)) (hl : meth.locks = false)  {n : Nat} {Sv : q_S} {rv : Int32}  {k205 : q_S → Option Nat → Int32 → Int32 → Int32 → Int32 → Int32 → Option (Int32 × q_S)} (hk205 : ∀ (S : q_S) (z0 : Option Nat) (z1 : Int32) (z2 : Int32) (z3 : Int32) (z4 : Int32) (z5 : Int32), k205 S z0 z1 z2 z3 z4 z5 = some (rv, Sv) → q_W p l e ({ frames := 6, cells := 0, slots := 0, locals := 143 } : Room) s m args below meth c (MQ below (va_Qi (fun (r : Int32) (u : q_S) => r = rv ∧ u = Sv) (q_B D cy A) A) args s 0 0 A) A D cy 10 0 0 S 205 [(0, va_rf (z0)), (1, .int (z1)), (2, .int (z2)), (4, .int (z3)), (5, .int (z4)), (6, .int (z5))] []) : ∀ (k : Nat) (S : q_S) (l0 : Option Nat) (l1 : Int32) (l2 : Int32) (l4 : Int32) (l5 : Int32) (l6 : Int32) (l7 : Int32) (l8 : Int32) (l9 : Int32), m_X12_write_278 n k205 k S l0 l1 l2 l4 l5 l6 l7 l8 l9 = some (rv, Sv) → q_W p l e ({ frames := 6, cells := 0, slots := 0, locals := 143 } : Room) s m args below meth c (MQ below (va_Qi (fun (r : Int32) (u : q_S) => r = rv ∧ u = Sv) (q_B D cy A) A) args s 0 0 A) A D cy 10 0 0 S 278 [(0, va_rf (l0)), (1, .int (l1)), (2, .int (l2)), (4, .int (l4)), (5, .int (l5)), (6, .int (l6)), (7, .int (l7)), (8, .int (l8)), (9, .int (l9))] [] := by
  intro k
  induction k with
  | zero => intro S l0 l1 l2 l4 l5 l6 l7 l8 l9 h; rw [m_X12_write_278] at h; cases h
  | succ k ih =>
    intro S l0 l1 l2 l4 l5 l6 l7 l8 l9 h
    rw [m_X12_write_278] at h
    refine q_iload X 8 rfl dX12_write_278 ?_
    refine q_aload_n X 0 rfl dX12_write_280 ?_
    obtain ⟨a1, ea1, ma1, ka1, h⟩ := q_atE h
    refine q_getR X 7 ea1 ma1 ka1 rfl tW_X12 (by decide) (by decide) tF_X12_23 rfl dX12_write_281 ?_
    refine q_iload X 6 rfl dX12_write_284 ?_
    obtain ⟨a2, ea2, ma2, ka2, h⟩ := q_atE h
    obtain ⟨g3, h⟩ := q_ifE h
    refine q_iaload X ea2 ma2 ka2 (q_inE g3) dX12_write_286 ?_
    refine q_icmp_ge X 339 (by decide) dX12_write_287 (fun g4 => ?_) (fun g4 => ?_)
    · rw [if_pos g4] at h
      refine q_lv [0, 1, 2, 3, 4, 5, 6, 7] rfl ?_
      exact w_X12_write_339 X hr hl hk205 _ _ _ _ _ _ _ _ _ h
    · rw [if_neg g4] at h
      refine q_aload_n X 0 rfl dX12_write_290 ?_
      refine q_iload X 6 rfl dX12_write_291 ?_
      refine q_iload_n X 1 rfl dX12_write_293 ?_
      refine q_icmp_ne X 315 (by decide) dX12_write_294 (fun g5 => ?_) (fun g5 => ?_)
      · rw [if_neg g5] at h
        exact w_X12_write_315 X hr hl hk205 ih _ _ _ _ _ _ _ _ _ _ _ h
      · rw [if_pos g5] at h
        refine q_iload X 8 rfl dX12_write_297 ?_
        refine q_bipush X (8) (by decide) dX12_write_299 ?_
        refine q_icmp_lt X 315 (by decide) dX12_write_301 (fun g6 => ?_) (fun g6 => ?_)
        · rw [if_pos g6] at h
          exact w_X12_write_315 X hr hl hk205 ih _ _ _ _ _ _ _ _ _ _ _ h
        · rw [if_neg g6] at h
          refine q_iload X 8 rfl dX12_write_304 ?_
          refine q_bipush X (12) (by decide) dX12_write_306 ?_
          refine q_icmp_ge X 315 (by decide) dX12_write_308 (fun g7 => ?_) (fun g7 => ?_)
          · rw [if_pos g7] at h
            exact w_X12_write_315 X hr hl hk205 ih _ _ _ _ _ _ _ _ _ _ _ h
          · rw [if_neg g7] at h
            refine q_iconst X (0) (by decide) dX12_write_311 ?_
            refine q_goto X 330 (by decide) dX12_write_312 ?_
            exact w_X12_write_330 X hr hl hk205 ih _ _ _ _ _ _ _ _ _ _ _ _ h
def m_X12_write_205 (n : Nat) : Nat → q_S → Option Nat → Int32 → Int32 → Int32 → Int32 → Int32 → Option (Int32 × q_S)
  | 0, _, _, _, _, _, _, _ => none
  | k + 1, S, l0, l1, l2, l4, l5, l6 => q_at (S) (l0) 13 (fun a1 => (if (q_I (S) a1 3) ≤ l6 then q_b (m_X12_even n (S) a1) (fun _ S3 => q_at (S3) (l0) 13 (fun a6 => (if (q_I (S3) a6 41) = 0 then q_b (m_X12_sumWritten n (S3) a6 ((0 : Int32)) (q_I (S3) a6 38)) (fun r8 S9 => q_at (S9) (l0) 13 (fun a11 => q_b (m_X12_setFour n (S9) a11 (l5) (((2981146554 : Int64) - r8) &&& (4294967295 : Int64))) (fun _ S12 => q_at (S12) (l0) 13 (fun a15 => some (q_I (S12) a15 38, S12))))) else some ((-1 : Int32), q_sI (S3) a6 38 ((0 : Int32)))))) else q_at (S) (q_R (S) a1 40) 100 (fun a16 => q_if (q_in (l6) (q_N (S) a16) = true) (q_b (m_X12_even n (S) a1) (fun _ S18 => q_at (S18) (l0) 13 (fun a21 => q_b (m_X12_find n (S18) a21 ((1735162214 : Int64))) (fun r22 S23 => (if (q_I (S) a16 (l6).toNatClampNeg) = r22 then q_at (S23) (l0) 13 (fun a35 => q_b (m_X12_putGlyf n (S23) a35 (l2)) (fun _ S36 => m_X12_write_339 n (m_X12_write_205 n k) (S36) (l0) (l1) (l2) (l4) (l5) (l6) (q_I (S) a16 (l6).toNatClampNeg) (q_I (S18) a21 38))) else q_at (S23) (l0) 13 (fun a26 => q_b (m_X12_find n (S23) a26 ((1819239265 : Int64))) (fun r27 S28 => (if (q_I (S) a16 (l6).toNatClampNeg) = r27 then q_at (S28) (l0) 13 (fun a31 => q_b (m_X12_putLoca n (S28) a31 (l2) (l4)) (fun _ S32 => m_X12_write_339 n (m_X12_write_205 n k) (S32) (l0) (l1) (l2) (l4) (l5) (l6) (q_I (S) a16 (l6).toNatClampNeg) (q_I (S18) a21 38))) else m_X12_write_278 n (m_X12_write_205 n k) n (S28) (l0) (l1) (l2) (l4) (l5) (l6) (q_I (S) a16 (l6).toNatClampNeg) (q_I (S18) a21 38) ((0 : Int32)))))))))))))
set_option maxHeartbeats 4000000 in
set_option maxRecDepth 100000 in
theorem w_X12_write_205 (X : q_X p s m args c cX12_write 10 RX12 q_T D cy A) (hr : meth.sig.returnType = (some .int)) (hl : meth.locks = false)  {n : Nat} {Sv : q_S} {rv : Int32}  : ∀ (k : Nat) (S : q_S) (l0 : Option Nat) (l1 : Int32) (l2 : Int32) (l4 : Int32) (l5 : Int32) (l6 : Int32), m_X12_write_205 n k S l0 l1 l2 l4 l5 l6 = some (rv, Sv) → q_W p l e ({ frames := 6, cells := 0, slots := 0, locals := 143 } : Room) s m args below meth c (MQ below (va_Qi (fun (r : Int32) (u : q_S) => r = rv ∧ u = Sv) (q_B D cy A) A) args s 0 0 A) A D cy 10 0 0 S 205 [(0, va_rf (l0)), (1, .int (l1)), (2, .int (l2)), (4, .int (l4)), (5, .int (l5)), (6, .int (l6))] [] := by
  intro k
  induction k with
  | zero => intro S l0 l1 l2 l4 l5 l6 h; rw [m_X12_write_205] at h; cases h
  | succ k ih =>
    intro S l0 l1 l2 l4 l5 l6 h
    rw [m_X12_write_205] at h
    refine q_iload X 5 rfl dX12_write_205 ?_
    refine q_aload_n X 0 rfl dX12_write_207 ?_
    obtain ⟨a1, ea1, ma1, ka1, h⟩ := q_atE h
    refine q_getI X 3 ea1 ma1 ka1 rfl tW_X12 (by decide) (by decide) tF_X12_111 rfl dX12_write_208 ?_
    refine q_icmp_ge X 439 (by decide) dX12_write_211 (fun g2 => ?_) (fun g2 => ?_)
    · rw [if_pos g2] at h
      refine q_aload_n X 0 rfl dX12_write_439 ?_
      obtain ⟨u5, S3, c4, h⟩ := q_bE h
      refine q_cVV X (As := []) ea1 ma1 ka1 rfl (by decide) (c_X12_even c4) (q_cwV X tK_X12_even tM_X12_325 tI_X12_even tV_X12_even tN_X12 rfl rfl tD_X12_even ⟨Nat.le_of_ble_eq_true rfl, Nat.le_of_ble_eq_true rfl⟩) rfl rfl (by first | exact Nat.le_of_ble_eq_true rfl | (simp only [List.map, q_catR]; exact Nat.le_of_ble_eq_true rfl)) ⟨Nat.zero_le _, Nat.zero_le _⟩ dX12_write_440 ?_
      refine q_aload_n X 0 rfl dX12_write_443 ?_
      obtain ⟨a6, ea6, ma6, ka6, h⟩ := q_atE h
      refine q_getI X 41 ea6 ma6 ka6 rfl tW_X12 (by decide) (by decide) tF_X12_309 rfl dX12_write_444 ?_
      refine q_if_eq X 457 (by decide) dX12_write_447 (fun g7 => ?_) (fun g7 => ?_)
      · rw [if_pos g7] at h
        refine q_aload_n X 0 rfl dX12_write_457 ?_
        refine q_iload X 4 rfl dX12_write_458 ?_
        refine q_ldc2_w X (2981146554) tC_X12_343 dX12_write_460 ?_
        refine q_aload_n X 0 rfl dX12_write_463 ?_
        refine q_iconst X (0) (by decide) dX12_write_464 ?_
        refine q_aload_n X 0 rfl dX12_write_465 ?_
        refine q_getI X 38 ea6 ma6 ka6 rfl tW_X12 (by decide) (by decide) tF_X12_306 rfl dX12_write_466 ?_
        obtain ⟨r8, S9, c10, h⟩ := q_bE h
        refine q_cVJ X (As := [.int ((0 : Int32)), .int (q_I (S3) a6 38)]) ea6 ma6 ka6 rfl (by decide) (c_X12_sumWritten c10) (q_cwV X tK_X12_sumWritten tM_X12_339 tI_X12_sumWritten tV_X12_sumWritten tN_X12 rfl rfl tD_X12_sumWritten ⟨Nat.le_of_ble_eq_true rfl, Nat.le_of_ble_eq_true rfl⟩) rfl rfl (by first | exact Nat.le_of_ble_eq_true rfl | (simp only [List.map, q_catR]; exact Nat.le_of_ble_eq_true rfl)) ⟨Nat.zero_le _, Nat.zero_le _⟩ dX12_write_469 ?_
        refine q_lsub X dX12_write_472 ?_
        refine q_ldc2_w X (4294967295) tC_X12_131 dX12_write_473 ?_
        refine q_land X dX12_write_476 ?_
        obtain ⟨a11, ea11, ma11, ka11, h⟩ := q_atE h
        obtain ⟨u14, S12, c13, h⟩ := q_bE h
        refine q_cVV X (As := [.int (l5), .long (((2981146554 : Int64) - r8) &&& (4294967295 : Int64))]) ea11 ma11 ka11 rfl (by decide) (c_X12_setFour c13) (q_cwV X tK_X12_setFour tM_X12_335 tI_X12_setFour tV_X12_setFour tN_X12 rfl rfl tD_X12_setFour ⟨Nat.le_of_ble_eq_true rfl, Nat.le_of_ble_eq_true rfl⟩) rfl rfl (by first | exact Nat.le_of_ble_eq_true rfl | (simp only [List.map, q_catR]; exact Nat.le_of_ble_eq_true rfl)) ⟨Nat.zero_le _, Nat.zero_le _⟩ dX12_write_477 ?_
        refine q_aload_n X 0 rfl dX12_write_480 ?_
        obtain ⟨a15, ea15, ma15, ka15, h⟩ := q_atE h
        refine q_getI X 38 ea15 ma15 ka15 rfl tW_X12 (by decide) (by decide) tF_X12_306 rfl dX12_write_481 ?_
        obtain ⟨ev, eS⟩ := q_end h
        exact q_iret X hr hl rfl ev eS dX12_write_484
      · rw [if_neg g7] at h
        refine q_aload_n X 0 rfl dX12_write_450 ?_
        refine q_iconst X (0) (by decide) dX12_write_451 ?_
        refine q_putI X 38 ea6 ma6 ka6 rfl tW_X12 (by decide) (by decide) tF_X12_306 tyX12 tyX12_ok nmX12 rfl (tyX12_ok 38 (by decide)) rfl rfl rfl dX12_write_452 ?_
        have ma6 : a6 ∈ q_L (q_sI (S3) a6 38 ((0 : Int32))) := q_LsI ma6
        have ka6 : q_K (q_sI (S3) a6 38 ((0 : Int32))) a6 = 13 := q_KsI ka6
        refine q_iconst X (-1) (by decide) dX12_write_455 ?_
        obtain ⟨ev, eS⟩ := q_end h
        exact q_iret X hr hl rfl ev eS dX12_write_456
    · rw [if_neg g2] at h
      refine q_aload_n X 0 rfl dX12_write_214 ?_
      refine q_getR X 40 ea1 ma1 ka1 rfl tW_X12 (by decide) (by decide) tF_X12_93 rfl dX12_write_215 ?_
      refine q_iload X 5 rfl dX12_write_218 ?_
      obtain ⟨a16, ea16, ma16, ka16, h⟩ := q_atE h
      obtain ⟨g17, h⟩ := q_ifE h
      refine q_iaload X ea16 ma16 ka16 (q_inE g17) dX12_write_220 ?_
      refine q_istore X 7 [(7, .int (q_I (S) a16 (l6).toNatClampNeg)), (0, va_rf (l0)), (1, .int (l1)), (2, .int (l2)), (4, .int (l4)), (5, .int (l5)), (6, .int (l6))] (by decide) (by first | rfl | simp [List.filter, q_catR]) dX12_write_221 ?_
      refine q_aload_n X 1 rfl dX12_write_223 ?_
      obtain ⟨u20, S18, c19, h⟩ := q_bE h
      refine q_cVV X (As := []) ea1 ma1 ka1 rfl (by decide) (c_X12_even c19) (q_cwV X tK_X12_even tM_X12_325 tI_X12_even tV_X12_even tN_X12 rfl rfl tD_X12_even ⟨Nat.le_of_ble_eq_true rfl, Nat.le_of_ble_eq_true rfl⟩) rfl rfl (by first | exact Nat.le_of_ble_eq_true rfl | (simp only [List.map, q_catR]; exact Nat.le_of_ble_eq_true rfl)) ⟨Nat.zero_le _, Nat.zero_le _⟩ dX12_write_224 ?_
      refine q_aload_n X 1 rfl dX12_write_227 ?_
      obtain ⟨a21, ea21, ma21, ka21, h⟩ := q_atE h
      refine q_getI X 38 ea21 ma21 ka21 rfl tW_X12 (by decide) (by decide) tF_X12_306 rfl dX12_write_228 ?_
      refine q_istore X 8 [(8, .int (q_I (S18) a21 38)), (7, .int (q_I (S) a16 (l6).toNatClampNeg)), (0, va_rf (l0)), (1, .int (l1)), (2, .int (l2)), (4, .int (l4)), (5, .int (l5)), (6, .int (l6))] (by decide) (by first | rfl | simp [List.filter, q_catR]) dX12_write_231 ?_
      refine q_iload X 1 rfl dX12_write_233 ?_
      refine q_aload_n X 2 rfl dX12_write_235 ?_
      refine q_ldc2_w X (1735162214) tC_X12_197 dX12_write_236 ?_
      obtain ⟨r22, S23, c24, h⟩ := q_bE h
      refine q_cVI X (As := [.long ((1735162214 : Int64))]) ea21 ma21 ka21 rfl (by decide) (c_X12_find c24) (q_cwV X tK_X12_find tM_X12_127 tI_X12_find tV_X12_find tN_X12 rfl rfl tD_X12_find ⟨Nat.le_of_ble_eq_true rfl, Nat.le_of_ble_eq_true rfl⟩) rfl rfl (by first | exact Nat.le_of_ble_eq_true rfl | (simp only [List.map, q_catR]; exact Nat.le_of_ble_eq_true rfl)) ⟨Nat.zero_le _, Nat.zero_le _⟩ dX12_write_239 ?_
      refine q_icmp_ne X 253 (by decide) dX12_write_242 (fun g25 => ?_) (fun g25 => ?_)
      · rw [if_neg g25] at h
        refine q_iload X 1 rfl dX12_write_253 ?_
        refine q_aload_n X 2 rfl dX12_write_255 ?_
        refine q_ldc2_w X (1819239265) tC_X12_179 dX12_write_256 ?_
        obtain ⟨a26, ea26, ma26, ka26, h⟩ := q_atE h
        obtain ⟨r27, S28, c29, h⟩ := q_bE h
        refine q_cVI X (As := [.long ((1819239265 : Int64))]) ea26 ma26 ka26 rfl (by decide) (c_X12_find c29) (q_cwV X tK_X12_find tM_X12_127 tI_X12_find tV_X12_find tN_X12 rfl rfl tD_X12_find ⟨Nat.le_of_ble_eq_true rfl, Nat.le_of_ble_eq_true rfl⟩) rfl rfl (by first | exact Nat.le_of_ble_eq_true rfl | (simp only [List.map, q_catR]; exact Nat.le_of_ble_eq_true rfl)) ⟨Nat.zero_le _, Nat.zero_le _⟩ dX12_write_259 ?_
        refine q_icmp_ne X 275 (by decide) dX12_write_262 (fun g30 => ?_) (fun g30 => ?_)
        · rw [if_neg g30] at h
          refine q_iconst X (0) (by decide) dX12_write_275 ?_
          refine q_istore X 9 [(9, .int ((0 : Int32))), (8, .int (q_I (S18) a21 38)), (7, .int (q_I (S) a16 (l6).toNatClampNeg)), (0, va_rf (l0)), (1, .int (l1)), (2, .int (l2)), (4, .int (l4)), (5, .int (l5)), (6, .int (l6))] (by decide) (by first | rfl | simp [List.filter, q_catR]) dX12_write_276 ?_
          refine q_lv [3, 4, 5, 6, 7, 8, 2, 1, 0] rfl ?_
          exact w_X12_write_278 X hr hl ih n _ _ _ _ _ _ _ _ _ _ h
        · rw [if_pos g30] at h
          refine q_aload_n X 2 rfl dX12_write_265 ?_
          refine q_iload_n X 4 rfl dX12_write_266 ?_
          refine q_iload X 5 rfl dX12_write_267 ?_
          obtain ⟨a31, ea31, ma31, ka31, h⟩ := q_atE h
          obtain ⟨u34, S32, c33, h⟩ := q_bE h
          refine q_cVV X (As := [.int (l2), .int (l4)]) ea31 ma31 ka31 rfl (by decide) (c_X12_putLoca c33) (q_cwV X tK_X12_putLoca tM_X12_331 tI_X12_putLoca tV_X12_putLoca tN_X12 rfl rfl tD_X12_putLoca ⟨Nat.le_of_ble_eq_true rfl, Nat.le_of_ble_eq_true rfl⟩) rfl rfl (by first | exact Nat.le_of_ble_eq_true rfl | (simp only [List.map, q_catR]; exact Nat.le_of_ble_eq_true rfl)) ⟨Nat.zero_le _, Nat.zero_le _⟩ dX12_write_269 ?_
          refine q_goto X 339 (by decide) dX12_write_272 ?_
          refine q_lv [2, 3, 4, 5, 6, 7, 1, 0] rfl ?_
          exact w_X12_write_339 X hr hl ih _ _ _ _ _ _ _ _ _ h
      · rw [if_pos g25] at h
        refine q_aload_n X 2 rfl dX12_write_245 ?_
        refine q_iload_n X 4 rfl dX12_write_246 ?_
        obtain ⟨a35, ea35, ma35, ka35, h⟩ := q_atE h
        obtain ⟨u38, S36, c37, h⟩ := q_bE h
        refine q_cVV X (As := [.int (l2)]) ea35 ma35 ka35 rfl (by decide) (c_X12_putGlyf c37) (q_cwV X tK_X12_putGlyf tM_X12_328 tI_X12_putGlyf tV_X12_putGlyf tN_X12 rfl rfl tD_X12_putGlyf ⟨Nat.le_of_ble_eq_true rfl, Nat.le_of_ble_eq_true rfl⟩) rfl rfl (by first | exact Nat.le_of_ble_eq_true rfl | (simp only [List.map, q_catR]; exact Nat.le_of_ble_eq_true rfl)) ⟨Nat.zero_le _, Nat.zero_le _⟩ dX12_write_247 ?_
        refine q_goto X 339 (by decide) dX12_write_250 ?_
        refine q_lv [2, 3, 4, 5, 6, 7, 1, 0] rfl ?_
        exact w_X12_write_339 X hr hl ih _ _ _ _ _ _ _ _ _ h
def m_X12_write_176 (n : Nat) : Nat → q_S → Option Nat → Int32 → Int32 → Int32 → Int32 → Option (Int32 × q_S)
  | 0, _, _, _, _, _, _ => none
  | k + 1, S, l0, l1, l2, l4, l5 => q_at (S) (l0) 13 (fun a1 => (if ((16 : Int32) * (q_I (S) a1 3)) ≤ l5 then m_X12_write_205 n n (S) (l0) (l1) (l2) (l4) ((0 : Int32)) ((0 : Int32)) else q_b (m_X12_put n (S) a1 ((0 : Int32))) (fun _ S3 => m_X12_write_176 n k (S3) (l0) (l1) (l2) (l4) (l5 + (1)))))
set_option maxHeartbeats 4000000 in
set_option maxRecDepth 100000 in
theorem w_X12_write_176 (X : q_X p s m args c cX12_write 10 RX12 q_T D cy A) (hr : meth.sig.returnType = (some .int)) (hl : meth.locks = false)  {n : Nat} {Sv : q_S} {rv : Int32}  : ∀ (k : Nat) (S : q_S) (l0 : Option Nat) (l1 : Int32) (l2 : Int32) (l4 : Int32) (l5 : Int32), m_X12_write_176 n k S l0 l1 l2 l4 l5 = some (rv, Sv) → q_W p l e ({ frames := 6, cells := 0, slots := 0, locals := 143 } : Room) s m args below meth c (MQ below (va_Qi (fun (r : Int32) (u : q_S) => r = rv ∧ u = Sv) (q_B D cy A) A) args s 0 0 A) A D cy 10 0 0 S 176 [(0, va_rf (l0)), (1, .int (l1)), (2, .int (l2)), (4, .int (l4)), (5, .int (l5))] [] := by
  intro k
  induction k with
  | zero => intro S l0 l1 l2 l4 l5 h; rw [m_X12_write_176] at h; cases h
  | succ k ih =>
    intro S l0 l1 l2 l4 l5 h
    rw [m_X12_write_176] at h
    refine q_iload X 4 rfl dX12_write_176 ?_
    refine q_bipush X (16) (by decide) dX12_write_178 ?_
    refine q_aload_n X 0 rfl dX12_write_180 ?_
    obtain ⟨a1, ea1, ma1, ka1, h⟩ := q_atE h
    refine q_getI X 3 ea1 ma1 ka1 rfl tW_X12 (by decide) (by decide) tF_X12_111 rfl dX12_write_181 ?_
    refine q_imul X dX12_write_184 ?_
    refine q_icmp_ge X 199 (by decide) dX12_write_185 (fun g2 => ?_) (fun g2 => ?_)
    · rw [if_pos g2] at h
      refine q_iconst X (0) (by decide) dX12_write_199 ?_
      refine q_istore X 5 [(5, .int ((0 : Int32))), (0, va_rf (l0)), (1, .int (l1)), (2, .int (l2)), (4, .int (l4))] (by decide) (by first | rfl | simp [List.filter, q_catR]) dX12_write_200 ?_
      refine q_iconst X (0) (by decide) dX12_write_202 ?_
      refine q_istore X 6 [(6, .int ((0 : Int32))), (5, .int ((0 : Int32))), (0, va_rf (l0)), (1, .int (l1)), (2, .int (l2)), (4, .int (l4))] (by decide) (by first | rfl | simp [List.filter, q_catR]) dX12_write_203 ?_
      refine q_lv [2, 3, 4, 5, 1, 0] rfl ?_
      exact w_X12_write_205 X hr hl n _ _ _ _ _ _ _ h
    · rw [if_neg g2] at h
      refine q_aload_n X 0 rfl dX12_write_188 ?_
      refine q_iconst X (0) (by decide) dX12_write_189 ?_
      obtain ⟨u5, S3, c4, h⟩ := q_bE h
      refine q_cVV X (As := [.int ((0 : Int32))]) ea1 ma1 ka1 rfl (by decide) (c_X12_put c4) (q_cwV X tK_X12_put tM_X12_312 tI_X12_put tV_X12_put tN_X12 rfl rfl tD_X12_put ⟨Nat.le_of_ble_eq_true rfl, Nat.le_of_ble_eq_true rfl⟩) rfl rfl (by first | exact Nat.le_of_ble_eq_true rfl | (simp only [List.map, q_catR]; exact Nat.le_of_ble_eq_true rfl)) ⟨Nat.zero_le _, Nat.zero_le _⟩ dX12_write_190 ?_
      refine q_iinc X 5 4 (l5 + (1)) [(5, .int (l5 + (1))), (0, va_rf (l0)), (1, .int (l1)), (2, .int (l2)), (4, .int (l4))] rfl (congrArg (fun z => l5 + z) (show Int32.ofInt (1) = (1) by decide)) (by decide) (by first | rfl | simp [List.filter, q_catR]) dX12_write_193 ?_
      refine q_goto X 176 (by decide) dX12_write_196 ?_
      refine q_lv [1, 2, 3, 4, 0] rfl ?_
      exact ih _ _ _ _ _ _ h
def m_X12_write_149 (n : Nat) : Nat → q_S → Option Nat → Int32 → Int32 → Int32 → Int32 → Option (Int32 × q_S)
  | 0, _, _, _, _, _, _ => none
  | k + 1, S, l0, l1, l2, l4, l5 => (if (12 : Int32) ≤ l5 then m_X12_write_176 n n (S) (l0) (l1) (l2) (l4) ((0 : Int32)) else q_at (S) (l0) 13 (fun a2 => q_at (S) (q_R (S) a2 1) 100 (fun a3 => q_if (q_in (l5) (q_N (S) a3) = true) (q_b (m_X12_put n (S) a2 (q_I (S) a3 (l5).toNatClampNeg)) (fun _ S5 => m_X12_write_149 n k (S5) (l0) (l1) (l2) (l4) (l5 + (1)))))))
set_option maxHeartbeats 4000000 in
set_option maxRecDepth 100000 in
theorem w_X12_write_149 (X : q_X p s m args c cX12_write 10 RX12 q_T D cy A) (hr : meth.sig.returnType = (some .int)) (hl : meth.locks = false)  {n : Nat} {Sv : q_S} {rv : Int32}  : ∀ (k : Nat) (S : q_S) (l0 : Option Nat) (l1 : Int32) (l2 : Int32) (l4 : Int32) (l5 : Int32), m_X12_write_149 n k S l0 l1 l2 l4 l5 = some (rv, Sv) → q_W p l e ({ frames := 6, cells := 0, slots := 0, locals := 143 } : Room) s m args below meth c (MQ below (va_Qi (fun (r : Int32) (u : q_S) => r = rv ∧ u = Sv) (q_B D cy A) A) args s 0 0 A) A D cy 10 0 0 S 149 [(0, va_rf (l0)), (1, .int (l1)), (2, .int (l2)), (4, .int (l4)), (5, .int (l5))] [] := by
  intro k
  induction k with
  | zero => intro S l0 l1 l2 l4 l5 h; rw [m_X12_write_149] at h; cases h
  | succ k ih =>
    intro S l0 l1 l2 l4 l5 h
    rw [m_X12_write_149] at h
    refine q_iload X 4 rfl dX12_write_149 ?_
    refine q_bipush X (12) (by decide) dX12_write_151 ?_
    refine q_icmp_ge X 173 (by decide) dX12_write_153 (fun g1 => ?_) (fun g1 => ?_)
    · rw [if_pos g1] at h
      refine q_iconst X (0) (by decide) dX12_write_173 ?_
      refine q_istore X 5 [(5, .int ((0 : Int32))), (0, va_rf (l0)), (1, .int (l1)), (2, .int (l2)), (4, .int (l4))] (by decide) (by first | rfl | simp [List.filter, q_catR]) dX12_write_174 ?_
      refine q_lv [1, 2, 3, 4, 0] rfl ?_
      exact w_X12_write_176 X hr hl n _ _ _ _ _ _ h
    · rw [if_neg g1] at h
      refine q_aload_n X 0 rfl dX12_write_156 ?_
      refine q_aload_n X 0 rfl dX12_write_157 ?_
      obtain ⟨a2, ea2, ma2, ka2, h⟩ := q_atE h
      refine q_getR X 1 ea2 ma2 ka2 rfl tW_X12 (by decide) (by decide) tF_X12_7 rfl dX12_write_158 ?_
      refine q_iload X 4 rfl dX12_write_161 ?_
      obtain ⟨a3, ea3, ma3, ka3, h⟩ := q_atE h
      obtain ⟨g4, h⟩ := q_ifE h
      refine q_iaload X ea3 ma3 ka3 (q_inE g4) dX12_write_163 ?_
      obtain ⟨u7, S5, c6, h⟩ := q_bE h
      refine q_cVV X (As := [.int (q_I (S) a3 (l5).toNatClampNeg)]) ea2 ma2 ka2 rfl (by decide) (c_X12_put c6) (q_cwV X tK_X12_put tM_X12_312 tI_X12_put tV_X12_put tN_X12 rfl rfl tD_X12_put ⟨Nat.le_of_ble_eq_true rfl, Nat.le_of_ble_eq_true rfl⟩) rfl rfl (by first | exact Nat.le_of_ble_eq_true rfl | (simp only [List.map, q_catR]; exact Nat.le_of_ble_eq_true rfl)) ⟨Nat.zero_le _, Nat.zero_le _⟩ dX12_write_164 ?_
      refine q_iinc X 5 4 (l5 + (1)) [(5, .int (l5 + (1))), (0, va_rf (l0)), (1, .int (l1)), (2, .int (l2)), (4, .int (l4))] rfl (congrArg (fun z => l5 + z) (show Int32.ofInt (1) = (1) by decide)) (by decide) (by first | rfl | simp [List.filter, q_catR]) dX12_write_167 ?_
      refine q_goto X 149 (by decide) dX12_write_170 ?_
      refine q_lv [1, 2, 3, 4, 0] rfl ?_
      exact ih _ _ _ _ _ _ h
def m_X12_write_140 (n : Nat) (S : q_S) (l0 : Option Nat) (l1 : Int32) (l2 : Int32) (s0 : Int32) : Option (Int32 × q_S) := q_at (S) (l0) 13 (fun a1 => q_b (m_X12_sort n (S) a1) (fun _ S2 => m_X12_write_149 n n (S2) (l0) (l1) (l2) (s0) ((0 : Int32))))
set_option maxHeartbeats 4000000 in
set_option maxRecDepth 100000 in
theorem w_X12_write_140 (X : q_X p s m args c cX12_write 10 RX12 q_T D cy A) (hr : meth.sig.returnType = (some .int)) (hl : meth.locks = false)  {n : Nat} {Sv : q_S} {rv : Int32}  (S : q_S) (l0 : Option Nat) (l1 : Int32) (l2 : Int32) (s0 : Int32) (h : m_X12_write_140 n S l0 l1 l2 s0 = some (rv, Sv)) : q_W p l e ({ frames := 6, cells := 0, slots := 0, locals := 143 } : Room) s m args below meth c (MQ below (va_Qi (fun (r : Int32) (u : q_S) => r = rv ∧ u = Sv) (q_B D cy A) A) args s 0 0 A) A D cy 10 0 0 S 140 [(0, va_rf (l0)), (1, .int (l1)), (2, .int (l2))] [.int (s0)] := by
  unfold m_X12_write_140 at h
  refine q_istore X 4 [(4, .int (s0)), (0, va_rf (l0)), (1, .int (l1)), (2, .int (l2))] (by decide) (by first | rfl | simp [List.filter, q_catR]) dX12_write_140 ?_
  refine q_aload_n X 1 rfl dX12_write_142 ?_
  obtain ⟨a1, ea1, ma1, ka1, h⟩ := q_atE h
  obtain ⟨u4, S2, c3, h⟩ := q_bE h
  refine q_cVV X (As := []) ea1 ma1 ka1 rfl (by decide) (c_X12_sort c3) (q_cwV X tK_X12_sort tM_X12_322 tI_X12_sort tV_X12_sort tN_X12 rfl rfl tD_X12_sort ⟨Nat.le_of_ble_eq_true rfl, Nat.le_of_ble_eq_true rfl⟩) rfl rfl (by first | exact Nat.le_of_ble_eq_true rfl | (simp only [List.map, q_catR]; exact Nat.le_of_ble_eq_true rfl)) ⟨Nat.zero_le _, Nat.zero_le _⟩ dX12_write_143 ?_
  refine q_iconst X (0) (by decide) dX12_write_146 ?_
  refine q_istore X 5 [(5, .int ((0 : Int32))), (4, .int (s0)), (0, va_rf (l0)), (1, .int (l1)), (2, .int (l2))] (by decide) (by first | rfl | simp [List.filter, q_catR]) dX12_write_147 ?_
  refine q_lv [2, 3, 4, 1, 0] rfl ?_
  exact w_X12_write_149 X hr hl n _ _ _ _ _ _ h
def m_X12_write_62 (n : Nat) (S : q_S) (l0 : Option Nat) (l1 : Int32) (s0 : Int32) : Option (Int32 × q_S) := (if l1 = (-1 : Int32) then m_X12_write_116 n (S) else q_at (S) (l0) 13 (fun a2 => q_b (m_X12_find n (S) a2 ((1835104368 : Int64))) (fun r3 S4 => (if r3 = (-1 : Int32) then m_X12_write_116 n (S4) else q_at (S4) (l0) 13 (fun a7 => q_b (m_X12_find n (S4) a7 ((1819239265 : Int64))) (fun r8 S9 => (if r8 = (-1 : Int32) then m_X12_write_116 n (S9) else q_at (S9) (l0) 13 (fun a12 => q_b (m_X12_find n (S9) a12 ((1735162214 : Int64))) (fun r13 S14 => (if r13 = (-1 : Int32) then m_X12_write_116 n (S14) else q_at (S14) (l0) 13 (fun a17 => q_at (S14) (q_R (S14) a17 7) 100 (fun a18 => q_if (q_in (l1) (q_N (S14) a18) = true) ((if (q_I (S14) a18 (l1).toNatClampNeg) < (52 : Int32) then m_X12_write_116 n (S14) else (if s0 = 0 then q_b (m_X12_signs n (S14) a17) (fun r22 S23 => q_at (S23) (l0) 13 (fun a25 => q_b (m_X12_two n (S23) a25 (l1) ((50 : Int64))) (fun r26 S27 => (if r26 = (1 : Int32) then m_X12_write_140 n (S27) (l0) (l1) (r22) ((1 : Int32)) else m_X12_write_140 n (S27) (l0) (l1) (r22) ((0 : Int32)))))) else m_X12_write_116 n (S14))))))))))))))))
set_option maxHeartbeats 4000000 in
set_option maxRecDepth 100000 in
theorem w_X12_write_62 (X : q_X p s m args c cX12_write 10 RX12 q_T D cy A) (hr : meth.sig.returnType = (some .int)) (hl : meth.locks = false)  {n : Nat} {Sv : q_S} {rv : Int32}  (S : q_S) (l0 : Option Nat) (l1 : Int32) (s0 : Int32) (h : m_X12_write_62 n S l0 l1 s0 = some (rv, Sv)) : q_W p l e ({ frames := 6, cells := 0, slots := 0, locals := 143 } : Room) s m args below meth c (MQ below (va_Qi (fun (r : Int32) (u : q_S) => r = rv ∧ u = Sv) (q_B D cy A) A) args s 0 0 A) A D cy 10 0 0 S 62 [(0, va_rf (l0)), (1, .int (l1))] [.int (s0)] := by
  unfold m_X12_write_62 at h
  refine q_istore_n X 3 [(3, .int (s0)), (0, va_rf (l0)), (1, .int (l1))] rfl (by decide) (by first | rfl | simp [List.filter, q_catR]) dX12_write_62 ?_
  refine q_iload_n X 2 rfl dX12_write_63 ?_
  refine q_iconst X (-1) (by decide) dX12_write_64 ?_
  refine q_icmp_eq X 116 (by decide) dX12_write_65 (fun g1 => ?_) (fun g1 => ?_)
  · rw [if_pos g1] at h
    refine q_lv [] rfl ?_
    exact w_X12_write_116 X hr hl _ h
  · rw [if_neg g1] at h
    refine q_aload_n X 1 rfl dX12_write_68 ?_
    refine q_ldc2_w X (1835104368) tC_X12_165 dX12_write_69 ?_
    obtain ⟨a2, ea2, ma2, ka2, h⟩ := q_atE h
    obtain ⟨r3, S4, c5, h⟩ := q_bE h
    refine q_cVI X (As := [.long ((1835104368 : Int64))]) ea2 ma2 ka2 rfl (by decide) (c_X12_find c5) (q_cwV X tK_X12_find tM_X12_127 tI_X12_find tV_X12_find tN_X12 rfl rfl tD_X12_find ⟨Nat.le_of_ble_eq_true rfl, Nat.le_of_ble_eq_true rfl⟩) rfl rfl (by first | exact Nat.le_of_ble_eq_true rfl | (simp only [List.map, q_catR]; exact Nat.le_of_ble_eq_true rfl)) ⟨Nat.zero_le _, Nat.zero_le _⟩ dX12_write_72 ?_
    refine q_iconst X (-1) (by decide) dX12_write_75 ?_
    refine q_icmp_eq X 116 (by decide) dX12_write_76 (fun g6 => ?_) (fun g6 => ?_)
    · rw [if_pos g6] at h
      refine q_lv [] rfl ?_
      exact w_X12_write_116 X hr hl _ h
    · rw [if_neg g6] at h
      refine q_aload_n X 1 rfl dX12_write_79 ?_
      refine q_ldc2_w X (1819239265) tC_X12_179 dX12_write_80 ?_
      obtain ⟨a7, ea7, ma7, ka7, h⟩ := q_atE h
      obtain ⟨r8, S9, c10, h⟩ := q_bE h
      refine q_cVI X (As := [.long ((1819239265 : Int64))]) ea7 ma7 ka7 rfl (by decide) (c_X12_find c10) (q_cwV X tK_X12_find tM_X12_127 tI_X12_find tV_X12_find tN_X12 rfl rfl tD_X12_find ⟨Nat.le_of_ble_eq_true rfl, Nat.le_of_ble_eq_true rfl⟩) rfl rfl (by first | exact Nat.le_of_ble_eq_true rfl | (simp only [List.map, q_catR]; exact Nat.le_of_ble_eq_true rfl)) ⟨Nat.zero_le _, Nat.zero_le _⟩ dX12_write_83 ?_
      refine q_iconst X (-1) (by decide) dX12_write_86 ?_
      refine q_icmp_eq X 116 (by decide) dX12_write_87 (fun g11 => ?_) (fun g11 => ?_)
      · rw [if_pos g11] at h
        refine q_lv [] rfl ?_
        exact w_X12_write_116 X hr hl _ h
      · rw [if_neg g11] at h
        refine q_aload_n X 1 rfl dX12_write_90 ?_
        refine q_ldc2_w X (1735162214) tC_X12_197 dX12_write_91 ?_
        obtain ⟨a12, ea12, ma12, ka12, h⟩ := q_atE h
        obtain ⟨r13, S14, c15, h⟩ := q_bE h
        refine q_cVI X (As := [.long ((1735162214 : Int64))]) ea12 ma12 ka12 rfl (by decide) (c_X12_find c15) (q_cwV X tK_X12_find tM_X12_127 tI_X12_find tV_X12_find tN_X12 rfl rfl tD_X12_find ⟨Nat.le_of_ble_eq_true rfl, Nat.le_of_ble_eq_true rfl⟩) rfl rfl (by first | exact Nat.le_of_ble_eq_true rfl | (simp only [List.map, q_catR]; exact Nat.le_of_ble_eq_true rfl)) ⟨Nat.zero_le _, Nat.zero_le _⟩ dX12_write_94 ?_
        refine q_iconst X (-1) (by decide) dX12_write_97 ?_
        refine q_icmp_eq X 116 (by decide) dX12_write_98 (fun g16 => ?_) (fun g16 => ?_)
        · rw [if_pos g16] at h
          refine q_lv [] rfl ?_
          exact w_X12_write_116 X hr hl _ h
        · rw [if_neg g16] at h
          refine q_aload_n X 1 rfl dX12_write_101 ?_
          obtain ⟨a17, ea17, ma17, ka17, h⟩ := q_atE h
          refine q_getR X 7 ea17 ma17 ka17 rfl tW_X12 (by decide) (by decide) tF_X12_23 rfl dX12_write_102 ?_
          refine q_iload_n X 2 rfl dX12_write_105 ?_
          obtain ⟨a18, ea18, ma18, ka18, h⟩ := q_atE h
          obtain ⟨g19, h⟩ := q_ifE h
          refine q_iaload X ea18 ma18 ka18 (q_inE g19) dX12_write_106 ?_
          refine q_bipush X (52) (by decide) dX12_write_107 ?_
          refine q_icmp_lt X 116 (by decide) dX12_write_109 (fun g20 => ?_) (fun g20 => ?_)
          · rw [if_pos g20] at h
            refine q_lv [] rfl ?_
            exact w_X12_write_116 X hr hl _ h
          · rw [if_neg g20] at h
            refine q_iload_n X 0 rfl dX12_write_112 ?_
            refine q_if_eq X 118 (by decide) dX12_write_113 (fun g21 => ?_) (fun g21 => ?_)
            · rw [if_pos g21] at h
              refine q_aload_n X 1 rfl dX12_write_118 ?_
              obtain ⟨r22, S23, c24, h⟩ := q_bE h
              refine q_cVI X (As := []) ea17 ma17 ka17 rfl (by decide) (c_X12_signs c24) (q_cwV X tK_X12_signs tM_X12_173 tI_X12_signs tV_X12_signs tN_X12 rfl rfl tD_X12_signs ⟨Nat.le_of_ble_eq_true rfl, Nat.le_of_ble_eq_true rfl⟩) rfl rfl (by first | exact Nat.le_of_ble_eq_true rfl | (simp only [List.map, q_catR]; exact Nat.le_of_ble_eq_true rfl)) ⟨Nat.zero_le _, Nat.zero_le _⟩ dX12_write_119 ?_
              refine q_istore_n X 2 [(2, .int (r22)), (3, .int (s0)), (0, va_rf (l0)), (1, .int (l1))] rfl (by decide) (by first | rfl | simp [List.filter, q_catR]) dX12_write_122 ?_
              refine q_aload_n X 2 rfl dX12_write_123 ?_
              refine q_iload_n X 3 rfl dX12_write_124 ?_
              refine q_ldc2_w X (50) tC_X12_177 dX12_write_125 ?_
              obtain ⟨a25, ea25, ma25, ka25, h⟩ := q_atE h
              obtain ⟨r26, S27, c28, h⟩ := q_bE h
              refine q_cVI X (As := [.int (l1), .long ((50 : Int64))]) ea25 ma25 ka25 rfl (by decide) (c_X12_two c28) (q_cwV X tK_X12_two tM_X12_169 tI_X12_two tV_X12_two tN_X12 rfl rfl tD_X12_two ⟨Nat.le_of_ble_eq_true rfl, Nat.le_of_ble_eq_true rfl⟩) rfl rfl (by first | exact Nat.le_of_ble_eq_true rfl | (simp only [List.map, q_catR]; exact Nat.le_of_ble_eq_true rfl)) ⟨Nat.zero_le _, Nat.zero_le _⟩ dX12_write_128 ?_
              refine q_iconst X (1) (by decide) dX12_write_131 ?_
              refine q_icmp_ne X 139 (by decide) dX12_write_132 (fun g29 => ?_) (fun g29 => ?_)
              · rw [if_neg g29] at h
                refine q_iconst X (0) (by decide) dX12_write_139 ?_
                refine q_lv [2, 3, 0] rfl ?_
                exact w_X12_write_140 X hr hl _ _ _ _ _ h
              · rw [if_pos g29] at h
                refine q_iconst X (1) (by decide) dX12_write_135 ?_
                refine q_goto X 140 (by decide) dX12_write_136 ?_
                refine q_lv [2, 3, 0] rfl ?_
                exact w_X12_write_140 X hr hl _ _ _ _ _ h
            · rw [if_neg g21] at h
              refine q_lv [] rfl ?_
              exact w_X12_write_116 X hr hl _ h
def m_X12_write_61 (n : Nat) (S : q_S) (l0 : Option Nat) (l1 : Int32) : Option (Int32 × q_S) := m_X12_write_62 n (S) (l0) (l1) ((0 : Int32))
set_option maxHeartbeats 4000000 in
set_option maxRecDepth 100000 in
theorem w_X12_write_61 (X : q_X p s m args c cX12_write 10 RX12 q_T D cy A) (hr : meth.sig.returnType = (some .int)) (hl : meth.locks = false)  {n : Nat} {Sv : q_S} {rv : Int32}  (S : q_S) (l0 : Option Nat) (l1 : Int32) (h : m_X12_write_61 n S l0 l1 = some (rv, Sv)) : q_W p l e ({ frames := 6, cells := 0, slots := 0, locals := 143 } : Room) s m args below meth c (MQ below (va_Qi (fun (r : Int32) (u : q_S) => r = rv ∧ u = Sv) (q_B D cy A) A) args s 0 0 A) A D cy 10 0 0 S 61 [(0, va_rf (l0)), (1, .int (l1))] [] := by
  unfold m_X12_write_61 at h
  refine q_iconst X (0) (by decide) dX12_write_61 ?_
  exact w_X12_write_62 X hr hl _ _ _ _ h
def m_X12_write (n : Nat) (S : q_S) (o : Nat)  : Option (Int32 × q_S) := q_at (S) (some o) 13 (fun a1 => q_let (q_sI (q_sI (S) a1 0 ((0 : Int32))) a1 38 ((0 : Int32))) (fun S2 => q_if ((0 : Int32) = 0 ∨ (0 : Int32) = 1) (q_if ((0 : Int32) = 0 ∨ (0 : Int32) = 1) (q_let (q_sI (q_sI (S2) a1 41 ((0 : Int32))) a1 8 ((0 : Int32))) (fun S5 => q_b (m_X12_find n (S5) a1 ((1751474532 : Int64))) (fun r6 S7 => q_at (S7) (some o) 13 (fun a9 => q_b (m_X12_find n (S7) a9 ((1835104368 : Int64))) (fun r10 S11 => q_at (S11) (some o) 13 (fun a13 => q_b (m_X12_two n (S11) a13 (r10) ((4 : Int64))) (fun r14 S15 => q_at (S15) (some o) 13 (fun a17 => (if (q_I (S15) a17 8) = 0 then (if r14 ≤ (200 : Int32) then m_X12_write_61 n (S15) (some o) (r6) else m_X12_write_62 n (S15) (some o) (r6) ((1 : Int32))) else m_X12_write_61 n (S15) (some o) (r6)))))))))))))
set_option maxHeartbeats 4000000 in
set_option maxRecDepth 100000 in
theorem w_X12_write (X : q_X p s m args c cX12_write 10 RX12 q_T D cy A) (hr : meth.sig.returnType = (some .int)) (hl : meth.locks = false)  {n : Nat} {S Sv : q_S} {rv : Int32} {o : Nat}  (h : m_X12_write n S o = some (rv, Sv)) : q_W p l e ({ frames := 6, cells := 0, slots := 0, locals := 143 } : Room) s m args below meth c (MQ below (va_Qi (fun (r : Int32) (u : q_S) => r = rv ∧ u = Sv) (q_B D cy A) A) args s 0 0 A) A D cy 10 0 0 S 0 [(0, va_rf (some o))] [] := by
  unfold m_X12_write at h
  refine q_aload_n X 0 rfl dX12_write_0 ?_
  refine q_iconst X (0) (by decide) dX12_write_1 ?_
  obtain ⟨a1, ea1, ma1, ka1, h⟩ := q_atE h
  refine q_putI X 0 ea1 ma1 ka1 rfl tW_X12 (by decide) (by decide) tF_X12_96 tyX12 tyX12_ok nmX12 rfl (tyX12_ok 0 (by decide)) rfl rfl rfl dX12_write_2 ?_
  have ma1 : a1 ∈ q_L (q_sI (S) a1 0 ((0 : Int32))) := q_LsI ma1
  have ka1 : q_K (q_sI (S) a1 0 ((0 : Int32))) a1 = 13 := q_KsI ka1
  refine q_aload_n X 0 rfl dX12_write_5 ?_
  refine q_iconst X (0) (by decide) dX12_write_6 ?_
  refine q_putI X 38 ea1 ma1 ka1 rfl tW_X12 (by decide) (by decide) tF_X12_306 tyX12 tyX12_ok nmX12 rfl (tyX12_ok 38 (by decide)) rfl rfl rfl dX12_write_7 ?_
  have ma1 : a1 ∈ q_L (q_sI (q_sI (S) a1 0 ((0 : Int32))) a1 38 ((0 : Int32))) := q_LsI ma1
  have ka1 : q_K (q_sI (q_sI (S) a1 0 ((0 : Int32))) a1 38 ((0 : Int32))) a1 = 13 := q_KsI ka1
  obtain ⟨S2, eS2, h⟩ := q_letE h
  refine q_sub eS2 ?_
  have ma1 : a1 ∈ q_L S2 := by rw [eS2]; exact ma1
  have ka1 : q_K S2 a1 = 13 := by rw [eS2]; exact ka1
  refine q_aload_n X 0 rfl dX12_write_10 ?_
  refine q_iconst X (0) (by decide) dX12_write_11 ?_
  obtain ⟨g3, h⟩ := q_ifE h
  refine q_putI X 41 ea1 ma1 ka1 rfl tW_X12 (by decide) (by decide) tF_X12_309 tyX12 tyX12_ok nmX12 rfl (tyX12_ok 41 (by decide)) (q_bool g3) (q_boolF g3) rfl dX12_write_12 ?_
  have ma1 : a1 ∈ q_L (q_sI (S2) a1 41 ((0 : Int32))) := q_LsI ma1
  have ka1 : q_K (q_sI (S2) a1 41 ((0 : Int32))) a1 = 13 := q_KsI ka1
  refine q_aload_n X 0 rfl dX12_write_15 ?_
  refine q_iconst X (0) (by decide) dX12_write_16 ?_
  obtain ⟨g4, h⟩ := q_ifE h
  refine q_putI X 8 ea1 ma1 ka1 rfl tW_X12 (by decide) (by decide) tF_X12_114 tyX12 tyX12_ok nmX12 rfl (tyX12_ok 8 (by decide)) (q_bool g4) (q_boolF g4) rfl dX12_write_17 ?_
  have ma1 : a1 ∈ q_L (q_sI (q_sI (S2) a1 41 ((0 : Int32))) a1 8 ((0 : Int32))) := q_LsI ma1
  have ka1 : q_K (q_sI (q_sI (S2) a1 41 ((0 : Int32))) a1 8 ((0 : Int32))) a1 = 13 := q_KsI ka1
  obtain ⟨S5, eS5, h⟩ := q_letE h
  refine q_sub eS5 ?_
  have ma1 : a1 ∈ q_L S5 := by rw [eS5]; exact ma1
  have ka1 : q_K S5 a1 = 13 := by rw [eS5]; exact ka1
  refine q_aload_n X 0 rfl dX12_write_20 ?_
  refine q_ldc2_w X (1751474532) tC_X12_125 dX12_write_21 ?_
  obtain ⟨r6, S7, c8, h⟩ := q_bE h
  refine q_cVI X (As := [.long ((1751474532 : Int64))]) ea1 ma1 ka1 rfl (by decide) (c_X12_find c8) (q_cwV X tK_X12_find tM_X12_127 tI_X12_find tV_X12_find tN_X12 rfl rfl tD_X12_find ⟨Nat.le_of_ble_eq_true rfl, Nat.le_of_ble_eq_true rfl⟩) rfl rfl (by first | exact Nat.le_of_ble_eq_true rfl | (simp only [List.map, q_catR]; exact Nat.le_of_ble_eq_true rfl)) ⟨Nat.zero_le _, Nat.zero_le _⟩ dX12_write_24 ?_
  refine q_istore_n X 1 [(1, .int (r6)), (0, va_rf (some o))] rfl (by decide) (by first | rfl | simp [List.filter, q_catR]) dX12_write_27 ?_
  refine q_aload_n X 1 rfl dX12_write_28 ?_
  refine q_aload_n X 1 rfl dX12_write_29 ?_
  refine q_ldc2_w X (1835104368) tC_X12_165 dX12_write_30 ?_
  obtain ⟨a9, ea9, ma9, ka9, h⟩ := q_atE h
  obtain ⟨r10, S11, c12, h⟩ := q_bE h
  refine q_cVI X (As := [.long ((1835104368 : Int64))]) ea9 ma9 ka9 rfl (by decide) (c_X12_find c12) (q_cwV X tK_X12_find tM_X12_127 tI_X12_find tV_X12_find tN_X12 rfl rfl tD_X12_find ⟨Nat.le_of_ble_eq_true rfl, Nat.le_of_ble_eq_true rfl⟩) rfl rfl (by first | exact Nat.le_of_ble_eq_true rfl | (simp only [List.map, q_catR]; exact Nat.le_of_ble_eq_true rfl)) ⟨Nat.zero_le _, Nat.zero_le _⟩ dX12_write_33 ?_
  refine q_ldc2_w X (4) tC_X12_167 dX12_write_36 ?_
  obtain ⟨a13, ea13, ma13, ka13, h⟩ := q_atE h
  obtain ⟨r14, S15, c16, h⟩ := q_bE h
  refine q_cVI X (As := [.int (r10), .long ((4 : Int64))]) ea13 ma13 ka13 rfl (by decide) (c_X12_two c16) (q_cwV X tK_X12_two tM_X12_169 tI_X12_two tV_X12_two tN_X12 rfl rfl tD_X12_two ⟨Nat.le_of_ble_eq_true rfl, Nat.le_of_ble_eq_true rfl⟩) rfl rfl (by first | exact Nat.le_of_ble_eq_true rfl | (simp only [List.map, q_catR]; exact Nat.le_of_ble_eq_true rfl)) ⟨Nat.zero_le _, Nat.zero_le _⟩ dX12_write_39 ?_
  refine q_istore_n X 2 [(2, .int (r14)), (1, .int (r6)), (0, va_rf (some o))] rfl (by decide) (by first | rfl | simp [List.filter, q_catR]) dX12_write_42 ?_
  refine q_aload_n X 2 rfl dX12_write_43 ?_
  obtain ⟨a17, ea17, ma17, ka17, h⟩ := q_atE h
  refine q_getI X 8 ea17 ma17 ka17 rfl tW_X12 (by decide) (by decide) tF_X12_114 rfl dX12_write_44 ?_
  refine q_if_ne X 61 (by decide) dX12_write_47 (fun g18 => ?_) (fun g18 => ?_)
  · rw [if_neg g18] at h
    refine q_lv [2, 1] rfl ?_
    exact w_X12_write_61 X hr hl _ _ _ h
  · rw [if_pos g18] at h
    refine q_iload_n X 0 rfl dX12_write_50 ?_
    refine q_sipush X (200) (by decide) dX12_write_51 ?_
    refine q_icmp_le X 61 (by decide) dX12_write_54 (fun g19 => ?_) (fun g19 => ?_)
    · rw [if_pos g19] at h
      refine q_lv [2, 1] rfl ?_
      exact w_X12_write_61 X hr hl _ _ _ h
    · rw [if_neg g19] at h
      refine q_iconst X (1) (by decide) dX12_write_57 ?_
      refine q_goto X 62 (by decide) dX12_write_58 ?_
      refine q_lv [2, 1] rfl ?_
      exact w_X12_write_62 X hr hl _ _ _ _ h
theorem tD_X12_write : yX12_write.cls ≠ "java/lang/invoke/MethodHandle" ∧ yX12_write.cls ≠ "java/lang/invoke/VarHandle" ∧ (parseMethodDescriptor yX12_write.desc).map (fun d => d.parameters.length) = some 0 := by decide +kernel
theorem c_X12_write {l : Launch} {D : va_G} {cy : Nat → ClassId} {n : Nat} {S Sv : q_S} {rv : Int32} {o : Nat}  (h : m_X12_write n S o = some (rv, Sv)) : q_MI l yX12_write (q_ws yX12_write cX12_write 10 ((some .int))) ({ frames := 6, cells := 0, slots := 0, locals := 143 } : Room) D cy [.ref o] S rv Sv := by
  exact q_MI_of (by decide +kernel) (Nat.le_of_ble_eq_true rfl) (fun p e s m args below meth c A X hr hl => w_X12_write X hr hl h)
end MM
