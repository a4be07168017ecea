section MM
variable {p : Program} {l : Launch} {e : Env} {s : State} {m : MethodId} {args : Array Value} {below : List Frame} {meth : Method} {c : Code} {A : Nat → Prop} {D : va_G} {cy : Nat → ClassId}
/-! TrueOutlines.sum(I)J -/
def m_X11_sum_25 (n : Nat) (S : q_S) (s0 : Int64) : Option (Int64 × q_S) := some (s0, S)
set_option maxHeartbeats 4000000 in
set_option maxRecDepth 100000 in
theorem w_X11_sum_25 (X : q_X p s m args c cX11_sum 2 RX11 q_T D cy A) (hr : meth.sig.returnType = (some .long)) (hl : meth.locks = false)  {n : Nat} {Sv : q_S} {rv : Int64}  (S : q_S) (s0 : Int64) (h : m_X11_sum_25 n S s0 = some (rv, Sv)) : q_W p l e ({ frames := 4, cells := 0, slots := 0, locals := 92 } : Room) s m args below meth c (MQ below (va_Ql (fun (r : Int64) (u : q_S) => r = rv ∧ u = Sv) (q_B D cy A) A) args s 0 0 A) A D cy 2 0 0 S 25 [] [.long (s0)] := by
  unfold m_X11_sum_25 at h
  obtain ⟨ev, eS⟩ := q_end h
  exact q_lret X hr hl ev eS dX11_sum_25
def m_X11_sum (n : Nat) (S : q_S) (o : Nat) (p0 : Int32) : Option (Int64 × q_S) := q_at (S) (some o) 12 (fun a1 => q_at (S) (q_R (S) a1 2) 9 (fun a2 => q_b (m_X8_has n (S) a2 (p0)) (fun r3 S4 => (if r3 = 0 then m_X11_sum_25 n (S4) ((-1 : Int64)) else q_at (S4) (some o) 12 (fun a7 => q_at (S4) (q_R (S4) a7 2) 9 (fun a8 => q_b (m_X8_totalOf n (S4) a8 (p0)) (fun r9 S10 => m_X11_sum_25 n (S10) (r9))))))))
set_option maxHeartbeats 4000000 in
set_option maxRecDepth 100000 in
theorem w_X11_sum (X : q_X p s m args c cX11_sum 2 RX11 q_T D cy A) (hr : meth.sig.returnType = (some .long)) (hl : meth.locks = false)  {n : Nat} {S Sv : q_S} {rv : Int64} {o : Nat} {p0 : Int32} (h : m_X11_sum n S o p0 = some (rv, Sv)) : q_W p l e ({ frames := 4, cells := 0, slots := 0, locals := 92 } : Room) s m args below meth c (MQ below (va_Ql (fun (r : Int64) (u : q_S) => r = rv ∧ u = Sv) (q_B D cy A) A) args s 0 0 A) A D cy 2 0 0 S 0 [(0, va_rf (some o)), (1, .int (p0))] [] := by
  unfold m_X11_sum at h
  refine q_aload_n X 0 rfl dX11_sum_0 ?_
  obtain ⟨a1, ea1, ma1, ka1, h⟩ := q_atE h
  refine q_getR X 2 ea1 ma1 ka1 rfl tW_X11 (by decide) (by decide) tF_X11_30 rfl dX11_sum_1 ?_
  refine q_iload_n X 1 rfl dX11_sum_4 ?_
  obtain ⟨a2, ea2, ma2, ka2, h⟩ := q_atE h
  obtain ⟨r3, S4, c5, h⟩ := q_bE h
  refine q_cVI X (As := [.int (p0)]) ea2 ma2 ka2 rfl (by decide) (c_X8_has c5) (q_cwV X tK_X8_has tM_X11_117 tI_X8_has tV_X8_has tN_X8 rfl rfl tD_X8_has ⟨Nat.le_of_ble_eq_true rfl, Nat.le_of_ble_eq_true rfl⟩) rfl rfl (by first | exact Nat.le_of_ble_eq_true rfl | (simp only [List.map, q_catR]; exact Nat.le_of_ble_eq_true rfl)) ⟨Nat.zero_le _, Nat.zero_le _⟩ dX11_sum_5 ?_
  refine q_if_eq X 22 (by decide) dX11_sum_8 (fun g6 => ?_) (fun g6 => ?_)
  · rw [if_pos g6] at h
    refine q_ldc2_w X (-1) tC_X11_125 dX11_sum_22 ?_
    refine q_lv [] rfl ?_
    exact w_X11_sum_25 X hr hl _ _ h
  · rw [if_neg g6] at h
    refine q_aload_n X 0 rfl dX11_sum_11 ?_
    obtain ⟨a7, ea7, ma7, ka7, h⟩ := q_atE h
    refine q_getR X 2 ea7 ma7 ka7 rfl tW_X11 (by decide) (by decide) tF_X11_30 rfl dX11_sum_12 ?_
    refine q_iload_n X 1 rfl dX11_sum_15 ?_
    obtain ⟨a8, ea8, ma8, ka8, h⟩ := q_atE h
    obtain ⟨r9, S10, c11, h⟩ := q_bE h
    refine q_cVJ X (As := [.int (p0)]) ea8 ma8 ka8 rfl (by decide) (c_X8_totalOf c11) (q_cwV X tK_X8_totalOf tM_X11_121 tI_X8_totalOf tV_X8_totalOf tN_X8 rfl rfl tD_X8_totalOf ⟨Nat.le_of_ble_eq_true rfl, Nat.le_of_ble_eq_true rfl⟩) rfl rfl (by first | exact Nat.le_of_ble_eq_true rfl | (simp only [List.map, q_catR]; exact Nat.le_of_ble_eq_true rfl)) ⟨Nat.zero_le _, Nat.zero_le _⟩ dX11_sum_16 ?_
    refine q_goto X 25 (by decide) dX11_sum_19 ?_
    refine q_lv [] rfl ?_
    exact w_X11_sum_25 X hr hl _ _ h
theorem tD_X11_sum : yX11_sum.cls ≠ "java/lang/invoke/MethodHandle" ∧ yX11_sum.cls ≠ "java/lang/invoke/VarHandle" ∧ (parseMethodDescriptor yX11_sum.desc).map (fun d => d.parameters.length) = some 1 := by decide +kernel
theorem c_X11_sum {l : Launch} {D : va_G} {cy : Nat → ClassId} {n : Nat} {S Sv : q_S} {rv : Int64} {o : Nat} {p0 : Int32} (h : m_X11_sum n S o p0 = some (rv, Sv)) : q_MJ l yX11_sum (q_ws yX11_sum cX11_sum 2 ((some .long))) ({ frames := 4, cells := 0, slots := 0, locals := 92 } : Room) D cy [.ref o, .int (p0)] S rv Sv := by
  exact q_MJ_of (by decide +kernel) (Nat.le_of_ble_eq_true rfl) (fun p e s m args below meth c A X hr hl => w_X11_sum X hr hl h)
/-! TrueOutlines$Telling.has(II)Z -/
def m_X9_has_26 (n : Nat) (S : q_S) (s0 : Int32) : Option (Int32 × q_S) := q_if (s0 = 0 ∨ s0 = 1) (some (s0, S))
set_option maxHeartbeats 4000000 in
set_option maxRecDepth 100000 in
theorem w_X9_has_26 (X : q_X p s m args c cX9_has 3 RX9 q_T D cy A) (hr : meth.sig.returnType = (some .boolean)) (hl : meth.locks = false)  {n : Nat} {Sv : q_S} {rv : Int32}  (S : q_S) (s0 : Int32) (h : m_X9_has_26 n S s0 = some (rv, Sv)) : q_W p l e ({ frames := 0, cells := 0, slots := 0, locals := 0 } : Room) s m args below meth c (MQ below (va_Qi (fun (r : Int32) (u : q_S) => r = rv ∧ u = Sv) (q_B D cy A) A) args s 0 0 A) A D cy 3 0 0 S 26 [] [.int (s0)] := by
  unfold m_X9_has_26 at h
  obtain ⟨g1, h⟩ := q_ifE h
  obtain ⟨ev, eS⟩ := q_end h
  exact q_iret X hr hl (q_bool g1) ev eS dX9_has_26
def m_X9_has_25 (n : Nat) (S : q_S) : Option (Int32 × q_S) := m_X9_has_26 n (S) ((0 : Int32))
set_option maxHeartbeats 4000000 in
set_option maxRecDepth 100000 in
theorem w_X9_has_25 (X : q_X p s m args c cX9_has 3 RX9 q_T D cy A) (hr : meth.sig.returnType = (some .boolean)) (hl : meth.locks = false)  {n : Nat} {Sv : q_S} {rv : Int32}  (S : q_S) (h : m_X9_has_25 n S = some (rv, Sv)) : q_W p l e ({ frames := 0, cells := 0, slots := 0, locals := 0 } : Room) s m args below meth c (MQ below (va_Qi (fun (r : Int32) (u : q_S) => r = rv ∧ u = Sv) (q_B D cy A) A) args s 0 0 A) A D cy 3 0 0 S 25 [] [] := by
  unfold m_X9_has_25 at h
  refine q_iconst X (0) (by decide) dX9_has_25 ?_
  exact w_X9_has_26 X hr hl _ _ h
def m_X9_has_21 (n : Nat) (S : q_S) : Option (Int32 × q_S) := m_X9_has_26 n (S) ((1 : Int32))
set_option maxHeartbeats 4000000 in
set_option maxRecDepth 100000 in
theorem w_X9_has_21 (X : q_X p s m args c cX9_has 3 RX9 q_T D cy A) (hr : meth.sig.returnType = (some .boolean)) (hl : meth.locks = false)  {n : Nat} {Sv : q_S} {rv : Int32}  (S : q_S) (h : m_X9_has_21 n S = some (rv, Sv)) : q_W p l e ({ frames := 0, cells := 0, slots := 0, locals := 0 } : Room) s m args below meth c (MQ below (va_Qi (fun (r : Int32) (u : q_S) => r = rv ∧ u = Sv) (q_B D cy A) A) args s 0 0 A) A D cy 3 0 0 S 21 [] [] := by
  unfold m_X9_has_21 at h
  refine q_iconst X (1) (by decide) dX9_has_21 ?_
  refine q_goto X 26 (by decide) dX9_has_22 ?_
  exact w_X9_has_26 X hr hl _ _ h
def m_X9_has (n : Nat) (S : q_S) (o : Nat) (p0 : Int32) (p1 : Int32) : Option (Int32 × q_S) := (if p0 < 0 then m_X9_has_25 n (S) else q_at (S) (some o) 10 (fun a2 => (if (q_I (S) a2 2) ≤ p0 then m_X9_has_25 n (S) else (if p1 = 0 then m_X9_has_21 n (S) else (if p1 = (1 : Int32) then m_X9_has_21 n (S) else m_X9_has_25 n (S))))))
set_option maxHeartbeats 4000000 in
set_option maxRecDepth 100000 in
theorem w_X9_has (X : q_X p s m args c cX9_has 3 RX9 q_T D cy A) (hr : meth.sig.returnType = (some .boolean)) (hl : meth.locks = false)  {n : Nat} {S Sv : q_S} {rv : Int32} {o : Nat} {p0 : Int32} {p1 : Int32} (h : m_X9_has n S o p0 p1 = some (rv, Sv)) : q_W p l e ({ frames := 0, cells := 0, slots := 0, locals := 0 } : Room) s m args below meth c (MQ below (va_Qi (fun (r : Int32) (u : q_S) => r = rv ∧ u = Sv) (q_B D cy A) A) args s 0 0 A) A D cy 3 0 0 S 0 [(0, va_rf (some o)), (1, .int (p0)), (2, .int (p1))] [] := by
  unfold m_X9_has at h
  refine q_iload_n X 1 rfl dX9_has_0 ?_
  refine q_if_lt X 25 (by decide) dX9_has_1 (fun g1 => ?_) (fun g1 => ?_)
  · rw [if_pos g1] at h
    refine q_lv [] rfl ?_
    exact w_X9_has_25 X hr hl _ h
  · rw [if_neg g1] at h
    refine q_iload_n X 1 rfl dX9_has_4 ?_
    refine q_aload_n X 0 rfl dX9_has_5 ?_
    obtain ⟨a2, ea2, ma2, ka2, h⟩ := q_atE h
    refine q_getI X 2 ea2 ma2 ka2 rfl tW_X9 (by decide) (by decide) tF_X9_18 rfl dX9_has_6 ?_
    refine q_icmp_ge X 25 (by decide) dX9_has_9 (fun g3 => ?_) (fun g3 => ?_)
    · rw [if_pos g3] at h
      refine q_lv [] rfl ?_
      exact w_X9_has_25 X hr hl _ h
    · rw [if_neg g3] at h
      refine q_iload_n X 2 rfl dX9_has_12 ?_
      refine q_if_eq X 21 (by decide) dX9_has_13 (fun g4 => ?_) (fun g4 => ?_)
      · rw [if_pos g4] at h
        refine q_lv [] rfl ?_
        exact w_X9_has_21 X hr hl _ h
      · rw [if_neg g4] at h
        refine q_iload_n X 2 rfl dX9_has_16 ?_
        refine q_iconst X (1) (by decide) dX9_has_17 ?_
        refine q_icmp_ne X 25 (by decide) dX9_has_18 (fun g5 => ?_) (fun g5 => ?_)
        · rw [if_neg g5] at h
          refine q_lv [] rfl ?_
          exact w_X9_has_25 X hr hl _ h
        · rw [if_pos g5] at h
          refine q_lv [] rfl ?_
          exact w_X9_has_21 X hr hl _ h
theorem tD_X9_has : yX9_has.cls ≠ "java/lang/invoke/MethodHandle" ∧ yX9_has.cls ≠ "java/lang/invoke/VarHandle" ∧ (parseMethodDescriptor yX9_has.desc).map (fun d => d.parameters.length) = some 2 := by decide +kernel
theorem c_X9_has {l : Launch} {D : va_G} {cy : Nat → ClassId} {n : Nat} {S Sv : q_S} {rv : Int32} {o : Nat} {p0 : Int32} {p1 : Int32} (h : m_X9_has n S o p0 p1 = some (rv, Sv)) : q_MI l yX9_has (q_ws yX9_has cX9_has 3 ((some .boolean))) ({ frames := 0, cells := 0, slots := 0, locals := 0 } : Room) D cy [.ref o, .int (p0), .int (p1)] S rv Sv := by
  exact q_MI_of (by decide +kernel) (Nat.le_of_ble_eq_true rfl) (fun p e s m args below meth c A X hr hl => w_X9_has X hr hl h)
/-! TrueOutlines$Telling.get(II)I -/
def m_X9_get_30 (n : Nat) (S : q_S) (s0 : Int32) : Option (Int32 × q_S) := some (s0, S)
set_option maxHeartbeats 4000000 in
set_option maxRecDepth 100000 in
theorem w_X9_get_30 (X : q_X p s m args c cX9_get 3 RX9 q_T D cy A) (hr : meth.sig.returnType = (some .int)) (hl : meth.locks = false)  {n : Nat} {Sv : q_S} {rv : Int32}  (S : q_S) (s0 : Int32) (h : m_X9_get_30 n S s0 = some (rv, Sv)) : q_W p l e ({ frames := 1, cells := 0, slots := 0, locals := 22 } : Room) s m args below meth c (MQ below (va_Qi (fun (r : Int32) (u : q_S) => r = rv ∧ u = Sv) (q_B D cy A) A) args s 0 0 A) A D cy 3 0 0 S 30 [] [.int (s0)] := by
  unfold m_X9_get_30 at h
  obtain ⟨ev, eS⟩ := q_end h
  exact q_iret X hr hl rfl ev eS dX9_get_30
def m_X9_get (n : Nat) (S : q_S) (o : Nat) (p0 : Int32) (p1 : Int32) : Option (Int32 × q_S) := q_at (S) (some o) 10 (fun a1 => q_b (m_X9_has n (S) a1 (p0) (p1)) (fun r2 S3 => (if r2 = 0 then some ((0 : Int32), S3) else (if p1 = 0 then q_at (S3) (some o) 10 (fun a10 => q_at (S3) (q_R (S3) a10 0) 100 (fun a11 => q_if (q_in (p0) (q_N (S3) a11) = true) (m_X9_get_30 n (S3) (q_I (S3) a11 (p0).toNatClampNeg)))) else q_at (S3) (some o) 10 (fun a7 => q_at (S3) (q_R (S3) a7 1) 100 (fun a8 => q_if (q_in (p0) (q_N (S3) a8) = true) (m_X9_get_30 n (S3) (q_I (S3) a8 (p0).toNatClampNeg))))))))
set_option maxHeartbeats 4000000 in
set_option maxRecDepth 100000 in
theorem w_X9_get (X : q_X p s m args c cX9_get 3 RX9 q_T D cy A) (hr : meth.sig.returnType = (some .int)) (hl : meth.locks = false)  {n : Nat} {S Sv : q_S} {rv : Int32} {o : Nat} {p0 : Int32} {p1 : Int32} (h : m_X9_get n S o p0 p1 = some (rv, Sv)) : q_W p l e ({ frames := 1, cells := 0, slots := 0, locals := 22 } : Room) s m args below meth c (MQ below (va_Qi (fun (r : Int32) (u : q_S) => r = rv ∧ u = Sv) (q_B D cy A) A) args s 0 0 A) A D cy 3 0 0 S 0 [(0, va_rf (some o)), (1, .int (p0)), (2, .int (p1))] [] := by
  unfold m_X9_get at h
  refine q_aload_n X 0 rfl dX9_get_0 ?_
  refine q_iload_n X 1 rfl dX9_get_1 ?_
  refine q_iload_n X 2 rfl dX9_get_2 ?_
  obtain ⟨a1, ea1, ma1, ka1, h⟩ := q_atE h
  obtain ⟨r2, S3, c4, h⟩ := q_bE h
  refine q_cVI X (As := [.int (p0), .int (p1)]) ea1 ma1 ka1 rfl (by decide) (c_X9_has c4) (q_cwV X tK_X9_has tM_X9_26 tI_X9_has tV_X9_has tN_X9 rfl rfl tD_X9_has ⟨Nat.le_of_ble_eq_true rfl, Nat.le_of_ble_eq_true rfl⟩) rfl rfl (by first | exact Nat.le_of_ble_eq_true rfl | (simp only [List.map, q_catR]; exact Nat.le_of_ble_eq_true rfl)) ⟨Nat.zero_le _, Nat.zero_le _⟩ dX9_get_3 ?_
  refine q_if_ne X 11 (by decide) dX9_get_6 (fun g5 => ?_) (fun g5 => ?_)
  · rw [if_neg g5] at h
    refine q_iload_n X 2 rfl dX9_get_11 ?_
    refine q_if_ne X 24 (by decide) dX9_get_12 (fun g6 => ?_) (fun g6 => ?_)
    · rw [if_neg g6] at h
      refine q_aload_n X 0 rfl dX9_get_24 ?_
      obtain ⟨a7, ea7, ma7, ka7, h⟩ := q_atE h
      refine q_getR X 1 ea7 ma7 ka7 rfl tW_X9 (by decide) (by decide) tF_X9_15 rfl dX9_get_25 ?_
      refine q_iload_n X 1 rfl dX9_get_28 ?_
      obtain ⟨a8, ea8, ma8, ka8, h⟩ := q_atE h
      obtain ⟨g9, h⟩ := q_ifE h
      refine q_iaload X ea8 ma8 ka8 (q_inE g9) dX9_get_29 ?_
      refine q_lv [] rfl ?_
      exact w_X9_get_30 X hr hl _ _ h
    · rw [if_pos g6] at h
      refine q_aload_n X 0 rfl dX9_get_15 ?_
      obtain ⟨a10, ea10, ma10, ka10, h⟩ := q_atE h
      refine q_getR X 0 ea10 ma10 ka10 rfl tW_X9 (by decide) (by decide) tF_X9_9 rfl dX9_get_16 ?_
      refine q_iload_n X 1 rfl dX9_get_19 ?_
      obtain ⟨a11, ea11, ma11, ka11, h⟩ := q_atE h
      obtain ⟨g12, h⟩ := q_ifE h
      refine q_iaload X ea11 ma11 ka11 (q_inE g12) dX9_get_20 ?_
      refine q_goto X 30 (by decide) dX9_get_21 ?_
      refine q_lv [] rfl ?_
      exact w_X9_get_30 X hr hl _ _ h
  · rw [if_pos g5] at h
    refine q_iconst X (0) (by decide) dX9_get_9 ?_
    obtain ⟨ev, eS⟩ := q_end h
    exact q_iret X hr hl rfl ev eS dX9_get_10
theorem tD_X9_get : yX9_get.cls ≠ "java/lang/invoke/MethodHandle" ∧ yX9_get.cls ≠ "java/lang/invoke/VarHandle" ∧ (parseMethodDescriptor yX9_get.desc).map (fun d => d.parameters.length) = some 2 := by decide +kernel
theorem c_X9_get {l : Launch} {D : va_G} {cy : Nat → ClassId} {n : Nat} {S Sv : q_S} {rv : Int32} {o : Nat} {p0 : Int32} {p1 : Int32} (h : m_X9_get n S o p0 p1 = some (rv, Sv)) : q_MI l yX9_get (q_ws yX9_get cX9_get 3 ((some .int))) ({ frames := 1, cells := 0, slots := 0, locals := 22 } : Room) D cy [.ref o, .int (p0), .int (p1)] S rv Sv := by
  exact q_MI_of (by decide +kernel) (Nat.le_of_ble_eq_true rfl) (fun p e s m args below meth c A X hr hl => w_X9_get X hr hl h)
/-! TrueOutlines$Telling.size()I -/
def m_X9_size (n : Nat) (S : q_S) (o : Nat)  : Option (Int32 × q_S) := q_at (S) (some o) 10 (fun a1 => some (q_I (S) a1 2, S))
set_option maxHeartbeats 4000000 in
set_option maxRecDepth 100000 in
theorem w_X9_size (X : q_X p s m args c cX9_size 1 RX9 q_T D cy A) (hr : meth.sig.returnType = (some .int)) (hl : meth.locks = false)  {n : Nat} {S Sv : q_S} {rv : Int32} {o : Nat}  (h : m_X9_size n S o = some (rv, Sv)) : q_W p l e ({ frames := 0, cells := 0, slots := 0, locals := 0 } : Room) s m args below meth c (MQ below (va_Qi (fun (r : Int32) (u : q_S) => r = rv ∧ u = Sv) (q_B D cy A) A) args s 0 0 A) A D cy 1 0 0 S 0 [(0, va_rf (some o))] [] := by
  unfold m_X9_size at h
  refine q_aload_n X 0 rfl dX9_size_0 ?_
  obtain ⟨a1, ea1, ma1, ka1, h⟩ := q_atE h
  refine q_getI X 2 ea1 ma1 ka1 rfl tW_X9 (by decide) (by decide) tF_X9_18 rfl dX9_size_1 ?_
  obtain ⟨ev, eS⟩ := q_end h
  exact q_iret X hr hl rfl ev eS dX9_size_4
theorem tD_X9_size : yX9_size.cls ≠ "java/lang/invoke/MethodHandle" ∧ yX9_size.cls ≠ "java/lang/invoke/VarHandle" ∧ (parseMethodDescriptor yX9_size.desc).map (fun d => d.parameters.length) = some 0 := by decide +kernel
theorem c_X9_size {l : Launch} {D : va_G} {cy : Nat → ClassId} {n : Nat} {S Sv : q_S} {rv : Int32} {o : Nat}  (h : m_X9_size n S o = some (rv, Sv)) : q_MI l yX9_size (q_ws yX9_size cX9_size 1 ((some .int))) ({ frames := 0, cells := 0, slots := 0, locals := 0 } : Room) D cy [.ref o] S rv Sv := by
  exact q_MI_of (by decide +kernel) (Nat.le_of_ble_eq_true rfl) (fun p e s m args below meth c A X hr hl => w_X9_size X hr hl h)
/-! TrueOutlines.width(I)I -/
def m_X11_width_32 (n : Nat) (S : q_S) : Option (Int32 × q_S) := some ((0 : Int32), S)
set_option maxHeartbeats 4000000 in
set_option maxRecDepth 100000 in
theorem w_X11_width_32 (X : q_X p s m args c cX11_width 4 RX11 q_T D cy A) (hr : meth.sig.returnType = (some .int)) (hl : meth.locks = false)  {n : Nat} {Sv : q_S} {rv : Int32}  (S : q_S) (h : m_X11_width_32 n S = some (rv, Sv)) : q_W p l e ({ frames := 3, cells := 0, slots := 0, locals := 64 } : Room) s m args below meth c (MQ below (va_Qi (fun (r : Int32) (u : q_S) => r = rv ∧ u = Sv) (q_B D cy A) A) args s 0 0 A) A D cy 4 0 0 S 32 [] [] := by
  unfold m_X11_width_32 at h
  refine q_iconst X (0) (by decide) dX11_width_32 ?_
  obtain ⟨ev, eS⟩ := q_end h
  exact q_iret X hr hl rfl ev eS dX11_width_33
def m_X11_width_70 (n : Nat) (S : q_S) (s0 : Int32) : Option (Int32 × q_S) := some (s0, S)
set_option maxHeartbeats 4000000 in
set_option maxRecDepth 100000 in
theorem w_X11_width_70 (X : q_X p s m args c cX11_width 4 RX11 q_T D cy A) (hr : meth.sig.returnType = (some .int)) (hl : meth.locks = false)  {n : Nat} {Sv : q_S} {rv : Int32}  (S : q_S) (s0 : Int32) (h : m_X11_width_70 n S s0 = some (rv, Sv)) : q_W p l e ({ frames := 3, cells := 0, slots := 0, locals := 64 } : Room) s m args below meth c (MQ below (va_Qi (fun (r : Int32) (u : q_S) => r = rv ∧ u = Sv) (q_B D cy A) A) args s 0 0 A) A D cy 4 0 0 S 70 [] [.int (s0)] := by
  unfold m_X11_width_70 at h
  obtain ⟨ev, eS⟩ := q_end h
  exact q_iret X hr hl rfl ev eS dX11_width_70
def m_X11_width (n : Nat) (S : q_S) (o : Nat) (p0 : Int32) : Option (Int32 × q_S) := q_at (S) (some o) 12 (fun a1 => q_at (S) (q_R (S) a1 2) 9 (fun a2 => q_b (m_X8_first n (S) a2 ((1751672161 : Int64))) (fun r3 S4 => q_at (S4) (some r3) 8 (fun a6 => q_b (m_X7_two n (S4) a6 ((34 : Int64))) (fun r7 S8 => q_at (S8) (some o) 12 (fun a10 => q_at (S8) (q_R (S8) a10 3) 7 (fun a11 => q_b (m_X6_has n (S8) a11 (p0)) (fun r12 S13 => (if r12 = 0 then m_X11_width_32 n (S13) else (if 0 < r7 then q_at (S13) (some o) 12 (fun a17 => q_at (S13) (q_R (S13) a17 2) 9 (fun a18 => q_b (m_X8_first n (S13) a18 ((1752003704 : Int64))) (fun r19 S20 => q_b (m_J9_min_7cf53 n (S20) (p0) (r7 - (1 : Int32))) (fun r22 S23 => q_at (S23) (some r19) 8 (fun a25 => q_b (m_X7_two n (S23) a25 ((4 : Int64) * (r22.toInt64))) (fun r26 S27 => (if r26 = (-1 : Int32) then m_X11_width_70 n (S27) ((0 : Int32)) else m_X11_width_70 n (S27) (r26)))))))) else m_X11_width_32 n (S13)))))))))))
set_option maxHeartbeats 4000000 in
set_option maxRecDepth 100000 in
theorem w_X11_width (X : q_X p s m args c cX11_width 4 RX11 q_T D cy A) (hr : meth.sig.returnType = (some .int)) (hl : meth.locks = false)  {n : Nat} {S Sv : q_S} {rv : Int32} {o : Nat} {p0 : Int32} (h : m_X11_width n S o p0 = some (rv, Sv)) : q_W p l e ({ frames := 3, cells := 0, slots := 0, locals := 64 } : Room) s m args below meth c (MQ below (va_Qi (fun (r : Int32) (u : q_S) => r = rv ∧ u = Sv) (q_B D cy A) A) args s 0 0 A) A D cy 4 0 0 S 0 [(0, va_rf (some o)), (1, .int (p0))] [] := by
  unfold m_X11_width at h
  refine q_aload_n X 0 rfl dX11_width_0 ?_
  obtain ⟨a1, ea1, ma1, ka1, h⟩ := q_atE h
  refine q_getR X 2 ea1 ma1 ka1 rfl tW_X11 (by decide) (by decide) tF_X11_30 rfl dX11_width_1 ?_
  refine q_ldc2_w X (1751672161) tC_X11_170 dX11_width_4 ?_
  obtain ⟨a2, ea2, ma2, ka2, h⟩ := q_atE h
  obtain ⟨r3, S4, c5, h⟩ := q_bE h
  refine q_cVR X (As := [.long ((1751672161 : Int64))]) ea2 ma2 ka2 rfl (by decide) (c_X8_first c5) (q_cwV X tK_X8_first tM_X11_172 tI_X8_first tV_X8_first tN_X8 rfl rfl tD_X8_first ⟨Nat.le_of_ble_eq_true rfl, Nat.le_of_ble_eq_true rfl⟩) rfl rfl (by first | exact Nat.le_of_ble_eq_true rfl | (simp only [List.map, q_catR]; exact Nat.le_of_ble_eq_true rfl)) ⟨Nat.zero_le _, Nat.zero_le _⟩ dX11_width_7 ?_
  refine q_ldc2_w X (34) tC_X11_176 dX11_width_10 ?_
  obtain ⟨a6, ea6, ma6, ka6, h⟩ := q_atE h
  obtain ⟨r7, S8, c9, h⟩ := q_bE h
  refine q_cVI X (As := [.long ((34 : Int64))]) ea6 ma6 ka6 rfl (by decide) (c_X7_two c9) (q_cwV X tK_X7_two tM_X11_178 tI_X7_two tV_X7_two tN_X7 rfl rfl tD_X7_two ⟨Nat.le_of_ble_eq_true rfl, Nat.le_of_ble_eq_true rfl⟩) rfl rfl (by first | exact Nat.le_of_ble_eq_true rfl | (simp only [List.map, q_catR]; exact Nat.le_of_ble_eq_true rfl)) ⟨Nat.zero_le _, Nat.zero_le _⟩ dX11_width_13 ?_
  refine q_istore_n X 2 [(2, .int (r7)), (0, va_rf (some o)), (1, .int (p0))] rfl (by decide) (by first | rfl | simp [List.filter, q_catR]) dX11_width_16 ?_
  refine q_aload_n X 1 rfl dX11_width_17 ?_
  obtain ⟨a10, ea10, ma10, ka10, h⟩ := q_atE h
  refine q_getR X 3 ea10 ma10 ka10 rfl tW_X11 (by decide) (by decide) tF_X11_39 rfl dX11_width_18 ?_
  refine q_iload_n X 2 rfl dX11_width_21 ?_
  obtain ⟨a11, ea11, ma11, ka11, h⟩ := q_atE h
  obtain ⟨r12, S13, c14, h⟩ := q_bE h
  refine q_cVI X (As := [.int (p0)]) ea11 ma11 ka11 rfl (by decide) (c_X6_has c14) (q_cwV X tK_X6_has tM_X11_152 tI_X6_has tV_X6_has tN_X6 rfl rfl tD_X6_has ⟨Nat.le_of_ble_eq_true rfl, Nat.le_of_ble_eq_true rfl⟩) rfl rfl (by first | exact Nat.le_of_ble_eq_true rfl | (simp only [List.map, q_catR]; exact Nat.le_of_ble_eq_true rfl)) ⟨Nat.zero_le _, Nat.zero_le _⟩ dX11_width_22 ?_
  refine q_if_eq X 32 (by decide) dX11_width_25 (fun g15 => ?_) (fun g15 => ?_)
  · rw [if_pos g15] at h
    refine q_lv [] rfl ?_
    exact w_X11_width_32 X hr hl _ h
  · rw [if_neg g15] at h
    refine q_iload_n X 0 rfl dX11_width_28 ?_
    refine q_if_gt X 34 (by decide) dX11_width_29 (fun g16 => ?_) (fun g16 => ?_)
    · rw [if_pos g16] at h
      refine q_aload_n X 1 rfl dX11_width_34 ?_
      obtain ⟨a17, ea17, ma17, ka17, h⟩ := q_atE h
      refine q_getR X 2 ea17 ma17 ka17 rfl tW_X11 (by decide) (by decide) tF_X11_30 rfl dX11_width_35 ?_
      refine q_ldc2_w X (1752003704) tC_X11_181 dX11_width_38 ?_
      obtain ⟨a18, ea18, ma18, ka18, h⟩ := q_atE h
      obtain ⟨r19, S20, c21, h⟩ := q_bE h
      refine q_cVR X (As := [.long ((1752003704 : Int64))]) ea18 ma18 ka18 rfl (by decide) (c_X8_first c21) (q_cwV X tK_X8_first tM_X11_172 tI_X8_first tV_X8_first tN_X8 rfl rfl tD_X8_first ⟨Nat.le_of_ble_eq_true rfl, Nat.le_of_ble_eq_true rfl⟩) rfl rfl (by first | exact Nat.le_of_ble_eq_true rfl | (simp only [List.map, q_catR]; exact Nat.le_of_ble_eq_true rfl)) ⟨Nat.zero_le _, Nat.zero_le _⟩ dX11_width_41 ?_
      refine q_ldc2_w X (4) tC_X11_183 dX11_width_44 ?_
      refine q_iload_n X 2 rfl dX11_width_47 ?_
      refine q_iload_n X 0 rfl dX11_width_48 ?_
      refine q_iconst X (1) (by decide) dX11_width_49 ?_
      refine q_isub X dX11_width_50 ?_
      obtain ⟨r22, S23, c24, h⟩ := q_bE h
      refine q_cSI X (As := [.int (p0), .int (r7 - (1 : Int32))]) (c_J9_min_7cf53 c24) (q_cwS X tK_J9_min_7cf53 tM_X11_185 tS_J9_min_7cf53 tN_J9 rfl rfl tD_J9_min_7cf53 ⟨Nat.le_of_ble_eq_true rfl, Nat.le_of_ble_eq_true rfl⟩) rfl rfl (by first | exact Nat.le_of_ble_eq_true rfl | (simp only [List.map, q_catR]; exact Nat.le_of_ble_eq_true rfl)) ⟨Nat.zero_le _, Nat.zero_le _⟩ dX11_width_51 ?_
      refine q_i2l X dX11_width_54 ?_
      refine q_lmul X dX11_width_55 ?_
      obtain ⟨a25, ea25, ma25, ka25, h⟩ := q_atE h
      obtain ⟨r26, S27, c28, h⟩ := q_bE h
      refine q_cVI X (As := [.long ((4 : Int64) * (r22.toInt64))]) ea25 ma25 ka25 rfl (by decide) (c_X7_two c28) (q_cwV X tK_X7_two tM_X11_178 tI_X7_two tV_X7_two tN_X7 rfl rfl tD_X7_two ⟨Nat.le_of_ble_eq_true rfl, Nat.le_of_ble_eq_true rfl⟩) rfl rfl (by first | exact Nat.le_of_ble_eq_true rfl | (simp only [List.map, q_catR]; exact Nat.le_of_ble_eq_true rfl)) ⟨Nat.zero_le _, Nat.zero_le _⟩ dX11_width_56 ?_
      refine q_istore_n X 3 [(3, .int (r26)), (2, .int (r7)), (0, va_rf (some o)), (1, .int (p0))] rfl (by decide) (by first | rfl | simp [List.filter, q_catR]) dX11_width_59 ?_
      refine q_iload_n X 0 rfl dX11_width_60 ?_
      refine q_iconst X (-1) (by decide) dX11_width_61 ?_
      refine q_icmp_ne X 69 (by decide) dX11_width_62 (fun g29 => ?_) (fun g29 => ?_)
      · rw [if_neg g29] at h
        refine q_iload_n X 0 rfl dX11_width_69 ?_
        refine q_lv [] rfl ?_
        exact w_X11_width_70 X hr hl _ _ h
      · rw [if_pos g29] at h
        refine q_iconst X (0) (by decide) dX11_width_65 ?_
        refine q_goto X 70 (by decide) dX11_width_66 ?_
        refine q_lv [] rfl ?_
        exact w_X11_width_70 X hr hl _ _ h
    · rw [if_neg g16] at h
      refine q_lv [] rfl ?_
      exact w_X11_width_32 X hr hl _ h
theorem tD_X11_width : yX11_width.cls ≠ "java/lang/invoke/MethodHandle" ∧ yX11_width.cls ≠ "java/lang/invoke/VarHandle" ∧ (parseMethodDescriptor yX11_width.desc).map (fun d => d.parameters.length) = some 1 := by decide +kernel
theorem c_X11_width {l : Launch} {D : va_G} {cy : Nat → ClassId} {n : Nat} {S Sv : q_S} {rv : Int32} {o : Nat} {p0 : Int32} (h : m_X11_width n S o p0 = some (rv, Sv)) : q_MI l yX11_width (q_ws yX11_width cX11_width 4 ((some .int))) ({ frames := 3, cells := 0, slots := 0, locals := 64 } : Room) D cy [.ref o, .int (p0)] S rv Sv := by
  exact q_MI_of (by decide +kernel) (Nat.le_of_ble_eq_true rfl) (fun p e s m args below meth c A X hr hl => w_X11_width X hr hl h)
/-! TrueOutlines.write()I -/
def m_X11_write (n : Nat) (S : q_S) (o : Nat)  : Option (Int32 × q_S) := q_at (S) (some o) 12 (fun a1 => q_at (S) (q_R (S) a1 7) 11 (fun a2 => q_b (m_X10_make n (S) a2) (fun r3 S4 => some (r3, S4))))
set_option maxHeartbeats 4000000 in
set_option maxRecDepth 100000 in
theorem w_X11_write (X : q_X p s m args c cX11_write 1 RX11 q_T D cy A) (hr : meth.sig.returnType = (some .int)) (hl : meth.locks = false)  {n : Nat} {S Sv : q_S} {rv : Int32} {o : Nat}  (h : m_X11_write n S o = some (rv, Sv)) : q_W p l e ({ frames := 7, cells := 0, slots := 0, locals := 164 } : Room) s m args below meth c (MQ below (va_Qi (fun (r : Int32) (u : q_S) => r = rv ∧ u = Sv) (q_B D cy A) A) args s 0 0 A) A D cy 1 0 0 S 0 [(0, va_rf (some o))] [] := by
  unfold m_X11_write at h
  refine q_aload_n X 0 rfl dX11_write_0 ?_
  obtain ⟨a1, ea1, ma1, ka1, h⟩ := q_atE h
  refine q_getR X 7 ea1 ma1 ka1 rfl tW_X11 (by decide) (by decide) tF_X11_73 rfl dX11_write_1 ?_
  obtain ⟨a2, ea2, ma2, ka2, h⟩ := q_atE h
  obtain ⟨r3, S4, c5, h⟩ := q_bE h
  refine q_cVI X (As := []) ea2 ma2 ka2 rfl (by decide) (c_X10_make c5) (q_cwV X tK_X10_make tM_X11_213 tI_X10_make tV_X10_make tN_X10 rfl rfl tD_X10_make ⟨Nat.le_of_ble_eq_true rfl, Nat.le_of_ble_eq_true rfl⟩) rfl rfl (by first | exact Nat.le_of_ble_eq_true rfl | (simp only [List.map, q_catR]; exact Nat.le_of_ble_eq_true rfl)) ⟨Nat.zero_le _, Nat.zero_le _⟩ dX11_write_4 ?_
  obtain ⟨ev, eS⟩ := q_end h
  exact q_iret X hr hl rfl ev eS dX11_write_7
theorem tD_X11_write : yX11_write.cls ≠ "java/lang/invoke/MethodHandle" ∧ yX11_write.cls ≠ "java/lang/invoke/VarHandle" ∧ (parseMethodDescriptor yX11_write.desc).map (fun d => d.parameters.length) = some 0 := by decide +kernel
theorem c_X11_write {l : Launch} {D : va_G} {cy : Nat → ClassId} {n : Nat} {S Sv : q_S} {rv : Int32} {o : Nat}  (h : m_X11_write n S o = some (rv, Sv)) : q_MI l yX11_write (q_ws yX11_write cX11_write 1 ((some .int))) ({ frames := 7, cells := 0, slots := 0, locals := 164 } : Room) D cy [.ref o] S rv Sv := by
  exact q_MI_of (by decide +kernel) (Nat.le_of_ble_eq_true rfl) (fun p e s m args below meth c A X hr hl => w_X11_write X hr hl h)
/-! TrueOutlinesModel.in(JJJ)Z -/
def m_X12_in_18 (n : Nat) (S : q_S) (s0 : Int32) : Option (Int32 × q_S) := q_if (s0 = 0 ∨ s0 = 1) (some (s0, S))
set_option maxHeartbeats 4000000 in
set_option maxRecDepth 100000 in
theorem w_X12_in_18 (X : q_X p s m args c cX12_in 6 RX12 q_T D cy A) (hr : meth.sig.returnType = (some .boolean)) (hl : meth.locks = false)  {n : Nat} {Sv : q_S} {rv : Int32}  (S : q_S) (s0 : Int32) (h : m_X12_in_18 n S s0 = some (rv, Sv)) : q_W p l e ({ frames := 0, cells := 0, slots := 0, locals := 0 } : Room) s m args below meth c (MQ below (va_Qi (fun (r : Int32) (u : q_S) => r = rv ∧ u = Sv) (q_B D cy A) A) args s 0 0 A) A D cy 6 0 0 S 18 [] [.int (s0)] := by
  unfold m_X12_in_18 at h
  obtain ⟨g1, h⟩ := q_ifE h
  obtain ⟨ev, eS⟩ := q_end h
  exact q_iret X hr hl (q_bool g1) ev eS dX12_in_18
def m_X12_in_17 (n : Nat) (S : q_S) : Option (Int32 × q_S) := m_X12_in_18 n (S) ((0 : Int32))
set_option maxHeartbeats 4000000 in
set_option maxRecDepth 100000 in
theorem w_X12_in_17 (X : q_X p s m args c cX12_in 6 RX12 q_T D cy A) (hr : meth.sig.returnType = (some .boolean)) (hl : meth.locks = false)  {n : Nat} {Sv : q_S} {rv : Int32}  (S : q_S) (h : m_X12_in_17 n S = some (rv, Sv)) : q_W p l e ({ frames := 0, cells := 0, slots := 0, locals := 0 } : Room) s m args below meth c (MQ below (va_Qi (fun (r : Int32) (u : q_S) => r = rv ∧ u = Sv) (q_B D cy A) A) args s 0 0 A) A D cy 6 0 0 S 17 [] [] := by
  unfold m_X12_in_17 at h
  refine q_iconst X (0) (by decide) dX12_in_17 ?_
  exact w_X12_in_18 X hr hl _ _ h
def m_X12_in (n : Nat) (S : q_S) (p0 : Int64) (p1 : Int64) (p2 : Int64) : Option (Int32 × q_S) := (if (lg_cmp (p0) (p1)) < 0 then m_X12_in_17 n (S) else (if 0 < (lg_cmp (p0) (p2)) then m_X12_in_17 n (S) else m_X12_in_18 n (S) ((1 : Int32))))
set_option maxHeartbeats 4000000 in
set_option maxRecDepth 100000 in
theorem w_X12_in (X : q_X p s m args c cX12_in 6 RX12 q_T D cy A) (hr : meth.sig.returnType = (some .boolean)) (hl : meth.locks = false)  {n : Nat} {S Sv : q_S} {rv : Int32} {p0 : Int64} {p1 : Int64} {p2 : Int64} (h : m_X12_in n S p0 p1 p2 = some (rv, Sv)) : q_W p l e ({ frames := 0, cells := 0, slots := 0, locals := 0 } : Room) s m args below meth c (MQ below (va_Qi (fun (r : Int32) (u : q_S) => r = rv ∧ u = Sv) (q_B D cy A) A) args s 0 0 A) A D cy 6 0 0 S 0 [(0, .long (p0)), (2, .long (p1)), (4, .long (p2))] [] := by
  unfold m_X12_in at h
  refine q_lload_n X 0 rfl dX12_in_0 ?_
  refine q_lload_n X 1 rfl dX12_in_1 ?_
  refine q_lcmp X dX12_in_2 ?_
  refine q_if_lt X 17 (by decide) dX12_in_3 (fun g1 => ?_) (fun g1 => ?_)
  · rw [if_pos g1] at h
    refine q_lv [] rfl ?_
    exact w_X12_in_17 X hr hl _ h
  · rw [if_neg g1] at h
    refine q_lload_n X 0 rfl dX12_in_6 ?_
    refine q_lload X 2 rfl dX12_in_7 ?_
    refine q_lcmp X dX12_in_9 ?_
    refine q_if_gt X 17 (by decide) dX12_in_10 (fun g2 => ?_) (fun g2 => ?_)
    · rw [if_pos g2] at h
      refine q_lv [] rfl ?_
      exact w_X12_in_17 X hr hl _ h
    · rw [if_neg g2] at h
      refine q_iconst X (1) (by decide) dX12_in_13 ?_
      refine q_goto X 18 (by decide) dX12_in_14 ?_
      refine q_lv [] rfl ?_
      exact w_X12_in_18 X hr hl _ _ h
theorem tD_X12_in : yX12_in.cls ≠ "java/lang/invoke/MethodHandle" ∧ yX12_in.cls ≠ "java/lang/invoke/VarHandle" ∧ (parseMethodDescriptor yX12_in.desc).map (fun d => d.parameters.length) = some 3 := by decide +kernel
theorem c_X12_in {l : Launch} {D : va_G} {cy : Nat → ClassId} {n : Nat} {S Sv : q_S} {rv : Int32} {p0 : Int64} {p1 : Int64} {p2 : Int64} (h : m_X12_in n S p0 p1 p2 = some (rv, Sv)) : q_MI l yX12_in (q_ws yX12_in cX12_in 6 ((some .boolean))) ({ frames := 0, cells := 0, slots := 0, locals := 0 } : Room) D cy [.long (p0), .long (p1), .long (p2)] S rv Sv := by
  exact q_MI_of (by decide +kernel) (Nat.le_of_ble_eq_true rfl) (fun p e s m args below meth c A X hr hl => w_X12_in X hr hl h)
/-! TrueOutlinesModel.add(JI)I -/
def m_X12_add_29 (n : Nat) (S : q_S) : Option (Int32 × q_S) := some ((-1 : Int32), S)
set_option maxHeartbeats 4000000 in
set_option maxRecDepth 100000 in
theorem w_X12_add_29 (X : q_X p s m args c cX12_add 5 RX12 q_T D cy A) (hr : meth.sig.returnType = (some .int)) (hl : meth.locks = false)  {n : Nat} {Sv : q_S} {rv : Int32}  (S : q_S) (h : m_X12_add_29 n S = some (rv, Sv)) : q_W p l e ({ frames := 1, cells := 0, slots := 0, locals := 25 } : Room) s m args below meth c (MQ below (va_Qi (fun (r : Int32) (u : q_S) => r = rv ∧ u = Sv) (q_B D cy A) A) args s 0 0 A) A D cy 5 0 0 S 29 [] [] := by
  unfold m_X12_add_29 at h
  refine q_iconst X (-1) (by decide) dX12_add_29 ?_
  obtain ⟨ev, eS⟩ := q_end h
  exact q_iret X hr hl rfl ev eS dX12_add_30
def m_X12_add_34 (n : Nat) : Nat → q_S → Option Nat → Int64 → Int32 → Int32 → Option (Int32 × q_S)
  | 0, _, _, _, _, _ => none
  | k + 1, S, l0, l1, l3, l4 => (if l3 ≤ l4 then q_at (S) (l0) 13 (fun a2 => some (q_I (S) a2 2, S)) else q_at (S) (l0) 13 (fun a3 => q_at (S) (q_R (S) a3 1) 100 (fun a4 => q_if (q_in (q_I (S) a3 2) (q_N (S) a4) = true) (q_let (q_sI (q_sI (S) a4 (q_I (S) a3 2).toNatClampNeg (((l1 >>> ((((8 : Int32) * l4)).toInt64 &&& 63)) &&& (255 : Int64)).toInt32)) a3 2 ((q_I (q_sI (S) a4 (q_I (S) a3 2).toNatClampNeg (((l1 >>> ((((8 : Int32) * l4)).toInt64 &&& 63)) &&& (255 : Int64)).toInt32)) a3 2) + (1 : Int32))) (fun S6 => m_X12_add_34 n k (S6) (l0) (l1) (l3) (l4 + (1)))))))
set_option maxHeartbeats 4000000 in
set_option maxRecDepth 100000 in
theorem w_X12_add_34 (X : q_X p s m args c cX12_add 5 RX12 q_T D cy A) (hr : meth.sig.returnType = (some .int)) (hl : meth.locks = false)  {n : Nat} {Sv : q_S} {rv : Int32}  : ∀ (k : Nat) (S : q_S) (l0 : Option Nat) (l1 : Int64) (l3 : Int32) (l4 : Int32), m_X12_add_34 n k S l0 l1 l3 l4 = some (rv, Sv) → q_W p l e ({ frames := 1, cells := 0, slots := 0, locals := 25 } : Room) s m args below meth c (MQ below (va_Qi (fun (r : Int32) (u : q_S) => r = rv ∧ u = Sv) (q_B D cy A) A) args s 0 0 A) A D cy 5 0 0 S 34 [(0, va_rf (l0)), (1, .long (l1)), (3, .int (l3)), (4, .int (l4))] [] := by
  intro k
  induction k with
  | zero => intro S l0 l1 l3 l4 h; rw [m_X12_add_34] at h; cases h
  | succ k ih =>
    intro S l0 l1 l3 l4 h
    rw [m_X12_add_34] at h
    refine q_iload X 3 rfl dX12_add_34 ?_
    refine q_iload_n X 2 rfl dX12_add_36 ?_
    refine q_icmp_ge X 77 (by decide) dX12_add_37 (fun g1 => ?_) (fun g1 => ?_)
    · rw [if_pos g1] at h
      refine q_aload_n X 0 rfl dX12_add_77 ?_
      obtain ⟨a2, ea2, ma2, ka2, h⟩ := q_atE h
      refine q_getI X 2 ea2 ma2 ka2 rfl tW_X12 (by decide) (by decide) tF_X12_106 rfl dX12_add_78 ?_
      obtain ⟨ev, eS⟩ := q_end h
      exact q_iret X hr hl rfl ev eS dX12_add_81
    · rw [if_neg g1] at h
      refine q_aload_n X 0 rfl dX12_add_40 ?_
      obtain ⟨a3, ea3, ma3, ka3, h⟩ := q_atE h
      refine q_getR X 1 ea3 ma3 ka3 rfl tW_X12 (by decide) (by decide) tF_X12_7 rfl dX12_add_41 ?_
      refine q_aload_n X 0 rfl dX12_add_44 ?_
      refine q_getI X 2 ea3 ma3 ka3 rfl tW_X12 (by decide) (by decide) tF_X12_106 rfl dX12_add_45 ?_
      refine q_lload_n X 1 rfl dX12_add_48 ?_
      refine q_bipush X (8) (by decide) dX12_add_49 ?_
      refine q_iload X 3 rfl dX12_add_51 ?_
      refine q_imul X dX12_add_53 ?_
      refine q_lshr X dX12_add_54 ?_
      refine q_ldc2_w X (255) tC_X12_109 dX12_add_55 ?_
      refine q_land X dX12_add_58 ?_
      refine q_l2i X dX12_add_59 ?_
      obtain ⟨a4, ea4, ma4, ka4, h⟩ := q_atE h
      obtain ⟨g5, h⟩ := q_ifE h
      refine q_iastore X ea4 ma4 ka4 (q_inE g5) dX12_add_60 ?_
      have ma3 : a3 ∈ q_L (q_sI (S) a4 (q_I (S) a3 2).toNatClampNeg (((l1 >>> ((((8 : Int32) * l4)).toInt64 &&& 63)) &&& (255 : Int64)).toInt32)) := q_LsI ma3
      have ka3 : q_K (q_sI (S) a4 (q_I (S) a3 2).toNatClampNeg (((l1 >>> ((((8 : Int32) * l4)).toInt64 &&& 63)) &&& (255 : Int64)).toInt32)) a3 = 13 := q_KsI ka3
      have ma4 : a4 ∈ q_L (q_sI (S) a4 (q_I (S) a3 2).toNatClampNeg (((l1 >>> ((((8 : Int32) * l4)).toInt64 &&& 63)) &&& (255 : Int64)).toInt32)) := q_LsI ma4
      have ka4 : q_K (q_sI (S) a4 (q_I (S) a3 2).toNatClampNeg (((l1 >>> ((((8 : Int32) * l4)).toInt64 &&& 63)) &&& (255 : Int64)).toInt32)) a4 = 100 := q_KsI ka4
      refine q_aload_n X 0 rfl dX12_add_61 ?_
      refine q_dup X (q_catR _) dX12_add_62 ?_
      refine q_getI X 2 ea3 ma3 ka3 rfl tW_X12 (by decide) (by decide) tF_X12_106 rfl dX12_add_63 ?_
      refine q_iconst X (1) (by decide) dX12_add_66 ?_
      refine q_iadd X dX12_add_67 ?_
      refine q_putI X 2 ea3 ma3 ka3 rfl tW_X12 (by decide) (by decide) tF_X12_106 tyX12 tyX12_ok nmX12 rfl (tyX12_ok 2 (by decide)) rfl rfl rfl dX12_add_68 ?_
      have ma3 : a3 ∈ q_L (q_sI (q_sI (S) a4 (q_I (S) a3 2).toNatClampNeg (((l1 >>> ((((8 : Int32) * l4)).toInt64 &&& 63)) &&& (255 : Int64)).toInt32)) a3 2 ((q_I (q_sI (S) a4 (q_I (S) a3 2).toNatClampNeg (((l1 >>> ((((8 : Int32) * l4)).toInt64 &&& 63)) &&& (255 : Int64)).toInt32)) a3 2) + (1 : Int32))) := q_LsI ma3
      have ka3 : q_K (q_sI (q_sI (S) a4 (q_I (S) a3 2).toNatClampNeg (((l1 >>> ((((8 : Int32) * l4)).toInt64 &&& 63)) &&& (255 : Int64)).toInt32)) a3 2 ((q_I (q_sI (S) a4 (q_I (S) a3 2).toNatClampNeg (((l1 >>> ((((8 : Int32) * l4)).toInt64 &&& 63)) &&& (255 : Int64)).toInt32)) a3 2) + (1 : Int32))) a3 = 13 := q_KsI ka3
      have ma4 : a4 ∈ q_L (q_sI (q_sI (S) a4 (q_I (S) a3 2).toNatClampNeg (((l1 >>> ((((8 : Int32) * l4)).toInt64 &&& 63)) &&& (255 : Int64)).toInt32)) a3 2 ((q_I (q_sI (S) a4 (q_I (S) a3 2).toNatClampNeg (((l1 >>> ((((8 : Int32) * l4)).toInt64 &&& 63)) &&& (255 : Int64)).toInt32)) a3 2) + (1 : Int32))) := q_LsI ma4
      have ka4 : q_K (q_sI (q_sI (S) a4 (q_I (S) a3 2).toNatClampNeg (((l1 >>> ((((8 : Int32) * l4)).toInt64 &&& 63)) &&& (255 : Int64)).toInt32)) a3 2 ((q_I (q_sI (S) a4 (q_I (S) a3 2).toNatClampNeg (((l1 >>> ((((8 : Int32) * l4)).toInt64 &&& 63)) &&& (255 : Int64)).toInt32)) a3 2) + (1 : Int32))) a4 = 100 := q_KsI ka4
      refine q_iinc X 4 3 (l4 + (1)) [(4, .int (l4 + (1))), (0, va_rf (l0)), (1, .long (l1)), (3, .int (l3))] rfl (congrArg (fun z => l4 + z) (show Int32.ofInt (1) = (1) by decide)) (by decide) (by first | rfl | simp [List.filter, q_catR]) dX12_add_71 ?_
      obtain ⟨S6, eS6, h⟩ := q_letE h
      refine q_sub eS6 ?_
      have ma3 : a3 ∈ q_L S6 := by rw [eS6]; exact ma3
      have ka3 : q_K S6 a3 = 13 := by rw [eS6]; exact ka3
      have ma4 : a4 ∈ q_L S6 := by rw [eS6]; exact ma4
      have ka4 : q_K S6 a4 = 100 := by rw [eS6]; exact ka4
      refine q_goto X 34 (by decide) dX12_add_74 ?_
      refine q_lv [1, 2, 3, 0] rfl ?_
      exact ih _ _ _ _ _ h
def m_X12_add (n : Nat) (S : q_S) (o : Nat) (p0 : Int64) (p1 : Int32) : Option (Int32 × q_S) := q_at (S) (some o) 13 (fun a1 => q_b (m_X12_in n (q_sI (S) a1 0 ((0 : Int32))) (p1.toInt64) ((1 : Int64)) ((8 : Int64))) (fun r2 S3 => (if r2 = 0 then m_X12_add_29 n (S3) else q_at (S3) (some o) 13 (fun a6 => (if ((q_I (S3) a6 2) + p1) ≤ (1600 : Int32) then m_X12_add_34 n n (S3) (some o) (p0) (p1) ((0 : Int32)) else m_X12_add_29 n (S3))))))
set_option maxHeartbeats 4000000 in
set_option maxRecDepth 100000 in
theorem w_X12_add (X : q_X p s m args c cX12_add 5 RX12 q_T D cy A) (hr : meth.sig.returnType = (some .int)) (hl : meth.locks = false)  {n : Nat} {S Sv : q_S} {rv : Int32} {o : Nat} {p0 : Int64} {p1 : Int32} (h : m_X12_add n S o p0 p1 = some (rv, Sv)) : q_W p l e ({ frames := 1, cells := 0, slots := 0, locals := 25 } : Room) s m args below meth c (MQ below (va_Qi (fun (r : Int32) (u : q_S) => r = rv ∧ u = Sv) (q_B D cy A) A) args s 0 0 A) A D cy 5 0 0 S 0 [(0, va_rf (some o)), (1, .long (p0)), (3, .int (p1))] [] := by
  unfold m_X12_add at h
  refine q_aload_n X 0 rfl dX12_add_0 ?_
  refine q_iconst X (0) (by decide) dX12_add_1 ?_
  obtain ⟨a1, ea1, ma1, ka1, h⟩ := q_atE h
  refine q_putI X 0 ea1 ma1 ka1 rfl tW_X12 (by decide) (by decide) tF_X12_96 tyX12 tyX12_ok nmX12 rfl (tyX12_ok 0 (by decide)) rfl rfl rfl dX12_add_2 ?_
  have ma1 : a1 ∈ q_L (q_sI (S) a1 0 ((0 : Int32))) := q_LsI ma1
  have ka1 : q_K (q_sI (S) a1 0 ((0 : Int32))) a1 = 13 := q_KsI ka1
  refine q_iload_n X 2 rfl dX12_add_5 ?_
  refine q_i2l X dX12_add_6 ?_
  refine q_lconst X (1) (by decide) dX12_add_7 ?_
  refine q_ldc2_w X (8) tC_X12_100 dX12_add_8 ?_
  obtain ⟨r2, S3, c4, h⟩ := q_bE h
  refine q_cSI X (As := [.long (p1.toInt64), .long ((1 : Int64)), .long ((8 : Int64))]) (c_X12_in c4) (q_cwS X tK_X12_in tM_X12_102 tS_X12_in tN_X12 rfl rfl tD_X12_in ⟨Nat.le_of_ble_eq_true rfl, Nat.le_of_ble_eq_true rfl⟩) rfl rfl (by first | exact Nat.le_of_ble_eq_true rfl | (simp only [List.map, q_catR]; exact Nat.le_of_ble_eq_true rfl)) ⟨Nat.zero_le _, Nat.zero_le _⟩ dX12_add_11 ?_
  refine q_if_eq X 29 (by decide) dX12_add_14 (fun g5 => ?_) (fun g5 => ?_)
  · rw [if_pos g5] at h
    refine q_lv [] rfl ?_
    exact w_X12_add_29 X hr hl _ h
  · rw [if_neg g5] at h
    refine q_aload_n X 0 rfl dX12_add_17 ?_
    obtain ⟨a6, ea6, ma6, ka6, h⟩ := q_atE h
    refine q_getI X 2 ea6 ma6 ka6 rfl tW_X12 (by decide) (by decide) tF_X12_106 rfl dX12_add_18 ?_
    refine q_iload_n X 2 rfl dX12_add_21 ?_
    refine q_iadd X dX12_add_22 ?_
    refine q_sipush X (1600) (by decide) dX12_add_23 ?_
    refine q_icmp_le X 31 (by decide) dX12_add_26 (fun g7 => ?_) (fun g7 => ?_)
    · rw [if_pos g7] at h
      refine q_iconst X (0) (by decide) dX12_add_31 ?_
      refine q_istore X 4 [(4, .int ((0 : Int32))), (0, va_rf (some o)), (1, .long (p0)), (3, .int (p1))] (by decide) (by first | rfl | simp [List.filter, q_catR]) dX12_add_32 ?_
      refine q_lv [1, 2, 3, 0] rfl ?_
      exact w_X12_add_34 X hr hl n _ _ _ _ _ h
    · rw [if_neg g7] at h
      refine q_lv [] rfl ?_
      exact w_X12_add_29 X hr hl _ h
theorem tD_X12_add : yX12_add.cls ≠ "java/lang/invoke/MethodHandle" ∧ yX12_add.cls ≠ "java/lang/invoke/VarHandle" ∧ (parseMethodDescriptor yX12_add.desc).map (fun d => d.parameters.length) = some 2 := by decide +kernel
theorem c_X12_add {l : Launch} {D : va_G} {cy : Nat → ClassId} {n : Nat} {S Sv : q_S} {rv : Int32} {o : Nat} {p0 : Int64} {p1 : Int32} (h : m_X12_add n S o p0 p1 = some (rv, Sv)) : q_MI l yX12_add (q_ws yX12_add cX12_add 5 ((some .int))) ({ frames := 1, cells := 0, slots := 0, locals := 25 } : Room) D cy [.ref o, .long (p0), .int (p1)] S rv Sv := by
  exact q_MI_of (by decide +kernel) (Nat.le_of_ble_eq_true rfl) (fun p e s m args below meth c A X hr hl => w_X12_add X hr hl h)
/-! TrueOutlinesModel.find(J)I -/
def m_X12_find_40 (n : Nat) (S : q_S) (s0 : Int32) : Option (Int32 × q_S) := some (s0, S)
set_option maxHeartbeats 4000000 in
set_option maxRecDepth 100000 in
theorem w_X12_find_40 (X : q_X p s m args c cX12_find 4 RX12 q_T D cy A) (hr : meth.sig.returnType = (some .int)) (hl : meth.locks = false)  {n : Nat} {Sv : q_S} {rv : Int32}  (S : q_S) (s0 : Int32) (h : m_X12_find_40 n S s0 = some (rv, Sv)) : q_W p l e ({ frames := 0, cells := 0, slots := 0, locals := 0 } : Room) s m args below meth c (MQ below (va_Qi (fun (r : Int32) (u : q_S) => r = rv ∧ u = Sv) (q_B D cy A) A) args s 0 0 A) A D cy 4 0 0 S 40 [] [.int (s0)] := by
  unfold m_X12_find_40 at h
  obtain ⟨ev, eS⟩ := q_end h
  exact q_iret X hr hl rfl ev eS dX12_find_40
def m_X12_find_27 (n : Nat) (S : q_S) (l0 : Option Nat) (l3 : Int32) : Option (Int32 × q_S) := q_at (S) (l0) 13 (fun a1 => (if (q_I (S) a1 3) ≤ l3 then m_X12_find_40 n (S) ((-1 : Int32)) else m_X12_find_40 n (S) (l3)))
set_option maxHeartbeats 4000000 in
set_option maxRecDepth 100000 in
theorem w_X12_find_27 (X : q_X p s m args c cX12_find 4 RX12 q_T D cy A) (hr : meth.sig.returnType = (some .int)) (hl : meth.locks = false)  {n : Nat} {Sv : q_S} {rv : Int32}  (S : q_S) (l0 : Option Nat) (l3 : Int32) (h : m_X12_find_27 n S l0 l3 = some (rv, Sv)) : q_W p l e ({ frames := 0, cells := 0, slots := 0, locals := 0 } : Room) s m args below meth c (MQ below (va_Qi (fun (r : Int32) (u : q_S) => r = rv ∧ u = Sv) (q_B D cy A) A) args s 0 0 A) A D cy 4 0 0 S 27 [(0, va_rf (l0)), (3, .int (l3))] [] := by
  unfold m_X12_find_27 at h
  refine q_iload_n X 1 rfl dX12_find_27 ?_
  refine q_aload_n X 0 rfl dX12_find_28 ?_
  obtain ⟨a1, ea1, ma1, ka1, h⟩ := q_atE h
  refine q_getI X 3 ea1 ma1 ka1 rfl tW_X12 (by decide) (by decide) tF_X12_111 rfl dX12_find_29 ?_
  refine q_icmp_ge X 39 (by decide) dX12_find_32 (fun g2 => ?_) (fun g2 => ?_)
  · rw [if_pos g2] at h
    refine q_iconst X (-1) (by decide) dX12_find_39 ?_
    refine q_lv [] rfl ?_
    exact w_X12_find_40 X hr hl _ _ h
  · rw [if_neg g2] at h
    refine q_iload_n X 1 rfl dX12_find_35 ?_
    refine q_goto X 40 (by decide) dX12_find_36 ?_
    refine q_lv [] rfl ?_
    exact w_X12_find_40 X hr hl _ _ h
def m_X12_find_2 (n : Nat) : Nat → q_S → Option Nat → Int64 → Int32 → Option (Int32 × q_S)
  | 0, _, _, _, _ => none
  | k + 1, S, l0, l1, l3 => q_at (S) (l0) 13 (fun a1 => (if (q_I (S) a1 3) ≤ l3 then m_X12_find_27 n (S) (l0) (l3) else q_at (S) (q_R (S) a1 4) 101 (fun a3 => q_if (q_in (l3) (q_N (S) a3) = true) ((if (lg_cmp ((q_J (S) a3 (l3).toNatClampNeg)) (l1)) = 0 then m_X12_find_27 n (S) (l0) (l3) else m_X12_find_2 n k (S) (l0) (l1) (l3 + (1)))))))
set_option maxHeartbeats 4000000 in
set_option maxRecDepth 100000 in
theorem w_X12_find_2 (X : q_X p s m args c cX12_find 4 RX12 q_T D cy A) (hr : meth.sig.returnType = (some .int)) (hl : meth.locks = false)  {n : Nat} {Sv : q_S} {rv : Int32}  : ∀ (k : Nat) (S : q_S) (l0 : Option Nat) (l1 : Int64) (l3 : Int32), m_X12_find_2 n k S l0 l1 l3 = some (rv, Sv) → q_W p l e ({ frames := 0, cells := 0, slots := 0, locals := 0 } : Room) s m args below meth c (MQ below (va_Qi (fun (r : Int32) (u : q_S) => r = rv ∧ u = Sv) (q_B D cy A) A) args s 0 0 A) A D cy 4 0 0 S 2 [(0, va_rf (l0)), (1, .long (l1)), (3, .int (l3))] [] := by
  intro k
  induction k with
  | zero => intro S l0 l1 l3 h; rw [m_X12_find_2] at h; cases h
  | succ k ih =>
    intro S l0 l1 l3 h
    rw [m_X12_find_2] at h
    refine q_iload_n X 2 rfl dX12_find_2 ?_
    refine q_aload_n X 0 rfl dX12_find_3 ?_
    obtain ⟨a1, ea1, ma1, ka1, h⟩ := q_atE h
    refine q_getI X 3 ea1 ma1 ka1 rfl tW_X12 (by decide) (by decide) tF_X12_111 rfl dX12_find_4 ?_
    refine q_icmp_ge X 27 (by decide) dX12_find_7 (fun g2 => ?_) (fun g2 => ?_)
    · rw [if_pos g2] at h
      refine q_lv [0, 2] rfl ?_
      exact w_X12_find_27 X hr hl _ _ _ h
    · rw [if_neg g2] at h
      refine q_aload_n X 0 rfl dX12_find_10 ?_
      refine q_getR X 4 ea1 ma1 ka1 rfl tW_X12 (by decide) (by decide) tF_X12_13 rfl dX12_find_11 ?_
      refine q_iload_n X 2 rfl dX12_find_14 ?_
      obtain ⟨a3, ea3, ma3, ka3, h⟩ := q_atE h
      obtain ⟨g4, h⟩ := q_ifE h
      refine q_laload X ea3 ma3 ka3 (q_inE g4) dX12_find_15 ?_
      refine q_lload_n X 1 rfl dX12_find_16 ?_
      refine q_lcmp X dX12_find_17 ?_
      refine q_if_eq X 27 (by decide) dX12_find_18 (fun g5 => ?_) (fun g5 => ?_)
      · rw [if_pos g5] at h
        refine q_lv [0, 2] rfl ?_
        exact w_X12_find_27 X hr hl _ _ _ h
      · rw [if_neg g5] at h
        refine q_iinc X 3 2 (l3 + (1)) [(3, .int (l3 + (1))), (0, va_rf (l0)), (1, .long (l1))] rfl (congrArg (fun z => l3 + z) (show Int32.ofInt (1) = (1) by decide)) (by decide) (by first | rfl | simp [List.filter, q_catR]) dX12_find_21 ?_
        refine q_goto X 2 (by decide) dX12_find_24 ?_
        refine q_lv [1, 2, 0] rfl ?_
        exact ih _ _ _ _ h
def m_X12_find (n : Nat) (S : q_S) (o : Nat) (p0 : Int64) : Option (Int32 × q_S) := m_X12_find_2 n n (S) (some o) (p0) ((0 : Int32))
set_option maxHeartbeats 4000000 in
set_option maxRecDepth 100000 in
theorem w_X12_find (X : q_X p s m args c cX12_find 4 RX12 q_T D cy A) (hr : meth.sig.returnType = (some .int)) (hl : meth.locks = false)  {n : Nat} {S Sv : q_S} {rv : Int32} {o : Nat} {p0 : Int64} (h : m_X12_find n S o p0 = some (rv, Sv)) : q_W p l e ({ frames := 0, cells := 0, slots := 0, locals := 0 } : Room) s m args below meth c (MQ below (va_Qi (fun (r : Int32) (u : q_S) => r = rv ∧ u = Sv) (q_B D cy A) A) args s 0 0 A) A D cy 4 0 0 S 0 [(0, va_rf (some o)), (1, .long (p0))] [] := by
  unfold m_X12_find at h
  refine q_iconst X (0) (by decide) dX12_find_0 ?_
  refine q_istore_n X 3 [(3, .int ((0 : Int32))), (0, va_rf (some o)), (1, .long (p0))] rfl (by decide) (by first | rfl | simp [List.filter, q_catR]) dX12_find_1 ?_
  refine q_lv [1, 2, 0] rfl ?_
  exact w_X12_find_2 X hr hl n _ _ _ _ h
theorem tD_X12_find : yX12_find.cls ≠ "java/lang/invoke/MethodHandle" ∧ yX12_find.cls ≠ "java/lang/invoke/VarHandle" ∧ (parseMethodDescriptor yX12_find.desc).map (fun d => d.parameters.length) = some 1 := by decide +kernel
theorem c_X12_find {l : Launch} {D : va_G} {cy : Nat → ClassId} {n : Nat} {S Sv : q_S} {rv : Int32} {o : Nat} {p0 : Int64} (h : m_X12_find n S o p0 = some (rv, Sv)) : q_MI l yX12_find (q_ws yX12_find cX12_find 4 ((some .int))) ({ frames := 0, cells := 0, slots := 0, locals := 0 } : Room) D cy [.ref o, .long (p0)] S rv Sv := by
  exact q_MI_of (by decide +kernel) (Nat.le_of_ble_eq_true rfl) (fun p e s m args below meth c A X hr hl => w_X12_find X hr hl h)
/-! TrueOutlinesModel.number(IJI)J -/
def m_X12_number_27 (n : Nat) (S : q_S) (l0 : Option Nat) : Option (Int64 × q_S) := q_at (S) (l0) 13 (fun a1 => q_if ((1 : Int32) = 0 ∨ (1 : Int32) = 1) (some ((0 : Int64), q_sI (S) a1 8 ((1 : Int32)))))
set_option maxHeartbeats 4000000 in
set_option maxRecDepth 100000 in
theorem w_X12_number_27 (X : q_X p s m args c cX12_number 8 RX12 q_T D cy A) (hr : meth.sig.returnType = (some .long)) (hl : meth.locks = false)  {n : Nat} {Sv : q_S} {rv : Int64}  (S : q_S) (l0 : Option Nat) (h : m_X12_number_27 n S l0 = some (rv, Sv)) : q_W p l e ({ frames := 0, cells := 0, slots := 0, locals := 0 } : Room) s m args below meth c (MQ below (va_Ql (fun (r : Int64) (u : q_S) => r = rv ∧ u = Sv) (q_B D cy A) A) args s 0 0 A) A D cy 8 0 0 S 27 [(0, va_rf (l0))] [] := by
  unfold m_X12_number_27 at h
  refine q_aload_n X 0 rfl dX12_number_27 ?_
  refine q_iconst X (1) (by decide) dX12_number_28 ?_
  obtain ⟨a1, ea1, ma1, ka1, h⟩ := q_atE h
  obtain ⟨g2, h⟩ := q_ifE h
  refine q_putI X 8 ea1 ma1 ka1 rfl tW_X12 (by decide) (by decide) tF_X12_114 tyX12 tyX12_ok nmX12 rfl (tyX12_ok 8 (by decide)) (q_bool g2) (q_boolF g2) rfl dX12_number_29 ?_
  have ma1 : a1 ∈ q_L (q_sI (S) a1 8 ((1 : Int32))) := q_LsI ma1
  have ka1 : q_K (q_sI (S) a1 8 ((1 : Int32))) a1 = 13 := q_KsI ka1
  refine q_lconst X (0) (by decide) dX12_number_32 ?_
  obtain ⟨ev, eS⟩ := q_end h
  exact q_lret X hr hl ev eS dX12_number_33
def m_X12_number_40 (n : Nat) : Nat → q_S → Option Nat → Int32 → Int64 → Int32 → Int64 → Int32 → Option (Int64 × q_S)
  | 0, _, _, _, _, _, _, _ => none
  | k + 1, S, l0, l1, l2, l4, l5, l7 => (if l4 ≤ l7 then some (l5, S) else q_at (S) (l0) 13 (fun a2 => q_at (S) (q_R (S) a2 6) 100 (fun a3 => q_if (q_in (l1) (q_N (S) a3) = true) (q_at (S) (q_R (S) a2 1) 100 (fun a5 => q_if (q_in (((q_I (S) a3 (l1).toNatClampNeg) + (l2.toInt32)) + l7) (q_N (S) a5) = true) (m_X12_number_40 n k (S) (l0) (l1) (l2) (l4) (((256 : Int64) * l5) + ((q_I (S) a5 (((q_I (S) a3 (l1).toNatClampNeg) + (l2.toInt32)) + l7).toNatClampNeg).toInt64)) (l7 + (1))))))))
set_option maxHeartbeats 4000000 in
set_option maxRecDepth 100000 in
theorem w_X12_number_40 (X : q_X p s m args c cX12_number 8 RX12 q_T D cy A) (hr : meth.sig.returnType = (some .long)) (hl : meth.locks = false)  {n : Nat} {Sv : q_S} {rv : Int64}  : ∀ (k : Nat) (S : q_S) (l0 : Option Nat) (l1 : Int32) (l2 : Int64) (l4 : Int32) (l5 : Int64) (l7 : Int32), m_X12_number_40 n k S l0 l1 l2 l4 l5 l7 = some (rv, Sv) → q_W p l e ({ frames := 0, cells := 0, slots := 0, locals := 0 } : Room) s m args below meth c (MQ below (va_Ql (fun (r : Int64) (u : q_S) => r = rv ∧ u = Sv) (q_B D cy A) A) args s 0 0 A) A D cy 8 0 0 S 40 [(0, va_rf (l0)), (1, .int (l1)), (2, .long (l2)), (4, .int (l4)), (5, .long (l5)), (7, .int (l7))] [] := by
  intro k
  induction k with
  | zero => intro S l0 l1 l2 l4 l5 l7 h; rw [m_X12_number_40] at h; cases h
  | succ k ih =>
    intro S l0 l1 l2 l4 l5 l7 h
    rw [m_X12_number_40] at h
    refine q_iload X 5 rfl dX12_number_40 ?_
    refine q_iload X 3 rfl dX12_number_42 ?_
    refine q_icmp_ge X 80 (by decide) dX12_number_44 (fun g1 => ?_) (fun g1 => ?_)
    · rw [if_pos g1] at h
      refine q_lload X 4 rfl dX12_number_80 ?_
      obtain ⟨ev, eS⟩ := q_end h
      exact q_lret X hr hl ev eS dX12_number_82
    · rw [if_neg g1] at h
      refine q_ldc2_w X (256) tC_X12_118 dX12_number_47 ?_
      refine q_lload X 4 rfl dX12_number_50 ?_
      refine q_lmul X dX12_number_52 ?_
      refine q_aload_n X 0 rfl dX12_number_53 ?_
      obtain ⟨a2, ea2, ma2, ka2, h⟩ := q_atE h
      refine q_getR X 1 ea2 ma2 ka2 rfl tW_X12 (by decide) (by decide) tF_X12_7 rfl dX12_number_54 ?_
      refine q_aload_n X 0 rfl dX12_number_57 ?_
      refine q_getR X 6 ea2 ma2 ka2 rfl tW_X12 (by decide) (by decide) tF_X12_20 rfl dX12_number_58 ?_
      refine q_iload_n X 1 rfl dX12_number_61 ?_
      obtain ⟨a3, ea3, ma3, ka3, h⟩ := q_atE h
      obtain ⟨g4, h⟩ := q_ifE h
      refine q_iaload X ea3 ma3 ka3 (q_inE g4) dX12_number_62 ?_
      refine q_lload_n X 2 rfl dX12_number_63 ?_
      refine q_l2i X dX12_number_64 ?_
      refine q_iadd X dX12_number_65 ?_
      refine q_iload X 5 rfl dX12_number_66 ?_
      refine q_iadd X dX12_number_68 ?_
      obtain ⟨a5, ea5, ma5, ka5, h⟩ := q_atE h
      obtain ⟨g6, h⟩ := q_ifE h
      refine q_iaload X ea5 ma5 ka5 (q_inE g6) dX12_number_69 ?_
      refine q_i2l X dX12_number_70 ?_
      refine q_ladd X dX12_number_71 ?_
      refine q_lstore X 5 [(5, .long (((256 : Int64) * l5) + ((q_I (S) a5 (((q_I (S) a3 (l1).toNatClampNeg) + (l2.toInt32)) + l7).toNatClampNeg).toInt64))), (0, va_rf (l0)), (1, .int (l1)), (2, .long (l2)), (4, .int (l4)), (7, .int (l7))] (by decide) (by first | rfl | simp [List.filter, q_catR]) dX12_number_72 ?_
      refine q_iinc X 7 5 (l7 + (1)) [(7, .int (l7 + (1))), (5, .long (((256 : Int64) * l5) + ((q_I (S) a5 (((q_I (S) a3 (l1).toNatClampNeg) + (l2.toInt32)) + l7).toNatClampNeg).toInt64))), (0, va_rf (l0)), (1, .int (l1)), (2, .long (l2)), (4, .int (l4))] rfl (congrArg (fun z => l7 + z) (show Int32.ofInt (1) = (1) by decide)) (by decide) (by first | rfl | simp [List.filter, q_catR]) dX12_number_74 ?_
      refine q_goto X 40 (by decide) dX12_number_77 ?_
      refine q_lv [2, 3, 4, 5, 1, 0] rfl ?_
      exact ih _ _ _ _ _ _ _ h
def m_X12_number (n : Nat) (S : q_S) (o : Nat) (p0 : Int32) (p1 : Int64) (p2 : Int32) : Option (Int64 × q_S) := (if p0 = (-1 : Int32) then m_X12_number_27 n (S) (some o) else (if (lg_cmp (p1) ((0 : Int64))) < 0 then m_X12_number_27 n (S) (some o) else q_at (S) (some o) 13 (fun a3 => q_at (S) (q_R (S) a3 7) 100 (fun a4 => q_if (q_in (p0) (q_N (S) a4) = true) ((if (lg_cmp ((p1 + (p2.toInt64))) (((q_I (S) a4 (p0).toNatClampNeg).toInt64))) ≤ 0 then m_X12_number_40 n n (S) (some o) (p0) (p1) (p2) ((0 : Int64)) ((0 : Int32)) else m_X12_number_27 n (S) (some o)))))))
set_option maxHeartbeats 4000000 in
set_option maxRecDepth 100000 in
theorem w_X12_number (X : q_X p s m args c cX12_number 8 RX12 q_T D cy A) (hr : meth.sig.returnType = (some .long)) (hl : meth.locks = false)  {n : Nat} {S Sv : q_S} {rv : Int64} {o : Nat} {p0 : Int32} {p1 : Int64} {p2 : Int32} (h : m_X12_number n S o p0 p1 p2 = some (rv, Sv)) : q_W p l e ({ frames := 0, cells := 0, slots := 0, locals := 0 } : Room) s m args below meth c (MQ below (va_Ql (fun (r : Int64) (u : q_S) => r = rv ∧ u = Sv) (q_B D cy A) A) args s 0 0 A) A D cy 8 0 0 S 0 [(0, va_rf (some o)), (1, .int (p0)), (2, .long (p1)), (4, .int (p2))] [] := by
  unfold m_X12_number at h
  refine q_iload_n X 1 rfl dX12_number_0 ?_
  refine q_iconst X (-1) (by decide) dX12_number_1 ?_
  refine q_icmp_eq X 27 (by decide) dX12_number_2 (fun g1 => ?_) (fun g1 => ?_)
  · rw [if_pos g1] at h
    refine q_lv [0] rfl ?_
    exact w_X12_number_27 X hr hl _ _ h
  · rw [if_neg g1] at h
    refine q_lload_n X 2 rfl dX12_number_5 ?_
    refine q_lconst X (0) (by decide) dX12_number_6 ?_
    refine q_lcmp X dX12_number_7 ?_
    refine q_if_lt X 27 (by decide) dX12_number_8 (fun g2 => ?_) (fun g2 => ?_)
    · rw [if_pos g2] at h
      refine q_lv [0] rfl ?_
      exact w_X12_number_27 X hr hl _ _ h
    · rw [if_neg g2] at h
      refine q_lload_n X 2 rfl dX12_number_11 ?_
      refine q_iload X 3 rfl dX12_number_12 ?_
      refine q_i2l X dX12_number_14 ?_
      refine q_ladd X dX12_number_15 ?_
      refine q_aload_n X 0 rfl dX12_number_16 ?_
      obtain ⟨a3, ea3, ma3, ka3, h⟩ := q_atE h
      refine q_getR X 7 ea3 ma3 ka3 rfl tW_X12 (by decide) (by decide) tF_X12_23 rfl dX12_number_17 ?_
      refine q_iload_n X 1 rfl dX12_number_20 ?_
      obtain ⟨a4, ea4, ma4, ka4, h⟩ := q_atE h
      obtain ⟨g5, h⟩ := q_ifE h
      refine q_iaload X ea4 ma4 ka4 (q_inE g5) dX12_number_21 ?_
      refine q_i2l X dX12_number_22 ?_
      refine q_lcmp X dX12_number_23 ?_
      refine q_if_le X 34 (by decide) dX12_number_24 (fun g6 => ?_) (fun g6 => ?_)
      · rw [if_pos g6] at h
        refine q_lconst X (0) (by decide) dX12_number_34 ?_
        refine q_lstore X 5 [(5, .long ((0 : Int64))), (0, va_rf (some o)), (1, .int (p0)), (2, .long (p1)), (4, .int (p2))] (by decide) (by first | rfl | simp [List.filter, q_catR]) dX12_number_35 ?_
        refine q_iconst X (0) (by decide) dX12_number_37 ?_
        refine q_istore X 7 [(7, .int ((0 : Int32))), (5, .long ((0 : Int64))), (0, va_rf (some o)), (1, .int (p0)), (2, .long (p1)), (4, .int (p2))] (by decide) (by first | rfl | simp [List.filter, q_catR]) dX12_number_38 ?_
        refine q_lv [2, 3, 4, 5, 1, 0] rfl ?_
        exact w_X12_number_40 X hr hl n _ _ _ _ _ _ _ h
      · rw [if_neg g6] at h
        refine q_lv [0] rfl ?_
        exact w_X12_number_27 X hr hl _ _ h
theorem tD_X12_number : yX12_number.cls ≠ "java/lang/invoke/MethodHandle" ∧ yX12_number.cls ≠ "java/lang/invoke/VarHandle" ∧ (parseMethodDescriptor yX12_number.desc).map (fun d => d.parameters.length) = some 3 := by decide +kernel
theorem c_X12_number {l : Launch} {D : va_G} {cy : Nat → ClassId} {n : Nat} {S Sv : q_S} {rv : Int64} {o : Nat} {p0 : Int32} {p1 : Int64} {p2 : Int32} (h : m_X12_number n S o p0 p1 p2 = some (rv, Sv)) : q_MJ l yX12_number (q_ws yX12_number cX12_number 8 ((some .long))) ({ frames := 0, cells := 0, slots := 0, locals := 0 } : Room) D cy [.ref o, .int (p0), .long (p1), .int (p2)] S rv Sv := by
  exact q_MJ_of (by decide +kernel) (Nat.le_of_ble_eq_true rfl) (fun p e s m args below meth c A X hr hl => w_X12_number X hr hl h)
/-! TrueOutlinesModel.data(II)I -/
def m_X12_data (n : Nat) (S : q_S) (o : Nat) (p0 : Int32) (p1 : Int32) : Option (Int32 × q_S) := q_at (S) (some o) 13 (fun a1 => (if (((q_I (S) a1 21) + p0) + p1) ≤ (q_I (S) a1 22) then q_b (m_X12_find n (S) a1 ((1735162214 : Int64))) (fun r3 S4 => q_at (S4) (some o) 13 (fun a6 => q_b (m_X12_number n (S4) a6 (r3) (((q_I (S4) a6 21) + p0).toInt64) (p1)) (fun r7 S8 => some (r7.toInt32, S8)))) else q_if ((1 : Int32) = 0 ∨ (1 : Int32) = 1) (some ((0 : Int32), q_sI (S) a1 8 ((1 : Int32))))))
set_option maxHeartbeats 4000000 in
set_option maxRecDepth 100000 in
theorem w_X12_data (X : q_X p s m args c cX12_data 3 RX12 q_T D cy A) (hr : meth.sig.returnType = (some .int)) (hl : meth.locks = false)  {n : Nat} {S Sv : q_S} {rv : Int32} {o : Nat} {p0 : Int32} {p1 : Int32} (h : m_X12_data n S o p0 p1 = some (rv, Sv)) : q_W p l e ({ frames := 1, cells := 0, slots := 0, locals := 27 } : Room) s m args below meth c (MQ below (va_Qi (fun (r : Int32) (u : q_S) => r = rv ∧ u = Sv) (q_B D cy A) A) args s 0 0 A) A D cy 3 0 0 S 0 [(0, va_rf (some o)), (1, .int (p0)), (2, .int (p1))] [] := by
  unfold m_X12_data at h
  refine q_aload_n X 0 rfl dX12_data_0 ?_
  obtain ⟨a1, ea1, ma1, ka1, h⟩ := q_atE h
  refine q_getI X 21 ea1 ma1 ka1 rfl tW_X12 (by decide) (by decide) tF_X12_191 rfl dX12_data_1 ?_
  refine q_iload_n X 1 rfl dX12_data_4 ?_
  refine q_iadd X dX12_data_5 ?_
  refine q_iload_n X 2 rfl dX12_data_6 ?_
  refine q_iadd X dX12_data_7 ?_
  refine q_aload_n X 0 rfl dX12_data_8 ?_
  refine q_getI X 22 ea1 ma1 ka1 rfl tW_X12 (by decide) (by decide) tF_X12_194 rfl dX12_data_9 ?_
  refine q_icmp_le X 22 (by decide) dX12_data_12 (fun g2 => ?_) (fun g2 => ?_)
  · rw [if_pos g2] at h
    refine q_aload_n X 0 rfl dX12_data_22 ?_
    refine q_aload_n X 0 rfl dX12_data_23 ?_
    refine q_ldc2_w X (1735162214) tC_X12_197 dX12_data_24 ?_
    obtain ⟨r3, S4, c5, h⟩ := q_bE h
    refine q_cVI X (As := [.long ((1735162214 : Int64))]) ea1 ma1 ka1 rfl (by decide) (c_X12_find c5) (q_cwV X tK_X12_find tM_X12_127 tI_X12_find tV_X12_find tN_X12 rfl rfl tD_X12_find ⟨Nat.le_of_ble_eq_true rfl, Nat.le_of_ble_eq_true rfl⟩) rfl rfl (by first | exact Nat.le_of_ble_eq_true rfl | (simp only [List.map, q_catR]; exact Nat.le_of_ble_eq_true rfl)) ⟨Nat.zero_le _, Nat.zero_le _⟩ dX12_data_27 ?_
    refine q_aload_n X 0 rfl dX12_data_30 ?_
    obtain ⟨a6, ea6, ma6, ka6, h⟩ := q_atE h
    refine q_getI X 21 ea6 ma6 ka6 rfl tW_X12 (by decide) (by decide) tF_X12_191 rfl dX12_data_31 ?_
    refine q_iload_n X 1 rfl dX12_data_34 ?_
    refine q_iadd X dX12_data_35 ?_
    refine q_i2l X dX12_data_36 ?_
    refine q_iload_n X 2 rfl dX12_data_37 ?_
    obtain ⟨r7, S8, c9, h⟩ := q_bE h
    refine q_cVJ X (As := [.int (r3), .long (((q_I (S4) a6 21) + p0).toInt64), .int (p1)]) ea6 ma6 ka6 rfl (by decide) (c_X12_number c9) (q_cwV X tK_X12_number tM_X12_120 tI_X12_number tV_X12_number tN_X12 rfl rfl tD_X12_number ⟨Nat.le_of_ble_eq_true rfl, Nat.le_of_ble_eq_true rfl⟩) rfl rfl (by first | exact Nat.le_of_ble_eq_true rfl | (simp only [List.map, q_catR]; exact Nat.le_of_ble_eq_true rfl)) ⟨Nat.zero_le _, Nat.zero_le _⟩ dX12_data_38 ?_
    refine q_l2i X dX12_data_41 ?_
    obtain ⟨ev, eS⟩ := q_end h
    exact q_iret X hr hl rfl ev eS dX12_data_42
  · rw [if_neg g2] at h
    refine q_aload_n X 0 rfl dX12_data_15 ?_
    refine q_iconst X (1) (by decide) dX12_data_16 ?_
    obtain ⟨g10, h⟩ := q_ifE h
    refine q_putI X 8 ea1 ma1 ka1 rfl tW_X12 (by decide) (by decide) tF_X12_114 tyX12 tyX12_ok nmX12 rfl (tyX12_ok 8 (by decide)) (q_bool g10) (q_boolF g10) rfl dX12_data_17 ?_
    have ma1 : a1 ∈ q_L (q_sI (S) a1 8 ((1 : Int32))) := q_LsI ma1
    have ka1 : q_K (q_sI (S) a1 8 ((1 : Int32))) a1 = 13 := q_KsI ka1
    refine q_iconst X (0) (by decide) dX12_data_20 ?_
    obtain ⟨ev, eS⟩ := q_end h
    exact q_iret X hr hl rfl ev eS dX12_data_21
theorem tD_X12_data : yX12_data.cls ≠ "java/lang/invoke/MethodHandle" ∧ yX12_data.cls ≠ "java/lang/invoke/VarHandle" ∧ (parseMethodDescriptor yX12_data.desc).map (fun d => d.parameters.length) = some 2 := by decide +kernel
theorem c_X12_data {l : Launch} {D : va_G} {cy : Nat → ClassId} {n : Nat} {S Sv : q_S} {rv : Int32} {o : Nat} {p0 : Int32} {p1 : Int32} (h : m_X12_data n S o p0 p1 = some (rv, Sv)) : q_MI l yX12_data (q_ws yX12_data cX12_data 3 ((some .int))) ({ frames := 1, cells := 0, slots := 0, locals := 27 } : Room) D cy [.ref o, .int (p0), .int (p1)] S rv Sv := by
  exact q_MI_of (by decide +kernel) (Nat.le_of_ble_eq_true rfl) (fun p e s m args below meth c A X hr hl => w_X12_data X hr hl h)
/-! TrueOutlinesModel.signed(I)I -/
def m_X12_signed_15 (n : Nat) (S : q_S) (s0 : Int32) : Option (Int32 × q_S) := some (s0, S)
set_option maxHeartbeats 4000000 in
set_option maxRecDepth 100000 in
theorem w_X12_signed_15 (X : q_X p s m args c cX12_signed 1 RX12 q_T D cy A) (hr : meth.sig.returnType = (some .int)) (hl : meth.locks = false)  {n : Nat} {Sv : q_S} {rv : Int32}  (S : q_S) (s0 : Int32) (h : m_X12_signed_15 n S s0 = some (rv, Sv)) : q_W p l e ({ frames := 0, cells := 0, slots := 0, locals := 0 } : Room) s m args below meth c (MQ below (va_Qi (fun (r : Int32) (u : q_S) => r = rv ∧ u = Sv) (q_B D cy A) A) args s 0 0 A) A D cy 1 0 0 S 15 [] [.int (s0)] := by
  unfold m_X12_signed_15 at h
  obtain ⟨ev, eS⟩ := q_end h
  exact q_iret X hr hl rfl ev eS dX12_signed_15
def m_X12_signed (n : Nat) (S : q_S) (p0 : Int32) : Option (Int32 × q_S) := (if p0 ≤ (32767 : Int32) then m_X12_signed_15 n (S) (p0) else m_X12_signed_15 n (S) (p0 - (65536 : Int32)))
set_option maxHeartbeats 4000000 in
set_option maxRecDepth 100000 in
theorem w_X12_signed (X : q_X p s m args c cX12_signed 1 RX12 q_T D cy A) (hr : meth.sig.returnType = (some .int)) (hl : meth.locks = false)  {n : Nat} {S Sv : q_S} {rv : Int32} {p0 : Int32} (h : m_X12_signed n S p0 = some (rv, Sv)) : q_W p l e ({ frames := 0, cells := 0, slots := 0, locals := 0 } : Room) s m args below meth c (MQ below (va_Qi (fun (r : Int32) (u : q_S) => r = rv ∧ u = Sv) (q_B D cy A) A) args s 0 0 A) A D cy 1 0 0 S 0 [(0, .int (p0))] [] := by
  unfold m_X12_signed at h
  refine q_iload_n X 0 rfl dX12_signed_0 ?_
  refine q_sipush X (32767) (by decide) dX12_signed_1 ?_
  refine q_icmp_le X 14 (by decide) dX12_signed_4 (fun g1 => ?_) (fun g1 => ?_)
  · rw [if_pos g1] at h
    refine q_iload_n X 0 rfl dX12_signed_14 ?_
    refine q_lv [] rfl ?_
    exact w_X12_signed_15 X hr hl _ _ h
  · rw [if_neg g1] at h
    refine q_iload_n X 0 rfl dX12_signed_7 ?_
    refine q_ldc X (65536) tC_X12_124 dX12_signed_8 ?_
    refine q_isub X dX12_signed_10 ?_
    refine q_goto X 15 (by decide) dX12_signed_11 ?_
    refine q_lv [] rfl ?_
    exact w_X12_signed_15 X hr hl _ _ h
theorem tD_X12_signed : yX12_signed.cls ≠ "java/lang/invoke/MethodHandle" ∧ yX12_signed.cls ≠ "java/lang/invoke/VarHandle" ∧ (parseMethodDescriptor yX12_signed.desc).map (fun d => d.parameters.length) = some 1 := by decide +kernel
theorem c_X12_signed {l : Launch} {D : va_G} {cy : Nat → ClassId} {n : Nat} {S Sv : q_S} {rv : Int32} {p0 : Int32} (h : m_X12_signed n S p0 = some (rv, Sv)) : q_MI l yX12_signed (q_ws yX12_signed cX12_signed 1 ((some .int))) ({ frames := 0, cells := 0, slots := 0, locals := 0 } : Room) D cy [.int (p0)] S rv Sv := by
  exact q_MI_of (by decide +kernel) (Nat.le_of_ble_eq_true rfl) (fun p e s m args below meth c A X hr hl => w_X12_signed X hr hl h)
/-! TrueOutlinesModel.addOne(IIIII)I -/
def m_X12_addOne_95 (n : Nat) (S : q_S) (s0 : Int32) : Option (Int32 × q_S) := some (s0, S)
set_option maxHeartbeats 4000000 in
set_option maxRecDepth 100000 in
theorem w_X12_addOne_95 (X : q_X p s m args c cX12_addOne 8 RX12 q_T D cy A) (hr : meth.sig.returnType = (some .int)) (hl : meth.locks = false)  {n : Nat} {Sv : q_S} {rv : Int32}  (S : q_S) (s0 : Int32) (h : m_X12_addOne_95 n S s0 = some (rv, Sv)) : q_W p l e ({ frames := 2, cells := 0, slots := 0, locals := 49 } : Room) s m args below meth c (MQ below (va_Qi (fun (r : Int32) (u : q_S) => r = rv ∧ u = Sv) (q_B D cy A) A) args s 0 0 A) A D cy 8 0 0 S 95 [] [.int (s0)] := by
  unfold m_X12_addOne_95 at h
  obtain ⟨ev, eS⟩ := q_end h
  exact q_iret X hr hl rfl ev eS dX12_addOne_95
def m_X12_addOne_82 (n : Nat) (S : q_S) (l6 : Int32) (s0 : Int32) (s1 : Option Nat) : Option (Int32 × q_S) := q_at (S) (s1) 13 (fun a1 => (if l6 = 0 then m_X12_addOne_95 n (q_sI (S) a1 42 (s0)) ((2 : Int32)) else m_X12_addOne_95 n (q_sI (S) a1 42 (s0)) ((0 : Int32))))
set_option maxHeartbeats 4000000 in
set_option maxRecDepth 100000 in
theorem w_X12_addOne_82 (X : q_X p s m args c cX12_addOne 8 RX12 q_T D cy A) (hr : meth.sig.returnType = (some .int)) (hl : meth.locks = false)  {n : Nat} {Sv : q_S} {rv : Int32}  (S : q_S) (l6 : Int32) (s0 : Int32) (s1 : Option Nat) (h : m_X12_addOne_82 n S l6 s0 s1 = some (rv, Sv)) : q_W p l e ({ frames := 2, cells := 0, slots := 0, locals := 49 } : Room) s m args below meth c (MQ below (va_Qi (fun (r : Int32) (u : q_S) => r = rv ∧ u = Sv) (q_B D cy A) A) args s 0 0 A) A D cy 8 0 0 S 82 [(6, .int (l6))] [.int (s0), va_rf (s1)] := by
  unfold m_X12_addOne_82 at h
  obtain ⟨a1, ea1, ma1, ka1, h⟩ := q_atE h
  refine q_putI X 42 ea1 ma1 ka1 rfl tW_X12 (by decide) (by decide) tF_X12_207 tyX12 tyX12_ok nmX12 rfl (tyX12_ok 42 (by decide)) rfl rfl rfl dX12_addOne_82 ?_
  have ma1 : a1 ∈ q_L (q_sI (S) a1 42 (s0)) := q_LsI ma1
  have ka1 : q_K (q_sI (S) a1 42 (s0)) a1 = 13 := q_KsI ka1
  refine q_iload X 0 rfl dX12_addOne_85 ?_
  refine q_if_eq X 94 (by decide) dX12_addOne_87 (fun g2 => ?_) (fun g2 => ?_)
  · rw [if_pos g2] at h
    refine q_iconst X (2) (by decide) dX12_addOne_94 ?_
    refine q_lv [] rfl ?_
    exact w_X12_addOne_95 X hr hl _ _ h
  · rw [if_neg g2] at h
    refine q_iconst X (0) (by decide) dX12_addOne_90 ?_
    refine q_goto X 95 (by decide) dX12_addOne_91 ?_
    refine q_lv [] rfl ?_
    exact w_X12_addOne_95 X hr hl _ _ h
def m_X12_addOne_56 (n : Nat) (S : q_S) (s0 : Int32) (s1 : Option Nat) : Option (Int32 × q_S) := q_at (S) (s1) 13 (fun a1 => some ((1 : Int32), q_sI (S) a1 42 (s0)))
set_option maxHeartbeats 4000000 in
set_option maxRecDepth 100000 in
theorem w_X12_addOne_56 (X : q_X p s m args c cX12_addOne 8 RX12 q_T D cy A) (hr : meth.sig.returnType = (some .int)) (hl : meth.locks = false)  {n : Nat} {Sv : q_S} {rv : Int32}  (S : q_S) (s0 : Int32) (s1 : Option Nat) (h : m_X12_addOne_56 n S s0 s1 = some (rv, Sv)) : q_W p l e ({ frames := 2, cells := 0, slots := 0, locals := 49 } : Room) s m args below meth c (MQ below (va_Qi (fun (r : Int32) (u : q_S) => r = rv ∧ u = Sv) (q_B D cy A) A) args s 0 0 A) A D cy 8 0 0 S 56 [] [.int (s0), va_rf (s1)] := by
  unfold m_X12_addOne_56 at h
  obtain ⟨a1, ea1, ma1, ka1, h⟩ := q_atE h
  refine q_putI X 42 ea1 ma1 ka1 rfl tW_X12 (by decide) (by decide) tF_X12_207 tyX12 tyX12_ok nmX12 rfl (tyX12_ok 42 (by decide)) rfl rfl rfl dX12_addOne_56 ?_
  have ma1 : a1 ∈ q_L (q_sI (S) a1 42 (s0)) := q_LsI ma1
  have ka1 : q_K (q_sI (S) a1 42 (s0)) a1 = 13 := q_KsI ka1
  refine q_iconst X (1) (by decide) dX12_addOne_59 ?_
  obtain ⟨ev, eS⟩ := q_end h
  exact q_iret X hr hl rfl ev eS dX12_addOne_60
def m_X12_addOne_17 (n : Nat) (S : q_S) (l0 : Option Nat) (l1 : Int32) (l2 : Int32) (l3 : Int32) (l4 : Int32) (s0 : Int32) : Option (Int32 × q_S) := q_at (S) (l0) 13 (fun a1 => q_at (S) (q_R (S) a1 20) 100 (fun a2 => q_if (q_in (l1) (q_N (S) a2) = true) ((if ((q_I (S) a2 (l1).toNatClampNeg) &&& l4) = 0 then (if s0 = 0 then q_b (m_X12_data n (S) a1 (l2) ((2 : Int32))) (fun r6 S7 => q_b (m_X12_signed n (S7) (r6)) (fun r9 S10 => m_X12_addOne_82 n (S10) (s0) (l3 + r9) (l0))) else m_X12_addOne_82 n (S) (s0) (l3) (l0)) else q_b (m_X12_data n (S) a1 (l2) ((1 : Int32))) (fun r12 S13 => (if s0 = 0 then m_X12_addOne_56 n (S13) (l3 - r12) (l0) else m_X12_addOne_56 n (S13) (l3 + r12) (l0)))))))
set_option maxHeartbeats 4000000 in
set_option maxRecDepth 100000 in
theorem w_X12_addOne_17 (X : q_X p s m args c cX12_addOne 8 RX12 q_T D cy A) (hr : meth.sig.returnType = (some .int)) (hl : meth.locks = false)  {n : Nat} {Sv : q_S} {rv : Int32}  (S : q_S) (l0 : Option Nat) (l1 : Int32) (l2 : Int32) (l3 : Int32) (l4 : Int32) (s0 : Int32) (h : m_X12_addOne_17 n S l0 l1 l2 l3 l4 s0 = some (rv, Sv)) : q_W p l e ({ frames := 2, cells := 0, slots := 0, locals := 49 } : Room) s m args below meth c (MQ below (va_Qi (fun (r : Int32) (u : q_S) => r = rv ∧ u = Sv) (q_B D cy A) A) args s 0 0 A) A D cy 8 0 0 S 17 [(0, va_rf (l0)), (1, .int (l1)), (2, .int (l2)), (3, .int (l3)), (4, .int (l4))] [.int (s0)] := by
  unfold m_X12_addOne_17 at h
  refine q_istore X 6 [(6, .int (s0)), (0, va_rf (l0)), (1, .int (l1)), (2, .int (l2)), (3, .int (l3)), (4, .int (l4))] (by decide) (by first | rfl | simp [List.filter, q_catR]) dX12_addOne_17 ?_
  refine q_aload_n X 1 rfl dX12_addOne_19 ?_
  obtain ⟨a1, ea1, ma1, ka1, h⟩ := q_atE h
  refine q_getR X 20 ea1 ma1 ka1 rfl tW_X12 (by decide) (by decide) tF_X12_51 rfl dX12_addOne_20 ?_
  refine q_iload_n X 2 rfl dX12_addOne_23 ?_
  obtain ⟨a2, ea2, ma2, ka2, h⟩ := q_atE h
  obtain ⟨g3, h⟩ := q_ifE h
  refine q_iaload X ea2 ma2 ka2 (q_inE g3) dX12_addOne_24 ?_
  refine q_iload X 5 rfl dX12_addOne_25 ?_
  refine q_iand X dX12_addOne_27 ?_
  refine q_if_eq X 61 (by decide) dX12_addOne_28 (fun g4 => ?_) (fun g4 => ?_)
  · rw [if_pos g4] at h
    refine q_aload_n X 1 rfl dX12_addOne_61 ?_
    refine q_iload X 0 rfl dX12_addOne_62 ?_
    refine q_if_eq X 71 (by decide) dX12_addOne_64 (fun g5 => ?_) (fun g5 => ?_)
    · rw [if_pos g5] at h
      refine q_iload_n X 4 rfl dX12_addOne_71 ?_
      refine q_aload_n X 1 rfl dX12_addOne_72 ?_
      refine q_iload_n X 3 rfl dX12_addOne_73 ?_
      refine q_iconst X (2) (by decide) dX12_addOne_74 ?_
      obtain ⟨r6, S7, c8, h⟩ := q_bE h
      refine q_cVI X (As := [.int (l2), .int ((2 : Int32))]) ea1 ma1 ka1 rfl (by decide) (c_X12_data c8) (q_cwV X tK_X12_data tM_X12_199 tI_X12_data tV_X12_data tN_X12 rfl rfl tD_X12_data ⟨Nat.le_of_ble_eq_true rfl, Nat.le_of_ble_eq_true rfl⟩) rfl rfl (by first | exact Nat.le_of_ble_eq_true rfl | (simp only [List.map, q_catR]; exact Nat.le_of_ble_eq_true rfl)) ⟨Nat.zero_le _, Nat.zero_le _⟩ dX12_addOne_75 ?_
      obtain ⟨r9, S10, c11, h⟩ := q_bE h
      refine q_cSI X (As := [.int (r6)]) (c_X12_signed c11) (q_cwS X tK_X12_signed tM_X12_210 tS_X12_signed tN_X12 rfl rfl tD_X12_signed ⟨Nat.le_of_ble_eq_true rfl, Nat.le_of_ble_eq_true rfl⟩) rfl rfl (by first | exact Nat.le_of_ble_eq_true rfl | (simp only [List.map, q_catR]; exact Nat.le_of_ble_eq_true rfl)) ⟨Nat.zero_le _, Nat.zero_le _⟩ dX12_addOne_78 ?_
      refine q_iadd X dX12_addOne_81 ?_
      refine q_lv [0] rfl ?_
      exact w_X12_addOne_82 X hr hl _ _ _ _ h
    · rw [if_neg g5] at h
      refine q_iload_n X 4 rfl dX12_addOne_67 ?_
      refine q_goto X 82 (by decide) dX12_addOne_68 ?_
      refine q_lv [0] rfl ?_
      exact w_X12_addOne_82 X hr hl _ _ _ _ h
  · rw [if_neg g4] at h
    refine q_aload_n X 1 rfl dX12_addOne_31 ?_
    refine q_iload_n X 3 rfl dX12_addOne_32 ?_
    refine q_iconst X (1) (by decide) dX12_addOne_33 ?_
    obtain ⟨r12, S13, c14, h⟩ := q_bE h
    refine q_cVI X (As := [.int (l2), .int ((1 : Int32))]) ea1 ma1 ka1 rfl (by decide) (c_X12_data c14) (q_cwV X tK_X12_data tM_X12_199 tI_X12_data tV_X12_data tN_X12 rfl rfl tD_X12_data ⟨Nat.le_of_ble_eq_true rfl, Nat.le_of_ble_eq_true rfl⟩) rfl rfl (by first | exact Nat.le_of_ble_eq_true rfl | (simp only [List.map, q_catR]; exact Nat.le_of_ble_eq_true rfl)) ⟨Nat.zero_le _, Nat.zero_le _⟩ dX12_addOne_34 ?_
    refine q_istore X 7 [(7, .int (r12)), (6, .int (s0)), (0, va_rf (l0)), (1, .int (l1)), (2, .int (l2)), (3, .int (l3)), (4, .int (l4))] (by decide) (by first | rfl | simp [List.filter, q_catR]) dX12_addOne_37 ?_
    refine q_aload_n X 2 rfl dX12_addOne_39 ?_
    refine q_iload X 1 rfl dX12_addOne_40 ?_
    refine q_if_eq X 52 (by decide) dX12_addOne_42 (fun g15 => ?_) (fun g15 => ?_)
    · rw [if_pos g15] at h
      refine q_iload_n X 5 rfl dX12_addOne_52 ?_
      refine q_iload X 0 rfl dX12_addOne_53 ?_
      refine q_isub X dX12_addOne_55 ?_
      refine q_lv [] rfl ?_
      exact w_X12_addOne_56 X hr hl _ _ _ h
    · rw [if_neg g15] at h
      refine q_iload_n X 5 rfl dX12_addOne_45 ?_
      refine q_iload X 0 rfl dX12_addOne_46 ?_
      refine q_iadd X dX12_addOne_48 ?_
      refine q_goto X 56 (by decide) dX12_addOne_49 ?_
      refine q_lv [] rfl ?_
      exact w_X12_addOne_56 X hr hl _ _ _ h
def m_X12_addOne (n : Nat) (S : q_S) (o : Nat) (p0 : Int32) (p1 : Int32) (p2 : Int32) (p3 : Int32) (p4 : Int32) : Option (Int32 × q_S) := q_at (S) (some o) 13 (fun a1 => q_at (S) (q_R (S) a1 20) 100 (fun a2 => q_if (q_in (p0) (q_N (S) a2) = true) ((if ((q_I (S) a2 (p0).toNatClampNeg) &&& p4) = 0 then m_X12_addOne_17 n (S) (some o) (p0) (p1) (p2) (p3) ((0 : Int32)) else m_X12_addOne_17 n (S) (some o) (p0) (p1) (p2) (p3) ((1 : Int32))))))
set_option maxHeartbeats 4000000 in
set_option maxRecDepth 100000 in
theorem w_X12_addOne (X : q_X p s m args c cX12_addOne 8 RX12 q_T D cy A) (hr : meth.sig.returnType = (some .int)) (hl : meth.locks = false)  {n : Nat} {S Sv : q_S} {rv : Int32} {o : Nat} {p0 : Int32} {p1 : Int32} {p2 : Int32} {p3 : Int32} {p4 : Int32} (h : m_X12_addOne n S o p0 p1 p2 p3 p4 = some (rv, Sv)) : q_W p l e ({ frames := 2, cells := 0, slots := 0, locals := 49 } : Room) s m args below meth c (MQ below (va_Qi (fun (r : Int32) (u : q_S) => r = rv ∧ u = Sv) (q_B D cy A) A) args s 0 0 A) A D cy 8 0 0 S 0 [(0, va_rf (some o)), (1, .int (p0)), (2, .int (p1)), (3, .int (p2)), (4, .int (p3)), (5, .int (p4))] [] := by
  unfold m_X12_addOne at h
  refine q_aload_n X 0 rfl dX12_addOne_0 ?_
  obtain ⟨a1, ea1, ma1, ka1, h⟩ := q_atE h
  refine q_getR X 20 ea1 ma1 ka1 rfl tW_X12 (by decide) (by decide) tF_X12_51 rfl dX12_addOne_1 ?_
  refine q_iload_n X 1 rfl dX12_addOne_4 ?_
  obtain ⟨a2, ea2, ma2, ka2, h⟩ := q_atE h
  obtain ⟨g3, h⟩ := q_ifE h
  refine q_iaload X ea2 ma2 ka2 (q_inE g3) dX12_addOne_5 ?_
  refine q_iload X 5 rfl dX12_addOne_6 ?_
  refine q_iand X dX12_addOne_8 ?_
  refine q_if_eq X 16 (by decide) dX12_addOne_9 (fun g4 => ?_) (fun g4 => ?_)
  · rw [if_pos g4] at h
    refine q_iconst X (0) (by decide) dX12_addOne_16 ?_
    refine q_lv [0, 1, 2, 3, 4] rfl ?_
    exact w_X12_addOne_17 X hr hl _ _ _ _ _ _ _ h
  · rw [if_neg g4] at h
    refine q_iconst X (1) (by decide) dX12_addOne_12 ?_
    refine q_goto X 17 (by decide) dX12_addOne_13 ?_
    refine q_lv [0, 1, 2, 3, 4] rfl ?_
    exact w_X12_addOne_17 X hr hl _ _ _ _ _ _ _ h
theorem tD_X12_addOne : yX12_addOne.cls ≠ "java/lang/invoke/MethodHandle" ∧ yX12_addOne.cls ≠ "java/lang/invoke/VarHandle" ∧ (parseMethodDescriptor yX12_addOne.desc).map (fun d => d.parameters.length) = some 5 := by decide +kernel
theorem c_X12_addOne {l : Launch} {D : va_G} {cy : Nat → ClassId} {n : Nat} {S Sv : q_S} {rv : Int32} {o : Nat} {p0 : Int32} {p1 : Int32} {p2 : Int32} {p3 : Int32} {p4 : Int32} (h : m_X12_addOne n S o p0 p1 p2 p3 p4 = some (rv, Sv)) : q_MI l yX12_addOne (q_ws yX12_addOne cX12_addOne 8 ((some .int))) ({ frames := 2, cells := 0, slots := 0, locals := 49 } : Room) D cy [.ref o, .int (p0), .int (p1), .int (p2), .int (p3), .int (p4)] S rv Sv := by
  exact q_MI_of (by decide +kernel) (Nat.le_of_ble_eq_true rfl) (fun p e s m args below meth c A X hr hl => w_X12_addOne X hr hl h)
/-! TrueOutlinesModel.addSimple(I)Z -/
def m_X12_addSimple_493 (n : Nat) (S : q_S) (l0 : Option Nat) (l4 : Int32) (l5 : Int32) (l6 : Int32) : Option (Int32 × q_S) := (if l6 = 0 then q_at (S) (l0) 13 (fun a4 => q_if ((0 : Int32) = 0 ∨ (0 : Int32) = 1) (some ((0 : Int32), q_sI (S) a4 18 (l4)))) else q_at (S) (l0) 13 (fun a2 => q_if ((1 : Int32) = 0 ∨ (1 : Int32) = 1) (some ((1 : Int32), q_sI (S) a2 14 ((q_I (S) a2 14) + l5)))))
set_option maxHeartbeats 4000000 in
set_option maxRecDepth 100000 in
theorem w_X12_addSimple_493 (X : q_X p s m args c cX12_addSimple 11 RX12 q_T D cy A) (hr : meth.sig.returnType = (some .boolean)) (hl : meth.locks = false)  {n : Nat} {Sv : q_S} {rv : Int32}  (S : q_S) (l0 : Option Nat) (l4 : Int32) (l5 : Int32) (l6 : Int32) (h : m_X12_addSimple_493 n S l0 l4 l5 l6 = some (rv, Sv)) : q_W p l e ({ frames := 3, cells := 0, slots := 0, locals := 76 } : Room) s m args below meth c (MQ below (va_Qi (fun (r : Int32) (u : q_S) => r = rv ∧ u = Sv) (q_B D cy A) A) args s 0 0 A) A D cy 11 0 0 S 493 [(0, va_rf (l0)), (4, .int (l4)), (5, .int (l5)), (6, .int (l6))] [] := by
  unfold m_X12_addSimple_493 at h
  refine q_iload X 3 rfl dX12_addSimple_493 ?_
  refine q_if_ne X 506 (by decide) dX12_addSimple_495 (fun g1 => ?_) (fun g1 => ?_)
  · rw [if_neg g1] at h
    refine q_aload_n X 0 rfl dX12_addSimple_506 ?_
    refine q_dup X (q_catR _) dX12_addSimple_507 ?_
    obtain ⟨a2, ea2, ma2, ka2, h⟩ := q_atE h
    refine q_getI X 14 ea2 ma2 ka2 rfl tW_X12 (by decide) (by decide) tF_X12_136 rfl dX12_addSimple_508 ?_
    refine q_iload X 2 rfl dX12_addSimple_511 ?_
    refine q_iadd X dX12_addSimple_513 ?_
    refine q_putI X 14 ea2 ma2 ka2 rfl tW_X12 (by decide) (by decide) tF_X12_136 tyX12 tyX12_ok nmX12 rfl (tyX12_ok 14 (by decide)) rfl rfl rfl dX12_addSimple_514 ?_
    have ma2 : a2 ∈ q_L (q_sI (S) a2 14 ((q_I (S) a2 14) + l5)) := q_LsI ma2
    have ka2 : q_K (q_sI (S) a2 14 ((q_I (S) a2 14) + l5)) a2 = 13 := q_KsI ka2
    refine q_iconst X (1) (by decide) dX12_addSimple_517 ?_
    obtain ⟨g3, h⟩ := q_ifE h
    obtain ⟨ev, eS⟩ := q_end h
    exact q_iret X hr hl (q_bool g3) ev eS dX12_addSimple_518
  · rw [if_pos g1] at h
    refine q_aload_n X 0 rfl dX12_addSimple_498 ?_
    refine q_iload X 1 rfl dX12_addSimple_499 ?_
    obtain ⟨a4, ea4, ma4, ka4, h⟩ := q_atE h
    refine q_putI X 18 ea4 ma4 ka4 rfl tW_X12 (by decide) (by decide) tF_X12_139 tyX12 tyX12_ok nmX12 rfl (tyX12_ok 18 (by decide)) rfl rfl rfl dX12_addSimple_501 ?_
    have ma4 : a4 ∈ q_L (q_sI (S) a4 18 (l4)) := q_LsI ma4
    have ka4 : q_K (q_sI (S) a4 18 (l4)) a4 = 13 := q_KsI ka4
    refine q_iconst X (0) (by decide) dX12_addSimple_504 ?_
    obtain ⟨g5, h⟩ := q_ifE h
    obtain ⟨ev, eS⟩ := q_end h
    exact q_iret X hr hl (q_bool g5) ev eS dX12_addSimple_505
def m_X12_addSimple_487 (n : Nat) (k412 : q_S → Option Nat → Int32 → Int32 → Int32 → Int32 → Int32 → Int32 → Option (Int32 × q_S)) (S : q_S) (l0 : Option Nat) (l2 : Int32) (l4 : Int32) (l5 : Int32) (l6 : Int32) (l8 : Int32) (l9 : Int32) : Option (Int32 × q_S) := k412 (S) (l0) (l2) (l4) (l5) (l6) (l8) (l9 + (1))
set_option maxHeartbeats 4000000 in
set_option maxRecDepth 100000 in
theorem w_X12_addSimple_487 (X : q_X p s m args c cX12_addSimple 11 RX12 q_T D cy A) (hr : meth.sig.returnType = (some .boolean)) (hl : meth.locks = false)  {n : Nat} {Sv : q_S} {rv : Int32}  {k412 : q_S → Option Nat → Int32 → Int32 → Int32 → Int32 → Int32 → Int32 → Option (Int32 × q_S)} (hk412 : ∀ (S : q_S) (z0 : Option Nat) (z1 : Int32) (z2 : Int32) (z3 : Int32) (z4 : Int32) (z5 : Int32) (z6 : Int32), k412 S z0 z1 z2 z3 z4 z5 z6 = some (rv, Sv) → q_W p l e ({ frames := 3, cells := 0, slots := 0, locals := 76 } : Room) s m args below meth c (MQ below (va_Qi (fun (r : Int32) (u : q_S) => r = rv ∧ u = Sv) (q_B D cy A) A) args s 0 0 A) A D cy 11 0 0 S 412 [(0, va_rf (z0)), (2, .int (z1)), (4, .int (z2)), (5, .int (z3)), (6, .int (z4)), (8, .int (z5)), (9, .int (z6))] []) (S : q_S) (l0 : Option Nat) (l2 : Int32) (l4 : Int32) (l5 : Int32) (l6 : Int32) (l8 : Int32) (l9 : Int32) (h : m_X12_addSimple_487 n k412 S l0 l2 l4 l5 l6 l8 l9 = some (rv, Sv)) : q_W p l e ({ frames := 3, cells := 0, slots := 0, locals := 76 } : Room) s m args below meth c (MQ below (va_Qi (fun (r : Int32) (u : q_S) => r = rv ∧ u = Sv) (q_B D cy A) A) args s 0 0 A) A D cy 11 0 0 S 487 [(0, va_rf (l0)), (2, .int (l2)), (4, .int (l4)), (5, .int (l5)), (6, .int (l6)), (8, .int (l8)), (9, .int (l9))] [] := by
  unfold m_X12_addSimple_487 at h
  refine q_iinc X 9 6 (l9 + (1)) [(9, .int (l9 + (1))), (0, va_rf (l0)), (2, .int (l2)), (4, .int (l4)), (5, .int (l5)), (6, .int (l6)), (8, .int (l8))] rfl (congrArg (fun z => l9 + z) (show Int32.ofInt (1) = (1) by decide)) (by decide) (by first | rfl | simp [List.filter, q_catR]) dX12_addSimple_487 ?_
  refine q_goto X 412 (by decide) dX12_addSimple_490 ?_
  refine q_lv [1, 2, 3, 4, 5, 6, 0] rfl ?_
  exact hk412 _ _ _ _ _ _ _ _ h
def m_X12_addSimple_466 (n : Nat) (k412 : q_S → Option Nat → Int32 → Int32 → Int32 → Int32 → Int32 → Int32 → Option (Int32 × q_S)) (S : q_S) (l0 : Option Nat) (l2 : Int32) (l4 : Int32) (l5 : Int32) (l6 : Int32) (l9 : Int32) (s0 : Int32) : Option (Int32 × q_S) := (if l6 = 0 then m_X12_addSimple_487 n k412 (S) (l0) (l2) (l4) (l5) (l6) (s0) (l9) else q_at (S) (l0) 13 (fun a2 => q_at (S) (q_R (S) a2 16) 100 (fun a3 => q_if (q_in ((q_I (S) a2 14) + l9) (q_N (S) a3) = true) (m_X12_addSimple_487 n k412 (q_sI (S) a3 ((q_I (S) a2 14) + l9).toNatClampNeg (s0)) (l0) (l2) (l4) (l5) (l6) (s0) (l9)))))
set_option maxHeartbeats 4000000 in
set_option maxRecDepth 100000 in
theorem w_X12_addSimple_466 (X : q_X p s m args c cX12_addSimple 11 RX12 q_T D cy A) (hr : meth.sig.returnType = (some .boolean)) (hl : meth.locks = false)  {n : Nat} {Sv : q_S} {rv : Int32}  {k412 : q_S → Option Nat → Int32 → Int32 → Int32 → Int32 → Int32 → Int32 → Option (Int32 × q_S)} (hk412 : ∀ (S : q_S) (z0 : Option Nat) (z1 : Int32) (z2 : Int32) (z3 : Int32) (z4 : Int32) (z5 : Int32) (z6 : Int32), k412 S z0 z1 z2 z3 z4 z5 z6 = some (rv, Sv) → q_W p l e ({ frames := 3, cells := 0, slots := 0, locals := 76 } : Room) s m args below meth c (MQ below (va_Qi (fun (r : Int32) (u : q_S) => r = rv ∧ u = Sv) (q_B D cy A) A) args s 0 0 A) A D cy 11 0 0 S 412 [(0, va_rf (z0)), (2, .int (z1)), (4, .int (z2)), (5, .int (z3)), (6, .int (z4)), (8, .int (z5)), (9, .int (z6))] []) (S : q_S) (l0 : Option Nat) (l2 : Int32) (l4 : Int32) (l5 : Int32) (l6 : Int32) (l9 : Int32) (s0 : Int32) (h : m_X12_addSimple_466 n k412 S l0 l2 l4 l5 l6 l9 s0 = some (rv, Sv)) : q_W p l e ({ frames := 3, cells := 0, slots := 0, locals := 76 } : Room) s m args below meth c (MQ below (va_Qi (fun (r : Int32) (u : q_S) => r = rv ∧ u = Sv) (q_B D cy A) A) args s 0 0 A) A D cy 11 0 0 S 466 [(0, va_rf (l0)), (2, .int (l2)), (4, .int (l4)), (5, .int (l5)), (6, .int (l6)), (9, .int (l9))] [.int (s0)] := by
  unfold m_X12_addSimple_466 at h
  refine q_istore X 8 [(8, .int (s0)), (0, va_rf (l0)), (2, .int (l2)), (4, .int (l4)), (5, .int (l5)), (6, .int (l6)), (9, .int (l9))] (by decide) (by first | rfl | simp [List.filter, q_catR]) dX12_addSimple_466 ?_
  refine q_iload X 5 rfl dX12_addSimple_468 ?_
  refine q_if_eq X 487 (by decide) dX12_addSimple_470 (fun g1 => ?_) (fun g1 => ?_)
  · rw [if_pos g1] at h
    refine q_lv [1, 2, 3, 4, 5, 0, 6] rfl ?_
    exact w_X12_addSimple_487 X hr hl hk412 _ _ _ _ _ _ _ _ h
  · rw [if_neg g1] at h
    refine q_aload_n X 1 rfl dX12_addSimple_473 ?_
    obtain ⟨a2, ea2, ma2, ka2, h⟩ := q_atE h
    refine q_getR X 16 ea2 ma2 ka2 rfl tW_X12 (by decide) (by decide) tF_X12_42 rfl dX12_addSimple_474 ?_
    refine q_aload_n X 1 rfl dX12_addSimple_477 ?_
    refine q_getI X 14 ea2 ma2 ka2 rfl tW_X12 (by decide) (by decide) tF_X12_136 rfl dX12_addSimple_478 ?_
    refine q_iload X 6 rfl dX12_addSimple_481 ?_
    refine q_iadd X dX12_addSimple_483 ?_
    refine q_iload X 0 rfl dX12_addSimple_484 ?_
    obtain ⟨a3, ea3, ma3, ka3, h⟩ := q_atE h
    obtain ⟨g4, h⟩ := q_ifE h
    refine q_iastore X ea3 ma3 ka3 (q_inE g4) dX12_addSimple_486 ?_
    have ma2 : a2 ∈ q_L (q_sI (S) a3 ((q_I (S) a2 14) + l9).toNatClampNeg (s0)) := q_LsI ma2
    have ka2 : q_K (q_sI (S) a3 ((q_I (S) a2 14) + l9).toNatClampNeg (s0)) a2 = 13 := q_KsI ka2
    have ma3 : a3 ∈ q_L (q_sI (S) a3 ((q_I (S) a2 14) + l9).toNatClampNeg (s0)) := q_LsI ma3
    have ka3 : q_K (q_sI (S) a3 ((q_I (S) a2 14) + l9).toNatClampNeg (s0)) a3 = 100 := q_KsI ka3
    refine q_lv [1, 2, 3, 4, 5, 0, 6] rfl ?_
    exact w_X12_addSimple_487 X hr hl hk412 _ _ _ _ _ _ _ _ h
def m_X12_addSimple_451 (n : Nat) (k412 : q_S → Option Nat → Int32 → Int32 → Int32 → Int32 → Int32 → Int32 → Option (Int32 × q_S)) (S : q_S) (l0 : Option Nat) (l2 : Int32) (l4 : Int32) (l5 : Int32) (l9 : Int32) (s0 : Int32) : Option (Int32 × q_S) := (if s0 = 0 then m_X12_addSimple_466 n k412 (S) (l0) (l2) (l4) (l5) (s0) (l9) ((0 : Int32)) else q_at (S) (l0) 13 (fun a2 => m_X12_addSimple_466 n k412 (S) (l0) (l2) (l4) (l5) (s0) (l9) (q_I (S) a2 42)))
set_option maxHeartbeats 4000000 in
set_option maxRecDepth 100000 in
theorem w_X12_addSimple_451 (X : q_X p s m args c cX12_addSimple 11 RX12 q_T D cy A) (hr : meth.sig.returnType = (some .boolean)) (hl : meth.locks = false)  {n : Nat} {Sv : q_S} {rv : Int32}  {k412 : q_S → Option Nat → Int32 → Int32 → Int32 → Int32 → Int32 → Int32 → Option (Int32 × q_S)} (hk412 : ∀ (S : q_S) (z0 : Option Nat) (z1 : Int32) (z2 : Int32) (z3 : Int32) (z4 : Int32) (z5 : Int32) (z6 : Int32), k412 S z0 z1 z2 z3 z4 z5 z6 = some (rv, Sv) → q_W p l e ({ frames := 3, cells := 0, slots := 0, locals := 76 } : Room) s m args below meth c (MQ below (va_Qi (fun (r : Int32) (u : q_S) => r = rv ∧ u = Sv) (q_B D cy A) A) args s 0 0 A) A D cy 11 0 0 S 412 [(0, va_rf (z0)), (2, .int (z1)), (4, .int (z2)), (5, .int (z3)), (6, .int (z4)), (8, .int (z5)), (9, .int (z6))] []) (S : q_S) (l0 : Option Nat) (l2 : Int32) (l4 : Int32) (l5 : Int32) (l9 : Int32) (s0 : Int32) (h : m_X12_addSimple_451 n k412 S l0 l2 l4 l5 l9 s0 = some (rv, Sv)) : q_W p l e ({ frames := 3, cells := 0, slots := 0, locals := 76 } : Room) s m args below meth c (MQ below (va_Qi (fun (r : Int32) (u : q_S) => r = rv ∧ u = Sv) (q_B D cy A) A) args s 0 0 A) A D cy 11 0 0 S 451 [(0, va_rf (l0)), (2, .int (l2)), (4, .int (l4)), (5, .int (l5)), (9, .int (l9))] [.int (s0)] := by
  unfold m_X12_addSimple_451 at h
  refine q_istore X 6 [(6, .int (s0)), (0, va_rf (l0)), (2, .int (l2)), (4, .int (l4)), (5, .int (l5)), (9, .int (l9))] (by decide) (by first | rfl | simp [List.filter, q_catR]) dX12_addSimple_451 ?_
  refine q_iload X 0 rfl dX12_addSimple_453 ?_
  refine q_if_eq X 465 (by decide) dX12_addSimple_455 (fun g1 => ?_) (fun g1 => ?_)
  · rw [if_pos g1] at h
    refine q_iconst X (0) (by decide) dX12_addSimple_465 ?_
    refine q_lv [1, 2, 3, 4, 0, 5] rfl ?_
    exact w_X12_addSimple_466 X hr hl hk412 _ _ _ _ _ _ _ _ h
  · rw [if_neg g1] at h
    refine q_aload_n X 1 rfl dX12_addSimple_458 ?_
    obtain ⟨a2, ea2, ma2, ka2, h⟩ := q_atE h
    refine q_getI X 42 ea2 ma2 ka2 rfl tW_X12 (by decide) (by decide) tF_X12_207 rfl dX12_addSimple_459 ?_
    refine q_goto X 466 (by decide) dX12_addSimple_462 ?_
    refine q_lv [1, 2, 3, 4, 0, 5] rfl ?_
    exact w_X12_addSimple_466 X hr hl hk412 _ _ _ _ _ _ _ _ h
def m_X12_addSimple_412 (n : Nat) : Nat → q_S → Option Nat → Int32 → Int32 → Int32 → Int32 → Int32 → Int32 → Option (Int32 × q_S)
  | 0, _, _, _, _, _, _, _, _ => none
  | k + 1, S, l0, l2, l4, l5, l6, l8, l9 => (if l5 ≤ l9 then m_X12_addSimple_493 n (S) (l0) (l4) (l5) (l6) else (if l6 = 0 then m_X12_addSimple_493 n (S) (l0) (l4) (l5) (l6) else q_at (S) (l0) 13 (fun a3 => q_b (m_X12_addOne n (S) a3 (l9) (l2) (l8) ((4 : Int32)) ((32 : Int32))) (fun r4 S5 => q_at (S5) (l0) 13 (fun a7 => (if (q_I (S5) a7 8) = 0 then m_X12_addSimple_451 n (m_X12_addSimple_412 n k) (S5) (l0) (l2 + r4) (l4) (l5) (l9) ((1 : Int32)) else m_X12_addSimple_451 n (m_X12_addSimple_412 n k) (S5) (l0) (l2 + r4) (l4) (l5) (l9) ((0 : Int32))))))))
set_option maxHeartbeats 4000000 in
set_option maxRecDepth 100000 in
theorem w_X12_addSimple_412 (X : q_X p s m args c cX12_addSimple 11 RX12 q_T D cy A) (hr : meth.sig.returnType = (some .boolean)) (hl : meth.locks = false)  {n : Nat} {Sv : q_S} {rv : Int32}  : ∀ (k : Nat) (S : q_S) (l0 : Option Nat) (l2 : Int32) (l4 : Int32) (l5 : Int32) (l6 : Int32) (l8 : Int32) (l9 : Int32), m_X12_addSimple_412 n k S l0 l2 l4 l5 l6 l8 l9 = some (rv, Sv) → q_W p l e ({ frames := 3, cells := 0, slots := 0, locals := 76 } : Room) s m args below meth c (MQ below (va_Qi (fun (r : Int32) (u : q_S) => r = rv ∧ u = Sv) (q_B D cy A) A) args s 0 0 A) A D cy 11 0 0 S 412 [(0, va_rf (l0)), (2, .int (l2)), (4, .int (l4)), (5, .int (l5)), (6, .int (l6)), (8, .int (l8)), (9, .int (l9))] [] := by
  intro k
  induction k with
  | zero => intro S l0 l2 l4 l5 l6 l8 l9 h; rw [m_X12_addSimple_412] at h; cases h
  | succ k ih =>
    intro S l0 l2 l4 l5 l6 l8 l9 h
    rw [m_X12_addSimple_412] at h
    refine q_iload X 6 rfl dX12_addSimple_412 ?_
    refine q_iload X 3 rfl dX12_addSimple_414 ?_
    refine q_icmp_ge X 493 (by decide) dX12_addSimple_416 (fun g1 => ?_) (fun g1 => ?_)
    · rw [if_pos g1] at h
      refine q_lv [0, 2, 3, 4] rfl ?_
      exact w_X12_addSimple_493 X hr hl _ _ _ _ _ h
    · rw [if_neg g1] at h
      refine q_iload X 4 rfl dX12_addSimple_419 ?_
      refine q_if_eq X 493 (by decide) dX12_addSimple_421 (fun g2 => ?_) (fun g2 => ?_)
      · rw [if_pos g2] at h
        refine q_lv [0, 2, 3, 4] rfl ?_
        exact w_X12_addSimple_493 X hr hl _ _ _ _ _ h
      · rw [if_neg g2] at h
        refine q_iload_n X 1 rfl dX12_addSimple_424 ?_
        refine q_aload_n X 0 rfl dX12_addSimple_425 ?_
        refine q_iload X 6 rfl dX12_addSimple_426 ?_
        refine q_iload_n X 1 rfl dX12_addSimple_428 ?_
        refine q_iload X 5 rfl dX12_addSimple_429 ?_
        refine q_iconst X (4) (by decide) dX12_addSimple_431 ?_
        refine q_bipush X (32) (by decide) dX12_addSimple_432 ?_
        obtain ⟨a3, ea3, ma3, ka3, h⟩ := q_atE h
        obtain ⟨r4, S5, c6, h⟩ := q_bE h
        refine q_cVI X (As := [.int (l9), .int (l2), .int (l8), .int ((4 : Int32)), .int ((32 : Int32))]) ea3 ma3 ka3 rfl (by decide) (c_X12_addOne c6) (q_cwV X tK_X12_addOne tM_X12_203 tI_X12_addOne tV_X12_addOne tN_X12 rfl rfl tD_X12_addOne ⟨Nat.le_of_ble_eq_true rfl, Nat.le_of_ble_eq_true rfl⟩) rfl rfl (by first | exact Nat.le_of_ble_eq_true rfl | (simp only [List.map, q_catR]; exact Nat.le_of_ble_eq_true rfl)) ⟨Nat.zero_le _, Nat.zero_le _⟩ dX12_addSimple_434 ?_
        refine q_iadd X dX12_addSimple_437 ?_
        refine q_istore_n X 2 [(2, .int (l2 + r4)), (0, va_rf (l0)), (4, .int (l4)), (5, .int (l5)), (6, .int (l6)), (8, .int (l8)), (9, .int (l9))] rfl (by decide) (by first | rfl | simp [List.filter, q_catR]) dX12_addSimple_438 ?_
        refine q_aload_n X 1 rfl dX12_addSimple_439 ?_
        obtain ⟨a7, ea7, ma7, ka7, h⟩ := q_atE h
        refine q_getI X 8 ea7 ma7 ka7 rfl tW_X12 (by decide) (by decide) tF_X12_114 rfl dX12_addSimple_440 ?_
        refine q_if_ne X 450 (by decide) dX12_addSimple_443 (fun g8 => ?_) (fun g8 => ?_)
        · rw [if_neg g8] at h
          refine q_iconst X (0) (by decide) dX12_addSimple_450 ?_
          refine q_lv [1, 0, 2, 3, 6] rfl ?_
          exact w_X12_addSimple_451 X hr hl ih _ _ _ _ _ _ _ h
        · rw [if_pos g8] at h
          refine q_iconst X (1) (by decide) dX12_addSimple_446 ?_
          refine q_goto X 451 (by decide) dX12_addSimple_447 ?_
          refine q_lv [1, 0, 2, 3, 6] rfl ?_
          exact w_X12_addSimple_451 X hr hl ih _ _ _ _ _ _ _ h
def m_X12_addSimple_406 (n : Nat) (S : q_S) (l0 : Option Nat) (l2 : Int32) (l4 : Int32) (l5 : Int32) (l6 : Int32) : Option (Int32 × q_S) := m_X12_addSimple_412 n n (S) (l0) (l2) (l4) (l5) (l6) ((0 : Int32)) ((0 : Int32))
set_option maxHeartbeats 4000000 in
set_option maxRecDepth 100000 in
theorem w_X12_addSimple_406 (X : q_X p s m args c cX12_addSimple 11 RX12 q_T D cy A) (hr : meth.sig.returnType = (some .boolean)) (hl : meth.locks = false)  {n : Nat} {Sv : q_S} {rv : Int32}  (S : q_S) (l0 : Option Nat) (l2 : Int32) (l4 : Int32) (l5 : Int32) (l6 : Int32) (h : m_X12_addSimple_406 n S l0 l2 l4 l5 l6 = some (rv, Sv)) : q_W p l e ({ frames := 3, cells := 0, slots := 0, locals := 76 } : Room) s m args below meth c (MQ below (va_Qi (fun (r : Int32) (u : q_S) => r = rv ∧ u = Sv) (q_B D cy A) A) args s 0 0 A) A D cy 11 0 0 S 406 [(0, va_rf (l0)), (2, .int (l2)), (4, .int (l4)), (5, .int (l5)), (6, .int (l6))] [] := by
  unfold m_X12_addSimple_406 at h
  refine q_iconst X (0) (by decide) dX12_addSimple_406 ?_
  refine q_istore X 8 [(8, .int ((0 : Int32))), (0, va_rf (l0)), (2, .int (l2)), (4, .int (l4)), (5, .int (l5)), (6, .int (l6))] (by decide) (by first | rfl | simp [List.filter, q_catR]) dX12_addSimple_407 ?_
  refine q_iconst X (0) (by decide) dX12_addSimple_409 ?_
  refine q_istore X 9 [(9, .int ((0 : Int32))), (8, .int ((0 : Int32))), (0, va_rf (l0)), (2, .int (l2)), (4, .int (l4)), (5, .int (l5)), (6, .int (l6))] (by decide) (by first | rfl | simp [List.filter, q_catR]) dX12_addSimple_410 ?_
  refine q_lv [2, 3, 4, 5, 6, 1, 0] rfl ?_
  exact w_X12_addSimple_412 X hr hl n _ _ _ _ _ _ _ _ h
def m_X12_addSimple_400 (n : Nat) (k296 : q_S → Option Nat → Int32 → Int32 → Int32 → Int32 → Int32 → Int32 → Option (Int32 × q_S)) (S : q_S) (l0 : Option Nat) (l2 : Int32) (l4 : Int32) (l5 : Int32) (l6 : Int32) (l8 : Int32) (l9 : Int32) : Option (Int32 × q_S) := k296 (S) (l0) (l2) (l4) (l5) (l6) (l8) (l9 + (1))
set_option maxHeartbeats 4000000 in
set_option maxRecDepth 100000 in
theorem w_X12_addSimple_400 (X : q_X p s m args c cX12_addSimple 11 RX12 q_T D cy A) (hr : meth.sig.returnType = (some .boolean)) (hl : meth.locks = false)  {n : Nat} {Sv : q_S} {rv : Int32}  {k296 : q_S → Option Nat → Int32 → Int32 → Int32 → Int32 → Int32 → Int32 → Option (Int32 × q_S)} (hk296 : ∀ (S : q_S) (z0 : Option Nat) (z1 : Int32) (z2 : Int32) (z3 : Int32) (z4 : Int32) (z5 : Int32) (z6 : Int32), k296 S z0 z1 z2 z3 z4 z5 z6 = some (rv, Sv) → q_W p l e ({ frames := 3, cells := 0, slots := 0, locals := 76 } : Room) s m args below meth c (MQ below (va_Qi (fun (r : Int32) (u : q_S) => r = rv ∧ u = Sv) (q_B D cy A) A) args s 0 0 A) A D cy 11 0 0 S 296 [(0, va_rf (z0)), (2, .int (z1)), (4, .int (z2)), (5, .int (z3)), (6, .int (z4)), (8, .int (z5)), (9, .int (z6))] []) (S : q_S) (l0 : Option Nat) (l2 : Int32) (l4 : Int32) (l5 : Int32) (l6 : Int32) (l8 : Int32) (l9 : Int32) (h : m_X12_addSimple_400 n k296 S l0 l2 l4 l5 l6 l8 l9 = some (rv, Sv)) : q_W p l e ({ frames := 3, cells := 0, slots := 0, locals := 76 } : Room) s m args below meth c (MQ below (va_Qi (fun (r : Int32) (u : q_S) => r = rv ∧ u = Sv) (q_B D cy A) A) args s 0 0 A) A D cy 11 0 0 S 400 [(0, va_rf (l0)), (2, .int (l2)), (4, .int (l4)), (5, .int (l5)), (6, .int (l6)), (8, .int (l8)), (9, .int (l9))] [] := by
  unfold m_X12_addSimple_400 at h
  refine q_iinc X 9 6 (l9 + (1)) [(9, .int (l9 + (1))), (0, va_rf (l0)), (2, .int (l2)), (4, .int (l4)), (5, .int (l5)), (6, .int (l6)), (8, .int (l8))] rfl (congrArg (fun z => l9 + z) (show Int32.ofInt (1) = (1) by decide)) (by decide) (by first | rfl | simp [List.filter, q_catR]) dX12_addSimple_400 ?_
  refine q_goto X 296 (by decide) dX12_addSimple_403 ?_
  refine q_lv [1, 2, 3, 4, 5, 6, 0] rfl ?_
  exact hk296 _ _ _ _ _ _ _ _ h
def m_X12_addSimple_399 (n : Nat) (k296 : q_S → Option Nat → Int32 → Int32 → Int32 → Int32 → Int32 → Int32 → Option (Int32 × q_S)) (S : q_S) (l0 : Option Nat) (l2 : Int32) (l4 : Int32) (l5 : Int32) (l6 : Int32) (l8 : Int32) (l9 : Int32) (s0 : Int32) (s1 : Int32) (s2 : Option Nat) : Option (Int32 × q_S) := q_at (S) (s2) 102 (fun a1 => q_if (q_in (s1) (q_N (S) a1) = true) (m_X12_addSimple_400 n k296 (q_sI (S) a1 (s1).toNatClampNeg (vp_nar .boolean (s0))) (l0) (l2) (l4) (l5) (l6) (l8) (l9)))
set_option maxHeartbeats 4000000 in
set_option maxRecDepth 100000 in
theorem w_X12_addSimple_399 (X : q_X p s m args c cX12_addSimple 11 RX12 q_T D cy A) (hr : meth.sig.returnType = (some .boolean)) (hl : meth.locks = false)  {n : Nat} {Sv : q_S} {rv : Int32}  {k296 : q_S → Option Nat → Int32 → Int32 → Int32 → Int32 → Int32 → Int32 → Option (Int32 × q_S)} (hk296 : ∀ (S : q_S) (z0 : Option Nat) (z1 : Int32) (z2 : Int32) (z3 : Int32) (z4 : Int32) (z5 : Int32) (z6 : Int32), k296 S z0 z1 z2 z3 z4 z5 z6 = some (rv, Sv) → q_W p l e ({ frames := 3, cells := 0, slots := 0, locals := 76 } : Room) s m args below meth c (MQ below (va_Qi (fun (r : Int32) (u : q_S) => r = rv ∧ u = Sv) (q_B D cy A) A) args s 0 0 A) A D cy 11 0 0 S 296 [(0, va_rf (z0)), (2, .int (z1)), (4, .int (z2)), (5, .int (z3)), (6, .int (z4)), (8, .int (z5)), (9, .int (z6))] []) (S : q_S) (l0 : Option Nat) (l2 : Int32) (l4 : Int32) (l5 : Int32) (l6 : Int32) (l8 : Int32) (l9 : Int32) (s0 : Int32) (s1 : Int32) (s2 : Option Nat) (h : m_X12_addSimple_399 n k296 S l0 l2 l4 l5 l6 l8 l9 s0 s1 s2 = some (rv, Sv)) : q_W p l e ({ frames := 3, cells := 0, slots := 0, locals := 76 } : Room) s m args below meth c (MQ below (va_Qi (fun (r : Int32) (u : q_S) => r = rv ∧ u = Sv) (q_B D cy A) A) args s 0 0 A) A D cy 11 0 0 S 399 [(0, va_rf (l0)), (2, .int (l2)), (4, .int (l4)), (5, .int (l5)), (6, .int (l6)), (8, .int (l8)), (9, .int (l9))] [.int (s0), .int (s1), va_rf (s2)] := by
  unfold m_X12_addSimple_399 at h
  obtain ⟨a1, ea1, ma1, ka1, h⟩ := q_atE h
  obtain ⟨g2, h⟩ := q_ifE h
  refine q_zastore X ea1 ma1 ka1 (q_inE g2) dX12_addSimple_399 ?_
  have ma1 : a1 ∈ q_L (q_sI (S) a1 (s1).toNatClampNeg (vp_nar .boolean (s0))) := q_LsI ma1
  have ka1 : q_K (q_sI (S) a1 (s1).toNatClampNeg (vp_nar .boolean (s0))) a1 = 102 := q_KsI ka1
  exact w_X12_addSimple_400 X hr hl hk296 _ _ _ _ _ _ _ _ h
def m_X12_addSimple_350 (n : Nat) (k296 : q_S → Option Nat → Int32 → Int32 → Int32 → Int32 → Int32 → Int32 → Option (Int32 × q_S)) (S : q_S) (l0 : Option Nat) (l2 : Int32) (l4 : Int32) (l5 : Int32) (l6 : Int32) (l9 : Int32) (s0 : Int32) : Option (Int32 × q_S) := (if l6 = 0 then m_X12_addSimple_400 n k296 (S) (l0) (l2) (l4) (l5) (l6) (s0) (l9) else q_at (S) (l0) 13 (fun a2 => q_at (S) (q_R (S) a2 15) 100 (fun a3 => q_if (q_in ((q_I (S) a2 14) + l9) (q_N (S) a3) = true) (q_at (q_sI (S) a3 ((q_I (S) a2 14) + l9).toNatClampNeg (s0)) (q_R (q_sI (S) a3 ((q_I (S) a2 14) + l9).toNatClampNeg (s0)) a2 20) 100 (fun a5 => q_if (q_in (l9) (q_N (q_sI (S) a3 ((q_I (S) a2 14) + l9).toNatClampNeg (s0)) a5) = true) ((if ((q_I (q_sI (S) a3 ((q_I (S) a2 14) + l9).toNatClampNeg (s0)) a5 (l9).toNatClampNeg) &&& (1 : Int32)) = 0 then m_X12_addSimple_399 n k296 (q_sI (S) a3 ((q_I (S) a2 14) + l9).toNatClampNeg (s0)) (l0) (l2) (l4) (l5) (l6) (s0) (l9) ((0 : Int32)) ((q_I (q_sI (S) a3 ((q_I (S) a2 14) + l9).toNatClampNeg (s0)) a2 14) + l9) (q_R (q_sI (S) a3 ((q_I (S) a2 14) + l9).toNatClampNeg (s0)) a2 17) else m_X12_addSimple_399 n k296 (q_sI (S) a3 ((q_I (S) a2 14) + l9).toNatClampNeg (s0)) (l0) (l2) (l4) (l5) (l6) (s0) (l9) ((1 : Int32)) ((q_I (q_sI (S) a3 ((q_I (S) a2 14) + l9).toNatClampNeg (s0)) a2 14) + l9) (q_R (q_sI (S) a3 ((q_I (S) a2 14) + l9).toNatClampNeg (s0)) a2 17))))))))
set_option maxHeartbeats 4000000 in
set_option maxRecDepth 100000 in
theorem w_X12_addSimple_350 (X : q_X p s m args c cX12_addSimple 11 RX12 q_T D cy A) (hr : meth.sig.returnType = (some .boolean)) (hl : meth.locks = false)  {n : Nat} {Sv : q_S} {rv : Int32}  {k296 : q_S → Option Nat → Int32 → Int32 → Int32 → Int32 → Int32 → Int32 → Option (Int32 × q_S)} (hk296 : ∀ (S : q_S) (z0 : Option Nat) (z1 : Int32) (z2 : Int32) (z3 : Int32) (z4 : Int32) (z5 : Int32) (z6 : Int32), k296 S z0 z1 z2 z3 z4 z5 z6 = some (rv, Sv) → q_W p l e ({ frames := 3, cells := 0, slots := 0, locals := 76 } : Room) s m args below meth c (MQ below (va_Qi (fun (r : Int32) (u : q_S) => r = rv ∧ u = Sv) (q_B D cy A) A) args s 0 0 A) A D cy 11 0 0 S 296 [(0, va_rf (z0)), (2, .int (z1)), (4, .int (z2)), (5, .int (z3)), (6, .int (z4)), (8, .int (z5)), (9, .int (z6))] []) (S : q_S) (l0 : Option Nat) (l2 : Int32) (l4 : Int32) (l5 : Int32) (l6 : Int32) (l9 : Int32) (s0 : Int32) (h : m_X12_addSimple_350 n k296 S l0 l2 l4 l5 l6 l9 s0 = some (rv, Sv)) : q_W p l e ({ frames := 3, cells := 0, slots := 0, locals := 76 } : Room) s m args below meth c (MQ below (va_Qi (fun (r : Int32) (u : q_S) => r = rv ∧ u = Sv) (q_B D cy A) A) args s 0 0 A) A D cy 11 0 0 S 350 [(0, va_rf (l0)), (2, .int (l2)), (4, .int (l4)), (5, .int (l5)), (6, .int (l6)), (9, .int (l9))] [.int (s0)] := by
  unfold m_X12_addSimple_350 at h
  refine q_istore X 8 [(8, .int (s0)), (0, va_rf (l0)), (2, .int (l2)), (4, .int (l4)), (5, .int (l5)), (6, .int (l6)), (9, .int (l9))] (by decide) (by first | rfl | simp [List.filter, q_catR]) dX12_addSimple_350 ?_
  refine q_iload X 5 rfl dX12_addSimple_352 ?_
  refine q_if_eq X 400 (by decide) dX12_addSimple_354 (fun g1 => ?_) (fun g1 => ?_)
  · rw [if_pos g1] at h
    refine q_lv [1, 2, 3, 4, 5, 0, 6] rfl ?_
    exact w_X12_addSimple_400 X hr hl hk296 _ _ _ _ _ _ _ _ h
  · rw [if_neg g1] at h
    refine q_aload_n X 1 rfl dX12_addSimple_357 ?_
    obtain ⟨a2, ea2, ma2, ka2, h⟩ := q_atE h
    refine q_getR X 15 ea2 ma2 ka2 rfl tW_X12 (by decide) (by decide) tF_X12_39 rfl dX12_addSimple_358 ?_
    refine q_aload_n X 1 rfl dX12_addSimple_361 ?_
    refine q_getI X 14 ea2 ma2 ka2 rfl tW_X12 (by decide) (by decide) tF_X12_136 rfl dX12_addSimple_362 ?_
    refine q_iload X 6 rfl dX12_addSimple_365 ?_
    refine q_iadd X dX12_addSimple_367 ?_
    refine q_iload X 0 rfl dX12_addSimple_368 ?_
    obtain ⟨a3, ea3, ma3, ka3, h⟩ := q_atE h
    obtain ⟨g4, h⟩ := q_ifE h
    refine q_iastore X ea3 ma3 ka3 (q_inE g4) dX12_addSimple_370 ?_
    have ma2 : a2 ∈ q_L (q_sI (S) a3 ((q_I (S) a2 14) + l9).toNatClampNeg (s0)) := q_LsI ma2
    have ka2 : q_K (q_sI (S) a3 ((q_I (S) a2 14) + l9).toNatClampNeg (s0)) a2 = 13 := q_KsI ka2
    have ma3 : a3 ∈ q_L (q_sI (S) a3 ((q_I (S) a2 14) + l9).toNatClampNeg (s0)) := q_LsI ma3
    have ka3 : q_K (q_sI (S) a3 ((q_I (S) a2 14) + l9).toNatClampNeg (s0)) a3 = 100 := q_KsI ka3
    refine q_aload_n X 1 rfl dX12_addSimple_371 ?_
    refine q_getR X 17 ea2 ma2 ka2 rfl tW_X12 (by decide) (by decide) tF_X12_45 rfl dX12_addSimple_372 ?_
    refine q_aload_n X 1 rfl dX12_addSimple_375 ?_
    refine q_getI X 14 ea2 ma2 ka2 rfl tW_X12 (by decide) (by decide) tF_X12_136 rfl dX12_addSimple_376 ?_
    refine q_iload X 6 rfl dX12_addSimple_379 ?_
    refine q_iadd X dX12_addSimple_381 ?_
    refine q_aload_n X 1 rfl dX12_addSimple_382 ?_
    refine q_getR X 20 ea2 ma2 ka2 rfl tW_X12 (by decide) (by decide) tF_X12_51 rfl dX12_addSimple_383 ?_
    refine q_iload X 6 rfl dX12_addSimple_386 ?_
    obtain ⟨a5, ea5, ma5, ka5, h⟩ := q_atE h
    obtain ⟨g6, h⟩ := q_ifE h
    refine q_iaload X ea5 ma5 ka5 (q_inE g6) dX12_addSimple_388 ?_
    refine q_iconst X (1) (by decide) dX12_addSimple_389 ?_
    refine q_iand X dX12_addSimple_390 ?_
    refine q_if_eq X 398 (by decide) dX12_addSimple_391 (fun g7 => ?_) (fun g7 => ?_)
    · rw [if_pos g7] at h
      refine q_iconst X (0) (by decide) dX12_addSimple_398 ?_
      refine q_lv [1, 2, 3, 4, 5, 0, 6] rfl ?_
      exact w_X12_addSimple_399 X hr hl hk296 _ _ _ _ _ _ _ _ _ _ _ h
    · rw [if_neg g7] at h
      refine q_iconst X (1) (by decide) dX12_addSimple_394 ?_
      refine q_goto X 399 (by decide) dX12_addSimple_395 ?_
      refine q_lv [1, 2, 3, 4, 5, 0, 6] rfl ?_
      exact w_X12_addSimple_399 X hr hl hk296 _ _ _ _ _ _ _ _ _ _ _ h
def m_X12_addSimple_335 (n : Nat) (k296 : q_S → Option Nat → Int32 → Int32 → Int32 → Int32 → Int32 → Int32 → Option (Int32 × q_S)) (S : q_S) (l0 : Option Nat) (l2 : Int32) (l4 : Int32) (l5 : Int32) (l9 : Int32) (s0 : Int32) : Option (Int32 × q_S) := (if s0 = 0 then m_X12_addSimple_350 n k296 (S) (l0) (l2) (l4) (l5) (s0) (l9) ((0 : Int32)) else q_at (S) (l0) 13 (fun a2 => m_X12_addSimple_350 n k296 (S) (l0) (l2) (l4) (l5) (s0) (l9) (q_I (S) a2 42)))
set_option maxHeartbeats 4000000 in
set_option maxRecDepth 100000 in
theorem w_X12_addSimple_335 (X : q_X p s m args c cX12_addSimple 11 RX12 q_T D cy A) (hr : meth.sig.returnType = (some .boolean)) (hl : meth.locks = false)  {n : Nat} {Sv : q_S} {rv : Int32}  {k296 : q_S → Option Nat → Int32 → Int32 → Int32 → Int32 → Int32 → Int32 → Option (Int32 × q_S)} (hk296 : ∀ (S : q_S) (z0 : Option Nat) (z1 : Int32) (z2 : Int32) (z3 : Int32) (z4 : Int32) (z5 : Int32) (z6 : Int32), k296 S z0 z1 z2 z3 z4 z5 z6 = some (rv, Sv) → q_W p l e ({ frames := 3, cells := 0, slots := 0, locals := 76 } : Room) s m args below meth c (MQ below (va_Qi (fun (r : Int32) (u : q_S) => r = rv ∧ u = Sv) (q_B D cy A) A) args s 0 0 A) A D cy 11 0 0 S 296 [(0, va_rf (z0)), (2, .int (z1)), (4, .int (z2)), (5, .int (z3)), (6, .int (z4)), (8, .int (z5)), (9, .int (z6))] []) (S : q_S) (l0 : Option Nat) (l2 : Int32) (l4 : Int32) (l5 : Int32) (l9 : Int32) (s0 : Int32) (h : m_X12_addSimple_335 n k296 S l0 l2 l4 l5 l9 s0 = some (rv, Sv)) : q_W p l e ({ frames := 3, cells := 0, slots := 0, locals := 76 } : Room) s m args below meth c (MQ below (va_Qi (fun (r : Int32) (u : q_S) => r = rv ∧ u = Sv) (q_B D cy A) A) args s 0 0 A) A D cy 11 0 0 S 335 [(0, va_rf (l0)), (2, .int (l2)), (4, .int (l4)), (5, .int (l5)), (9, .int (l9))] [.int (s0)] := by
  unfold m_X12_addSimple_335 at h
  refine q_istore X 6 [(6, .int (s0)), (0, va_rf (l0)), (2, .int (l2)), (4, .int (l4)), (5, .int (l5)), (9, .int (l9))] (by decide) (by first | rfl | simp [List.filter, q_catR]) dX12_addSimple_335 ?_
  refine q_iload X 0 rfl dX12_addSimple_337 ?_
  refine q_if_eq X 349 (by decide) dX12_addSimple_339 (fun g1 => ?_) (fun g1 => ?_)
  · rw [if_pos g1] at h
    refine q_iconst X (0) (by decide) dX12_addSimple_349 ?_
    refine q_lv [1, 2, 3, 4, 0, 5] rfl ?_
    exact w_X12_addSimple_350 X hr hl hk296 _ _ _ _ _ _ _ _ h
  · rw [if_neg g1] at h
    refine q_aload_n X 1 rfl dX12_addSimple_342 ?_
    obtain ⟨a2, ea2, ma2, ka2, h⟩ := q_atE h
    refine q_getI X 42 ea2 ma2 ka2 rfl tW_X12 (by decide) (by decide) tF_X12_207 rfl dX12_addSimple_343 ?_
    refine q_goto X 350 (by decide) dX12_addSimple_346 ?_
    refine q_lv [1, 2, 3, 4, 0, 5] rfl ?_
    exact w_X12_addSimple_350 X hr hl hk296 _ _ _ _ _ _ _ _ h
def m_X12_addSimple_296 (n : Nat) : Nat → q_S → Option Nat → Int32 → Int32 → Int32 → Int32 → Int32 → Int32 → Option (Int32 × q_S)
  | 0, _, _, _, _, _, _, _, _ => none
  | k + 1, S, l0, l2, l4, l5, l6, l8, l9 => (if l5 ≤ l9 then m_X12_addSimple_406 n (S) (l0) (l2) (l4) (l5) (l6) else (if l6 = 0 then m_X12_addSimple_406 n (S) (l0) (l2) (l4) (l5) (l6) else q_at (S) (l0) 13 (fun a3 => q_b (m_X12_addOne n (S) a3 (l9) (l2) (l8) ((2 : Int32)) ((16 : Int32))) (fun r4 S5 => q_at (S5) (l0) 13 (fun a7 => (if (q_I (S5) a7 8) = 0 then m_X12_addSimple_335 n (m_X12_addSimple_296 n k) (S5) (l0) (l2 + r4) (l4) (l5) (l9) ((1 : Int32)) else m_X12_addSimple_335 n (m_X12_addSimple_296 n k) (S5) (l0) (l2 + r4) (l4) (l5) (l9) ((0 : Int32))))))))
set_option maxHeartbeats 4000000 in
set_option maxRecDepth 100000 in
theorem w_X12_addSimple_296 (X : q_X p s m args c cX12_addSimple 11 RX12 q_T D cy A) (hr : meth.sig.returnType = (some .boolean)) (hl : meth.locks = false)  {n : Nat} {Sv : q_S} {rv : Int32}  : ∀ (k : Nat) (S : q_S) (l0 : Option Nat) (l2 : Int32) (l4 : Int32) (l5 : Int32) (l6 : Int32) (l8 : Int32) (l9 : Int32), m_X12_addSimple_296 n k S l0 l2 l4 l5 l6 l8 l9 = some (rv, Sv) → q_W p l e ({ frames := 3, cells := 0, slots := 0, locals := 76 } : Room) s m args below meth c (MQ below (va_Qi (fun (r : Int32) (u : q_S) => r = rv ∧ u = Sv) (q_B D cy A) A) args s 0 0 A) A D cy 11 0 0 S 296 [(0, va_rf (l0)), (2, .int (l2)), (4, .int (l4)), (5, .int (l5)), (6, .int (l6)), (8, .int (l8)), (9, .int (l9))] [] := by
  intro k
  induction k with
  | zero => intro S l0 l2 l4 l5 l6 l8 l9 h; rw [m_X12_addSimple_296] at h; cases h
  | succ k ih =>
    intro S l0 l2 l4 l5 l6 l8 l9 h
    rw [m_X12_addSimple_296] at h
    refine q_iload X 6 rfl dX12_addSimple_296 ?_
    refine q_iload X 3 rfl dX12_addSimple_298 ?_
    refine q_icmp_ge X 406 (by decide) dX12_addSimple_300 (fun g1 => ?_) (fun g1 => ?_)
    · rw [if_pos g1] at h
      refine q_lv [0, 1, 2, 3, 4] rfl ?_
      exact w_X12_addSimple_406 X hr hl _ _ _ _ _ _ h
    · rw [if_neg g1] at h
      refine q_iload X 4 rfl dX12_addSimple_303 ?_
      refine q_if_eq X 406 (by decide) dX12_addSimple_305 (fun g2 => ?_) (fun g2 => ?_)
      · rw [if_pos g2] at h
        refine q_lv [0, 1, 2, 3, 4] rfl ?_
        exact w_X12_addSimple_406 X hr hl _ _ _ _ _ _ h
      · rw [if_neg g2] at h
        refine q_iload_n X 1 rfl dX12_addSimple_308 ?_
        refine q_aload_n X 0 rfl dX12_addSimple_309 ?_
        refine q_iload X 6 rfl dX12_addSimple_310 ?_
        refine q_iload_n X 1 rfl dX12_addSimple_312 ?_
        refine q_iload X 5 rfl dX12_addSimple_313 ?_
        refine q_iconst X (2) (by decide) dX12_addSimple_315 ?_
        refine q_bipush X (16) (by decide) dX12_addSimple_316 ?_
        obtain ⟨a3, ea3, ma3, ka3, h⟩ := q_atE h
        obtain ⟨r4, S5, c6, h⟩ := q_bE h
        refine q_cVI X (As := [.int (l9), .int (l2), .int (l8), .int ((2 : Int32)), .int ((16 : Int32))]) ea3 ma3 ka3 rfl (by decide) (c_X12_addOne c6) (q_cwV X tK_X12_addOne tM_X12_203 tI_X12_addOne tV_X12_addOne tN_X12 rfl rfl tD_X12_addOne ⟨Nat.le_of_ble_eq_true rfl, Nat.le_of_ble_eq_true rfl⟩) rfl rfl (by first | exact Nat.le_of_ble_eq_true rfl | (simp only [List.map, q_catR]; exact Nat.le_of_ble_eq_true rfl)) ⟨Nat.zero_le _, Nat.zero_le _⟩ dX12_addSimple_318 ?_
        refine q_iadd X dX12_addSimple_321 ?_
        refine q_istore_n X 2 [(2, .int (l2 + r4)), (0, va_rf (l0)), (4, .int (l4)), (5, .int (l5)), (6, .int (l6)), (8, .int (l8)), (9, .int (l9))] rfl (by decide) (by first | rfl | simp [List.filter, q_catR]) dX12_addSimple_322 ?_
        refine q_aload_n X 1 rfl dX12_addSimple_323 ?_
        obtain ⟨a7, ea7, ma7, ka7, h⟩ := q_atE h
        refine q_getI X 8 ea7 ma7 ka7 rfl tW_X12 (by decide) (by decide) tF_X12_114 rfl dX12_addSimple_324 ?_
        refine q_if_ne X 334 (by decide) dX12_addSimple_327 (fun g8 => ?_) (fun g8 => ?_)
        · rw [if_neg g8] at h
          refine q_iconst X (0) (by decide) dX12_addSimple_334 ?_
          refine q_lv [1, 0, 2, 3, 6] rfl ?_
          exact w_X12_addSimple_335 X hr hl ih _ _ _ _ _ _ _ h
        · rw [if_pos g8] at h
          refine q_iconst X (1) (by decide) dX12_addSimple_330 ?_
          refine q_goto X 335 (by decide) dX12_addSimple_331 ?_
          refine q_lv [1, 0, 2, 3, 6] rfl ?_
          exact w_X12_addSimple_335 X hr hl ih _ _ _ _ _ _ _ h
def m_X12_addSimple_290 (n : Nat) (S : q_S) (l0 : Option Nat) (l2 : Int32) (l4 : Int32) (l5 : Int32) (l6 : Int32) : Option (Int32 × q_S) := m_X12_addSimple_296 n n (S) (l0) (l2) (l4) (l5) (l6) ((0 : Int32)) ((0 : Int32))
set_option maxHeartbeats 4000000 in
set_option maxRecDepth 100000 in
theorem w_X12_addSimple_290 (X : q_X p s m args c cX12_addSimple 11 RX12 q_T D cy A) (hr : meth.sig.returnType = (some .boolean)) (hl : meth.locks = false)  {n : Nat} {Sv : q_S} {rv : Int32}  (S : q_S) (l0 : Option Nat) (l2 : Int32) (l4 : Int32) (l5 : Int32) (l6 : Int32) (h : m_X12_addSimple_290 n S l0 l2 l4 l5 l6 = some (rv, Sv)) : q_W p l e ({ frames := 3, cells := 0, slots := 0, locals := 76 } : Room) s m args below meth c (MQ below (va_Qi (fun (r : Int32) (u : q_S) => r = rv ∧ u = Sv) (q_B D cy A) A) args s 0 0 A) A D cy 11 0 0 S 290 [(0, va_rf (l0)), (2, .int (l2)), (4, .int (l4)), (5, .int (l5)), (6, .int (l6))] [] := by
  unfold m_X12_addSimple_290 at h
  refine q_iconst X (0) (by decide) dX12_addSimple_290 ?_
  refine q_istore X 8 [(8, .int ((0 : Int32))), (0, va_rf (l0)), (2, .int (l2)), (4, .int (l4)), (5, .int (l5)), (6, .int (l6))] (by decide) (by first | rfl | simp [List.filter, q_catR]) dX12_addSimple_291 ?_
  refine q_iconst X (0) (by decide) dX12_addSimple_293 ?_
  refine q_istore X 9 [(9, .int ((0 : Int32))), (8, .int ((0 : Int32))), (0, va_rf (l0)), (2, .int (l2)), (4, .int (l4)), (5, .int (l5)), (6, .int (l6))] (by decide) (by first | rfl | simp [List.filter, q_catR]) dX12_addSimple_294 ?_
  refine q_lv [2, 3, 4, 5, 6, 1, 0] rfl ?_
  exact w_X12_addSimple_296 X hr hl n _ _ _ _ _ _ _ _ h
def m_X12_addSimple_278 (n : Nat) (k175 : q_S → Option Nat → Int32 → Int32 → Int32 → Int32 → Int32 → Option (Int32 × q_S)) (S : q_S) (l0 : Option Nat) (l2 : Int32) (l4 : Int32) (l5 : Int32) (l6 : Int32) (l7 : Int32) (l9 : Int32) : Option (Int32 × q_S) := k175 (S) (l0) (l2) (l4) (l5) (l6) (l7 + (l9 + (1 : Int32)))
set_option maxHeartbeats 4000000 in
set_option maxRecDepth 100000 in
theorem w_X12_addSimple_278 (X : q_X p s m args c cX12_addSimple 11 RX12 q_T D cy A) (hr : meth.sig.returnType = (some .boolean)) (hl : meth.locks = false)  {n : Nat} {Sv : q_S} {rv : Int32}  {k175 : q_S → Option Nat → Int32 → Int32 → Int32 → Int32 → Int32 → Option (Int32 × q_S)} (hk175 : ∀ (S : q_S) (z0 : Option Nat) (z1 : Int32) (z2 : Int32) (z3 : Int32) (z4 : Int32) (z5 : Int32), k175 S z0 z1 z2 z3 z4 z5 = some (rv, Sv) → q_W p l e ({ frames := 3, cells := 0, slots := 0, locals := 76 } : Room) s m args below meth c (MQ below (va_Qi (fun (r : Int32) (u : q_S) => r = rv ∧ u = Sv) (q_B D cy A) A) args s 0 0 A) A D cy 11 0 0 S 175 [(0, va_rf (z0)), (2, .int (z1)), (4, .int (z2)), (5, .int (z3)), (6, .int (z4)), (7, .int (z5))] []) (S : q_S) (l0 : Option Nat) (l2 : Int32) (l4 : Int32) (l5 : Int32) (l6 : Int32) (l7 : Int32) (l9 : Int32) (h : m_X12_addSimple_278 n k175 S l0 l2 l4 l5 l6 l7 l9 = some (rv, Sv)) : q_W p l e ({ frames := 3, cells := 0, slots := 0, locals := 76 } : Room) s m args below meth c (MQ below (va_Qi (fun (r : Int32) (u : q_S) => r = rv ∧ u = Sv) (q_B D cy A) A) args s 0 0 A) A D cy 11 0 0 S 278 [(0, va_rf (l0)), (2, .int (l2)), (4, .int (l4)), (5, .int (l5)), (6, .int (l6)), (7, .int (l7)), (9, .int (l9))] [] := by
  unfold m_X12_addSimple_278 at h
  refine q_iload X 5 rfl dX12_addSimple_278 ?_
  refine q_iload X 6 rfl dX12_addSimple_280 ?_
  refine q_iconst X (1) (by decide) dX12_addSimple_282 ?_
  refine q_iadd X dX12_addSimple_283 ?_
  refine q_iadd X dX12_addSimple_284 ?_
  refine q_istore X 7 [(7, .int (l7 + (l9 + (1 : Int32)))), (0, va_rf (l0)), (2, .int (l2)), (4, .int (l4)), (5, .int (l5)), (6, .int (l6)), (9, .int (l9))] (by decide) (by first | rfl | simp [List.filter, q_catR]) dX12_addSimple_285 ?_
  refine q_goto X 175 (by decide) dX12_addSimple_287 ?_
  refine q_lv [1, 2, 3, 4, 5, 0] rfl ?_
  exact hk175 _ _ _ _ _ _ _ h
def m_X12_addSimple_248 (n : Nat) (k175 : q_S → Option Nat → Int32 → Int32 → Int32 → Int32 → Int32 → Option (Int32 × q_S)) : Nat → q_S → Option Nat → Int32 → Int32 → Int32 → Int32 → Int32 → Int32 → Int32 → Int32 → Option (Int32 × q_S)
  | 0, _, _, _, _, _, _, _, _, _, _ => none
  | k + 1, S, l0, l2, l4, l5, l6, l7, l8, l9, l10 => (if (l7 + l9) < l10 then m_X12_addSimple_278 n k175 (S) (l0) (l2) (l4) (l5) (l6) (l7) (l9) else (if l6 = 0 then m_X12_addSimple_278 n k175 (S) (l0) (l2) (l4) (l5) (l6) (l7) (l9) else q_at (S) (l0) 13 (fun a3 => q_at (S) (q_R (S) a3 20) 100 (fun a4 => q_if (q_in (l10) (q_N (S) a4) = true) (m_X12_addSimple_248 n k175 k (q_sI (S) a4 (l10).toNatClampNeg (l8)) (l0) (l2) (l4) (l5) (l6) (l7) (l8) (l9) (l10 + (1)))))))
set_option maxHeartbeats 4000000 in
set_option maxRecDepth 100000 in
theorem w_X12_addSimple_248 (X : q_X p s m args c cX12_addSimple 11 RX12 q_T D cy A) (hr : meth.sig.returnType = (some .boolean)) (hl : meth.locks = false)  {n : Nat} {Sv : q_S} {rv : Int32}  {k175 : q_S → Option Nat → Int32 → Int32 → Int32 → Int32 → Int32 → Option (Int32 × q_S)} (hk175 : ∀ (S : q_S) (z0 : Option Nat) (z1 : Int32) (z2 : Int32) (z3 : Int32) (z4 : Int32) (z5 : Int32), k175 S z0 z1 z2 z3 z4 z5 = some (rv, Sv) → q_W p l e ({ frames := 3, cells := 0, slots := 0, locals := 76 } : Room) s m args below meth c (MQ below (va_Qi (fun (r : Int32) (u : q_S) => r = rv ∧ u = Sv) (q_B D cy A) A) args s 0 0 A) A D cy 11 0 0 S 175 [(0, va_rf (z0)), (2, .int (z1)), (4, .int (z2)), (5, .int (z3)), (6, .int (z4)), (7, .int (z5))] []) : ∀ (k : Nat) (S : q_S) (l0 : Option Nat) (l2 : Int32) (l4 : Int32) (l5 : Int32) (l6 : Int32) (l7 : Int32) (l8 : Int32) (l9 : Int32) (l10 : Int32), m_X12_addSimple_248 n k175 k S l0 l2 l4 l5 l6 l7 l8 l9 l10 = some (rv, Sv) → q_W p l e ({ frames := 3, cells := 0, slots := 0, locals := 76 } : Room) s m args below meth c (MQ below (va_Qi (fun (r : Int32) (u : q_S) => r = rv ∧ u = Sv) (q_B D cy A) A) args s 0 0 A) A D cy 11 0 0 S 248 [(0, va_rf (l0)), (2, .int (l2)), (4, .int (l4)), (5, .int (l5)), (6, .int (l6)), (7, .int (l7)), (8, .int (l8)), (9, .int (l9)), (10, .int (l10))] [] := by
  intro k
  induction k with
  | zero => intro S l0 l2 l4 l5 l6 l7 l8 l9 l10 h; rw [m_X12_addSimple_248] at h; cases h
  | succ k ih =>
    intro S l0 l2 l4 l5 l6 l7 l8 l9 l10 h
    rw [m_X12_addSimple_248] at h
    refine q_iload X 8 rfl dX12_addSimple_248 ?_
    refine q_iload X 5 rfl dX12_addSimple_250 ?_
    refine q_iload X 7 rfl dX12_addSimple_252 ?_
    refine q_iadd X dX12_addSimple_254 ?_
    refine q_icmp_gt X 278 (by decide) dX12_addSimple_255 (fun g1 => ?_) (fun g1 => ?_)
    · rw [if_pos g1] at h
      refine q_lv [0, 1, 2, 3, 4, 5, 7] rfl ?_
      exact w_X12_addSimple_278 X hr hl hk175 _ _ _ _ _ _ _ _ h
    · rw [if_neg g1] at h
      refine q_iload X 4 rfl dX12_addSimple_258 ?_
      refine q_if_eq X 278 (by decide) dX12_addSimple_260 (fun g2 => ?_) (fun g2 => ?_)
      · rw [if_pos g2] at h
        refine q_lv [0, 1, 2, 3, 4, 5, 7] rfl ?_
        exact w_X12_addSimple_278 X hr hl hk175 _ _ _ _ _ _ _ _ h
      · rw [if_neg g2] at h
        refine q_aload_n X 0 rfl dX12_addSimple_263 ?_
        obtain ⟨a3, ea3, ma3, ka3, h⟩ := q_atE h
        refine q_getR X 20 ea3 ma3 ka3 rfl tW_X12 (by decide) (by decide) tF_X12_51 rfl dX12_addSimple_264 ?_
        refine q_iload X 8 rfl dX12_addSimple_267 ?_
        refine q_iload X 6 rfl dX12_addSimple_269 ?_
        obtain ⟨a4, ea4, ma4, ka4, h⟩ := q_atE h
        obtain ⟨g5, h⟩ := q_ifE h
        refine q_iastore X ea4 ma4 ka4 (q_inE g5) dX12_addSimple_271 ?_
        have ma3 : a3 ∈ q_L (q_sI (S) a4 (l10).toNatClampNeg (l8)) := q_LsI ma3
        have ka3 : q_K (q_sI (S) a4 (l10).toNatClampNeg (l8)) a3 = 13 := q_KsI ka3
        have ma4 : a4 ∈ q_L (q_sI (S) a4 (l10).toNatClampNeg (l8)) := q_LsI ma4
        have ka4 : q_K (q_sI (S) a4 (l10).toNatClampNeg (l8)) a4 = 100 := q_KsI ka4
        refine q_iinc X 10 8 (l10 + (1)) [(10, .int (l10 + (1))), (0, va_rf (l0)), (2, .int (l2)), (4, .int (l4)), (5, .int (l5)), (6, .int (l6)), (7, .int (l7)), (8, .int (l8)), (9, .int (l9))] rfl (congrArg (fun z => l10 + z) (show Int32.ofInt (1) = (1) by decide)) (by decide) (by first | rfl | simp [List.filter, q_catR]) dX12_addSimple_272 ?_
        refine q_goto X 248 (by decide) dX12_addSimple_275 ?_
        refine q_lv [1, 2, 3, 4, 5, 6, 7, 8, 0] rfl ?_
        exact ih _ _ _ _ _ _ _ _ _ _ h
def m_X12_addSimple_242 (n : Nat) (k175 : q_S → Option Nat → Int32 → Int32 → Int32 → Int32 → Int32 → Option (Int32 × q_S)) (S : q_S) (l0 : Option Nat) (l2 : Int32) (l4 : Int32) (l5 : Int32) (l7 : Int32) (l8 : Int32) (l9 : Int32) (s0 : Int32) : Option (Int32 × q_S) := m_X12_addSimple_248 n k175 n (S) (l0) (l2) (l4) (l5) (s0) (l7) (l8) (l9) (l7)
set_option maxHeartbeats 4000000 in
set_option maxRecDepth 100000 in
theorem w_X12_addSimple_242 (X : q_X p s m args c cX12_addSimple 11 RX12 q_T D cy A) (hr : meth.sig.returnType = (some .boolean)) (hl : meth.locks = false)  {n : Nat} {Sv : q_S} {rv : Int32}  {k175 : q_S → Option Nat → Int32 → Int32 → Int32 → Int32 → Int32 → Option (Int32 × q_S)} (hk175 : ∀ (S : q_S) (z0 : Option Nat) (z1 : Int32) (z2 : Int32) (z3 : Int32) (z4 : Int32) (z5 : Int32), k175 S z0 z1 z2 z3 z4 z5 = some (rv, Sv) → q_W p l e ({ frames := 3, cells := 0, slots := 0, locals := 76 } : Room) s m args below meth c (MQ below (va_Qi (fun (r : Int32) (u : q_S) => r = rv ∧ u = Sv) (q_B D cy A) A) args s 0 0 A) A D cy 11 0 0 S 175 [(0, va_rf (z0)), (2, .int (z1)), (4, .int (z2)), (5, .int (z3)), (6, .int (z4)), (7, .int (z5))] []) (S : q_S) (l0 : Option Nat) (l2 : Int32) (l4 : Int32) (l5 : Int32) (l7 : Int32) (l8 : Int32) (l9 : Int32) (s0 : Int32) (h : m_X12_addSimple_242 n k175 S l0 l2 l4 l5 l7 l8 l9 s0 = some (rv, Sv)) : q_W p l e ({ frames := 3, cells := 0, slots := 0, locals := 76 } : Room) s m args below meth c (MQ below (va_Qi (fun (r : Int32) (u : q_S) => r = rv ∧ u = Sv) (q_B D cy A) A) args s 0 0 A) A D cy 11 0 0 S 242 [(0, va_rf (l0)), (2, .int (l2)), (4, .int (l4)), (5, .int (l5)), (7, .int (l7)), (8, .int (l8)), (9, .int (l9))] [.int (s0)] := by
  unfold m_X12_addSimple_242 at h
  refine q_istore X 6 [(6, .int (s0)), (0, va_rf (l0)), (2, .int (l2)), (4, .int (l4)), (5, .int (l5)), (7, .int (l7)), (8, .int (l8)), (9, .int (l9))] (by decide) (by first | rfl | simp [List.filter, q_catR]) dX12_addSimple_242 ?_
  refine q_iload X 5 rfl dX12_addSimple_244 ?_
  refine q_istore X 10 [(10, .int (l7)), (6, .int (s0)), (0, va_rf (l0)), (2, .int (l2)), (4, .int (l4)), (5, .int (l5)), (7, .int (l7)), (8, .int (l8)), (9, .int (l9))] (by decide) (by first | rfl | simp [List.filter, q_catR]) dX12_addSimple_246 ?_
  refine q_lv [2, 3, 4, 5, 1, 6, 7, 8, 0] rfl ?_
  exact w_X12_addSimple_248 X hr hl hk175 n _ _ _ _ _ _ _ _ _ _ h
def m_X12_addSimple_241 (n : Nat) (k175 : q_S → Option Nat → Int32 → Int32 → Int32 → Int32 → Int32 → Option (Int32 × q_S)) (S : q_S) (l0 : Option Nat) (l2 : Int32) (l4 : Int32) (l5 : Int32) (l7 : Int32) (l8 : Int32) (l9 : Int32) : Option (Int32 × q_S) := m_X12_addSimple_242 n k175 (S) (l0) (l2) (l4) (l5) (l7) (l8) (l9) ((0 : Int32))
set_option maxHeartbeats 4000000 in
set_option maxRecDepth 100000 in
theorem w_X12_addSimple_241 (X : q_X p s m args c cX12_addSimple 11 RX12 q_T D cy A) (hr : meth.sig.returnType = (some .boolean)) (hl : meth.locks = false)  {n : Nat} {Sv : q_S} {rv : Int32}  {k175 : q_S → Option Nat → Int32 → Int32 → Int32 → Int32 → Int32 → Option (Int32 × q_S)} (hk175 : ∀ (S : q_S) (z0 : Option Nat) (z1 : Int32) (z2 : Int32) (z3 : Int32) (z4 : Int32) (z5 : Int32), k175 S z0 z1 z2 z3 z4 z5 = some (rv, Sv) → q_W p l e ({ frames := 3, cells := 0, slots := 0, locals := 76 } : Room) s m args below meth c (MQ below (va_Qi (fun (r : Int32) (u : q_S) => r = rv ∧ u = Sv) (q_B D cy A) A) args s 0 0 A) A D cy 11 0 0 S 175 [(0, va_rf (z0)), (2, .int (z1)), (4, .int (z2)), (5, .int (z3)), (6, .int (z4)), (7, .int (z5))] []) (S : q_S) (l0 : Option Nat) (l2 : Int32) (l4 : Int32) (l5 : Int32) (l7 : Int32) (l8 : Int32) (l9 : Int32) (h : m_X12_addSimple_241 n k175 S l0 l2 l4 l5 l7 l8 l9 = some (rv, Sv)) : q_W p l e ({ frames := 3, cells := 0, slots := 0, locals := 76 } : Room) s m args below meth c (MQ below (va_Qi (fun (r : Int32) (u : q_S) => r = rv ∧ u = Sv) (q_B D cy A) A) args s 0 0 A) A D cy 11 0 0 S 241 [(0, va_rf (l0)), (2, .int (l2)), (4, .int (l4)), (5, .int (l5)), (7, .int (l7)), (8, .int (l8)), (9, .int (l9))] [] := by
  unfold m_X12_addSimple_241 at h
  refine q_iconst X (0) (by decide) dX12_addSimple_241 ?_
  exact w_X12_addSimple_242 X hr hl hk175 _ _ _ _ _ _ _ _ _ h
def m_X12_addSimple_220 (n : Nat) (k175 : q_S → Option Nat → Int32 → Int32 → Int32 → Int32 → Int32 → Option (Int32 × q_S)) (S : q_S) (l0 : Option Nat) (l2 : Int32) (l4 : Int32) (l5 : Int32) (l7 : Int32) (l8 : Int32) (l9 : Int32) : Option (Int32 × q_S) := q_at (S) (l0) 13 (fun a1 => (if (q_I (S) a1 8) = 0 then (if l5 ≤ (l7 + l9) then m_X12_addSimple_241 n k175 (S) (l0) (l2) (l4) (l5) (l7) (l8) (l9) else m_X12_addSimple_242 n k175 (S) (l0) (l2) (l4) (l5) (l7) (l8) (l9) ((1 : Int32))) else m_X12_addSimple_241 n k175 (S) (l0) (l2) (l4) (l5) (l7) (l8) (l9)))
set_option maxHeartbeats 4000000 in
set_option maxRecDepth 100000 in
theorem w_X12_addSimple_220 (X : q_X p s m args c cX12_addSimple 11 RX12 q_T D cy A) (hr : meth.sig.returnType = (some .boolean)) (hl : meth.locks = false)  {n : Nat} {Sv : q_S} {rv : Int32}  {k175 : q_S → Option Nat → Int32 → Int32 → Int32 → Int32 → Int32 → Option (Int32 × q_S)} (hk175 : ∀ (S : q_S) (z0 : Option Nat) (z1 : Int32) (z2 : Int32) (z3 : Int32) (z4 : Int32) (z5 : Int32), k175 S z0 z1 z2 z3 z4 z5 = some (rv, Sv) → q_W p l e ({ frames := 3, cells := 0, slots := 0, locals := 76 } : Room) s m args below meth c (MQ below (va_Qi (fun (r : Int32) (u : q_S) => r = rv ∧ u = Sv) (q_B D cy A) A) args s 0 0 A) A D cy 11 0 0 S 175 [(0, va_rf (z0)), (2, .int (z1)), (4, .int (z2)), (5, .int (z3)), (6, .int (z4)), (7, .int (z5))] []) (S : q_S) (l0 : Option Nat) (l2 : Int32) (l4 : Int32) (l5 : Int32) (l7 : Int32) (l8 : Int32) (l9 : Int32) (h : m_X12_addSimple_220 n k175 S l0 l2 l4 l5 l7 l8 l9 = some (rv, Sv)) : q_W p l e ({ frames := 3, cells := 0, slots := 0, locals := 76 } : Room) s m args below meth c (MQ below (va_Qi (fun (r : Int32) (u : q_S) => r = rv ∧ u = Sv) (q_B D cy A) A) args s 0 0 A) A D cy 11 0 0 S 220 [(0, va_rf (l0)), (2, .int (l2)), (4, .int (l4)), (5, .int (l5)), (7, .int (l7)), (8, .int (l8)), (9, .int (l9))] [] := by
  unfold m_X12_addSimple_220 at h
  refine q_aload_n X 0 rfl dX12_addSimple_220 ?_
  obtain ⟨a1, ea1, ma1, ka1, h⟩ := q_atE h
  refine q_getI X 8 ea1 ma1 ka1 rfl tW_X12 (by decide) (by decide) tF_X12_114 rfl dX12_addSimple_221 ?_
  refine q_if_ne X 241 (by decide) dX12_addSimple_224 (fun g2 => ?_) (fun g2 => ?_)
  · rw [if_neg g2] at h
    exact w_X12_addSimple_241 X hr hl hk175 _ _ _ _ _ _ _ _ h
  · rw [if_pos g2] at h
    refine q_iload X 4 rfl dX12_addSimple_227 ?_
    refine q_iload X 6 rfl dX12_addSimple_229 ?_
    refine q_iadd X dX12_addSimple_231 ?_
    refine q_iload X 3 rfl dX12_addSimple_232 ?_
    refine q_icmp_ge X 241 (by decide) dX12_addSimple_234 (fun g3 => ?_) (fun g3 => ?_)
    · rw [if_pos g3] at h
      exact w_X12_addSimple_241 X hr hl hk175 _ _ _ _ _ _ _ _ h
    · rw [if_neg g3] at h
      refine q_iconst X (1) (by decide) dX12_addSimple_237 ?_
      refine q_goto X 242 (by decide) dX12_addSimple_238 ?_
      exact w_X12_addSimple_242 X hr hl hk175 _ _ _ _ _ _ _ _ _ h
def m_X12_addSimple_175 (n : Nat) : Nat → q_S → Option Nat → Int32 → Int32 → Int32 → Int32 → Int32 → Option (Int32 × q_S)
  | 0, _, _, _, _, _, _, _ => none
  | k + 1, S, l0, l2, l4, l5, l6, l7 => (if l5 ≤ l7 then m_X12_addSimple_290 n (S) (l0) (l2) (l4) (l5) (l6) else (if l6 = 0 then m_X12_addSimple_290 n (S) (l0) (l2) (l4) (l5) (l6) else q_at (S) (l0) 13 (fun a3 => q_b (m_X12_data n (S) a3 (l2) ((1 : Int32))) (fun r4 S5 => (if (r4 &&& (8 : Int32)) = 0 then m_X12_addSimple_220 n (m_X12_addSimple_175 n k) (S5) (l0) (l2 + (1)) (l4) (l5) (l7) (r4) ((0 : Int32)) else q_at (S5) (l0) 13 (fun a8 => q_b (m_X12_data n (S5) a8 (l2 + (1)) ((1 : Int32))) (fun r9 S10 => m_X12_addSimple_220 n (m_X12_addSimple_175 n k) (S10) (l0) ((l2 + (1)) + (1)) (l4) (l5) (l7) (r4) (r9))))))))
set_option maxHeartbeats 4000000 in
set_option maxRecDepth 100000 in
theorem w_X12_addSimple_175 (X : q_X p s m args c cX12_addSimple 11 RX12 q_T D cy A) (hr : meth.sig.returnType = (some .boolean)) (hl : meth.locks = false)  {n : Nat} {Sv : q_S} {rv : Int32}  : ∀ (k : Nat) (S : q_S) (l0 : Option Nat) (l2 : Int32) (l4 : Int32) (l5 : Int32) (l6 : Int32) (l7 : Int32), m_X12_addSimple_175 n k S l0 l2 l4 l5 l6 l7 = some (rv, Sv) → q_W p l e ({ frames := 3, cells := 0, slots := 0, locals := 76 } : Room) s m args below meth c (MQ below (va_Qi (fun (r : Int32) (u : q_S) => r = rv ∧ u = Sv) (q_B D cy A) A) args s 0 0 A) A D cy 11 0 0 S 175 [(0, va_rf (l0)), (2, .int (l2)), (4, .int (l4)), (5, .int (l5)), (6, .int (l6)), (7, .int (l7))] [] := by
  intro k
  induction k with
  | zero => intro S l0 l2 l4 l5 l6 l7 h; rw [m_X12_addSimple_175] at h; cases h
  | succ k ih =>
    intro S l0 l2 l4 l5 l6 l7 h
    rw [m_X12_addSimple_175] at h
    refine q_iload X 5 rfl dX12_addSimple_175 ?_
    refine q_iload X 3 rfl dX12_addSimple_177 ?_
    refine q_icmp_ge X 290 (by decide) dX12_addSimple_179 (fun g1 => ?_) (fun g1 => ?_)
    · rw [if_pos g1] at h
      refine q_lv [0, 1, 2, 3, 4] rfl ?_
      exact w_X12_addSimple_290 X hr hl _ _ _ _ _ _ h
    · rw [if_neg g1] at h
      refine q_iload X 4 rfl dX12_addSimple_182 ?_
      refine q_if_eq X 290 (by decide) dX12_addSimple_184 (fun g2 => ?_) (fun g2 => ?_)
      · rw [if_pos g2] at h
        refine q_lv [0, 1, 2, 3, 4] rfl ?_
        exact w_X12_addSimple_290 X hr hl _ _ _ _ _ _ h
      · rw [if_neg g2] at h
        refine q_aload_n X 0 rfl dX12_addSimple_187 ?_
        refine q_iload_n X 1 rfl dX12_addSimple_188 ?_
        refine q_iconst X (1) (by decide) dX12_addSimple_189 ?_
        obtain ⟨a3, ea3, ma3, ka3, h⟩ := q_atE h
        obtain ⟨r4, S5, c6, h⟩ := q_bE h
        refine q_cVI X (As := [.int (l2), .int ((1 : Int32))]) ea3 ma3 ka3 rfl (by decide) (c_X12_data c6) (q_cwV X tK_X12_data tM_X12_199 tI_X12_data tV_X12_data tN_X12 rfl rfl tD_X12_data ⟨Nat.le_of_ble_eq_true rfl, Nat.le_of_ble_eq_true rfl⟩) rfl rfl (by first | exact Nat.le_of_ble_eq_true rfl | (simp only [List.map, q_catR]; exact Nat.le_of_ble_eq_true rfl)) ⟨Nat.zero_le _, Nat.zero_le _⟩ dX12_addSimple_190 ?_
        refine q_istore X 8 [(8, .int (r4)), (0, va_rf (l0)), (2, .int (l2)), (4, .int (l4)), (5, .int (l5)), (6, .int (l6)), (7, .int (l7))] (by decide) (by first | rfl | simp [List.filter, q_catR]) dX12_addSimple_193 ?_
        refine q_iinc X 2 2 (l2 + (1)) [(2, .int (l2 + (1))), (8, .int (r4)), (0, va_rf (l0)), (4, .int (l4)), (5, .int (l5)), (6, .int (l6)), (7, .int (l7))] rfl (congrArg (fun z => l2 + z) (show Int32.ofInt (1) = (1) by decide)) (by decide) (by first | rfl | simp [List.filter, q_catR]) dX12_addSimple_195 ?_
        refine q_iconst X (0) (by decide) dX12_addSimple_198 ?_
        refine q_istore X 9 [(9, .int ((0 : Int32))), (2, .int (l2 + (1))), (8, .int (r4)), (0, va_rf (l0)), (4, .int (l4)), (5, .int (l5)), (6, .int (l6)), (7, .int (l7))] (by decide) (by first | rfl | simp [List.filter, q_catR]) dX12_addSimple_199 ?_
        refine q_iload X 2 rfl dX12_addSimple_201 ?_
        refine q_bipush X (8) (by decide) dX12_addSimple_203 ?_
        refine q_iand X dX12_addSimple_205 ?_
        refine q_if_eq X 220 (by decide) dX12_addSimple_206 (fun g7 => ?_) (fun g7 => ?_)
        · rw [if_pos g7] at h
          refine q_lv [3, 1, 4, 5, 7, 2, 0] rfl ?_
          exact w_X12_addSimple_220 X hr hl ih _ _ _ _ _ _ _ _ h
        · rw [if_neg g7] at h
          refine q_aload_n X 3 rfl dX12_addSimple_209 ?_
          refine q_iload_n X 1 rfl dX12_addSimple_210 ?_
          refine q_iconst X (1) (by decide) dX12_addSimple_211 ?_
          obtain ⟨a8, ea8, ma8, ka8, h⟩ := q_atE h
          obtain ⟨r9, S10, c11, h⟩ := q_bE h
          refine q_cVI X (As := [.int (l2 + (1)), .int ((1 : Int32))]) ea8 ma8 ka8 rfl (by decide) (c_X12_data c11) (q_cwV X tK_X12_data tM_X12_199 tI_X12_data tV_X12_data tN_X12 rfl rfl tD_X12_data ⟨Nat.le_of_ble_eq_true rfl, Nat.le_of_ble_eq_true rfl⟩) rfl rfl (by first | exact Nat.le_of_ble_eq_true rfl | (simp only [List.map, q_catR]; exact Nat.le_of_ble_eq_true rfl)) ⟨Nat.zero_le _, Nat.zero_le _⟩ dX12_addSimple_212 ?_
          refine q_istore X 9 [(9, .int (r9)), (2, .int (l2 + (1))), (8, .int (r4)), (0, va_rf (l0)), (4, .int (l4)), (5, .int (l5)), (6, .int (l6)), (7, .int (l7))] (by decide) (by first | rfl | simp [List.filter, q_catR]) dX12_addSimple_215 ?_
          refine q_iinc X 2 1 ((l2 + (1)) + (1)) [(2, .int ((l2 + (1)) + (1))), (9, .int (r9)), (8, .int (r4)), (0, va_rf (l0)), (4, .int (l4)), (5, .int (l5)), (6, .int (l6)), (7, .int (l7))] rfl (congrArg (fun z => (l2 + (1)) + z) (show Int32.ofInt (1) = (1) by decide)) (by decide) (by first | rfl | simp [List.filter, q_catR]) dX12_addSimple_217 ?_
          refine q_lv [3, 0, 4, 5, 7, 2, 1] rfl ?_
          exact w_X12_addSimple_220 X hr hl ih _ _ _ _ _ _ _ _ h
def m_X12_addSimple_170 (n : Nat) (S : q_S) (l0 : Option Nat) (l2 : Int32) (l4 : Int32) (l5 : Int32) (s0 : Int32) : Option (Int32 × q_S) := m_X12_addSimple_175 n n (S) (l0) (l2) (l4) (l5) (s0) ((0 : Int32))
set_option maxHeartbeats 4000000 in
set_option maxRecDepth 100000 in
theorem w_X12_addSimple_170 (X : q_X p s m args c cX12_addSimple 11 RX12 q_T D cy A) (hr : meth.sig.returnType = (some .boolean)) (hl : meth.locks = false)  {n : Nat} {Sv : q_S} {rv : Int32}  (S : q_S) (l0 : Option Nat) (l2 : Int32) (l4 : Int32) (l5 : Int32) (s0 : Int32) (h : m_X12_addSimple_170 n S l0 l2 l4 l5 s0 = some (rv, Sv)) : q_W p l e ({ frames := 3, cells := 0, slots := 0, locals := 76 } : Room) s m args below meth c (MQ below (va_Qi (fun (r : Int32) (u : q_S) => r = rv ∧ u = Sv) (q_B D cy A) A) args s 0 0 A) A D cy 11 0 0 S 170 [(0, va_rf (l0)), (2, .int (l2)), (4, .int (l4)), (5, .int (l5))] [.int (s0)] := by
  unfold m_X12_addSimple_170 at h
  refine q_istore X 6 [(6, .int (s0)), (0, va_rf (l0)), (2, .int (l2)), (4, .int (l4)), (5, .int (l5))] (by decide) (by first | rfl | simp [List.filter, q_catR]) dX12_addSimple_170 ?_
  refine q_iconst X (0) (by decide) dX12_addSimple_172 ?_
  refine q_istore X 7 [(7, .int ((0 : Int32))), (6, .int (s0)), (0, va_rf (l0)), (2, .int (l2)), (4, .int (l4)), (5, .int (l5))] (by decide) (by first | rfl | simp [List.filter, q_catR]) dX12_addSimple_173 ?_
  refine q_lv [2, 3, 4, 5, 1, 0] rfl ?_
  exact w_X12_addSimple_175 X hr hl n _ _ _ _ _ _ _ h
def m_X12_addSimple_169 (n : Nat) (S : q_S) (l0 : Option Nat) (l2 : Int32) (l4 : Int32) (l5 : Int32) : Option (Int32 × q_S) := m_X12_addSimple_170 n (S) (l0) (l2) (l4) (l5) ((0 : Int32))
set_option maxHeartbeats 4000000 in
set_option maxRecDepth 100000 in
theorem w_X12_addSimple_169 (X : q_X p s m args c cX12_addSimple 11 RX12 q_T D cy A) (hr : meth.sig.returnType = (some .boolean)) (hl : meth.locks = false)  {n : Nat} {Sv : q_S} {rv : Int32}  (S : q_S) (l0 : Option Nat) (l2 : Int32) (l4 : Int32) (l5 : Int32) (h : m_X12_addSimple_169 n S l0 l2 l4 l5 = some (rv, Sv)) : q_W p l e ({ frames := 3, cells := 0, slots := 0, locals := 76 } : Room) s m args below meth c (MQ below (va_Qi (fun (r : Int32) (u : q_S) => r = rv ∧ u = Sv) (q_B D cy A) A) args s 0 0 A) A D cy 11 0 0 S 169 [(0, va_rf (l0)), (2, .int (l2)), (4, .int (l4)), (5, .int (l5))] [] := by
  unfold m_X12_addSimple_169 at h
  refine q_iconst X (0) (by decide) dX12_addSimple_169 ?_
  exact w_X12_addSimple_170 X hr hl _ _ _ _ _ _ h
def m_X12_addSimple_108 (n : Nat) (S : q_S) (l0 : Option Nat) (l2 : Int32) (l3 : Int32) (l4 : Int32) : Option (Int32 × q_S) := q_at (S) (l0) 13 (fun a1 => q_b (m_X12_data n (S) a1 (l2) ((2 : Int32))) (fun r2 S3 => q_at (S3) (l0) 13 (fun a5 => (if (q_I (S3) a5 8) = 0 then (if (q_I (S3) a5 22) < ((q_I (S3) a5 21) + (l2 + ((2 : Int32) + r2))) then m_X12_addSimple_169 n (S3) (l0) (l2 + ((2 : Int32) + r2)) (l4) (l3 + (1 : Int32)) else q_b (m_X12_find n (S3) a5 ((1735162214 : Int64))) (fun r8 S9 => q_at (S9) (q_R (S3) a5 7) 100 (fun a11 => q_if (q_in (r8) (q_N (S9) a11) = true) ((if (q_I (S9) a11 (r8).toNatClampNeg) < ((q_I (S3) a5 21) + (l2 + ((2 : Int32) + r2))) then m_X12_addSimple_169 n (S9) (l0) (l2 + ((2 : Int32) + r2)) (l4) (l3 + (1 : Int32)) else m_X12_addSimple_170 n (S9) (l0) (l2 + ((2 : Int32) + r2)) (l4) (l3 + (1 : Int32)) ((1 : Int32))))))) else m_X12_addSimple_169 n (S3) (l0) (l2 + ((2 : Int32) + r2)) (l4) (l3 + (1 : Int32))))))
set_option maxHeartbeats 4000000 in
set_option maxRecDepth 100000 in
theorem w_X12_addSimple_108 (X : q_X p s m args c cX12_addSimple 11 RX12 q_T D cy A) (hr : meth.sig.returnType = (some .boolean)) (hl : meth.locks = false)  {n : Nat} {Sv : q_S} {rv : Int32}  (S : q_S) (l0 : Option Nat) (l2 : Int32) (l3 : Int32) (l4 : Int32) (h : m_X12_addSimple_108 n S l0 l2 l3 l4 = some (rv, Sv)) : q_W p l e ({ frames := 3, cells := 0, slots := 0, locals := 76 } : Room) s m args below meth c (MQ below (va_Qi (fun (r : Int32) (u : q_S) => r = rv ∧ u = Sv) (q_B D cy A) A) args s 0 0 A) A D cy 11 0 0 S 108 [(0, va_rf (l0)), (2, .int (l2)), (3, .int (l3)), (4, .int (l4))] [] := by
  unfold m_X12_addSimple_108 at h
  refine q_iload_n X 1 rfl dX12_addSimple_108 ?_
  refine q_iconst X (2) (by decide) dX12_addSimple_109 ?_
  refine q_aload_n X 0 rfl dX12_addSimple_110 ?_
  refine q_iload_n X 1 rfl dX12_addSimple_111 ?_
  refine q_iconst X (2) (by decide) dX12_addSimple_112 ?_
  obtain ⟨a1, ea1, ma1, ka1, h⟩ := q_atE h
  obtain ⟨r2, S3, c4, h⟩ := q_bE h
  refine q_cVI X (As := [.int (l2), .int ((2 : Int32))]) ea1 ma1 ka1 rfl (by decide) (c_X12_data c4) (q_cwV X tK_X12_data tM_X12_199 tI_X12_data tV_X12_data tN_X12 rfl rfl tD_X12_data ⟨Nat.le_of_ble_eq_true rfl, Nat.le_of_ble_eq_true rfl⟩) rfl rfl (by first | exact Nat.le_of_ble_eq_true rfl | (simp only [List.map, q_catR]; exact Nat.le_of_ble_eq_true rfl)) ⟨Nat.zero_le _, Nat.zero_le _⟩ dX12_addSimple_113 ?_
  refine q_iadd X dX12_addSimple_116 ?_
  refine q_iadd X dX12_addSimple_117 ?_
  refine q_istore_n X 2 [(2, .int (l2 + ((2 : Int32) + r2))), (0, va_rf (l0)), (3, .int (l3)), (4, .int (l4))] rfl (by decide) (by first | rfl | simp [List.filter, q_catR]) dX12_addSimple_118 ?_
  refine q_iload_n X 2 rfl dX12_addSimple_119 ?_
  refine q_iconst X (1) (by decide) dX12_addSimple_120 ?_
  refine q_iadd X dX12_addSimple_121 ?_
  refine q_istore X 5 [(5, .int (l3 + (1 : Int32))), (2, .int (l2 + ((2 : Int32) + r2))), (0, va_rf (l0)), (3, .int (l3)), (4, .int (l4))] (by decide) (by first | rfl | simp [List.filter, q_catR]) dX12_addSimple_122 ?_
  refine q_aload_n X 2 rfl dX12_addSimple_124 ?_
  obtain ⟨a5, ea5, ma5, ka5, h⟩ := q_atE h
  refine q_getI X 8 ea5 ma5 ka5 rfl tW_X12 (by decide) (by decide) tF_X12_114 rfl dX12_addSimple_125 ?_
  refine q_if_ne X 169 (by decide) dX12_addSimple_128 (fun g6 => ?_) (fun g6 => ?_)
  · rw [if_neg g6] at h
    refine q_lv [2, 1, 4, 0] rfl ?_
    exact w_X12_addSimple_169 X hr hl _ _ _ _ _ h
  · rw [if_pos g6] at h
    refine q_aload_n X 2 rfl dX12_addSimple_131 ?_
    refine q_getI X 21 ea5 ma5 ka5 rfl tW_X12 (by decide) (by decide) tF_X12_191 rfl dX12_addSimple_132 ?_
    refine q_iload_n X 1 rfl dX12_addSimple_135 ?_
    refine q_iadd X dX12_addSimple_136 ?_
    refine q_aload_n X 2 rfl dX12_addSimple_137 ?_
    refine q_getI X 22 ea5 ma5 ka5 rfl tW_X12 (by decide) (by decide) tF_X12_194 rfl dX12_addSimple_138 ?_
    refine q_icmp_gt X 169 (by decide) dX12_addSimple_141 (fun g7 => ?_) (fun g7 => ?_)
    · rw [if_pos g7] at h
      refine q_lv [2, 1, 4, 0] rfl ?_
      exact w_X12_addSimple_169 X hr hl _ _ _ _ _ h
    · rw [if_neg g7] at h
      refine q_aload_n X 2 rfl dX12_addSimple_144 ?_
      refine q_getI X 21 ea5 ma5 ka5 rfl tW_X12 (by decide) (by decide) tF_X12_191 rfl dX12_addSimple_145 ?_
      refine q_iload_n X 1 rfl dX12_addSimple_148 ?_
      refine q_iadd X dX12_addSimple_149 ?_
      refine q_aload_n X 2 rfl dX12_addSimple_150 ?_
      refine q_getR X 7 ea5 ma5 ka5 rfl tW_X12 (by decide) (by decide) tF_X12_23 rfl dX12_addSimple_151 ?_
      refine q_aload_n X 2 rfl dX12_addSimple_154 ?_
      refine q_ldc2_w X (1735162214) tC_X12_197 dX12_addSimple_155 ?_
      obtain ⟨r8, S9, c10, h⟩ := q_bE h
      refine q_cVI X (As := [.long ((1735162214 : Int64))]) ea5 ma5 ka5 rfl (by decide) (c_X12_find c10) (q_cwV X tK_X12_find tM_X12_127 tI_X12_find tV_X12_find tN_X12 rfl rfl tD_X12_find ⟨Nat.le_of_ble_eq_true rfl, Nat.le_of_ble_eq_true rfl⟩) rfl rfl (by first | exact Nat.le_of_ble_eq_true rfl | (simp only [List.map, q_catR]; exact Nat.le_of_ble_eq_true rfl)) ⟨Nat.zero_le _, Nat.zero_le _⟩ dX12_addSimple_158 ?_
      obtain ⟨a11, ea11, ma11, ka11, h⟩ := q_atE h
      obtain ⟨g12, h⟩ := q_ifE h
      refine q_iaload X ea11 ma11 ka11 (q_inE g12) dX12_addSimple_161 ?_
      refine q_icmp_gt X 169 (by decide) dX12_addSimple_162 (fun g13 => ?_) (fun g13 => ?_)
      · rw [if_pos g13] at h
        refine q_lv [2, 1, 4, 0] rfl ?_
        exact w_X12_addSimple_169 X hr hl _ _ _ _ _ h
      · rw [if_neg g13] at h
        refine q_iconst X (1) (by decide) dX12_addSimple_165 ?_
        refine q_goto X 170 (by decide) dX12_addSimple_166 ?_
        refine q_lv [2, 1, 4, 0] rfl ?_
        exact w_X12_addSimple_170 X hr hl _ _ _ _ _ _ h
def m_X12_addSimple_65 (n : Nat) (S : q_S) (l0 : Option Nat) (l4 : Int32) : Option (Int32 × q_S) := q_at (S) (l0) 13 (fun a1 => q_if ((0 : Int32) = 0 ∨ (0 : Int32) = 1) (some ((0 : Int32), q_sI (S) a1 18 (l4))))
set_option maxHeartbeats 4000000 in
set_option maxRecDepth 100000 in
theorem w_X12_addSimple_65 (X : q_X p s m args c cX12_addSimple 11 RX12 q_T D cy A) (hr : meth.sig.returnType = (some .boolean)) (hl : meth.locks = false)  {n : Nat} {Sv : q_S} {rv : Int32}  (S : q_S) (l0 : Option Nat) (l4 : Int32) (h : m_X12_addSimple_65 n S l0 l4 = some (rv, Sv)) : q_W p l e ({ frames := 3, cells := 0, slots := 0, locals := 76 } : Room) s m args below meth c (MQ below (va_Qi (fun (r : Int32) (u : q_S) => r = rv ∧ u = Sv) (q_B D cy A) A) args s 0 0 A) A D cy 11 0 0 S 65 [(0, va_rf (l0)), (4, .int (l4))] [] := by
  unfold m_X12_addSimple_65 at h
  refine q_aload_n X 0 rfl dX12_addSimple_65 ?_
  refine q_iload X 1 rfl dX12_addSimple_66 ?_
  obtain ⟨a1, ea1, ma1, ka1, h⟩ := q_atE h
  refine q_putI X 18 ea1 ma1 ka1 rfl tW_X12 (by decide) (by decide) tF_X12_139 tyX12 tyX12_ok nmX12 rfl (tyX12_ok 18 (by decide)) rfl rfl rfl dX12_addSimple_68 ?_
  have ma1 : a1 ∈ q_L (q_sI (S) a1 18 (l4)) := q_LsI ma1
  have ka1 : q_K (q_sI (S) a1 18 (l4)) a1 = 13 := q_KsI ka1
  refine q_iconst X (0) (by decide) dX12_addSimple_71 ?_
  obtain ⟨g2, h⟩ := q_ifE h
  obtain ⟨ev, eS⟩ := q_end h
  exact q_iret X hr hl (q_bool g2) ev eS dX12_addSimple_72
def m_X12_addSimple_14 (n : Nat) : Nat → q_S → Option Nat → Int32 → Int32 → Int32 → Int32 → Int32 → Option (Int32 × q_S)
  | 0, _, _, _, _, _, _, _ => none
  | k + 1, S, l0, l1, l2, l3, l4, l5 => (if l1 ≤ l5 then m_X12_addSimple_108 n (S) (l0) (l2) (l3) (l4) else q_at (S) (l0) 13 (fun a2 => (if (q_I (S) a2 8) = 0 then q_b (m_X12_data n (S) a2 (l2) ((2 : Int32))) (fun r4 S5 => q_at (S5) (l0) 13 (fun a7 => (if (q_I (S5) a7 8) = 0 then (if r4 ≤ l3 then m_X12_addSimple_65 n (S5) (l0) (l4) else (if (((q_I (S5) a7 14) + r4) + (1 : Int32)) ≤ (120 : Int32) then q_at (S5) (q_R (S5) a7 19) 100 (fun a11 => q_if (q_in (q_I (S5) a7 18) (q_N (S5) a11) = true) (q_let (q_sI (q_sI (S5) a11 (q_I (S5) a7 18).toNatClampNeg ((q_I (S5) a7 14) + r4)) a7 18 ((q_I (q_sI (S5) a11 (q_I (S5) a7 18).toNatClampNeg ((q_I (S5) a7 14) + r4)) a7 18) + (1 : Int32))) (fun S13 => m_X12_addSimple_14 n k (S13) (l0) (l1) (l2 + (2)) (r4) (l4) (l5 + (1))))) else m_X12_addSimple_65 n (S5) (l0) (l4))) else m_X12_addSimple_65 n (S5) (l0) (l4)))) else m_X12_addSimple_108 n (S) (l0) (l2) (l3) (l4))))
set_option maxHeartbeats 4000000 in
set_option maxRecDepth 100000 in
theorem w_X12_addSimple_14 (X : q_X p s m args c cX12_addSimple 11 RX12 q_T D cy A) (hr : meth.sig.returnType = (some .boolean)) (hl : meth.locks = false)  {n : Nat} {Sv : q_S} {rv : Int32}  : ∀ (k : Nat) (S : q_S) (l0 : Option Nat) (l1 : Int32) (l2 : Int32) (l3 : Int32) (l4 : Int32) (l5 : Int32), m_X12_addSimple_14 n k S l0 l1 l2 l3 l4 l5 = some (rv, Sv) → q_W p l e ({ frames := 3, cells := 0, slots := 0, locals := 76 } : Room) s m args below meth c (MQ below (va_Qi (fun (r : Int32) (u : q_S) => r = rv ∧ u = Sv) (q_B D cy A) A) args s 0 0 A) A D cy 11 0 0 S 14 [(0, va_rf (l0)), (1, .int (l1)), (2, .int (l2)), (3, .int (l3)), (4, .int (l4)), (5, .int (l5))] [] := by
  intro k
  induction k with
  | zero => intro S l0 l1 l2 l3 l4 l5 h; rw [m_X12_addSimple_14] at h; cases h
  | succ k ih =>
    intro S l0 l1 l2 l3 l4 l5 h
    rw [m_X12_addSimple_14] at h
    refine q_iload X 5 rfl dX12_addSimple_14 ?_
    refine q_iload_n X 1 rfl dX12_addSimple_16 ?_
    refine q_icmp_ge X 108 (by decide) dX12_addSimple_17 (fun g1 => ?_) (fun g1 => ?_)
    · rw [if_pos g1] at h
      refine q_lv [0, 2, 3, 4] rfl ?_
      exact w_X12_addSimple_108 X hr hl _ _ _ _ _ h
    · rw [if_neg g1] at h
      refine q_aload_n X 0 rfl dX12_addSimple_20 ?_
      obtain ⟨a2, ea2, ma2, ka2, h⟩ := q_atE h
      refine q_getI X 8 ea2 ma2 ka2 rfl tW_X12 (by decide) (by decide) tF_X12_114 rfl dX12_addSimple_21 ?_
      refine q_if_ne X 108 (by decide) dX12_addSimple_24 (fun g3 => ?_) (fun g3 => ?_)
      · rw [if_neg g3] at h
        refine q_lv [0, 2, 3, 4] rfl ?_
        exact w_X12_addSimple_108 X hr hl _ _ _ _ _ h
      · rw [if_pos g3] at h
        refine q_aload_n X 0 rfl dX12_addSimple_27 ?_
        refine q_iload_n X 2 rfl dX12_addSimple_28 ?_
        refine q_iconst X (2) (by decide) dX12_addSimple_29 ?_
        obtain ⟨r4, S5, c6, h⟩ := q_bE h
        refine q_cVI X (As := [.int (l2), .int ((2 : Int32))]) ea2 ma2 ka2 rfl (by decide) (c_X12_data c6) (q_cwV X tK_X12_data tM_X12_199 tI_X12_data tV_X12_data tN_X12 rfl rfl tD_X12_data ⟨Nat.le_of_ble_eq_true rfl, Nat.le_of_ble_eq_true rfl⟩) rfl rfl (by first | exact Nat.le_of_ble_eq_true rfl | (simp only [List.map, q_catR]; exact Nat.le_of_ble_eq_true rfl)) ⟨Nat.zero_le _, Nat.zero_le _⟩ dX12_addSimple_30 ?_
        refine q_istore X 6 [(6, .int (r4)), (0, va_rf (l0)), (1, .int (l1)), (2, .int (l2)), (3, .int (l3)), (4, .int (l4)), (5, .int (l5))] (by decide) (by first | rfl | simp [List.filter, q_catR]) dX12_addSimple_33 ?_
        refine q_iinc X 2 3 (l2 + (2)) [(2, .int (l2 + (2))), (6, .int (r4)), (0, va_rf (l0)), (1, .int (l1)), (3, .int (l3)), (4, .int (l4)), (5, .int (l5))] rfl (congrArg (fun z => l2 + z) (show Int32.ofInt (2) = (2) by decide)) (by decide) (by first | rfl | simp [List.filter, q_catR]) dX12_addSimple_35 ?_
        refine q_aload_n X 2 rfl dX12_addSimple_38 ?_
        obtain ⟨a7, ea7, ma7, ka7, h⟩ := q_atE h
        refine q_getI X 8 ea7 ma7 ka7 rfl tW_X12 (by decide) (by decide) tF_X12_114 rfl dX12_addSimple_39 ?_
        refine q_if_ne X 65 (by decide) dX12_addSimple_42 (fun g8 => ?_) (fun g8 => ?_)
        · rw [if_neg g8] at h
          refine q_lv [2, 5] rfl ?_
          exact w_X12_addSimple_65 X hr hl _ _ _ h
        · rw [if_pos g8] at h
          refine q_iload X 1 rfl dX12_addSimple_45 ?_
          refine q_iload_n X 4 rfl dX12_addSimple_47 ?_
          refine q_icmp_le X 65 (by decide) dX12_addSimple_48 (fun g9 => ?_) (fun g9 => ?_)
          · rw [if_pos g9] at h
            refine q_lv [2, 5] rfl ?_
            exact w_X12_addSimple_65 X hr hl _ _ _ h
          · rw [if_neg g9] at h
            refine q_aload_n X 2 rfl dX12_addSimple_51 ?_
            refine q_getI X 14 ea7 ma7 ka7 rfl tW_X12 (by decide) (by decide) tF_X12_136 rfl dX12_addSimple_52 ?_
            refine q_iload X 1 rfl dX12_addSimple_55 ?_
            refine q_iadd X dX12_addSimple_57 ?_
            refine q_iconst X (1) (by decide) dX12_addSimple_58 ?_
            refine q_iadd X dX12_addSimple_59 ?_
            refine q_bipush X (120) (by decide) dX12_addSimple_60 ?_
            refine q_icmp_le X 73 (by decide) dX12_addSimple_62 (fun g10 => ?_) (fun g10 => ?_)
            · rw [if_pos g10] at h
              refine q_iload X 1 rfl dX12_addSimple_73 ?_
              refine q_istore_n X 3 [(3, .int (r4)), (2, .int (l2 + (2))), (6, .int (r4)), (0, va_rf (l0)), (1, .int (l1)), (4, .int (l4)), (5, .int (l5))] rfl (by decide) (by first | rfl | simp [List.filter, q_catR]) dX12_addSimple_75 ?_
              refine q_aload_n X 3 rfl dX12_addSimple_76 ?_
              refine q_getR X 19 ea7 ma7 ka7 rfl tW_X12 (by decide) (by decide) tF_X12_48 rfl dX12_addSimple_77 ?_
              refine q_aload_n X 3 rfl dX12_addSimple_80 ?_
              refine q_getI X 18 ea7 ma7 ka7 rfl tW_X12 (by decide) (by decide) tF_X12_139 rfl dX12_addSimple_81 ?_
              refine q_aload_n X 3 rfl dX12_addSimple_84 ?_
              refine q_getI X 14 ea7 ma7 ka7 rfl tW_X12 (by decide) (by decide) tF_X12_136 rfl dX12_addSimple_85 ?_
              refine q_iload X 2 rfl dX12_addSimple_88 ?_
              refine q_iadd X dX12_addSimple_90 ?_
              obtain ⟨a11, ea11, ma11, ka11, h⟩ := q_atE h
              obtain ⟨g12, h⟩ := q_ifE h
              refine q_iastore X ea11 ma11 ka11 (q_inE g12) dX12_addSimple_91 ?_
              have ma7 : a7 ∈ q_L (q_sI (S5) a11 (q_I (S5) a7 18).toNatClampNeg ((q_I (S5) a7 14) + r4)) := q_LsI ma7
              have ka7 : q_K (q_sI (S5) a11 (q_I (S5) a7 18).toNatClampNeg ((q_I (S5) a7 14) + r4)) a7 = 13 := q_KsI ka7
              have ma11 : a11 ∈ q_L (q_sI (S5) a11 (q_I (S5) a7 18).toNatClampNeg ((q_I (S5) a7 14) + r4)) := q_LsI ma11
              have ka11 : q_K (q_sI (S5) a11 (q_I (S5) a7 18).toNatClampNeg ((q_I (S5) a7 14) + r4)) a11 = 100 := q_KsI ka11
              refine q_aload_n X 3 rfl dX12_addSimple_92 ?_
              refine q_dup X (q_catR _) dX12_addSimple_93 ?_
              refine q_getI X 18 ea7 ma7 ka7 rfl tW_X12 (by decide) (by decide) tF_X12_139 rfl dX12_addSimple_94 ?_
              refine q_iconst X (1) (by decide) dX12_addSimple_97 ?_
              refine q_iadd X dX12_addSimple_98 ?_
              refine q_putI X 18 ea7 ma7 ka7 rfl tW_X12 (by decide) (by decide) tF_X12_139 tyX12 tyX12_ok nmX12 rfl (tyX12_ok 18 (by decide)) rfl rfl rfl dX12_addSimple_99 ?_
              have ma7 : a7 ∈ q_L (q_sI (q_sI (S5) a11 (q_I (S5) a7 18).toNatClampNeg ((q_I (S5) a7 14) + r4)) a7 18 ((q_I (q_sI (S5) a11 (q_I (S5) a7 18).toNatClampNeg ((q_I (S5) a7 14) + r4)) a7 18) + (1 : Int32))) := q_LsI ma7
              have ka7 : q_K (q_sI (q_sI (S5) a11 (q_I (S5) a7 18).toNatClampNeg ((q_I (S5) a7 14) + r4)) a7 18 ((q_I (q_sI (S5) a11 (q_I (S5) a7 18).toNatClampNeg ((q_I (S5) a7 14) + r4)) a7 18) + (1 : Int32))) a7 = 13 := q_KsI ka7
              have ma11 : a11 ∈ q_L (q_sI (q_sI (S5) a11 (q_I (S5) a7 18).toNatClampNeg ((q_I (S5) a7 14) + r4)) a7 18 ((q_I (q_sI (S5) a11 (q_I (S5) a7 18).toNatClampNeg ((q_I (S5) a7 14) + r4)) a7 18) + (1 : Int32))) := q_LsI ma11
              have ka11 : q_K (q_sI (q_sI (S5) a11 (q_I (S5) a7 18).toNatClampNeg ((q_I (S5) a7 14) + r4)) a7 18 ((q_I (q_sI (S5) a11 (q_I (S5) a7 18).toNatClampNeg ((q_I (S5) a7 14) + r4)) a7 18) + (1 : Int32))) a11 = 100 := q_KsI ka11
              refine q_iinc X 5 6 (l5 + (1)) [(5, .int (l5 + (1))), (3, .int (r4)), (2, .int (l2 + (2))), (6, .int (r4)), (0, va_rf (l0)), (1, .int (l1)), (4, .int (l4))] rfl (congrArg (fun z => l5 + z) (show Int32.ofInt (1) = (1) by decide)) (by decide) (by first | rfl | simp [List.filter, q_catR]) dX12_addSimple_102 ?_
              obtain ⟨S13, eS13, h⟩ := q_letE h
              refine q_sub eS13 ?_
              have ma7 : a7 ∈ q_L S13 := by rw [eS13]; exact ma7
              have ka7 : q_K S13 a7 = 13 := by rw [eS13]; exact ka7
              have ma11 : a11 ∈ q_L S13 := by rw [eS13]; exact ma11
              have ka11 : q_K S13 a11 = 100 := by rw [eS13]; exact ka11
              refine q_goto X 14 (by decide) dX12_addSimple_105 ?_
              refine q_lv [4, 5, 2, 1, 6, 0] rfl ?_
              exact ih _ _ _ _ _ _ _ h
            · rw [if_neg g10] at h
              refine q_lv [2, 5] rfl ?_
              exact w_X12_addSimple_65 X hr hl _ _ _ h
def m_X12_addSimple (n : Nat) (S : q_S) (o : Nat) (p0 : Int32) : Option (Int32 × q_S) := q_at (S) (some o) 13 (fun a1 => m_X12_addSimple_14 n n (S) (some o) (p0) ((10 : Int32)) ((-1 : Int32)) (q_I (S) a1 18) ((0 : Int32)))
set_option maxHeartbeats 4000000 in
set_option maxRecDepth 100000 in
theorem w_X12_addSimple (X : q_X p s m args c cX12_addSimple 11 RX12 q_T D cy A) (hr : meth.sig.returnType = (some .boolean)) (hl : meth.locks = false)  {n : Nat} {S Sv : q_S} {rv : Int32} {o : Nat} {p0 : Int32} (h : m_X12_addSimple n S o p0 = some (rv, Sv)) : q_W p l e ({ frames := 3, cells := 0, slots := 0, locals := 76 } : Room) s m args below meth c (MQ below (va_Qi (fun (r : Int32) (u : q_S) => r = rv ∧ u = Sv) (q_B D cy A) A) args s 0 0 A) A D cy 11 0 0 S 0 [(0, va_rf (some o)), (1, .int (p0))] [] := by
  unfold m_X12_addSimple at h
  refine q_bipush X (10) (by decide) dX12_addSimple_0 ?_
  refine q_istore_n X 2 [(2, .int ((10 : Int32))), (0, va_rf (some o)), (1, .int (p0))] rfl (by decide) (by first | rfl | simp [List.filter, q_catR]) dX12_addSimple_2 ?_
  refine q_iconst X (-1) (by decide) dX12_addSimple_3 ?_
  refine q_istore_n X 3 [(3, .int ((-1 : Int32))), (2, .int ((10 : Int32))), (0, va_rf (some o)), (1, .int (p0))] rfl (by decide) (by first | rfl | simp [List.filter, q_catR]) dX12_addSimple_4 ?_
  refine q_aload_n X 2 rfl dX12_addSimple_5 ?_
  obtain ⟨a1, ea1, ma1, ka1, h⟩ := q_atE h
  refine q_getI X 18 ea1 ma1 ka1 rfl tW_X12 (by decide) (by decide) tF_X12_139 rfl dX12_addSimple_6 ?_
  refine q_istore X 4 [(4, .int (q_I (S) a1 18)), (3, .int ((-1 : Int32))), (2, .int ((10 : Int32))), (0, va_rf (some o)), (1, .int (p0))] (by decide) (by first | rfl | simp [List.filter, q_catR]) dX12_addSimple_9 ?_
  refine q_iconst X (0) (by decide) dX12_addSimple_11 ?_
  refine q_istore X 5 [(5, .int ((0 : Int32))), (4, .int (q_I (S) a1 18)), (3, .int ((-1 : Int32))), (2, .int ((10 : Int32))), (0, va_rf (some o)), (1, .int (p0))] (by decide) (by first | rfl | simp [List.filter, q_catR]) dX12_addSimple_12 ?_
  refine q_lv [4, 5, 3, 2, 1, 0] rfl ?_
  exact w_X12_addSimple_14 X hr hl n _ _ _ _ _ _ _ h
theorem tD_X12_addSimple : yX12_addSimple.cls ≠ "java/lang/invoke/MethodHandle" ∧ yX12_addSimple.cls ≠ "java/lang/invoke/VarHandle" ∧ (parseMethodDescriptor yX12_addSimple.desc).map (fun d => d.parameters.length) = some 1 := by decide +kernel
theorem c_X12_addSimple {l : Launch} {D : va_G} {cy : Nat → ClassId} {n : Nat} {S Sv : q_S} {rv : Int32} {o : Nat} {p0 : Int32} (h : m_X12_addSimple n S o p0 = some (rv, Sv)) : q_MI l yX12_addSimple (q_ws yX12_addSimple cX12_addSimple 11 ((some .boolean))) ({ frames := 3, cells := 0, slots := 0, locals := 76 } : Room) D cy [.ref o, .int (p0)] S rv Sv := by
  exact q_MI_of (by decide +kernel) (Nat.le_of_ble_eq_true rfl) (fun p e s m args below meth c A X hr hl => w_X12_addSimple X hr hl h)
end MM
