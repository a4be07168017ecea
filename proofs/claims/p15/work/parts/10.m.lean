section MM
variable {p : Program} {l : Launch} {e : Env} {s : State} {m : MethodId} {args : Array Value} {below : List Frame} {meth : Method} {c : Code} {A : Nat → Prop} {D : va_G} {cy : Nat → ClassId}
/-! java/lang/Math.floorDiv(JJ)J -/
def m_J9_floorDiv_f86c9_27 (n : Nat) (S : q_S) (l4 : Int64) : Option (Int64 × q_S) := some (l4, S)
set_option maxHeartbeats 4000000 in
set_option maxRecDepth 100000 in
theorem w_J9_floorDiv_f86c9_27 (X : q_X p s m args c cJ9_floorDiv_f86c9 6 RJ9 q_T D cy A) (hr : meth.sig.returnType = (some .long)) (hl : meth.locks = false)  {n : Nat} {Sv : q_S} {rv : Int64}  (S : q_S) (l4 : Int64) (h : m_J9_floorDiv_f86c9_27 n S l4 = some (rv, Sv)) : q_W p l e ({ frames := 0, cells := 0, slots := 0, locals := 0 } : Room) s m args below meth c (MQ below (va_Ql (fun (r : Int64) (u : q_S) => r = rv ∧ u = Sv) (q_B D cy A) A) args s 0 0 A) A D cy 6 0 0 S 27 [(4, .long (l4))] [] := by
  unfold m_J9_floorDiv_f86c9_27 at h
  refine q_lload X 0 rfl dJ9_floorDiv_f86c9_27 ?_
  obtain ⟨ev, eS⟩ := q_end h
  exact q_lret X hr hl ev eS dJ9_floorDiv_f86c9_29
def m_J9_floorDiv_f86c9 (n : Nat) (S : q_S) (p0 : Int64) (p1 : Int64) : Option (Int64 × q_S) := q_if (¬ p1 = 0) ((if 0 ≤ (lg_cmp ((p0 ^^^ p1)) ((0 : Int64))) then m_J9_floorDiv_f86c9_27 n (S) (p0 / p1) else (if (lg_cmp (((p0 / p1) * p1)) (p0)) = 0 then m_J9_floorDiv_f86c9_27 n (S) (p0 / p1) else some ((p0 / p1) - (1 : Int64), S))))
set_option maxHeartbeats 4000000 in
set_option maxRecDepth 100000 in
theorem w_J9_floorDiv_f86c9 (X : q_X p s m args c cJ9_floorDiv_f86c9 6 RJ9 q_T D cy A) (hr : meth.sig.returnType = (some .long)) (hl : meth.locks = false)  {n : Nat} {S Sv : q_S} {rv : Int64} {p0 : Int64} {p1 : Int64} (h : m_J9_floorDiv_f86c9 n S p0 p1 = some (rv, Sv)) : q_W p l e ({ frames := 0, cells := 0, slots := 0, locals := 0 } : Room) s m args below meth c (MQ below (va_Ql (fun (r : Int64) (u : q_S) => r = rv ∧ u = Sv) (q_B D cy A) A) args s 0 0 A) A D cy 6 0 0 S 0 [(0, .long (p0)), (2, .long (p1))] [] := by
  unfold m_J9_floorDiv_f86c9 at h
  refine q_lload_n X 0 rfl dJ9_floorDiv_f86c9_0 ?_
  refine q_lload_n X 1 rfl dJ9_floorDiv_f86c9_1 ?_
  obtain ⟨g1, h⟩ := q_ifE h
  refine q_ldiv X g1 dJ9_floorDiv_f86c9_2 ?_
  refine q_lstore X 4 [(4, .long (p0 / p1)), (0, .long (p0)), (2, .long (p1))] (by decide) (by first | rfl | simp [List.filter, q_catR]) dJ9_floorDiv_f86c9_3 ?_
  refine q_lload_n X 1 rfl dJ9_floorDiv_f86c9_5 ?_
  refine q_lload_n X 2 rfl dJ9_floorDiv_f86c9_6 ?_
  refine q_lxor X dJ9_floorDiv_f86c9_7 ?_
  refine q_lconst X (0) (by decide) dJ9_floorDiv_f86c9_8 ?_
  refine q_lcmp X dJ9_floorDiv_f86c9_9 ?_
  refine q_if_ge X 27 (by decide) dJ9_floorDiv_f86c9_10 (fun g2 => ?_) (fun g2 => ?_)
  · rw [if_pos g2] at h
    refine q_lv [0] rfl ?_
    exact w_J9_floorDiv_f86c9_27 X hr hl _ _ h
  · rw [if_neg g2] at h
    refine q_lload X 0 rfl dJ9_floorDiv_f86c9_13 ?_
    refine q_lload_n X 2 rfl dJ9_floorDiv_f86c9_15 ?_
    refine q_lmul X dJ9_floorDiv_f86c9_16 ?_
    refine q_lload_n X 1 rfl dJ9_floorDiv_f86c9_17 ?_
    refine q_lcmp X dJ9_floorDiv_f86c9_18 ?_
    refine q_if_eq X 27 (by decide) dJ9_floorDiv_f86c9_19 (fun g3 => ?_) (fun g3 => ?_)
    · rw [if_pos g3] at h
      refine q_lv [0] rfl ?_
      exact w_J9_floorDiv_f86c9_27 X hr hl _ _ h
    · rw [if_neg g3] at h
      refine q_lload X 0 rfl dJ9_floorDiv_f86c9_22 ?_
      refine q_lconst X (1) (by decide) dJ9_floorDiv_f86c9_24 ?_
      refine q_lsub X dJ9_floorDiv_f86c9_25 ?_
      obtain ⟨ev, eS⟩ := q_end h
      exact q_lret X hr hl ev eS dJ9_floorDiv_f86c9_26
theorem tD_J9_floorDiv_f86c9 : yJ9_floorDiv_f86c9.cls ≠ "java/lang/invoke/MethodHandle" ∧ yJ9_floorDiv_f86c9.cls ≠ "java/lang/invoke/VarHandle" ∧ (parseMethodDescriptor yJ9_floorDiv_f86c9.desc).map (fun d => d.parameters.length) = some 2 := by decide +kernel
theorem c_J9_floorDiv_f86c9 {l : Launch} {D : va_G} {cy : Nat → ClassId} {n : Nat} {S Sv : q_S} {rv : Int64} {p0 : Int64} {p1 : Int64} (h : m_J9_floorDiv_f86c9 n S p0 p1 = some (rv, Sv)) : q_MJ l yJ9_floorDiv_f86c9 (q_ws yJ9_floorDiv_f86c9 cJ9_floorDiv_f86c9 6 ((some .long))) ({ frames := 0, cells := 0, slots := 0, locals := 0 } : Room) D cy [.long (p0), .long (p1)] S rv Sv := by
  exact q_MJ_of (by decide +kernel) (Nat.le_of_ble_eq_true rfl) (fun p e s m args below meth c A X hr hl => w_J9_floorDiv_f86c9 X hr hl h)
/-! java/lang/Math.max(II)I -/
def m_J9_max_7cf53_10 (n : Nat) (S : q_S) (s0 : Int32) : Option (Int32 × q_S) := some (s0, S)
set_option maxHeartbeats 4000000 in
set_option maxRecDepth 100000 in
theorem w_J9_max_7cf53_10 (X : q_X p s m args c cJ9_max_7cf53 2 RJ9 q_T D cy A) (hr : meth.sig.returnType = (some .int)) (hl : meth.locks = false)  {n : Nat} {Sv : q_S} {rv : Int32}  (S : q_S) (s0 : Int32) (h : m_J9_max_7cf53_10 n S s0 = some (rv, Sv)) : q_W p l e ({ frames := 0, cells := 0, slots := 0, locals := 0 } : Room) s m args below meth c (MQ below (va_Qi (fun (r : Int32) (u : q_S) => r = rv ∧ u = Sv) (q_B D cy A) A) args s 0 0 A) A D cy 2 0 0 S 10 [] [.int (s0)] := by
  unfold m_J9_max_7cf53_10 at h
  obtain ⟨ev, eS⟩ := q_end h
  exact q_iret X hr hl rfl ev eS dJ9_max_7cf53_10
def m_J9_max_7cf53 (n : Nat) (S : q_S) (p0 : Int32) (p1 : Int32) : Option (Int32 × q_S) := (if p0 < p1 then m_J9_max_7cf53_10 n (S) (p1) else m_J9_max_7cf53_10 n (S) (p0))
set_option maxHeartbeats 4000000 in
set_option maxRecDepth 100000 in
theorem w_J9_max_7cf53 (X : q_X p s m args c cJ9_max_7cf53 2 RJ9 q_T D cy A) (hr : meth.sig.returnType = (some .int)) (hl : meth.locks = false)  {n : Nat} {S Sv : q_S} {rv : Int32} {p0 : Int32} {p1 : Int32} (h : m_J9_max_7cf53 n S p0 p1 = some (rv, Sv)) : q_W p l e ({ frames := 0, cells := 0, slots := 0, locals := 0 } : Room) s m args below meth c (MQ below (va_Qi (fun (r : Int32) (u : q_S) => r = rv ∧ u = Sv) (q_B D cy A) A) args s 0 0 A) A D cy 2 0 0 S 0 [(0, .int (p0)), (1, .int (p1))] [] := by
  unfold m_J9_max_7cf53 at h
  refine q_iload_n X 0 rfl dJ9_max_7cf53_0 ?_
  refine q_iload_n X 1 rfl dJ9_max_7cf53_1 ?_
  refine q_icmp_lt X 9 (by decide) dJ9_max_7cf53_2 (fun g1 => ?_) (fun g1 => ?_)
  · rw [if_pos g1] at h
    refine q_iload_n X 1 rfl dJ9_max_7cf53_9 ?_
    refine q_lv [] rfl ?_
    exact w_J9_max_7cf53_10 X hr hl _ _ h
  · rw [if_neg g1] at h
    refine q_iload_n X 0 rfl dJ9_max_7cf53_5 ?_
    refine q_goto X 10 (by decide) dJ9_max_7cf53_6 ?_
    refine q_lv [] rfl ?_
    exact w_J9_max_7cf53_10 X hr hl _ _ h
theorem tD_J9_max_7cf53 : yJ9_max_7cf53.cls ≠ "java/lang/invoke/MethodHandle" ∧ yJ9_max_7cf53.cls ≠ "java/lang/invoke/VarHandle" ∧ (parseMethodDescriptor yJ9_max_7cf53.desc).map (fun d => d.parameters.length) = some 2 := by decide +kernel
theorem c_J9_max_7cf53 {l : Launch} {D : va_G} {cy : Nat → ClassId} {n : Nat} {S Sv : q_S} {rv : Int32} {p0 : Int32} {p1 : Int32} (h : m_J9_max_7cf53 n S p0 p1 = some (rv, Sv)) : q_MI l yJ9_max_7cf53 (q_ws yJ9_max_7cf53 cJ9_max_7cf53 2 ((some .int))) ({ frames := 0, cells := 0, slots := 0, locals := 0 } : Room) D cy [.int (p0), .int (p1)] S rv Sv := by
  exact q_MI_of (by decide +kernel) (Nat.le_of_ble_eq_true rfl) (fun p e s m args below meth c A X hr hl => w_J9_max_7cf53 X hr hl h)
/-! java/lang/Math.min(II)I -/
def m_J9_min_7cf53_10 (n : Nat) (S : q_S) (s0 : Int32) : Option (Int32 × q_S) := some (s0, S)
set_option maxHeartbeats 4000000 in
set_option maxRecDepth 100000 in
theorem w_J9_min_7cf53_10 (X : q_X p s m args c cJ9_min_7cf53 2 RJ9 q_T D cy A) (hr : meth.sig.returnType = (some .int)) (hl : meth.locks = false)  {n : Nat} {Sv : q_S} {rv : Int32}  (S : q_S) (s0 : Int32) (h : m_J9_min_7cf53_10 n S s0 = some (rv, Sv)) : q_W p l e ({ frames := 0, cells := 0, slots := 0, locals := 0 } : Room) s m args below meth c (MQ below (va_Qi (fun (r : Int32) (u : q_S) => r = rv ∧ u = Sv) (q_B D cy A) A) args s 0 0 A) A D cy 2 0 0 S 10 [] [.int (s0)] := by
  unfold m_J9_min_7cf53_10 at h
  obtain ⟨ev, eS⟩ := q_end h
  exact q_iret X hr hl rfl ev eS dJ9_min_7cf53_10
def m_J9_min_7cf53 (n : Nat) (S : q_S) (p0 : Int32) (p1 : Int32) : Option (Int32 × q_S) := (if p1 < p0 then m_J9_min_7cf53_10 n (S) (p1) else m_J9_min_7cf53_10 n (S) (p0))
set_option maxHeartbeats 4000000 in
set_option maxRecDepth 100000 in
theorem w_J9_min_7cf53 (X : q_X p s m args c cJ9_min_7cf53 2 RJ9 q_T D cy A) (hr : meth.sig.returnType = (some .int)) (hl : meth.locks = false)  {n : Nat} {S Sv : q_S} {rv : Int32} {p0 : Int32} {p1 : Int32} (h : m_J9_min_7cf53 n S p0 p1 = some (rv, Sv)) : q_W p l e ({ frames := 0, cells := 0, slots := 0, locals := 0 } : Room) s m args below meth c (MQ below (va_Qi (fun (r : Int32) (u : q_S) => r = rv ∧ u = Sv) (q_B D cy A) A) args s 0 0 A) A D cy 2 0 0 S 0 [(0, .int (p0)), (1, .int (p1))] [] := by
  unfold m_J9_min_7cf53 at h
  refine q_iload_n X 0 rfl dJ9_min_7cf53_0 ?_
  refine q_iload_n X 1 rfl dJ9_min_7cf53_1 ?_
  refine q_icmp_gt X 9 (by decide) dJ9_min_7cf53_2 (fun g1 => ?_) (fun g1 => ?_)
  · rw [if_pos g1] at h
    refine q_iload_n X 1 rfl dJ9_min_7cf53_9 ?_
    refine q_lv [] rfl ?_
    exact w_J9_min_7cf53_10 X hr hl _ _ h
  · rw [if_neg g1] at h
    refine q_iload_n X 0 rfl dJ9_min_7cf53_5 ?_
    refine q_goto X 10 (by decide) dJ9_min_7cf53_6 ?_
    refine q_lv [] rfl ?_
    exact w_J9_min_7cf53_10 X hr hl _ _ h
theorem tD_J9_min_7cf53 : yJ9_min_7cf53.cls ≠ "java/lang/invoke/MethodHandle" ∧ yJ9_min_7cf53.cls ≠ "java/lang/invoke/VarHandle" ∧ (parseMethodDescriptor yJ9_min_7cf53.desc).map (fun d => d.parameters.length) = some 2 := by decide +kernel
theorem c_J9_min_7cf53 {l : Launch} {D : va_G} {cy : Nat → ClassId} {n : Nat} {S Sv : q_S} {rv : Int32} {p0 : Int32} {p1 : Int32} (h : m_J9_min_7cf53 n S p0 p1 = some (rv, Sv)) : q_MI l yJ9_min_7cf53 (q_ws yJ9_min_7cf53 cJ9_min_7cf53 2 ((some .int))) ({ frames := 0, cells := 0, slots := 0, locals := 0 } : Room) D cy [.int (p0), .int (p1)] S rv Sv := by
  exact q_MI_of (by decide +kernel) (Nat.le_of_ble_eq_true rfl) (fun p e s m args below meth c A X hr hl => w_J9_min_7cf53 X hr hl h)
/-! java/lang/Math.min(JJ)J -/
def m_J9_min_f86c9_11 (n : Nat) (S : q_S) (s0 : Int64) : Option (Int64 × q_S) := some (s0, S)
set_option maxHeartbeats 4000000 in
set_option maxRecDepth 100000 in
theorem w_J9_min_f86c9_11 (X : q_X p s m args c cJ9_min_f86c9 4 RJ9 q_T D cy A) (hr : meth.sig.returnType = (some .long)) (hl : meth.locks = false)  {n : Nat} {Sv : q_S} {rv : Int64}  (S : q_S) (s0 : Int64) (h : m_J9_min_f86c9_11 n S s0 = some (rv, Sv)) : q_W p l e ({ frames := 0, cells := 0, slots := 0, locals := 0 } : Room) s m args below meth c (MQ below (va_Ql (fun (r : Int64) (u : q_S) => r = rv ∧ u = Sv) (q_B D cy A) A) args s 0 0 A) A D cy 4 0 0 S 11 [] [.long (s0)] := by
  unfold m_J9_min_f86c9_11 at h
  obtain ⟨ev, eS⟩ := q_end h
  exact q_lret X hr hl ev eS dJ9_min_f86c9_11
def m_J9_min_f86c9 (n : Nat) (S : q_S) (p0 : Int64) (p1 : Int64) : Option (Int64 × q_S) := (if 0 < (lg_cmp (p0) (p1)) then m_J9_min_f86c9_11 n (S) (p1) else m_J9_min_f86c9_11 n (S) (p0))
set_option maxHeartbeats 4000000 in
set_option maxRecDepth 100000 in
theorem w_J9_min_f86c9 (X : q_X p s m args c cJ9_min_f86c9 4 RJ9 q_T D cy A) (hr : meth.sig.returnType = (some .long)) (hl : meth.locks = false)  {n : Nat} {S Sv : q_S} {rv : Int64} {p0 : Int64} {p1 : Int64} (h : m_J9_min_f86c9 n S p0 p1 = some (rv, Sv)) : q_W p l e ({ frames := 0, cells := 0, slots := 0, locals := 0 } : Room) s m args below meth c (MQ below (va_Ql (fun (r : Int64) (u : q_S) => r = rv ∧ u = Sv) (q_B D cy A) A) args s 0 0 A) A D cy 4 0 0 S 0 [(0, .long (p0)), (2, .long (p1))] [] := by
  unfold m_J9_min_f86c9 at h
  refine q_lload_n X 0 rfl dJ9_min_f86c9_0 ?_
  refine q_lload_n X 1 rfl dJ9_min_f86c9_1 ?_
  refine q_lcmp X dJ9_min_f86c9_2 ?_
  refine q_if_gt X 10 (by decide) dJ9_min_f86c9_3 (fun g1 => ?_) (fun g1 => ?_)
  · rw [if_pos g1] at h
    refine q_lload_n X 1 rfl dJ9_min_f86c9_10 ?_
    refine q_lv [] rfl ?_
    exact w_J9_min_f86c9_11 X hr hl _ _ h
  · rw [if_neg g1] at h
    refine q_lload_n X 0 rfl dJ9_min_f86c9_6 ?_
    refine q_goto X 11 (by decide) dJ9_min_f86c9_7 ?_
    refine q_lv [] rfl ?_
    exact w_J9_min_f86c9_11 X hr hl _ _ h
theorem tD_J9_min_f86c9 : yJ9_min_f86c9.cls ≠ "java/lang/invoke/MethodHandle" ∧ yJ9_min_f86c9.cls ≠ "java/lang/invoke/VarHandle" ∧ (parseMethodDescriptor yJ9_min_f86c9.desc).map (fun d => d.parameters.length) = some 2 := by decide +kernel
theorem c_J9_min_f86c9 {l : Launch} {D : va_G} {cy : Nat → ClassId} {n : Nat} {S Sv : q_S} {rv : Int64} {p0 : Int64} {p1 : Int64} (h : m_J9_min_f86c9 n S p0 p1 = some (rv, Sv)) : q_MJ l yJ9_min_f86c9 (q_ws yJ9_min_f86c9 cJ9_min_f86c9 4 ((some .long))) ({ frames := 0, cells := 0, slots := 0, locals := 0 } : Room) D cy [.long (p0), .long (p1)] S rv Sv := by
  exact q_MJ_of (by decide +kernel) (Nat.le_of_ble_eq_true rfl) (fun p e s m args below meth c A X hr hl => w_J9_min_f86c9 X hr hl h)
/-! TrueOutlines$Row.four(JJ)J -/
def m_X4_four_30 (n : Nat) (S : q_S) : Option (Int64 × q_S) := some ((-1 : Int64), S)
set_option maxHeartbeats 4000000 in
set_option maxRecDepth 100000 in
theorem w_X4_four_30 (X : q_X p s m args c cX4_four 8 RX4 q_T D cy A) (hr : meth.sig.returnType = (some .long)) (hl : meth.locks = false)  {n : Nat} {Sv : q_S} {rv : Int64}  (S : q_S) (h : m_X4_four_30 n S = some (rv, Sv)) : q_W p l e ({ frames := 0, cells := 0, slots := 0, locals := 0 } : Room) s m args below meth c (MQ below (va_Ql (fun (r : Int64) (u : q_S) => r = rv ∧ u = Sv) (q_B D cy A) A) args s 0 0 A) A D cy 8 0 0 S 30 [] [] := by
  unfold m_X4_four_30 at h
  refine q_ldc2_w X (-1) tC_X4_28 dX4_four_30 ?_
  obtain ⟨ev, eS⟩ := q_end h
  exact q_lret X hr hl ev eS dX4_four_33
def m_X4_four (n : Nat) (S : q_S) (o : Nat) (p0 : Int64) (p1 : Int64) : Option (Int64 × q_S) := (if (lg_cmp (p0) ((0 : Int64))) < 0 then m_X4_four_30 n (S) else (if 0 ≤ (lg_cmp ((p0 + (3 : Int64))) (p1)) then m_X4_four_30 n (S) else q_at (S) (some o) 5 (fun a3 => (if (lg_cmp ((p0 + (3 : Int64))) (((q_I (S) a3 1).toInt64))) < 0 then q_at (S) (q_R (S) a3 0) 100 (fun a5 => q_if (q_in (p0.toInt32) (q_N (S) a5) = true) (q_if (q_in ((p0.toInt32) + (1 : Int32)) (q_N (S) a5) = true) (q_if (q_in ((p0.toInt32) + (2 : Int32)) (q_N (S) a5) = true) (q_if (q_in ((p0.toInt32) + (3 : Int32)) (q_N (S) a5) = true) (some (((((((q_I (S) a5 (p0.toInt32).toNatClampNeg) <<< ((8 : Int32) &&& 31)) ||| (q_I (S) a5 ((p0.toInt32) + (1 : Int32)).toNatClampNeg)).toInt64) <<< (((16 : Int32)).toInt64 &&& 63)) ||| (((q_I (S) a5 ((p0.toInt32) + (2 : Int32)).toNatClampNeg) <<< ((8 : Int32) &&& 31)).toInt64)) ||| ((q_I (S) a5 ((p0.toInt32) + (3 : Int32)).toNatClampNeg).toInt64), S)))))) else m_X4_four_30 n (S)))))
set_option maxHeartbeats 4000000 in
set_option maxRecDepth 100000 in
theorem w_X4_four (X : q_X p s m args c cX4_four 8 RX4 q_T D cy A) (hr : meth.sig.returnType = (some .long)) (hl : meth.locks = false)  {n : Nat} {S Sv : q_S} {rv : Int64} {o : Nat} {p0 : Int64} {p1 : Int64} (h : m_X4_four n S o p0 p1 = some (rv, Sv)) : q_W p l e ({ frames := 0, cells := 0, slots := 0, locals := 0 } : Room) s m args below meth c (MQ below (va_Ql (fun (r : Int64) (u : q_S) => r = rv ∧ u = Sv) (q_B D cy A) A) args s 0 0 A) A D cy 8 0 0 S 0 [(0, va_rf (some o)), (1, .long (p0)), (3, .long (p1))] [] := by
  unfold m_X4_four at h
  refine q_lload_n X 1 rfl dX4_four_0 ?_
  refine q_lconst X (0) (by decide) dX4_four_1 ?_
  refine q_lcmp X dX4_four_2 ?_
  refine q_if_lt X 30 (by decide) dX4_four_3 (fun g1 => ?_) (fun g1 => ?_)
  · rw [if_pos g1] at h
    refine q_lv [] rfl ?_
    exact w_X4_four_30 X hr hl _ h
  · rw [if_neg g1] at h
    refine q_lload_n X 1 rfl dX4_four_6 ?_
    refine q_ldc2_w X (3) tC_X4_26 dX4_four_7 ?_
    refine q_ladd X dX4_four_10 ?_
    refine q_lload_n X 2 rfl dX4_four_11 ?_
    refine q_lcmp X dX4_four_12 ?_
    refine q_if_ge X 30 (by decide) dX4_four_13 (fun g2 => ?_) (fun g2 => ?_)
    · rw [if_pos g2] at h
      refine q_lv [] rfl ?_
      exact w_X4_four_30 X hr hl _ h
    · rw [if_neg g2] at h
      refine q_lload_n X 1 rfl dX4_four_16 ?_
      refine q_ldc2_w X (3) tC_X4_26 dX4_four_17 ?_
      refine q_ladd X dX4_four_20 ?_
      refine q_aload_n X 0 rfl dX4_four_21 ?_
      obtain ⟨a3, ea3, ma3, ka3, h⟩ := q_atE h
      refine q_getI X 1 ea3 ma3 ka3 rfl tW_X4 (by decide) (by decide) tF_X4_15 rfl dX4_four_22 ?_
      refine q_i2l X dX4_four_25 ?_
      refine q_lcmp X dX4_four_26 ?_
      refine q_if_lt X 34 (by decide) dX4_four_27 (fun g4 => ?_) (fun g4 => ?_)
      · rw [if_pos g4] at h
        refine q_lload_n X 1 rfl dX4_four_34 ?_
        refine q_l2i X dX4_four_35 ?_
        refine q_istore X 5 [(5, .int (p0.toInt32)), (0, va_rf (some o)), (1, .long (p0)), (3, .long (p1))] (by decide) (by first | rfl | simp [List.filter, q_catR]) dX4_four_36 ?_
        refine q_aload_n X 1 rfl dX4_four_38 ?_
        refine q_getR X 0 ea3 ma3 ka3 rfl tW_X4 (by decide) (by decide) tF_X4_9 rfl dX4_four_39 ?_
        refine q_iload X 0 rfl dX4_four_42 ?_
        obtain ⟨a5, ea5, ma5, ka5, h⟩ := q_atE h
        obtain ⟨g6, h⟩ := q_ifE h
        refine q_iaload X ea5 ma5 ka5 (q_inE g6) dX4_four_44 ?_
        refine q_bipush X (8) (by decide) dX4_four_45 ?_
        refine q_ishl X dX4_four_47 ?_
        refine q_aload_n X 1 rfl dX4_four_48 ?_
        refine q_getR X 0 ea3 ma3 ka3 rfl tW_X4 (by decide) (by decide) tF_X4_9 rfl dX4_four_49 ?_
        refine q_iload X 0 rfl dX4_four_52 ?_
        refine q_iconst X (1) (by decide) dX4_four_54 ?_
        refine q_iadd X dX4_four_55 ?_
        obtain ⟨g7, h⟩ := q_ifE h
        refine q_iaload X ea5 ma5 ka5 (q_inE g7) dX4_four_56 ?_
        refine q_ior X dX4_four_57 ?_
        refine q_i2l X dX4_four_58 ?_
        refine q_lstore X 6 [(6, .long ((((q_I (S) a5 (p0.toInt32).toNatClampNeg) <<< ((8 : Int32) &&& 31)) ||| (q_I (S) a5 ((p0.toInt32) + (1 : Int32)).toNatClampNeg)).toInt64)), (5, .int (p0.toInt32)), (0, va_rf (some o)), (1, .long (p0)), (3, .long (p1))] (by decide) (by first | rfl | simp [List.filter, q_catR]) dX4_four_59 ?_
        refine q_lload X 0 rfl dX4_four_61 ?_
        refine q_bipush X (16) (by decide) dX4_four_63 ?_
        refine q_lshl X dX4_four_65 ?_
        refine q_aload_n X 2 rfl dX4_four_66 ?_
        refine q_getR X 0 ea3 ma3 ka3 rfl tW_X4 (by decide) (by decide) tF_X4_9 rfl dX4_four_67 ?_
        refine q_iload X 1 rfl dX4_four_70 ?_
        refine q_iconst X (2) (by decide) dX4_four_72 ?_
        refine q_iadd X dX4_four_73 ?_
        obtain ⟨g8, h⟩ := q_ifE h
        refine q_iaload X ea5 ma5 ka5 (q_inE g8) dX4_four_74 ?_
        refine q_bipush X (8) (by decide) dX4_four_75 ?_
        refine q_ishl X dX4_four_77 ?_
        refine q_i2l X dX4_four_78 ?_
        refine q_lor X dX4_four_79 ?_
        refine q_aload_n X 2 rfl dX4_four_80 ?_
        refine q_getR X 0 ea3 ma3 ka3 rfl tW_X4 (by decide) (by decide) tF_X4_9 rfl dX4_four_81 ?_
        refine q_iload X 1 rfl dX4_four_84 ?_
        refine q_iconst X (3) (by decide) dX4_four_86 ?_
        refine q_iadd X dX4_four_87 ?_
        obtain ⟨g9, h⟩ := q_ifE h
        refine q_iaload X ea5 ma5 ka5 (q_inE g9) dX4_four_88 ?_
        refine q_i2l X dX4_four_89 ?_
        refine q_lor X dX4_four_90 ?_
        obtain ⟨ev, eS⟩ := q_end h
        exact q_lret X hr hl ev eS dX4_four_91
      · rw [if_neg g4] at h
        refine q_lv [] rfl ?_
        exact w_X4_four_30 X hr hl _ h
theorem tD_X4_four : yX4_four.cls ≠ "java/lang/invoke/MethodHandle" ∧ yX4_four.cls ≠ "java/lang/invoke/VarHandle" ∧ (parseMethodDescriptor yX4_four.desc).map (fun d => d.parameters.length) = some 2 := by decide +kernel
theorem c_X4_four {l : Launch} {D : va_G} {cy : Nat → ClassId} {n : Nat} {S Sv : q_S} {rv : Int64} {o : Nat} {p0 : Int64} {p1 : Int64} (h : m_X4_four n S o p0 p1 = some (rv, Sv)) : q_MJ l yX4_four (q_ws yX4_four cX4_four 8 ((some .long))) ({ frames := 0, cells := 0, slots := 0, locals := 0 } : Room) D cy [.ref o, .long (p0), .long (p1)] S rv Sv := by
  exact q_MJ_of (by decide +kernel) (Nat.le_of_ble_eq_true rfl) (fun p e s m args below meth c A X hr hl => w_X4_four X hr hl h)
/-! TrueOutlines$Table.end()J -/
def m_X7_end (n : Nat) (S : q_S) (o : Nat)  : Option (Int64 × q_S) := q_at (S) (some o) 8 (fun a1 => some (((q_I (S) a1 3).toInt64) + ((q_I (S) a1 4).toInt64), S))
set_option maxHeartbeats 4000000 in
set_option maxRecDepth 100000 in
theorem w_X7_end (X : q_X p s m args c cX7_end 1 RX7 q_T D cy A) (hr : meth.sig.returnType = (some .long)) (hl : meth.locks = false)  {n : Nat} {S Sv : q_S} {rv : Int64} {o : Nat}  (h : m_X7_end n S o = some (rv, Sv)) : q_W p l e ({ frames := 0, cells := 0, slots := 0, locals := 0 } : Room) s m args below meth c (MQ below (va_Ql (fun (r : Int64) (u : q_S) => r = rv ∧ u = Sv) (q_B D cy A) A) args s 0 0 A) A D cy 1 0 0 S 0 [(0, va_rf (some o))] [] := by
  unfold m_X7_end at h
  refine q_aload_n X 0 rfl dX7_end_0 ?_
  obtain ⟨a1, ea1, ma1, ka1, h⟩ := q_atE h
  refine q_getI X 3 ea1 ma1 ka1 rfl tW_X7 (by decide) (by decide) tF_X7_22 rfl dX7_end_1 ?_
  refine q_i2l X dX7_end_4 ?_
  refine q_aload_n X 0 rfl dX7_end_5 ?_
  refine q_getI X 4 ea1 ma1 ka1 rfl tW_X7 (by decide) (by decide) tF_X7_26 rfl dX7_end_6 ?_
  refine q_i2l X dX7_end_9 ?_
  refine q_ladd X dX7_end_10 ?_
  obtain ⟨ev, eS⟩ := q_end h
  exact q_lret X hr hl ev eS dX7_end_11
theorem tD_X7_end : yX7_end.cls ≠ "java/lang/invoke/MethodHandle" ∧ yX7_end.cls ≠ "java/lang/invoke/VarHandle" ∧ (parseMethodDescriptor yX7_end.desc).map (fun d => d.parameters.length) = some 0 := by decide +kernel
theorem c_X7_end {l : Launch} {D : va_G} {cy : Nat → ClassId} {n : Nat} {S Sv : q_S} {rv : Int64} {o : Nat}  (h : m_X7_end n S o = some (rv, Sv)) : q_MJ l yX7_end (q_ws yX7_end cX7_end 1 ((some .long))) ({ frames := 0, cells := 0, slots := 0, locals := 0 } : Room) D cy [.ref o] S rv Sv := by
  exact q_MJ_of (by decide +kernel) (Nat.le_of_ble_eq_true rfl) (fun p e s m args below meth c A X hr hl => w_X7_end X hr hl h)
/-! TrueOutlines$Table.four(J)J -/
def m_X7_four_30 (n : Nat) (S : q_S) (s0 : Int64) : Option (Int64 × q_S) := some (s0, S)
set_option maxHeartbeats 4000000 in
set_option maxRecDepth 100000 in
theorem w_X7_four_30 (X : q_X p s m args c cX7_four 3 RX7 q_T D cy A) (hr : meth.sig.returnType = (some .long)) (hl : meth.locks = false)  {n : Nat} {Sv : q_S} {rv : Int64}  (S : q_S) (s0 : Int64) (h : m_X7_four_30 n S s0 = some (rv, Sv)) : q_W p l e ({ frames := 1, cells := 0, slots := 0, locals := 27 } : Room) s m args below meth c (MQ below (va_Ql (fun (r : Int64) (u : q_S) => r = rv ∧ u = Sv) (q_B D cy A) A) args s 0 0 A) A D cy 3 0 0 S 30 [] [.long (s0)] := by
  unfold m_X7_four_30 at h
  obtain ⟨ev, eS⟩ := q_end h
  exact q_lret X hr hl ev eS dX7_four_30
def m_X7_four (n : Nat) (S : q_S) (o : Nat) (p0 : Int64) : Option (Int64 × q_S) := (if 0 ≤ (lg_cmp (p0) ((0 : Int64))) then q_at (S) (some o) 8 (fun a2 => q_b (m_X7_end n (S) a2) (fun r3 S4 => q_at (S4) (q_R (S) a2 0) 5 (fun a6 => q_b (m_X4_four n (S4) a6 (((q_I (S) a2 3).toInt64) + p0) (r3)) (fun r7 S8 => m_X7_four_30 n (S8) (r7))))) else m_X7_four_30 n (S) ((-1 : Int64)))
set_option maxHeartbeats 4000000 in
set_option maxRecDepth 100000 in
theorem w_X7_four (X : q_X p s m args c cX7_four 3 RX7 q_T D cy A) (hr : meth.sig.returnType = (some .long)) (hl : meth.locks = false)  {n : Nat} {S Sv : q_S} {rv : Int64} {o : Nat} {p0 : Int64} (h : m_X7_four n S o p0 = some (rv, Sv)) : q_W p l e ({ frames := 1, cells := 0, slots := 0, locals := 27 } : Room) s m args below meth c (MQ below (va_Ql (fun (r : Int64) (u : q_S) => r = rv ∧ u = Sv) (q_B D cy A) A) args s 0 0 A) A D cy 3 0 0 S 0 [(0, va_rf (some o)), (1, .long (p0))] [] := by
  unfold m_X7_four at h
  refine q_lload_n X 1 rfl dX7_four_0 ?_
  refine q_lconst X (0) (by decide) dX7_four_1 ?_
  refine q_lcmp X dX7_four_2 ?_
  refine q_if_ge X 12 (by decide) dX7_four_3 (fun g1 => ?_) (fun g1 => ?_)
  · rw [if_pos g1] at h
    refine q_aload_n X 0 rfl dX7_four_12 ?_
    obtain ⟨a2, ea2, ma2, ka2, h⟩ := q_atE h
    refine q_getR X 0 ea2 ma2 ka2 rfl tW_X7 (by decide) (by decide) tF_X7_9 rfl dX7_four_13 ?_
    refine q_aload_n X 0 rfl dX7_four_16 ?_
    refine q_getI X 3 ea2 ma2 ka2 rfl tW_X7 (by decide) (by decide) tF_X7_22 rfl dX7_four_17 ?_
    refine q_i2l X dX7_four_20 ?_
    refine q_lload_n X 1 rfl dX7_four_21 ?_
    refine q_ladd X dX7_four_22 ?_
    refine q_aload_n X 0 rfl dX7_four_23 ?_
    obtain ⟨r3, S4, c5, h⟩ := q_bE h
    refine q_cVJ X (As := []) ea2 ma2 ka2 rfl (by decide) (c_X7_end c5) (q_cwV X tK_X7_end tM_X7_29 tI_X7_end tV_X7_end tN_X7 rfl rfl tD_X7_end ⟨Nat.le_of_ble_eq_true rfl, Nat.le_of_ble_eq_true rfl⟩) rfl rfl (by first | exact Nat.le_of_ble_eq_true rfl | (simp only [List.map, q_catR]; exact Nat.le_of_ble_eq_true rfl)) ⟨Nat.zero_le _, Nat.zero_le _⟩ dX7_four_24 ?_
    obtain ⟨a6, ea6, ma6, ka6, h⟩ := q_atE h
    obtain ⟨r7, S8, c9, h⟩ := q_bE h
    refine q_cVJ X (As := [.long (((q_I (S) a2 3).toInt64) + p0), .long (r3)]) ea6 ma6 ka6 rfl (by decide) (c_X4_four c9) (q_cwV X tK_X4_four tM_X7_44 tI_X4_four tV_X4_four tN_X4 rfl rfl tD_X4_four ⟨Nat.le_of_ble_eq_true rfl, Nat.le_of_ble_eq_true rfl⟩) rfl rfl (by first | exact Nat.le_of_ble_eq_true rfl | (simp only [List.map, q_catR]; exact Nat.le_of_ble_eq_true rfl)) ⟨Nat.zero_le _, Nat.zero_le _⟩ dX7_four_27 ?_
    refine q_lv [] rfl ?_
    exact w_X7_four_30 X hr hl _ _ h
  · rw [if_neg g1] at h
    refine q_ldc2_w X (-1) tC_X7_42 dX7_four_6 ?_
    refine q_goto X 30 (by decide) dX7_four_9 ?_
    refine q_lv [] rfl ?_
    exact w_X7_four_30 X hr hl _ _ h
theorem tD_X7_four : yX7_four.cls ≠ "java/lang/invoke/MethodHandle" ∧ yX7_four.cls ≠ "java/lang/invoke/VarHandle" ∧ (parseMethodDescriptor yX7_four.desc).map (fun d => d.parameters.length) = some 1 := by decide +kernel
theorem c_X7_four {l : Launch} {D : va_G} {cy : Nat → ClassId} {n : Nat} {S Sv : q_S} {rv : Int64} {o : Nat} {p0 : Int64} (h : m_X7_four n S o p0 = some (rv, Sv)) : q_MJ l yX7_four (q_ws yX7_four cX7_four 3 ((some .long))) ({ frames := 1, cells := 0, slots := 0, locals := 27 } : Room) D cy [.ref o, .long (p0)] S rv Sv := by
  exact q_MJ_of (by decide +kernel) (Nat.le_of_ble_eq_true rfl) (fun p e s m args below meth c A X hr hl => w_X7_four X hr hl h)
/-! TrueOutlines$Codes.four(J)J -/
def m_X0_four (n : Nat) (S : q_S) (o : Nat) (p0 : Int64) : Option (Int64 × q_S) := q_at (S) (some o) 1 (fun a1 => q_at (S) (q_R (S) a1 1) 8 (fun a2 => q_b (m_X7_four n (S) a2 ((q_J (S) a1 2) + p0)) (fun r3 S4 => some (r3, S4))))
set_option maxHeartbeats 4000000 in
set_option maxRecDepth 100000 in
theorem w_X0_four (X : q_X p s m args c cX0_four 3 RX0 q_T D cy A) (hr : meth.sig.returnType = (some .long)) (hl : meth.locks = false)  {n : Nat} {S Sv : q_S} {rv : Int64} {o : Nat} {p0 : Int64} (h : m_X0_four n S o p0 = some (rv, Sv)) : q_W p l e ({ frames := 2, cells := 0, slots := 0, locals := 49 } : Room) s m args below meth c (MQ below (va_Ql (fun (r : Int64) (u : q_S) => r = rv ∧ u = Sv) (q_B D cy A) A) args s 0 0 A) A D cy 3 0 0 S 0 [(0, va_rf (some o)), (1, .long (p0))] [] := by
  unfold m_X0_four at h
  refine q_aload_n X 0 rfl dX0_four_0 ?_
  obtain ⟨a1, ea1, ma1, ka1, h⟩ := q_atE h
  refine q_getR X 1 ea1 ma1 ka1 rfl tW_X0 (by decide) (by decide) tF_X0_21 rfl dX0_four_1 ?_
  refine q_aload_n X 0 rfl dX0_four_4 ?_
  refine q_getJ X 2 ea1 ma1 ka1 rfl tW_X0 (by decide) (by decide) tF_X0_46 rfl dX0_four_5 ?_
  refine q_lload_n X 1 rfl dX0_four_8 ?_
  refine q_ladd X dX0_four_9 ?_
  obtain ⟨a2, ea2, ma2, ka2, h⟩ := q_atE h
  obtain ⟨r3, S4, c5, h⟩ := q_bE h
  refine q_cVJ X (As := [.long ((q_J (S) a1 2) + p0)]) ea2 ma2 ka2 rfl (by decide) (c_X7_four c5) (q_cwV X tK_X7_four tM_X0_42 tI_X7_four tV_X7_four tN_X7 rfl rfl tD_X7_four ⟨Nat.le_of_ble_eq_true rfl, Nat.le_of_ble_eq_true rfl⟩) rfl rfl (by first | exact Nat.le_of_ble_eq_true rfl | (simp only [List.map, q_catR]; exact Nat.le_of_ble_eq_true rfl)) ⟨Nat.zero_le _, Nat.zero_le _⟩ dX0_four_10 ?_
  obtain ⟨ev, eS⟩ := q_end h
  exact q_lret X hr hl ev eS dX0_four_13
theorem tD_X0_four : yX0_four.cls ≠ "java/lang/invoke/MethodHandle" ∧ yX0_four.cls ≠ "java/lang/invoke/VarHandle" ∧ (parseMethodDescriptor yX0_four.desc).map (fun d => d.parameters.length) = some 1 := by decide +kernel
theorem c_X0_four {l : Launch} {D : va_G} {cy : Nat → ClassId} {n : Nat} {S Sv : q_S} {rv : Int64} {o : Nat} {p0 : Int64} (h : m_X0_four n S o p0 = some (rv, Sv)) : q_MJ l yX0_four (q_ws yX0_four cX0_four 3 ((some .long))) ({ frames := 2, cells := 0, slots := 0, locals := 49 } : Room) D cy [.ref o, .long (p0)] S rv Sv := by
  exact q_MJ_of (by decide +kernel) (Nat.le_of_ble_eq_true rfl) (fun p e s m args below meth c A X hr hl => w_X0_four X hr hl h)
/-! TrueOutlines$Codes.findInGroups(I)J -/
def m_X0_findInGroups_89 (n : Nat) (S : q_S) : Option (Int64 × q_S) := some ((0 : Int64), S)
set_option maxHeartbeats 4000000 in
set_option maxRecDepth 100000 in
theorem w_X0_findInGroups_89 (X : q_X p s m args c cX0_findInGroups 14 RX0 q_T D cy A) (hr : meth.sig.returnType = (some .long)) (hl : meth.locks = false)  {n : Nat} {Sv : q_S} {rv : Int64}  (S : q_S) (h : m_X0_findInGroups_89 n S = some (rv, Sv)) : q_W p l e ({ frames := 3, cells := 0, slots := 0, locals := 71 } : Room) s m args below meth c (MQ below (va_Ql (fun (r : Int64) (u : q_S) => r = rv ∧ u = Sv) (q_B D cy A) A) args s 0 0 A) A D cy 14 0 0 S 89 [] [] := by
  unfold m_X0_findInGroups_89 at h
  refine q_lconst X (0) (by decide) dX0_findInGroups_89 ?_
  obtain ⟨ev, eS⟩ := q_end h
  exact q_lret X hr hl ev eS dX0_findInGroups_90
def m_X0_findInGroups_116 (n : Nat) (k11 : q_S → Option Nat → Int32 → Int64 → Int64 → Option (Int64 × q_S)) (S : q_S) (l0 : Option Nat) (l1 : Int32) (l2 : Int64) (l4 : Int64) : Option (Int64 × q_S) := k11 (S) (l0) (l1) (l2) (l4 + (1 : Int64))
set_option maxHeartbeats 4000000 in
set_option maxRecDepth 100000 in
theorem w_X0_findInGroups_116 (X : q_X p s m args c cX0_findInGroups 14 RX0 q_T D cy A) (hr : meth.sig.returnType = (some .long)) (hl : meth.locks = false)  {n : Nat} {Sv : q_S} {rv : Int64}  {k11 : q_S → Option Nat → Int32 → Int64 → Int64 → Option (Int64 × q_S)} (hk11 : ∀ (S : q_S) (z0 : Option Nat) (z1 : Int32) (z2 : Int64) (z3 : Int64), k11 S z0 z1 z2 z3 = some (rv, Sv) → q_W p l e ({ frames := 3, cells := 0, slots := 0, locals := 71 } : Room) s m args below meth c (MQ below (va_Ql (fun (r : Int64) (u : q_S) => r = rv ∧ u = Sv) (q_B D cy A) A) args s 0 0 A) A D cy 14 0 0 S 11 [(0, va_rf (z0)), (1, .int (z1)), (2, .long (z2)), (4, .long (z3))] []) (S : q_S) (l0 : Option Nat) (l1 : Int32) (l2 : Int64) (l4 : Int64) (h : m_X0_findInGroups_116 n k11 S l0 l1 l2 l4 = some (rv, Sv)) : q_W p l e ({ frames := 3, cells := 0, slots := 0, locals := 71 } : Room) s m args below meth c (MQ below (va_Ql (fun (r : Int64) (u : q_S) => r = rv ∧ u = Sv) (q_B D cy A) A) args s 0 0 A) A D cy 14 0 0 S 116 [(0, va_rf (l0)), (1, .int (l1)), (2, .long (l2)), (4, .long (l4))] [] := by
  unfold m_X0_findInGroups_116 at h
  refine q_lload X 3 rfl dX0_findInGroups_116 ?_
  refine q_lconst X (1) (by decide) dX0_findInGroups_118 ?_
  refine q_ladd X dX0_findInGroups_119 ?_
  refine q_lstore X 4 [(4, .long (l4 + (1 : Int64))), (0, va_rf (l0)), (1, .int (l1)), (2, .long (l2))] (by decide) (by first | rfl | simp [List.filter, q_catR]) dX0_findInGroups_120 ?_
  refine q_goto X 11 (by decide) dX0_findInGroups_122 ?_
  refine q_lv [1, 2, 3, 0] rfl ?_
  exact hk11 _ _ _ _ _ h
def m_X0_findInGroups_11 (n : Nat) : Nat → q_S → Option Nat → Int32 → Int64 → Int64 → Option (Int64 × q_S)
  | 0, _, _, _, _, _ => none
  | k + 1, S, l0, l1, l2, l4 => (if 0 ≤ (lg_cmp (l4) (l2)) then some ((0 : Int64), S) else q_at (S) (l0) 1 (fun a2 => q_b (m_X0_four n (S) a2 ((16 : Int64) + ((12 : Int64) * l4))) (fun r3 S4 => q_at (S4) (l0) 1 (fun a6 => q_b (m_X0_four n (S4) a6 (((16 : Int64) + ((12 : Int64) * l4)) + (4 : Int64))) (fun r7 S8 => q_at (S8) (l0) 1 (fun a10 => q_b (m_X0_four n (S8) a10 (((16 : Int64) + ((12 : Int64) * l4)) + (8 : Int64))) (fun r11 S12 => (if (lg_cmp (r3) ((-1 : Int64))) = 0 then m_X0_findInGroups_89 n (S12) else (if (lg_cmp (r7) ((-1 : Int64))) = 0 then m_X0_findInGroups_89 n (S12) else (if (lg_cmp (r11) ((-1 : Int64))) = 0 then m_X0_findInGroups_89 n (S12) else (if (lg_cmp ((l1.toInt64)) (r3)) < 0 then m_X0_findInGroups_116 n (m_X0_findInGroups_11 n k) (S12) (l0) (l1) (l2) (l4) else (if 0 < (lg_cmp ((l1.toInt64)) (r7)) then m_X0_findInGroups_116 n (m_X0_findInGroups_11 n k) (S12) (l0) (l1) (l2) (l4) else some (r11 + ((l1.toInt64) - r3), S12)))))))))))))
set_option maxHeartbeats 4000000 in
set_option maxRecDepth 100000 in
theorem w_X0_findInGroups_11 (X : q_X p s m args c cX0_findInGroups 14 RX0 q_T D cy A) (hr : meth.sig.returnType = (some .long)) (hl : meth.locks = false)  {n : Nat} {Sv : q_S} {rv : Int64}  : ∀ (k : Nat) (S : q_S) (l0 : Option Nat) (l1 : Int32) (l2 : Int64) (l4 : Int64), m_X0_findInGroups_11 n k S l0 l1 l2 l4 = some (rv, Sv) → q_W p l e ({ frames := 3, cells := 0, slots := 0, locals := 71 } : Room) s m args below meth c (MQ below (va_Ql (fun (r : Int64) (u : q_S) => r = rv ∧ u = Sv) (q_B D cy A) A) args s 0 0 A) A D cy 14 0 0 S 11 [(0, va_rf (l0)), (1, .int (l1)), (2, .long (l2)), (4, .long (l4))] [] := by
  intro k
  induction k with
  | zero => intro S l0 l1 l2 l4 h; rw [m_X0_findInGroups_11] at h; cases h
  | succ k ih =>
    intro S l0 l1 l2 l4 h
    rw [m_X0_findInGroups_11] at h
    refine q_lload X 3 rfl dX0_findInGroups_11 ?_
    refine q_lload_n X 2 rfl dX0_findInGroups_13 ?_
    refine q_lcmp X dX0_findInGroups_14 ?_
    refine q_if_ge X 125 (by decide) dX0_findInGroups_15 (fun g1 => ?_) (fun g1 => ?_)
    · rw [if_pos g1] at h
      refine q_lconst X (0) (by decide) dX0_findInGroups_125 ?_
      obtain ⟨ev, eS⟩ := q_end h
      exact q_lret X hr hl ev eS dX0_findInGroups_126
    · rw [if_neg g1] at h
      refine q_ldc2_w X (16) tC_X0_83 dX0_findInGroups_18 ?_
      refine q_ldc2_w X (12) tC_X0_80 dX0_findInGroups_21 ?_
      refine q_lload X 3 rfl dX0_findInGroups_24 ?_
      refine q_lmul X dX0_findInGroups_26 ?_
      refine q_ladd X dX0_findInGroups_27 ?_
      refine q_lstore X 6 [(6, .long ((16 : Int64) + ((12 : Int64) * l4))), (0, va_rf (l0)), (1, .int (l1)), (2, .long (l2)), (4, .long (l4))] (by decide) (by first | rfl | simp [List.filter, q_catR]) dX0_findInGroups_28 ?_
      refine q_aload_n X 1 rfl dX0_findInGroups_30 ?_
      refine q_lload X 0 rfl dX0_findInGroups_31 ?_
      obtain ⟨a2, ea2, ma2, ka2, h⟩ := q_atE h
      obtain ⟨r3, S4, c5, h⟩ := q_bE h
      refine q_cVJ X (As := [.long ((16 : Int64) + ((12 : Int64) * l4))]) ea2 ma2 ka2 rfl (by decide) (c_X0_four c5) (q_cwV X tK_X0_four tM_X0_82 tI_X0_four tV_X0_four tN_X0 rfl rfl tD_X0_four ⟨Nat.le_of_ble_eq_true rfl, Nat.le_of_ble_eq_true rfl⟩) rfl rfl (by first | exact Nat.le_of_ble_eq_true rfl | (simp only [List.map, q_catR]; exact Nat.le_of_ble_eq_true rfl)) ⟨Nat.zero_le _, Nat.zero_le _⟩ dX0_findInGroups_33 ?_
      refine q_lstore X 8 [(8, .long (r3)), (6, .long ((16 : Int64) + ((12 : Int64) * l4))), (0, va_rf (l0)), (1, .int (l1)), (2, .long (l2)), (4, .long (l4))] (by decide) (by first | rfl | simp [List.filter, q_catR]) dX0_findInGroups_36 ?_
      refine q_aload_n X 2 rfl dX0_findInGroups_38 ?_
      refine q_lload X 1 rfl dX0_findInGroups_39 ?_
      refine q_ldc2_w X (4) tC_X0_38 dX0_findInGroups_41 ?_
      refine q_ladd X dX0_findInGroups_44 ?_
      obtain ⟨a6, ea6, ma6, ka6, h⟩ := q_atE h
      obtain ⟨r7, S8, c9, h⟩ := q_bE h
      refine q_cVJ X (As := [.long (((16 : Int64) + ((12 : Int64) * l4)) + (4 : Int64))]) ea6 ma6 ka6 rfl (by decide) (c_X0_four c9) (q_cwV X tK_X0_four tM_X0_82 tI_X0_four tV_X0_four tN_X0 rfl rfl tD_X0_four ⟨Nat.le_of_ble_eq_true rfl, Nat.le_of_ble_eq_true rfl⟩) rfl rfl (by first | exact Nat.le_of_ble_eq_true rfl | (simp only [List.map, q_catR]; exact Nat.le_of_ble_eq_true rfl)) ⟨Nat.zero_le _, Nat.zero_le _⟩ dX0_findInGroups_45 ?_
      refine q_lstore X 10 [(10, .long (r7)), (8, .long (r3)), (6, .long ((16 : Int64) + ((12 : Int64) * l4))), (0, va_rf (l0)), (1, .int (l1)), (2, .long (l2)), (4, .long (l4))] (by decide) (by first | rfl | simp [List.filter, q_catR]) dX0_findInGroups_48 ?_
      refine q_aload_n X 3 rfl dX0_findInGroups_50 ?_
      refine q_lload X 2 rfl dX0_findInGroups_51 ?_
      refine q_ldc2_w X (8) tC_X0_40 dX0_findInGroups_53 ?_
      refine q_ladd X dX0_findInGroups_56 ?_
      obtain ⟨a10, ea10, ma10, ka10, h⟩ := q_atE h
      obtain ⟨r11, S12, c13, h⟩ := q_bE h
      refine q_cVJ X (As := [.long (((16 : Int64) + ((12 : Int64) * l4)) + (8 : Int64))]) ea10 ma10 ka10 rfl (by decide) (c_X0_four c13) (q_cwV X tK_X0_four tM_X0_82 tI_X0_four tV_X0_four tN_X0 rfl rfl tD_X0_four ⟨Nat.le_of_ble_eq_true rfl, Nat.le_of_ble_eq_true rfl⟩) rfl rfl (by first | exact Nat.le_of_ble_eq_true rfl | (simp only [List.map, q_catR]; exact Nat.le_of_ble_eq_true rfl)) ⟨Nat.zero_le _, Nat.zero_le _⟩ dX0_findInGroups_57 ?_
      refine q_lstore X 12 [(12, .long (r11)), (10, .long (r7)), (8, .long (r3)), (6, .long ((16 : Int64) + ((12 : Int64) * l4))), (0, va_rf (l0)), (1, .int (l1)), (2, .long (l2)), (4, .long (l4))] (by decide) (by first | rfl | simp [List.filter, q_catR]) dX0_findInGroups_60 ?_
      refine q_lload X 2 rfl dX0_findInGroups_62 ?_
      refine q_ldc2_w X (-1) tC_X0_50 dX0_findInGroups_64 ?_
      refine q_lcmp X dX0_findInGroups_67 ?_
      refine q_if_eq X 89 (by decide) dX0_findInGroups_68 (fun g14 => ?_) (fun g14 => ?_)
      · rw [if_pos g14] at h
        refine q_lv [] rfl ?_
        exact w_X0_findInGroups_89 X hr hl _ h
      · rw [if_neg g14] at h
        refine q_lload X 1 rfl dX0_findInGroups_71 ?_
        refine q_ldc2_w X (-1) tC_X0_50 dX0_findInGroups_73 ?_
        refine q_lcmp X dX0_findInGroups_76 ?_
        refine q_if_eq X 89 (by decide) dX0_findInGroups_77 (fun g15 => ?_) (fun g15 => ?_)
        · rw [if_pos g15] at h
          refine q_lv [] rfl ?_
          exact w_X0_findInGroups_89 X hr hl _ h
        · rw [if_neg g15] at h
          refine q_lload X 0 rfl dX0_findInGroups_80 ?_
          refine q_ldc2_w X (-1) tC_X0_50 dX0_findInGroups_82 ?_
          refine q_lcmp X dX0_findInGroups_85 ?_
          refine q_if_ne X 91 (by decide) dX0_findInGroups_86 (fun g16 => ?_) (fun g16 => ?_)
          · rw [if_neg g16] at h
            refine q_iload_n X 5 rfl dX0_findInGroups_91 ?_
            refine q_i2l X dX0_findInGroups_92 ?_
            refine q_lload X 2 rfl dX0_findInGroups_93 ?_
            refine q_lcmp X dX0_findInGroups_95 ?_
            refine q_if_lt X 116 (by decide) dX0_findInGroups_96 (fun g17 => ?_) (fun g17 => ?_)
            · rw [if_pos g17] at h
              refine q_lv [4, 5, 6, 7] rfl ?_
              exact w_X0_findInGroups_116 X hr hl ih _ _ _ _ _ h
            · rw [if_neg g17] at h
              refine q_iload_n X 5 rfl dX0_findInGroups_99 ?_
              refine q_i2l X dX0_findInGroups_100 ?_
              refine q_lload X 1 rfl dX0_findInGroups_101 ?_
              refine q_lcmp X dX0_findInGroups_103 ?_
              refine q_if_gt X 116 (by decide) dX0_findInGroups_104 (fun g18 => ?_) (fun g18 => ?_)
              · rw [if_pos g18] at h
                refine q_lv [4, 5, 6, 7] rfl ?_
                exact w_X0_findInGroups_116 X hr hl ih _ _ _ _ _ h
              · rw [if_neg g18] at h
                refine q_lload X 0 rfl dX0_findInGroups_107 ?_
                refine q_iload_n X 5 rfl dX0_findInGroups_109 ?_
                refine q_i2l X dX0_findInGroups_110 ?_
                refine q_lload X 2 rfl dX0_findInGroups_111 ?_
                refine q_lsub X dX0_findInGroups_113 ?_
                refine q_ladd X dX0_findInGroups_114 ?_
                obtain ⟨ev, eS⟩ := q_end h
                exact q_lret X hr hl ev eS dX0_findInGroups_115
          · rw [if_pos g16] at h
            refine q_lv [] rfl ?_
            exact w_X0_findInGroups_89 X hr hl _ h
def m_X0_findInGroups (n : Nat) (S : q_S) (o : Nat) (p0 : Int32) : Option (Int64 × q_S) := q_at (S) (some o) 1 (fun a1 => q_b (m_X0_four n (S) a1 ((12 : Int64))) (fun r2 S3 => m_X0_findInGroups_11 n n (S3) (some o) (p0) (r2) ((0 : Int64))))
set_option maxHeartbeats 4000000 in
set_option maxRecDepth 100000 in
theorem w_X0_findInGroups (X : q_X p s m args c cX0_findInGroups 14 RX0 q_T D cy A) (hr : meth.sig.returnType = (some .long)) (hl : meth.locks = false)  {n : Nat} {S Sv : q_S} {rv : Int64} {o : Nat} {p0 : Int32} (h : m_X0_findInGroups n S o p0 = some (rv, Sv)) : q_W p l e ({ frames := 3, cells := 0, slots := 0, locals := 71 } : Room) s m args below meth c (MQ below (va_Ql (fun (r : Int64) (u : q_S) => r = rv ∧ u = Sv) (q_B D cy A) A) args s 0 0 A) A D cy 14 0 0 S 0 [(0, va_rf (some o)), (1, .int (p0))] [] := by
  unfold m_X0_findInGroups at h
  refine q_aload_n X 0 rfl dX0_findInGroups_0 ?_
  refine q_ldc2_w X (12) tC_X0_80 dX0_findInGroups_1 ?_
  obtain ⟨a1, ea1, ma1, ka1, h⟩ := q_atE h
  obtain ⟨r2, S3, c4, h⟩ := q_bE h
  refine q_cVJ X (As := [.long ((12 : Int64))]) ea1 ma1 ka1 rfl (by decide) (c_X0_four c4) (q_cwV X tK_X0_four tM_X0_82 tI_X0_four tV_X0_four tN_X0 rfl rfl tD_X0_four ⟨Nat.le_of_ble_eq_true rfl, Nat.le_of_ble_eq_true rfl⟩) rfl rfl (by first | exact Nat.le_of_ble_eq_true rfl | (simp only [List.map, q_catR]; exact Nat.le_of_ble_eq_true rfl)) ⟨Nat.zero_le _, Nat.zero_le _⟩ dX0_findInGroups_4 ?_
  refine q_lstore_n X 2 [(2, .long (r2)), (0, va_rf (some o)), (1, .int (p0))] rfl (by decide) (by first | rfl | simp [List.filter, q_catR]) dX0_findInGroups_7 ?_
  refine q_lconst X (0) (by decide) dX0_findInGroups_8 ?_
  refine q_lstore X 4 [(4, .long ((0 : Int64))), (2, .long (r2)), (0, va_rf (some o)), (1, .int (p0))] (by decide) (by first | rfl | simp [List.filter, q_catR]) dX0_findInGroups_9 ?_
  refine q_lv [2, 3, 1, 0] rfl ?_
  exact w_X0_findInGroups_11 X hr hl n _ _ _ _ _ h
theorem tD_X0_findInGroups : yX0_findInGroups.cls ≠ "java/lang/invoke/MethodHandle" ∧ yX0_findInGroups.cls ≠ "java/lang/invoke/VarHandle" ∧ (parseMethodDescriptor yX0_findInGroups.desc).map (fun d => d.parameters.length) = some 1 := by decide +kernel
theorem c_X0_findInGroups {l : Launch} {D : va_G} {cy : Nat → ClassId} {n : Nat} {S Sv : q_S} {rv : Int64} {o : Nat} {p0 : Int32} (h : m_X0_findInGroups n S o p0 = some (rv, Sv)) : q_MJ l yX0_findInGroups (q_ws yX0_findInGroups cX0_findInGroups 14 ((some .long))) ({ frames := 3, cells := 0, slots := 0, locals := 71 } : Room) D cy [.ref o, .int (p0)] S rv Sv := by
  exact q_MJ_of (by decide +kernel) (Nat.le_of_ble_eq_true rfl) (fun p e s m args below meth c A X hr hl => w_X0_findInGroups X hr hl h)
/-! TrueOutlines$Row.two(JJ)I -/
def m_X4_two_26 (n : Nat) (S : q_S) : Option (Int32 × q_S) := some ((-1 : Int32), S)
set_option maxHeartbeats 4000000 in
set_option maxRecDepth 100000 in
theorem w_X4_two_26 (X : q_X p s m args c cX4_two 6 RX4 q_T D cy A) (hr : meth.sig.returnType = (some .int)) (hl : meth.locks = false)  {n : Nat} {Sv : q_S} {rv : Int32}  (S : q_S) (h : m_X4_two_26 n S = some (rv, Sv)) : q_W p l e ({ frames := 0, cells := 0, slots := 0, locals := 0 } : Room) s m args below meth c (MQ below (va_Qi (fun (r : Int32) (u : q_S) => r = rv ∧ u = Sv) (q_B D cy A) A) args s 0 0 A) A D cy 6 0 0 S 26 [] [] := by
  unfold m_X4_two_26 at h
  refine q_iconst X (-1) (by decide) dX4_two_26 ?_
  obtain ⟨ev, eS⟩ := q_end h
  exact q_iret X hr hl rfl ev eS dX4_two_27
def m_X4_two (n : Nat) (S : q_S) (o : Nat) (p0 : Int64) (p1 : Int64) : Option (Int32 × q_S) := (if (lg_cmp (p0) ((0 : Int64))) < 0 then m_X4_two_26 n (S) else (if 0 ≤ (lg_cmp ((p0 + (1 : Int64))) (p1)) then m_X4_two_26 n (S) else q_at (S) (some o) 5 (fun a3 => (if (lg_cmp ((p0 + (1 : Int64))) (((q_I (S) a3 1).toInt64))) < 0 then q_at (S) (q_R (S) a3 0) 100 (fun a5 => q_if (q_in (p0.toInt32) (q_N (S) a5) = true) (q_if (q_in ((p0.toInt32) + (1 : Int32)) (q_N (S) a5) = true) (some (((q_I (S) a5 (p0.toInt32).toNatClampNeg) <<< ((8 : Int32) &&& 31)) ||| (q_I (S) a5 ((p0.toInt32) + (1 : Int32)).toNatClampNeg), S)))) else m_X4_two_26 n (S)))))
set_option maxHeartbeats 4000000 in
set_option maxRecDepth 100000 in
theorem w_X4_two (X : q_X p s m args c cX4_two 6 RX4 q_T D cy A) (hr : meth.sig.returnType = (some .int)) (hl : meth.locks = false)  {n : Nat} {S Sv : q_S} {rv : Int32} {o : Nat} {p0 : Int64} {p1 : Int64} (h : m_X4_two n S o p0 p1 = some (rv, Sv)) : q_W p l e ({ frames := 0, cells := 0, slots := 0, locals := 0 } : Room) s m args below meth c (MQ below (va_Qi (fun (r : Int32) (u : q_S) => r = rv ∧ u = Sv) (q_B D cy A) A) args s 0 0 A) A D cy 6 0 0 S 0 [(0, va_rf (some o)), (1, .long (p0)), (3, .long (p1))] [] := by
  unfold m_X4_two at h
  refine q_lload_n X 1 rfl dX4_two_0 ?_
  refine q_lconst X (0) (by decide) dX4_two_1 ?_
  refine q_lcmp X dX4_two_2 ?_
  refine q_if_lt X 26 (by decide) dX4_two_3 (fun g1 => ?_) (fun g1 => ?_)
  · rw [if_pos g1] at h
    refine q_lv [] rfl ?_
    exact w_X4_two_26 X hr hl _ h
  · rw [if_neg g1] at h
    refine q_lload_n X 1 rfl dX4_two_6 ?_
    refine q_lconst X (1) (by decide) dX4_two_7 ?_
    refine q_ladd X dX4_two_8 ?_
    refine q_lload_n X 2 rfl dX4_two_9 ?_
    refine q_lcmp X dX4_two_10 ?_
    refine q_if_ge X 26 (by decide) dX4_two_11 (fun g2 => ?_) (fun g2 => ?_)
    · rw [if_pos g2] at h
      refine q_lv [] rfl ?_
      exact w_X4_two_26 X hr hl _ h
    · rw [if_neg g2] at h
      refine q_lload_n X 1 rfl dX4_two_14 ?_
      refine q_lconst X (1) (by decide) dX4_two_15 ?_
      refine q_ladd X dX4_two_16 ?_
      refine q_aload_n X 0 rfl dX4_two_17 ?_
      obtain ⟨a3, ea3, ma3, ka3, h⟩ := q_atE h
      refine q_getI X 1 ea3 ma3 ka3 rfl tW_X4 (by decide) (by decide) tF_X4_15 rfl dX4_two_18 ?_
      refine q_i2l X dX4_two_21 ?_
      refine q_lcmp X dX4_two_22 ?_
      refine q_if_lt X 28 (by decide) dX4_two_23 (fun g4 => ?_) (fun g4 => ?_)
      · rw [if_pos g4] at h
        refine q_lload_n X 1 rfl dX4_two_28 ?_
        refine q_l2i X dX4_two_29 ?_
        refine q_istore X 5 [(5, .int (p0.toInt32)), (0, va_rf (some o)), (1, .long (p0)), (3, .long (p1))] (by decide) (by first | rfl | simp [List.filter, q_catR]) dX4_two_30 ?_
        refine q_aload_n X 1 rfl dX4_two_32 ?_
        refine q_getR X 0 ea3 ma3 ka3 rfl tW_X4 (by decide) (by decide) tF_X4_9 rfl dX4_two_33 ?_
        refine q_iload X 0 rfl dX4_two_36 ?_
        obtain ⟨a5, ea5, ma5, ka5, h⟩ := q_atE h
        obtain ⟨g6, h⟩ := q_ifE h
        refine q_iaload X ea5 ma5 ka5 (q_inE g6) dX4_two_38 ?_
        refine q_bipush X (8) (by decide) dX4_two_39 ?_
        refine q_ishl X dX4_two_41 ?_
        refine q_aload_n X 1 rfl dX4_two_42 ?_
        refine q_getR X 0 ea3 ma3 ka3 rfl tW_X4 (by decide) (by decide) tF_X4_9 rfl dX4_two_43 ?_
        refine q_iload X 0 rfl dX4_two_46 ?_
        refine q_iconst X (1) (by decide) dX4_two_48 ?_
        refine q_iadd X dX4_two_49 ?_
        obtain ⟨g7, h⟩ := q_ifE h
        refine q_iaload X ea5 ma5 ka5 (q_inE g7) dX4_two_50 ?_
        refine q_ior X dX4_two_51 ?_
        obtain ⟨ev, eS⟩ := q_end h
        exact q_iret X hr hl rfl ev eS dX4_two_52
      · rw [if_neg g4] at h
        refine q_lv [] rfl ?_
        exact w_X4_two_26 X hr hl _ h
theorem tD_X4_two : yX4_two.cls ≠ "java/lang/invoke/MethodHandle" ∧ yX4_two.cls ≠ "java/lang/invoke/VarHandle" ∧ (parseMethodDescriptor yX4_two.desc).map (fun d => d.parameters.length) = some 2 := by decide +kernel
theorem c_X4_two {l : Launch} {D : va_G} {cy : Nat → ClassId} {n : Nat} {S Sv : q_S} {rv : Int32} {o : Nat} {p0 : Int64} {p1 : Int64} (h : m_X4_two n S o p0 p1 = some (rv, Sv)) : q_MI l yX4_two (q_ws yX4_two cX4_two 6 ((some .int))) ({ frames := 0, cells := 0, slots := 0, locals := 0 } : Room) D cy [.ref o, .long (p0), .long (p1)] S rv Sv := by
  exact q_MI_of (by decide +kernel) (Nat.le_of_ble_eq_true rfl) (fun p e s m args below meth c A X hr hl => w_X4_two X hr hl h)
/-! TrueOutlines$Table.two(J)I -/
def m_X7_two_28 (n : Nat) (S : q_S) (s0 : Int32) : Option (Int32 × q_S) := some (s0, S)
set_option maxHeartbeats 4000000 in
set_option maxRecDepth 100000 in
theorem w_X7_two_28 (X : q_X p s m args c cX7_two 3 RX7 q_T D cy A) (hr : meth.sig.returnType = (some .int)) (hl : meth.locks = false)  {n : Nat} {Sv : q_S} {rv : Int32}  (S : q_S) (s0 : Int32) (h : m_X7_two_28 n S s0 = some (rv, Sv)) : q_W p l e ({ frames := 1, cells := 0, slots := 0, locals := 25 } : Room) s m args below meth c (MQ below (va_Qi (fun (r : Int32) (u : q_S) => r = rv ∧ u = Sv) (q_B D cy A) A) args s 0 0 A) A D cy 3 0 0 S 28 [] [.int (s0)] := by
  unfold m_X7_two_28 at h
  obtain ⟨ev, eS⟩ := q_end h
  exact q_iret X hr hl rfl ev eS dX7_two_28
def m_X7_two (n : Nat) (S : q_S) (o : Nat) (p0 : Int64) : Option (Int32 × q_S) := (if 0 ≤ (lg_cmp (p0) ((0 : Int64))) then q_at (S) (some o) 8 (fun a2 => q_b (m_X7_end n (S) a2) (fun r3 S4 => q_at (S4) (q_R (S) a2 0) 5 (fun a6 => q_b (m_X4_two n (S4) a6 (((q_I (S) a2 3).toInt64) + p0) (r3)) (fun r7 S8 => m_X7_two_28 n (S8) (r7))))) else m_X7_two_28 n (S) ((-1 : Int32)))
set_option maxHeartbeats 4000000 in
set_option maxRecDepth 100000 in
theorem w_X7_two (X : q_X p s m args c cX7_two 3 RX7 q_T D cy A) (hr : meth.sig.returnType = (some .int)) (hl : meth.locks = false)  {n : Nat} {S Sv : q_S} {rv : Int32} {o : Nat} {p0 : Int64} (h : m_X7_two n S o p0 = some (rv, Sv)) : q_W p l e ({ frames := 1, cells := 0, slots := 0, locals := 25 } : Room) s m args below meth c (MQ below (va_Qi (fun (r : Int32) (u : q_S) => r = rv ∧ u = Sv) (q_B D cy A) A) args s 0 0 A) A D cy 3 0 0 S 0 [(0, va_rf (some o)), (1, .long (p0))] [] := by
  unfold m_X7_two at h
  refine q_lload_n X 1 rfl dX7_two_0 ?_
  refine q_lconst X (0) (by decide) dX7_two_1 ?_
  refine q_lcmp X dX7_two_2 ?_
  refine q_if_ge X 10 (by decide) dX7_two_3 (fun g1 => ?_) (fun g1 => ?_)
  · rw [if_pos g1] at h
    refine q_aload_n X 0 rfl dX7_two_10 ?_
    obtain ⟨a2, ea2, ma2, ka2, h⟩ := q_atE h
    refine q_getR X 0 ea2 ma2 ka2 rfl tW_X7 (by decide) (by decide) tF_X7_9 rfl dX7_two_11 ?_
    refine q_aload_n X 0 rfl dX7_two_14 ?_
    refine q_getI X 3 ea2 ma2 ka2 rfl tW_X7 (by decide) (by decide) tF_X7_22 rfl dX7_two_15 ?_
    refine q_i2l X dX7_two_18 ?_
    refine q_lload_n X 1 rfl dX7_two_19 ?_
    refine q_ladd X dX7_two_20 ?_
    refine q_aload_n X 0 rfl dX7_two_21 ?_
    obtain ⟨r3, S4, c5, h⟩ := q_bE h
    refine q_cVJ X (As := []) ea2 ma2 ka2 rfl (by decide) (c_X7_end c5) (q_cwV X tK_X7_end tM_X7_29 tI_X7_end tV_X7_end tN_X7 rfl rfl tD_X7_end ⟨Nat.le_of_ble_eq_true rfl, Nat.le_of_ble_eq_true rfl⟩) rfl rfl (by first | exact Nat.le_of_ble_eq_true rfl | (simp only [List.map, q_catR]; exact Nat.le_of_ble_eq_true rfl)) ⟨Nat.zero_le _, Nat.zero_le _⟩ dX7_two_22 ?_
    obtain ⟨a6, ea6, ma6, ka6, h⟩ := q_atE h
    obtain ⟨r7, S8, c9, h⟩ := q_bE h
    refine q_cVI X (As := [.long (((q_I (S) a2 3).toInt64) + p0), .long (r3)]) ea6 ma6 ka6 rfl (by decide) (c_X4_two c9) (q_cwV X tK_X4_two tM_X7_39 tI_X4_two tV_X4_two tN_X4 rfl rfl tD_X4_two ⟨Nat.le_of_ble_eq_true rfl, Nat.le_of_ble_eq_true rfl⟩) rfl rfl (by first | exact Nat.le_of_ble_eq_true rfl | (simp only [List.map, q_catR]; exact Nat.le_of_ble_eq_true rfl)) ⟨Nat.zero_le _, Nat.zero_le _⟩ dX7_two_25 ?_
    refine q_lv [] rfl ?_
    exact w_X7_two_28 X hr hl _ _ h
  · rw [if_neg g1] at h
    refine q_iconst X (-1) (by decide) dX7_two_6 ?_
    refine q_goto X 28 (by decide) dX7_two_7 ?_
    refine q_lv [] rfl ?_
    exact w_X7_two_28 X hr hl _ _ h
theorem tD_X7_two : yX7_two.cls ≠ "java/lang/invoke/MethodHandle" ∧ yX7_two.cls ≠ "java/lang/invoke/VarHandle" ∧ (parseMethodDescriptor yX7_two.desc).map (fun d => d.parameters.length) = some 1 := by decide +kernel
theorem c_X7_two {l : Launch} {D : va_G} {cy : Nat → ClassId} {n : Nat} {S Sv : q_S} {rv : Int32} {o : Nat} {p0 : Int64} (h : m_X7_two n S o p0 = some (rv, Sv)) : q_MI l yX7_two (q_ws yX7_two cX7_two 3 ((some .int))) ({ frames := 1, cells := 0, slots := 0, locals := 25 } : Room) D cy [.ref o, .long (p0)] S rv Sv := by
  exact q_MI_of (by decide +kernel) (Nat.le_of_ble_eq_true rfl) (fun p e s m args below meth c A X hr hl => w_X7_two X hr hl h)
/-! TrueOutlines$Codes.two(J)I -/
def m_X0_two (n : Nat) (S : q_S) (o : Nat) (p0 : Int64) : Option (Int32 × q_S) := q_at (S) (some o) 1 (fun a1 => q_at (S) (q_R (S) a1 1) 8 (fun a2 => q_b (m_X7_two n (S) a2 ((q_J (S) a1 2) + p0)) (fun r3 S4 => some (r3, S4))))
set_option maxHeartbeats 4000000 in
set_option maxRecDepth 100000 in
theorem w_X0_two (X : q_X p s m args c cX0_two 3 RX0 q_T D cy A) (hr : meth.sig.returnType = (some .int)) (hl : meth.locks = false)  {n : Nat} {S Sv : q_S} {rv : Int32} {o : Nat} {p0 : Int64} (h : m_X0_two n S o p0 = some (rv, Sv)) : q_W p l e ({ frames := 2, cells := 0, slots := 0, locals := 47 } : Room) s m args below meth c (MQ below (va_Qi (fun (r : Int32) (u : q_S) => r = rv ∧ u = Sv) (q_B D cy A) A) args s 0 0 A) A D cy 3 0 0 S 0 [(0, va_rf (some o)), (1, .long (p0))] [] := by
  unfold m_X0_two at h
  refine q_aload_n X 0 rfl dX0_two_0 ?_
  obtain ⟨a1, ea1, ma1, ka1, h⟩ := q_atE h
  refine q_getR X 1 ea1 ma1 ka1 rfl tW_X0 (by decide) (by decide) tF_X0_21 rfl dX0_two_1 ?_
  refine q_aload_n X 0 rfl dX0_two_4 ?_
  refine q_getJ X 2 ea1 ma1 ka1 rfl tW_X0 (by decide) (by decide) tF_X0_46 rfl dX0_two_5 ?_
  refine q_lload_n X 1 rfl dX0_two_8 ?_
  refine q_ladd X dX0_two_9 ?_
  obtain ⟨a2, ea2, ma2, ka2, h⟩ := q_atE h
  obtain ⟨r3, S4, c5, h⟩ := q_bE h
  refine q_cVI X (As := [.long ((q_J (S) a1 2) + p0)]) ea2 ma2 ka2 rfl (by decide) (c_X7_two c5) (q_cwV X tK_X7_two tM_X0_32 tI_X7_two tV_X7_two tN_X7 rfl rfl tD_X7_two ⟨Nat.le_of_ble_eq_true rfl, Nat.le_of_ble_eq_true rfl⟩) rfl rfl (by first | exact Nat.le_of_ble_eq_true rfl | (simp only [List.map, q_catR]; exact Nat.le_of_ble_eq_true rfl)) ⟨Nat.zero_le _, Nat.zero_le _⟩ dX0_two_10 ?_
  obtain ⟨ev, eS⟩ := q_end h
  exact q_iret X hr hl rfl ev eS dX0_two_13
theorem tD_X0_two : yX0_two.cls ≠ "java/lang/invoke/MethodHandle" ∧ yX0_two.cls ≠ "java/lang/invoke/VarHandle" ∧ (parseMethodDescriptor yX0_two.desc).map (fun d => d.parameters.length) = some 1 := by decide +kernel
theorem c_X0_two {l : Launch} {D : va_G} {cy : Nat → ClassId} {n : Nat} {S Sv : q_S} {rv : Int32} {o : Nat} {p0 : Int64} (h : m_X0_two n S o p0 = some (rv, Sv)) : q_MI l yX0_two (q_ws yX0_two cX0_two 3 ((some .int))) ({ frames := 2, cells := 0, slots := 0, locals := 47 } : Room) D cy [.ref o, .long (p0)] S rv Sv := by
  exact q_MI_of (by decide +kernel) (Nat.le_of_ble_eq_true rfl) (fun p e s m args below meth c A X hr hl => w_X0_two X hr hl h)
/-! TrueOutlines$Codes.findInRow(I)I -/
def m_X0_findInRow_65 (n : Nat) (S : q_S) (s0 : Int32) : Option (Int32 × q_S) := some (s0, S)
set_option maxHeartbeats 4000000 in
set_option maxRecDepth 100000 in
theorem w_X0_findInRow_65 (X : q_X p s m args c cX0_findInRow 5 RX0 q_T D cy A) (hr : meth.sig.returnType = (some .int)) (hl : meth.locks = false)  {n : Nat} {Sv : q_S} {rv : Int32}  (S : q_S) (s0 : Int32) (h : m_X0_findInRow_65 n S s0 = some (rv, Sv)) : q_W p l e ({ frames := 3, cells := 0, slots := 0, locals := 69 } : Room) s m args below meth c (MQ below (va_Qi (fun (r : Int32) (u : q_S) => r = rv ∧ u = Sv) (q_B D cy A) A) args s 0 0 A) A D cy 5 0 0 S 65 [] [.int (s0)] := by
  unfold m_X0_findInRow_65 at h
  obtain ⟨ev, eS⟩ := q_end h
  exact q_iret X hr hl rfl ev eS dX0_findInRow_65
def m_X0_findInRow_38 (n : Nat) (S : q_S) (l0 : Option Nat) (l1 : Int32) (l2 : Int32) (s0 : Int32) : Option (Int32 × q_S) := (if s0 = 0 then m_X0_findInRow_65 n (S) ((0 : Int32)) else q_at (S) (l0) 1 (fun a2 => q_b (m_X0_two n (S) a2 ((10 : Int64) + ((2 : Int64) * ((l1 - l2).toInt64)))) (fun r3 S4 => m_X0_findInRow_65 n (S4) (r3))))
set_option maxHeartbeats 4000000 in
set_option maxRecDepth 100000 in
theorem w_X0_findInRow_38 (X : q_X p s m args c cX0_findInRow 5 RX0 q_T D cy A) (hr : meth.sig.returnType = (some .int)) (hl : meth.locks = false)  {n : Nat} {Sv : q_S} {rv : Int32}  (S : q_S) (l0 : Option Nat) (l1 : Int32) (l2 : Int32) (s0 : Int32) (h : m_X0_findInRow_38 n S l0 l1 l2 s0 = some (rv, Sv)) : q_W p l e ({ frames := 3, cells := 0, slots := 0, locals := 69 } : Room) s m args below meth c (MQ below (va_Qi (fun (r : Int32) (u : q_S) => r = rv ∧ u = Sv) (q_B D cy A) A) args s 0 0 A) A D cy 5 0 0 S 38 [(0, va_rf (l0)), (1, .int (l1)), (2, .int (l2))] [.int (s0)] := by
  unfold m_X0_findInRow_38 at h
  refine q_istore X 4 [(4, .int (s0)), (0, va_rf (l0)), (1, .int (l1)), (2, .int (l2))] (by decide) (by first | rfl | simp [List.filter, q_catR]) dX0_findInRow_38 ?_
  refine q_iload X 0 rfl dX0_findInRow_40 ?_
  refine q_if_eq X 64 (by decide) dX0_findInRow_42 (fun g1 => ?_) (fun g1 => ?_)
  · rw [if_pos g1] at h
    refine q_iconst X (0) (by decide) dX0_findInRow_64 ?_
    refine q_lv [] rfl ?_
    exact w_X0_findInRow_65 X hr hl _ _ h
  · rw [if_neg g1] at h
    refine q_aload_n X 1 rfl dX0_findInRow_45 ?_
    refine q_ldc2_w X (10) tC_X0_78 dX0_findInRow_46 ?_
    refine q_ldc2_w X (2) tC_X0_30 dX0_findInRow_49 ?_
    refine q_iload_n X 2 rfl dX0_findInRow_52 ?_
    refine q_iload_n X 3 rfl dX0_findInRow_53 ?_
    refine q_isub X dX0_findInRow_54 ?_
    refine q_i2l X dX0_findInRow_55 ?_
    refine q_lmul X dX0_findInRow_56 ?_
    refine q_ladd X dX0_findInRow_57 ?_
    obtain ⟨a2, ea2, ma2, ka2, h⟩ := q_atE h
    obtain ⟨r3, S4, c5, h⟩ := q_bE h
    refine q_cVI X (As := [.long ((10 : Int64) + ((2 : Int64) * ((l1 - l2).toInt64)))]) ea2 ma2 ka2 rfl (by decide) (c_X0_two c5) (q_cwV X tK_X0_two tM_X0_52 tI_X0_two tV_X0_two tN_X0 rfl rfl tD_X0_two ⟨Nat.le_of_ble_eq_true rfl, Nat.le_of_ble_eq_true rfl⟩) rfl rfl (by first | exact Nat.le_of_ble_eq_true rfl | (simp only [List.map, q_catR]; exact Nat.le_of_ble_eq_true rfl)) ⟨Nat.zero_le _, Nat.zero_le _⟩ dX0_findInRow_58 ?_
    refine q_goto X 65 (by decide) dX0_findInRow_61 ?_
    refine q_lv [] rfl ?_
    exact w_X0_findInRow_65 X hr hl _ _ h
def m_X0_findInRow_37 (n : Nat) (S : q_S) (l0 : Option Nat) (l1 : Int32) (l2 : Int32) : Option (Int32 × q_S) := m_X0_findInRow_38 n (S) (l0) (l1) (l2) ((0 : Int32))
set_option maxHeartbeats 4000000 in
set_option maxRecDepth 100000 in
theorem w_X0_findInRow_37 (X : q_X p s m args c cX0_findInRow 5 RX0 q_T D cy A) (hr : meth.sig.returnType = (some .int)) (hl : meth.locks = false)  {n : Nat} {Sv : q_S} {rv : Int32}  (S : q_S) (l0 : Option Nat) (l1 : Int32) (l2 : Int32) (h : m_X0_findInRow_37 n S l0 l1 l2 = some (rv, Sv)) : q_W p l e ({ frames := 3, cells := 0, slots := 0, locals := 69 } : Room) s m args below meth c (MQ below (va_Qi (fun (r : Int32) (u : q_S) => r = rv ∧ u = Sv) (q_B D cy A) A) args s 0 0 A) A D cy 5 0 0 S 37 [(0, va_rf (l0)), (1, .int (l1)), (2, .int (l2))] [] := by
  unfold m_X0_findInRow_37 at h
  refine q_iconst X (0) (by decide) dX0_findInRow_37 ?_
  exact w_X0_findInRow_38 X hr hl _ _ _ _ _ h
def m_X0_findInRow (n : Nat) (S : q_S) (o : Nat) (p0 : Int32) : Option (Int32 × q_S) := q_at (S) (some o) 1 (fun a1 => q_b (m_X0_two n (S) a1 ((6 : Int64))) (fun r2 S3 => q_at (S3) (some o) 1 (fun a5 => q_b (m_X0_two n (S3) a5 ((8 : Int64))) (fun r6 S7 => (if r2 = (-1 : Int32) then m_X0_findInRow_37 n (S7) (some o) (p0) (r2) else (if p0 < r2 then m_X0_findInRow_37 n (S7) (some o) (p0) (r2) else (if r6 ≤ (p0 - r2) then m_X0_findInRow_37 n (S7) (some o) (p0) (r2) else m_X0_findInRow_38 n (S7) (some o) (p0) (r2) ((1 : Int32)))))))))
set_option maxHeartbeats 4000000 in
set_option maxRecDepth 100000 in
theorem w_X0_findInRow (X : q_X p s m args c cX0_findInRow 5 RX0 q_T D cy A) (hr : meth.sig.returnType = (some .int)) (hl : meth.locks = false)  {n : Nat} {S Sv : q_S} {rv : Int32} {o : Nat} {p0 : Int32} (h : m_X0_findInRow n S o p0 = some (rv, Sv)) : q_W p l e ({ frames := 3, cells := 0, slots := 0, locals := 69 } : Room) s m args below meth c (MQ below (va_Qi (fun (r : Int32) (u : q_S) => r = rv ∧ u = Sv) (q_B D cy A) A) args s 0 0 A) A D cy 5 0 0 S 0 [(0, va_rf (some o)), (1, .int (p0))] [] := by
  unfold m_X0_findInRow at h
  refine q_aload_n X 0 rfl dX0_findInRow_0 ?_
  refine q_ldc2_w X (6) tC_X0_57 dX0_findInRow_1 ?_
  obtain ⟨a1, ea1, ma1, ka1, h⟩ := q_atE h
  obtain ⟨r2, S3, c4, h⟩ := q_bE h
  refine q_cVI X (As := [.long ((6 : Int64))]) ea1 ma1 ka1 rfl (by decide) (c_X0_two c4) (q_cwV X tK_X0_two tM_X0_52 tI_X0_two tV_X0_two tN_X0 rfl rfl tD_X0_two ⟨Nat.le_of_ble_eq_true rfl, Nat.le_of_ble_eq_true rfl⟩) rfl rfl (by first | exact Nat.le_of_ble_eq_true rfl | (simp only [List.map, q_catR]; exact Nat.le_of_ble_eq_true rfl)) ⟨Nat.zero_le _, Nat.zero_le _⟩ dX0_findInRow_4 ?_
  refine q_istore_n X 2 [(2, .int (r2)), (0, va_rf (some o)), (1, .int (p0))] rfl (by decide) (by first | rfl | simp [List.filter, q_catR]) dX0_findInRow_7 ?_
  refine q_aload_n X 1 rfl dX0_findInRow_8 ?_
  refine q_ldc2_w X (8) tC_X0_40 dX0_findInRow_9 ?_
  obtain ⟨a5, ea5, ma5, ka5, h⟩ := q_atE h
  obtain ⟨r6, S7, c8, h⟩ := q_bE h
  refine q_cVI X (As := [.long ((8 : Int64))]) ea5 ma5 ka5 rfl (by decide) (c_X0_two c8) (q_cwV X tK_X0_two tM_X0_52 tI_X0_two tV_X0_two tN_X0 rfl rfl tD_X0_two ⟨Nat.le_of_ble_eq_true rfl, Nat.le_of_ble_eq_true rfl⟩) rfl rfl (by first | exact Nat.le_of_ble_eq_true rfl | (simp only [List.map, q_catR]; exact Nat.le_of_ble_eq_true rfl)) ⟨Nat.zero_le _, Nat.zero_le _⟩ dX0_findInRow_12 ?_
  refine q_istore_n X 3 [(3, .int (r6)), (2, .int (r2)), (0, va_rf (some o)), (1, .int (p0))] rfl (by decide) (by first | rfl | simp [List.filter, q_catR]) dX0_findInRow_15 ?_
  refine q_iload_n X 1 rfl dX0_findInRow_16 ?_
  refine q_iconst X (-1) (by decide) dX0_findInRow_17 ?_
  refine q_icmp_eq X 37 (by decide) dX0_findInRow_18 (fun g9 => ?_) (fun g9 => ?_)
  · rw [if_pos g9] at h
    refine q_lv [2, 3, 1] rfl ?_
    exact w_X0_findInRow_37 X hr hl _ _ _ _ h
  · rw [if_neg g9] at h
    refine q_iload_n X 3 rfl dX0_findInRow_21 ?_
    refine q_iload_n X 1 rfl dX0_findInRow_22 ?_
    refine q_icmp_lt X 37 (by decide) dX0_findInRow_23 (fun g10 => ?_) (fun g10 => ?_)
    · rw [if_pos g10] at h
      refine q_lv [2, 3, 1] rfl ?_
      exact w_X0_findInRow_37 X hr hl _ _ _ _ h
    · rw [if_neg g10] at h
      refine q_iload_n X 3 rfl dX0_findInRow_26 ?_
      refine q_iload_n X 1 rfl dX0_findInRow_27 ?_
      refine q_isub X dX0_findInRow_28 ?_
      refine q_iload_n X 0 rfl dX0_findInRow_29 ?_
      refine q_icmp_ge X 37 (by decide) dX0_findInRow_30 (fun g11 => ?_) (fun g11 => ?_)
      · rw [if_pos g11] at h
        refine q_lv [2, 3, 1] rfl ?_
        exact w_X0_findInRow_37 X hr hl _ _ _ _ h
      · rw [if_neg g11] at h
        refine q_iconst X (1) (by decide) dX0_findInRow_33 ?_
        refine q_goto X 38 (by decide) dX0_findInRow_34 ?_
        refine q_lv [2, 3, 1] rfl ?_
        exact w_X0_findInRow_38 X hr hl _ _ _ _ _ h
theorem tD_X0_findInRow : yX0_findInRow.cls ≠ "java/lang/invoke/MethodHandle" ∧ yX0_findInRow.cls ≠ "java/lang/invoke/VarHandle" ∧ (parseMethodDescriptor yX0_findInRow.desc).map (fun d => d.parameters.length) = some 1 := by decide +kernel
theorem c_X0_findInRow {l : Launch} {D : va_G} {cy : Nat → ClassId} {n : Nat} {S Sv : q_S} {rv : Int32} {o : Nat} {p0 : Int32} (h : m_X0_findInRow n S o p0 = some (rv, Sv)) : q_MI l yX0_findInRow (q_ws yX0_findInRow cX0_findInRow 5 ((some .int))) ({ frames := 3, cells := 0, slots := 0, locals := 69 } : Room) D cy [.ref o, .int (p0)] S rv Sv := by
  exact q_MI_of (by decide +kernel) (Nat.le_of_ble_eq_true rfl) (fun p e s m args below meth c A X hr hl => w_X0_findInRow X hr hl h)
/-! TrueOutlines$Codes.findInSegment(III)I -/
def m_X0_findInSegment_71 (n : Nat) (S : q_S) : Option (Int32 × q_S) := some ((0 : Int32), S)
set_option maxHeartbeats 4000000 in
set_option maxRecDepth 100000 in
theorem w_X0_findInSegment_71 (X : q_X p s m args c cX0_findInSegment 9 RX0 q_T D cy A) (hr : meth.sig.returnType = (some .int)) (hl : meth.locks = false)  {n : Nat} {Sv : q_S} {rv : Int32}  (S : q_S) (h : m_X0_findInSegment_71 n S = some (rv, Sv)) : q_W p l e ({ frames := 3, cells := 0, slots := 0, locals := 69 } : Room) s m args below meth c (MQ below (va_Qi (fun (r : Int32) (u : q_S) => r = rv ∧ u = Sv) (q_B D cy A) A) args s 0 0 A) A D cy 9 0 0 S 71 [] [] := by
  unfold m_X0_findInSegment_71 at h
  refine q_iconst X (0) (by decide) dX0_findInSegment_71 ?_
  obtain ⟨ev, eS⟩ := q_end h
  exact q_iret X hr hl rfl ev eS dX0_findInSegment_72
def m_X0_findInSegment_128 (n : Nat) (S : q_S) (s0 : Int32) : Option (Int32 × q_S) := some (s0, S)
set_option maxHeartbeats 4000000 in
set_option maxRecDepth 100000 in
theorem w_X0_findInSegment_128 (X : q_X p s m args c cX0_findInSegment 9 RX0 q_T D cy A) (hr : meth.sig.returnType = (some .int)) (hl : meth.locks = false)  {n : Nat} {Sv : q_S} {rv : Int32}  (S : q_S) (s0 : Int32) (h : m_X0_findInSegment_128 n S s0 = some (rv, Sv)) : q_W p l e ({ frames := 3, cells := 0, slots := 0, locals := 69 } : Room) s m args below meth c (MQ below (va_Qi (fun (r : Int32) (u : q_S) => r = rv ∧ u = Sv) (q_B D cy A) A) args s 0 0 A) A D cy 9 0 0 S 128 [] [.int (s0)] := by
  unfold m_X0_findInSegment_128 at h
  obtain ⟨ev, eS⟩ := q_end h
  exact q_iret X hr hl rfl ev eS dX0_findInSegment_128
def m_X0_findInSegment_116 (n : Nat) (S : q_S) : Option (Int32 × q_S) := m_X0_findInSegment_128 n (S) ((0 : Int32))
set_option maxHeartbeats 4000000 in
set_option maxRecDepth 100000 in
theorem w_X0_findInSegment_116 (X : q_X p s m args c cX0_findInSegment 9 RX0 q_T D cy A) (hr : meth.sig.returnType = (some .int)) (hl : meth.locks = false)  {n : Nat} {Sv : q_S} {rv : Int32}  (S : q_S) (h : m_X0_findInSegment_116 n S = some (rv, Sv)) : q_W p l e ({ frames := 3, cells := 0, slots := 0, locals := 69 } : Room) s m args below meth c (MQ below (va_Qi (fun (r : Int32) (u : q_S) => r = rv ∧ u = Sv) (q_B D cy A) A) args s 0 0 A) A D cy 9 0 0 S 116 [] [] := by
  unfold m_X0_findInSegment_116 at h
  refine q_iconst X (0) (by decide) dX0_findInSegment_116 ?_
  refine q_goto X 128 (by decide) dX0_findInSegment_117 ?_
  exact w_X0_findInSegment_128 X hr hl _ _ h
def m_X0_findInSegment (n : Nat) (S : q_S) (o : Nat) (p0 : Int32) (p1 : Int32) (p2 : Int32) : Option (Int32 × q_S) := q_at (S) (some o) 1 (fun a1 => q_b (m_X0_two n (S) a1 ((((16 : Int32) + p1) + p2).toInt64)) (fun r2 S3 => q_at (S3) (some o) 1 (fun a5 => q_b (m_X0_two n (S3) a5 ((((16 : Int32) + ((2 : Int32) * p1)) + p2).toInt64)) (fun r6 S7 => q_at (S7) (some o) 1 (fun a9 => q_b (m_X0_two n (S7) a9 ((((16 : Int32) + ((3 : Int32) * p1)) + p2).toInt64)) (fun r10 S11 => (if r2 = (-1 : Int32) then m_X0_findInSegment_71 n (S11) else (if p0 < r2 then m_X0_findInSegment_71 n (S11) else (if r6 = (-1 : Int32) then m_X0_findInSegment_71 n (S11) else (if r10 = (-1 : Int32) then m_X0_findInSegment_71 n (S11) else (if r10 = 0 then some ((p0 + r6) &&& (65535 : Int32), S11) else q_at (S11) (some o) 1 (fun a18 => q_b (m_X0_two n (S11) a18 ((((((16 : Int32) + ((3 : Int32) * p1)) + p2) + r10) + ((2 : Int32) * (p0 - r2))).toInt64)) (fun r19 S20 => (if r19 = (-1 : Int32) then m_X0_findInSegment_116 n (S20) else (if r19 = 0 then m_X0_findInSegment_116 n (S20) else m_X0_findInSegment_128 n (S20) ((r19 + r6) &&& (65535 : Int32)))))))))))))))))
set_option maxHeartbeats 4000000 in
set_option maxRecDepth 100000 in
theorem w_X0_findInSegment (X : q_X p s m args c cX0_findInSegment 9 RX0 q_T D cy A) (hr : meth.sig.returnType = (some .int)) (hl : meth.locks = false)  {n : Nat} {S Sv : q_S} {rv : Int32} {o : Nat} {p0 : Int32} {p1 : Int32} {p2 : Int32} (h : m_X0_findInSegment n S o p0 p1 p2 = some (rv, Sv)) : q_W p l e ({ frames := 3, cells := 0, slots := 0, locals := 69 } : Room) s m args below meth c (MQ below (va_Qi (fun (r : Int32) (u : q_S) => r = rv ∧ u = Sv) (q_B D cy A) A) args s 0 0 A) A D cy 9 0 0 S 0 [(0, va_rf (some o)), (1, .int (p0)), (2, .int (p1)), (3, .int (p2))] [] := by
  unfold m_X0_findInSegment at h
  refine q_aload_n X 0 rfl dX0_findInSegment_0 ?_
  refine q_bipush X (16) (by decide) dX0_findInSegment_1 ?_
  refine q_iload_n X 2 rfl dX0_findInSegment_3 ?_
  refine q_iadd X dX0_findInSegment_4 ?_
  refine q_iload_n X 3 rfl dX0_findInSegment_5 ?_
  refine q_iadd X dX0_findInSegment_6 ?_
  refine q_i2l X dX0_findInSegment_7 ?_
  obtain ⟨a1, ea1, ma1, ka1, h⟩ := q_atE h
  obtain ⟨r2, S3, c4, h⟩ := q_bE h
  refine q_cVI X (As := [.long ((((16 : Int32) + p1) + p2).toInt64)]) ea1 ma1 ka1 rfl (by decide) (c_X0_two c4) (q_cwV X tK_X0_two tM_X0_52 tI_X0_two tV_X0_two tN_X0 rfl rfl tD_X0_two ⟨Nat.le_of_ble_eq_true rfl, Nat.le_of_ble_eq_true rfl⟩) rfl rfl (by first | exact Nat.le_of_ble_eq_true rfl | (simp only [List.map, q_catR]; exact Nat.le_of_ble_eq_true rfl)) ⟨Nat.zero_le _, Nat.zero_le _⟩ dX0_findInSegment_8 ?_
  refine q_istore X 4 [(4, .int (r2)), (0, va_rf (some o)), (1, .int (p0)), (2, .int (p1)), (3, .int (p2))] (by decide) (by first | rfl | simp [List.filter, q_catR]) dX0_findInSegment_11 ?_
  refine q_aload_n X 1 rfl dX0_findInSegment_13 ?_
  refine q_bipush X (16) (by decide) dX0_findInSegment_14 ?_
  refine q_iconst X (2) (by decide) dX0_findInSegment_16 ?_
  refine q_iload_n X 3 rfl dX0_findInSegment_17 ?_
  refine q_imul X dX0_findInSegment_18 ?_
  refine q_iadd X dX0_findInSegment_19 ?_
  refine q_iload_n X 4 rfl dX0_findInSegment_20 ?_
  refine q_iadd X dX0_findInSegment_21 ?_
  refine q_i2l X dX0_findInSegment_22 ?_
  obtain ⟨a5, ea5, ma5, ka5, h⟩ := q_atE h
  obtain ⟨r6, S7, c8, h⟩ := q_bE h
  refine q_cVI X (As := [.long ((((16 : Int32) + ((2 : Int32) * p1)) + p2).toInt64)]) ea5 ma5 ka5 rfl (by decide) (c_X0_two c8) (q_cwV X tK_X0_two tM_X0_52 tI_X0_two tV_X0_two tN_X0 rfl rfl tD_X0_two ⟨Nat.le_of_ble_eq_true rfl, Nat.le_of_ble_eq_true rfl⟩) rfl rfl (by first | exact Nat.le_of_ble_eq_true rfl | (simp only [List.map, q_catR]; exact Nat.le_of_ble_eq_true rfl)) ⟨Nat.zero_le _, Nat.zero_le _⟩ dX0_findInSegment_23 ?_
  refine q_istore X 5 [(5, .int (r6)), (4, .int (r2)), (0, va_rf (some o)), (1, .int (p0)), (2, .int (p1)), (3, .int (p2))] (by decide) (by first | rfl | simp [List.filter, q_catR]) dX0_findInSegment_26 ?_
  refine q_bipush X (16) (by decide) dX0_findInSegment_28 ?_
  refine q_iconst X (3) (by decide) dX0_findInSegment_30 ?_
  refine q_iload_n X 4 rfl dX0_findInSegment_31 ?_
  refine q_imul X dX0_findInSegment_32 ?_
  refine q_iadd X dX0_findInSegment_33 ?_
  refine q_iload_n X 5 rfl dX0_findInSegment_34 ?_
  refine q_iadd X dX0_findInSegment_35 ?_
  refine q_istore X 6 [(6, .int (((16 : Int32) + ((3 : Int32) * p1)) + p2)), (5, .int (r6)), (4, .int (r2)), (0, va_rf (some o)), (1, .int (p0)), (2, .int (p1)), (3, .int (p2))] (by decide) (by first | rfl | simp [List.filter, q_catR]) dX0_findInSegment_36 ?_
  refine q_aload_n X 3 rfl dX0_findInSegment_38 ?_
  refine q_iload X 0 rfl dX0_findInSegment_39 ?_
  refine q_i2l X dX0_findInSegment_41 ?_
  obtain ⟨a9, ea9, ma9, ka9, h⟩ := q_atE h
  obtain ⟨r10, S11, c12, h⟩ := q_bE h
  refine q_cVI X (As := [.long ((((16 : Int32) + ((3 : Int32) * p1)) + p2).toInt64)]) ea9 ma9 ka9 rfl (by decide) (c_X0_two c12) (q_cwV X tK_X0_two tM_X0_52 tI_X0_two tV_X0_two tN_X0 rfl rfl tD_X0_two ⟨Nat.le_of_ble_eq_true rfl, Nat.le_of_ble_eq_true rfl⟩) rfl rfl (by first | exact Nat.le_of_ble_eq_true rfl | (simp only [List.map, q_catR]; exact Nat.le_of_ble_eq_true rfl)) ⟨Nat.zero_le _, Nat.zero_le _⟩ dX0_findInSegment_42 ?_
  refine q_istore X 7 [(7, .int (r10)), (6, .int (((16 : Int32) + ((3 : Int32) * p1)) + p2)), (5, .int (r6)), (4, .int (r2)), (0, va_rf (some o)), (1, .int (p0)), (2, .int (p1)), (3, .int (p2))] (by decide) (by first | rfl | simp [List.filter, q_catR]) dX0_findInSegment_45 ?_
  refine q_iload X 3 rfl dX0_findInSegment_47 ?_
  refine q_iconst X (-1) (by decide) dX0_findInSegment_49 ?_
  refine q_icmp_eq X 71 (by decide) dX0_findInSegment_50 (fun g13 => ?_) (fun g13 => ?_)
  · rw [if_pos g13] at h
    refine q_lv [] rfl ?_
    exact w_X0_findInSegment_71 X hr hl _ h
  · rw [if_neg g13] at h
    refine q_iload X 3 rfl dX0_findInSegment_53 ?_
    refine q_iload_n X 5 rfl dX0_findInSegment_55 ?_
    refine q_icmp_gt X 71 (by decide) dX0_findInSegment_56 (fun g14 => ?_) (fun g14 => ?_)
    · rw [if_pos g14] at h
      refine q_lv [] rfl ?_
      exact w_X0_findInSegment_71 X hr hl _ h
    · rw [if_neg g14] at h
      refine q_iload X 2 rfl dX0_findInSegment_59 ?_
      refine q_iconst X (-1) (by decide) dX0_findInSegment_61 ?_
      refine q_icmp_eq X 71 (by decide) dX0_findInSegment_62 (fun g15 => ?_) (fun g15 => ?_)
      · rw [if_pos g15] at h
        refine q_lv [] rfl ?_
        exact w_X0_findInSegment_71 X hr hl _ h
      · rw [if_neg g15] at h
        refine q_iload X 0 rfl dX0_findInSegment_65 ?_
        refine q_iconst X (-1) (by decide) dX0_findInSegment_67 ?_
        refine q_icmp_ne X 73 (by decide) dX0_findInSegment_68 (fun g16 => ?_) (fun g16 => ?_)
        · rw [if_neg g16] at h
          refine q_iload X 0 rfl dX0_findInSegment_73 ?_
          refine q_if_ne X 86 (by decide) dX0_findInSegment_75 (fun g17 => ?_) (fun g17 => ?_)
          · rw [if_neg g17] at h
            refine q_aload_n X 4 rfl dX0_findInSegment_86 ?_
            refine q_iload X 1 rfl dX0_findInSegment_87 ?_
            refine q_iload X 0 rfl dX0_findInSegment_89 ?_
            refine q_iadd X dX0_findInSegment_91 ?_
            refine q_iconst X (2) (by decide) dX0_findInSegment_92 ?_
            refine q_iload_n X 5 rfl dX0_findInSegment_93 ?_
            refine q_iload X 3 rfl dX0_findInSegment_94 ?_
            refine q_isub X dX0_findInSegment_96 ?_
            refine q_imul X dX0_findInSegment_97 ?_
            refine q_iadd X dX0_findInSegment_98 ?_
            refine q_i2l X dX0_findInSegment_99 ?_
            obtain ⟨a18, ea18, ma18, ka18, h⟩ := q_atE h
            obtain ⟨r19, S20, c21, h⟩ := q_bE h
            refine q_cVI X (As := [.long ((((((16 : Int32) + ((3 : Int32) * p1)) + p2) + r10) + ((2 : Int32) * (p0 - r2))).toInt64)]) ea18 ma18 ka18 rfl (by decide) (c_X0_two c21) (q_cwV X tK_X0_two tM_X0_52 tI_X0_two tV_X0_two tN_X0 rfl rfl tD_X0_two ⟨Nat.le_of_ble_eq_true rfl, Nat.le_of_ble_eq_true rfl⟩) rfl rfl (by first | exact Nat.le_of_ble_eq_true rfl | (simp only [List.map, q_catR]; exact Nat.le_of_ble_eq_true rfl)) ⟨Nat.zero_le _, Nat.zero_le _⟩ dX0_findInSegment_100 ?_
            refine q_istore X 8 [(8, .int (r19)), (7, .int (r10)), (6, .int (((16 : Int32) + ((3 : Int32) * p1)) + p2)), (5, .int (r6)), (4, .int (r2)), (0, va_rf (some o)), (1, .int (p0)), (2, .int (p1)), (3, .int (p2))] (by decide) (by first | rfl | simp [List.filter, q_catR]) dX0_findInSegment_103 ?_
            refine q_iload X 0 rfl dX0_findInSegment_105 ?_
            refine q_iconst X (-1) (by decide) dX0_findInSegment_107 ?_
            refine q_icmp_eq X 116 (by decide) dX0_findInSegment_108 (fun g22 => ?_) (fun g22 => ?_)
            · rw [if_pos g22] at h
              refine q_lv [] rfl ?_
              exact w_X0_findInSegment_116 X hr hl _ h
            · rw [if_neg g22] at h
              refine q_iload X 0 rfl dX0_findInSegment_111 ?_
              refine q_if_ne X 120 (by decide) dX0_findInSegment_113 (fun g23 => ?_) (fun g23 => ?_)
              · rw [if_neg g23] at h
                refine q_iload X 0 rfl dX0_findInSegment_120 ?_
                refine q_iload X 3 rfl dX0_findInSegment_122 ?_
                refine q_iadd X dX0_findInSegment_124 ?_
                refine q_ldc X (65535) tC_X0_77 dX0_findInSegment_125 ?_
                refine q_iand X dX0_findInSegment_127 ?_
                refine q_lv [] rfl ?_
                exact w_X0_findInSegment_128 X hr hl _ _ h
              · rw [if_pos g23] at h
                refine q_lv [] rfl ?_
                exact w_X0_findInSegment_116 X hr hl _ h
          · rw [if_pos g17] at h
            refine q_iload_n X 5 rfl dX0_findInSegment_78 ?_
            refine q_iload X 2 rfl dX0_findInSegment_79 ?_
            refine q_iadd X dX0_findInSegment_81 ?_
            refine q_ldc X (65535) tC_X0_77 dX0_findInSegment_82 ?_
            refine q_iand X dX0_findInSegment_84 ?_
            obtain ⟨ev, eS⟩ := q_end h
            exact q_iret X hr hl rfl ev eS dX0_findInSegment_85
        · rw [if_pos g16] at h
          refine q_lv [] rfl ?_
          exact w_X0_findInSegment_71 X hr hl _ h
theorem tD_X0_findInSegment : yX0_findInSegment.cls ≠ "java/lang/invoke/MethodHandle" ∧ yX0_findInSegment.cls ≠ "java/lang/invoke/VarHandle" ∧ (parseMethodDescriptor yX0_findInSegment.desc).map (fun d => d.parameters.length) = some 3 := by decide +kernel
theorem c_X0_findInSegment {l : Launch} {D : va_G} {cy : Nat → ClassId} {n : Nat} {S Sv : q_S} {rv : Int32} {o : Nat} {p0 : Int32} {p1 : Int32} {p2 : Int32} (h : m_X0_findInSegment n S o p0 p1 p2 = some (rv, Sv)) : q_MI l yX0_findInSegment (q_ws yX0_findInSegment cX0_findInSegment 9 ((some .int))) ({ frames := 3, cells := 0, slots := 0, locals := 69 } : Room) D cy [.ref o, .int (p0), .int (p1), .int (p2)] S rv Sv := by
  exact q_MI_of (by decide +kernel) (Nat.le_of_ble_eq_true rfl) (fun p e s m args below meth c A X hr hl => w_X0_findInSegment X hr hl h)
/-! TrueOutlines$Codes.findInSegments(I)I -/
def m_X0_findInSegments_10 (n : Nat) : Nat → q_S → Option Nat → Int32 → Int32 → Int32 → Option (Int32 × q_S)
  | 0, _, _, _, _, _ => none
  | k + 1, S, l0, l1, l2, l3 => q_if (¬ (2 : Int32) = 0) ((if (l2 / (2 : Int32)) ≤ l3 then some ((0 : Int32), S) else q_at (S) (l0) 1 (fun a3 => q_b (m_X0_two n (S) a3 (((14 : Int32) + ((2 : Int32) * l3)).toInt64)) (fun r4 S5 => (if r4 = (-1 : Int32) then some ((0 : Int32), S5) else (if r4 < l1 then m_X0_findInSegments_10 n k (S5) (l0) (l1) (l2) (l3 + (1)) else q_at (S5) (l0) 1 (fun a9 => q_b (m_X0_findInSegment n (S5) a9 (l1) (l2) ((2 : Int32) * l3)) (fun r10 S11 => some (r10, S11)))))))))
set_option maxHeartbeats 4000000 in
set_option maxRecDepth 100000 in
theorem w_X0_findInSegments_10 (X : q_X p s m args c cX0_findInSegments 5 RX0 q_T D cy A) (hr : meth.sig.returnType = (some .int)) (hl : meth.locks = false)  {n : Nat} {Sv : q_S} {rv : Int32}  : ∀ (k : Nat) (S : q_S) (l0 : Option Nat) (l1 : Int32) (l2 : Int32) (l3 : Int32), m_X0_findInSegments_10 n k S l0 l1 l2 l3 = some (rv, Sv) → q_W p l e ({ frames := 4, cells := 0, slots := 0, locals := 97 } : Room) s m args below meth c (MQ below (va_Qi (fun (r : Int32) (u : q_S) => r = rv ∧ u = Sv) (q_B D cy A) A) args s 0 0 A) A D cy 5 0 0 S 10 [(0, va_rf (l0)), (1, .int (l1)), (2, .int (l2)), (3, .int (l3))] [] := by
  intro k
  induction k with
  | zero => intro S l0 l1 l2 l3 h; rw [m_X0_findInSegments_10] at h; cases h
  | succ k ih =>
    intro S l0 l1 l2 l3 h
    rw [m_X0_findInSegments_10] at h
    refine q_iload_n X 3 rfl dX0_findInSegments_10 ?_
    refine q_iload_n X 2 rfl dX0_findInSegments_11 ?_
    refine q_iconst X (2) (by decide) dX0_findInSegments_12 ?_
    obtain ⟨g1, h⟩ := q_ifE h
    refine q_idiv X g1 dX0_findInSegments_13 ?_
    refine q_icmp_ge X 60 (by decide) dX0_findInSegments_14 (fun g2 => ?_) (fun g2 => ?_)
    · rw [if_pos g2] at h
      refine q_iconst X (0) (by decide) dX0_findInSegments_60 ?_
      obtain ⟨ev, eS⟩ := q_end h
      exact q_iret X hr hl rfl ev eS dX0_findInSegments_61
    · rw [if_neg g2] at h
      refine q_aload_n X 0 rfl dX0_findInSegments_17 ?_
      refine q_bipush X (14) (by decide) dX0_findInSegments_18 ?_
      refine q_iconst X (2) (by decide) dX0_findInSegments_20 ?_
      refine q_iload_n X 3 rfl dX0_findInSegments_21 ?_
      refine q_imul X dX0_findInSegments_22 ?_
      refine q_iadd X dX0_findInSegments_23 ?_
      refine q_i2l X dX0_findInSegments_24 ?_
      obtain ⟨a3, ea3, ma3, ka3, h⟩ := q_atE h
      obtain ⟨r4, S5, c6, h⟩ := q_bE h
      refine q_cVI X (As := [.long (((14 : Int32) + ((2 : Int32) * l3)).toInt64)]) ea3 ma3 ka3 rfl (by decide) (c_X0_two c6) (q_cwV X tK_X0_two tM_X0_52 tI_X0_two tV_X0_two tN_X0 rfl rfl tD_X0_two ⟨Nat.le_of_ble_eq_true rfl, Nat.le_of_ble_eq_true rfl⟩) rfl rfl (by first | exact Nat.le_of_ble_eq_true rfl | (simp only [List.map, q_catR]; exact Nat.le_of_ble_eq_true rfl)) ⟨Nat.zero_le _, Nat.zero_le _⟩ dX0_findInSegments_25 ?_
      refine q_istore X 4 [(4, .int (r4)), (0, va_rf (l0)), (1, .int (l1)), (2, .int (l2)), (3, .int (l3))] (by decide) (by first | rfl | simp [List.filter, q_catR]) dX0_findInSegments_28 ?_
      refine q_iload X 0 rfl dX0_findInSegments_30 ?_
      refine q_iconst X (-1) (by decide) dX0_findInSegments_32 ?_
      refine q_icmp_ne X 38 (by decide) dX0_findInSegments_33 (fun g7 => ?_) (fun g7 => ?_)
      · rw [if_neg g7] at h
        refine q_iload X 0 rfl dX0_findInSegments_38 ?_
        refine q_iload_n X 2 rfl dX0_findInSegments_40 ?_
        refine q_icmp_lt X 54 (by decide) dX0_findInSegments_41 (fun g8 => ?_) (fun g8 => ?_)
        · rw [if_pos g8] at h
          refine q_iinc X 3 4 (l3 + (1)) [(3, .int (l3 + (1))), (4, .int (r4)), (0, va_rf (l0)), (1, .int (l1)), (2, .int (l2))] rfl (congrArg (fun z => l3 + z) (show Int32.ofInt (1) = (1) by decide)) (by decide) (by first | rfl | simp [List.filter, q_catR]) dX0_findInSegments_54 ?_
          refine q_goto X 10 (by decide) dX0_findInSegments_57 ?_
          refine q_lv [2, 3, 4, 0] rfl ?_
          exact ih _ _ _ _ _ h
        · rw [if_neg g8] at h
          refine q_aload_n X 1 rfl dX0_findInSegments_44 ?_
          refine q_iload_n X 2 rfl dX0_findInSegments_45 ?_
          refine q_iload_n X 3 rfl dX0_findInSegments_46 ?_
          refine q_iconst X (2) (by decide) dX0_findInSegments_47 ?_
          refine q_iload_n X 4 rfl dX0_findInSegments_48 ?_
          refine q_imul X dX0_findInSegments_49 ?_
          obtain ⟨a9, ea9, ma9, ka9, h⟩ := q_atE h
          obtain ⟨r10, S11, c12, h⟩ := q_bE h
          refine q_cVI X (As := [.int (l1), .int (l2), .int ((2 : Int32) * l3)]) ea9 ma9 ka9 rfl (by decide) (c_X0_findInSegment c12) (q_cwV X tK_X0_findInSegment tM_X0_73 tI_X0_findInSegment tV_X0_findInSegment tN_X0 rfl rfl tD_X0_findInSegment ⟨Nat.le_of_ble_eq_true rfl, Nat.le_of_ble_eq_true rfl⟩) rfl rfl (by first | exact Nat.le_of_ble_eq_true rfl | (simp only [List.map, q_catR]; exact Nat.le_of_ble_eq_true rfl)) ⟨Nat.zero_le _, Nat.zero_le _⟩ dX0_findInSegments_50 ?_
          obtain ⟨ev, eS⟩ := q_end h
          exact q_iret X hr hl rfl ev eS dX0_findInSegments_53
      · rw [if_pos g7] at h
        refine q_iconst X (0) (by decide) dX0_findInSegments_36 ?_
        obtain ⟨ev, eS⟩ := q_end h
        exact q_iret X hr hl rfl ev eS dX0_findInSegments_37
def m_X0_findInSegments (n : Nat) (S : q_S) (o : Nat) (p0 : Int32) : Option (Int32 × q_S) := q_at (S) (some o) 1 (fun a1 => q_b (m_X0_two n (S) a1 ((6 : Int64))) (fun r2 S3 => m_X0_findInSegments_10 n n (S3) (some o) (p0) (r2) ((0 : Int32))))
set_option maxHeartbeats 4000000 in
set_option maxRecDepth 100000 in
theorem w_X0_findInSegments (X : q_X p s m args c cX0_findInSegments 5 RX0 q_T D cy A) (hr : meth.sig.returnType = (some .int)) (hl : meth.locks = false)  {n : Nat} {S Sv : q_S} {rv : Int32} {o : Nat} {p0 : Int32} (h : m_X0_findInSegments n S o p0 = some (rv, Sv)) : q_W p l e ({ frames := 4, cells := 0, slots := 0, locals := 97 } : Room) s m args below meth c (MQ below (va_Qi (fun (r : Int32) (u : q_S) => r = rv ∧ u = Sv) (q_B D cy A) A) args s 0 0 A) A D cy 5 0 0 S 0 [(0, va_rf (some o)), (1, .int (p0))] [] := by
  unfold m_X0_findInSegments at h
  refine q_aload_n X 0 rfl dX0_findInSegments_0 ?_
  refine q_ldc2_w X (6) tC_X0_57 dX0_findInSegments_1 ?_
  obtain ⟨a1, ea1, ma1, ka1, h⟩ := q_atE h
  obtain ⟨r2, S3, c4, h⟩ := q_bE h
  refine q_cVI X (As := [.long ((6 : Int64))]) ea1 ma1 ka1 rfl (by decide) (c_X0_two c4) (q_cwV X tK_X0_two tM_X0_52 tI_X0_two tV_X0_two tN_X0 rfl rfl tD_X0_two ⟨Nat.le_of_ble_eq_true rfl, Nat.le_of_ble_eq_true rfl⟩) rfl rfl (by first | exact Nat.le_of_ble_eq_true rfl | (simp only [List.map, q_catR]; exact Nat.le_of_ble_eq_true rfl)) ⟨Nat.zero_le _, Nat.zero_le _⟩ dX0_findInSegments_4 ?_
  refine q_istore_n X 2 [(2, .int (r2)), (0, va_rf (some o)), (1, .int (p0))] rfl (by decide) (by first | rfl | simp [List.filter, q_catR]) dX0_findInSegments_7 ?_
  refine q_iconst X (0) (by decide) dX0_findInSegments_8 ?_
  refine q_istore_n X 3 [(3, .int ((0 : Int32))), (2, .int (r2)), (0, va_rf (some o)), (1, .int (p0))] rfl (by decide) (by first | rfl | simp [List.filter, q_catR]) dX0_findInSegments_9 ?_
  refine q_lv [2, 3, 1, 0] rfl ?_
  exact w_X0_findInSegments_10 X hr hl n _ _ _ _ _ h
theorem tD_X0_findInSegments : yX0_findInSegments.cls ≠ "java/lang/invoke/MethodHandle" ∧ yX0_findInSegments.cls ≠ "java/lang/invoke/VarHandle" ∧ (parseMethodDescriptor yX0_findInSegments.desc).map (fun d => d.parameters.length) = some 1 := by decide +kernel
theorem c_X0_findInSegments {l : Launch} {D : va_G} {cy : Nat → ClassId} {n : Nat} {S Sv : q_S} {rv : Int32} {o : Nat} {p0 : Int32} (h : m_X0_findInSegments n S o p0 = some (rv, Sv)) : q_MI l yX0_findInSegments (q_ws yX0_findInSegments cX0_findInSegments 5 ((some .int))) ({ frames := 4, cells := 0, slots := 0, locals := 97 } : Room) D cy [.ref o, .int (p0)] S rv Sv := by
  exact q_MI_of (by decide +kernel) (Nat.le_of_ble_eq_true rfl) (fun p e s m args below meth c A X hr hl => w_X0_findInSegments X hr hl h)
/-! TrueOutlines$Row.one(JJ)I -/
def m_X4_one_33 (n : Nat) (S : q_S) (s0 : Int32) : Option (Int32 × q_S) := some (s0, S)
set_option maxHeartbeats 4000000 in
set_option maxRecDepth 100000 in
theorem w_X4_one_33 (X : q_X p s m args c cX4_one 5 RX4 q_T D cy A) (hr : meth.sig.returnType = (some .int)) (hl : meth.locks = false)  {n : Nat} {Sv : q_S} {rv : Int32}  (S : q_S) (s0 : Int32) (h : m_X4_one_33 n S s0 = some (rv, Sv)) : q_W p l e ({ frames := 0, cells := 0, slots := 0, locals := 0 } : Room) s m args below meth c (MQ below (va_Qi (fun (r : Int32) (u : q_S) => r = rv ∧ u = Sv) (q_B D cy A) A) args s 0 0 A) A D cy 5 0 0 S 33 [] [.int (s0)] := by
  unfold m_X4_one_33 at h
  obtain ⟨ev, eS⟩ := q_end h
  exact q_iret X hr hl rfl ev eS dX4_one_33
def m_X4_one_32 (n : Nat) (S : q_S) : Option (Int32 × q_S) := m_X4_one_33 n (S) ((-1 : Int32))
set_option maxHeartbeats 4000000 in
set_option maxRecDepth 100000 in
theorem w_X4_one_32 (X : q_X p s m args c cX4_one 5 RX4 q_T D cy A) (hr : meth.sig.returnType = (some .int)) (hl : meth.locks = false)  {n : Nat} {Sv : q_S} {rv : Int32}  (S : q_S) (h : m_X4_one_32 n S = some (rv, Sv)) : q_W p l e ({ frames := 0, cells := 0, slots := 0, locals := 0 } : Room) s m args below meth c (MQ below (va_Qi (fun (r : Int32) (u : q_S) => r = rv ∧ u = Sv) (q_B D cy A) A) args s 0 0 A) A D cy 5 0 0 S 32 [] [] := by
  unfold m_X4_one_32 at h
  refine q_iconst X (-1) (by decide) dX4_one_32 ?_
  exact w_X4_one_33 X hr hl _ _ h
def m_X4_one (n : Nat) (S : q_S) (o : Nat) (p0 : Int64) (p1 : Int64) : Option (Int32 × q_S) := (if (lg_cmp (p0) ((0 : Int64))) < 0 then m_X4_one_32 n (S) else (if 0 ≤ (lg_cmp (p0) (p1)) then m_X4_one_32 n (S) else q_at (S) (some o) 5 (fun a3 => (if 0 ≤ (lg_cmp (p0) (((q_I (S) a3 1).toInt64))) then m_X4_one_32 n (S) else q_at (S) (q_R (S) a3 0) 100 (fun a5 => q_if (q_in (p0.toInt32) (q_N (S) a5) = true) (m_X4_one_33 n (S) (q_I (S) a5 (p0.toInt32).toNatClampNeg)))))))
set_option maxHeartbeats 4000000 in
set_option maxRecDepth 100000 in
theorem w_X4_one (X : q_X p s m args c cX4_one 5 RX4 q_T D cy A) (hr : meth.sig.returnType = (some .int)) (hl : meth.locks = false)  {n : Nat} {S Sv : q_S} {rv : Int32} {o : Nat} {p0 : Int64} {p1 : Int64} (h : m_X4_one n S o p0 p1 = some (rv, Sv)) : q_W p l e ({ frames := 0, cells := 0, slots := 0, locals := 0 } : Room) s m args below meth c (MQ below (va_Qi (fun (r : Int32) (u : q_S) => r = rv ∧ u = Sv) (q_B D cy A) A) args s 0 0 A) A D cy 5 0 0 S 0 [(0, va_rf (some o)), (1, .long (p0)), (3, .long (p1))] [] := by
  unfold m_X4_one at h
  refine q_lload_n X 1 rfl dX4_one_0 ?_
  refine q_lconst X (0) (by decide) dX4_one_1 ?_
  refine q_lcmp X dX4_one_2 ?_
  refine q_if_lt X 32 (by decide) dX4_one_3 (fun g1 => ?_) (fun g1 => ?_)
  · rw [if_pos g1] at h
    refine q_lv [] rfl ?_
    exact w_X4_one_32 X hr hl _ h
  · rw [if_neg g1] at h
    refine q_lload_n X 1 rfl dX4_one_6 ?_
    refine q_lload_n X 2 rfl dX4_one_7 ?_
    refine q_lcmp X dX4_one_8 ?_
    refine q_if_ge X 32 (by decide) dX4_one_9 (fun g2 => ?_) (fun g2 => ?_)
    · rw [if_pos g2] at h
      refine q_lv [] rfl ?_
      exact w_X4_one_32 X hr hl _ h
    · rw [if_neg g2] at h
      refine q_lload_n X 1 rfl dX4_one_12 ?_
      refine q_aload_n X 0 rfl dX4_one_13 ?_
      obtain ⟨a3, ea3, ma3, ka3, h⟩ := q_atE h
      refine q_getI X 1 ea3 ma3 ka3 rfl tW_X4 (by decide) (by decide) tF_X4_15 rfl dX4_one_14 ?_
      refine q_i2l X dX4_one_17 ?_
      refine q_lcmp X dX4_one_18 ?_
      refine q_if_ge X 32 (by decide) dX4_one_19 (fun g4 => ?_) (fun g4 => ?_)
      · rw [if_pos g4] at h
        refine q_lv [] rfl ?_
        exact w_X4_one_32 X hr hl _ h
      · rw [if_neg g4] at h
        refine q_aload_n X 0 rfl dX4_one_22 ?_
        refine q_getR X 0 ea3 ma3 ka3 rfl tW_X4 (by decide) (by decide) tF_X4_9 rfl dX4_one_23 ?_
        refine q_lload_n X 1 rfl dX4_one_26 ?_
        refine q_l2i X dX4_one_27 ?_
        obtain ⟨a5, ea5, ma5, ka5, h⟩ := q_atE h
        obtain ⟨g6, h⟩ := q_ifE h
        refine q_iaload X ea5 ma5 ka5 (q_inE g6) dX4_one_28 ?_
        refine q_goto X 33 (by decide) dX4_one_29 ?_
        refine q_lv [] rfl ?_
        exact w_X4_one_33 X hr hl _ _ h
theorem tD_X4_one : yX4_one.cls ≠ "java/lang/invoke/MethodHandle" ∧ yX4_one.cls ≠ "java/lang/invoke/VarHandle" ∧ (parseMethodDescriptor yX4_one.desc).map (fun d => d.parameters.length) = some 2 := by decide +kernel
theorem c_X4_one {l : Launch} {D : va_G} {cy : Nat → ClassId} {n : Nat} {S Sv : q_S} {rv : Int32} {o : Nat} {p0 : Int64} {p1 : Int64} (h : m_X4_one n S o p0 p1 = some (rv, Sv)) : q_MI l yX4_one (q_ws yX4_one cX4_one 5 ((some .int))) ({ frames := 0, cells := 0, slots := 0, locals := 0 } : Room) D cy [.ref o, .long (p0), .long (p1)] S rv Sv := by
  exact q_MI_of (by decide +kernel) (Nat.le_of_ble_eq_true rfl) (fun p e s m args below meth c A X hr hl => w_X4_one X hr hl h)
/-! TrueOutlines$Table.one(J)I -/
def m_X7_one_28 (n : Nat) (S : q_S) (s0 : Int32) : Option (Int32 × q_S) := some (s0, S)
set_option maxHeartbeats 4000000 in
set_option maxRecDepth 100000 in
theorem w_X7_one_28 (X : q_X p s m args c cX7_one 3 RX7 q_T D cy A) (hr : meth.sig.returnType = (some .int)) (hl : meth.locks = false)  {n : Nat} {Sv : q_S} {rv : Int32}  (S : q_S) (s0 : Int32) (h : m_X7_one_28 n S s0 = some (rv, Sv)) : q_W p l e ({ frames := 1, cells := 0, slots := 0, locals := 24 } : Room) s m args below meth c (MQ below (va_Qi (fun (r : Int32) (u : q_S) => r = rv ∧ u = Sv) (q_B D cy A) A) args s 0 0 A) A D cy 3 0 0 S 28 [] [.int (s0)] := by
  unfold m_X7_one_28 at h
  obtain ⟨ev, eS⟩ := q_end h
  exact q_iret X hr hl rfl ev eS dX7_one_28
def m_X7_one (n : Nat) (S : q_S) (o : Nat) (p0 : Int64) : Option (Int32 × q_S) := (if 0 ≤ (lg_cmp (p0) ((0 : Int64))) then q_at (S) (some o) 8 (fun a2 => q_b (m_X7_end n (S) a2) (fun r3 S4 => q_at (S4) (q_R (S) a2 0) 5 (fun a6 => q_b (m_X4_one n (S4) a6 (((q_I (S) a2 3).toInt64) + p0) (r3)) (fun r7 S8 => m_X7_one_28 n (S8) (r7))))) else m_X7_one_28 n (S) ((-1 : Int32)))
set_option maxHeartbeats 4000000 in
set_option maxRecDepth 100000 in
theorem w_X7_one (X : q_X p s m args c cX7_one 3 RX7 q_T D cy A) (hr : meth.sig.returnType = (some .int)) (hl : meth.locks = false)  {n : Nat} {S Sv : q_S} {rv : Int32} {o : Nat} {p0 : Int64} (h : m_X7_one n S o p0 = some (rv, Sv)) : q_W p l e ({ frames := 1, cells := 0, slots := 0, locals := 24 } : Room) s m args below meth c (MQ below (va_Qi (fun (r : Int32) (u : q_S) => r = rv ∧ u = Sv) (q_B D cy A) A) args s 0 0 A) A D cy 3 0 0 S 0 [(0, va_rf (some o)), (1, .long (p0))] [] := by
  unfold m_X7_one at h
  refine q_lload_n X 1 rfl dX7_one_0 ?_
  refine q_lconst X (0) (by decide) dX7_one_1 ?_
  refine q_lcmp X dX7_one_2 ?_
  refine q_if_ge X 10 (by decide) dX7_one_3 (fun g1 => ?_) (fun g1 => ?_)
  · rw [if_pos g1] at h
    refine q_aload_n X 0 rfl dX7_one_10 ?_
    obtain ⟨a2, ea2, ma2, ka2, h⟩ := q_atE h
    refine q_getR X 0 ea2 ma2 ka2 rfl tW_X7 (by decide) (by decide) tF_X7_9 rfl dX7_one_11 ?_
    refine q_aload_n X 0 rfl dX7_one_14 ?_
    refine q_getI X 3 ea2 ma2 ka2 rfl tW_X7 (by decide) (by decide) tF_X7_22 rfl dX7_one_15 ?_
    refine q_i2l X dX7_one_18 ?_
    refine q_lload_n X 1 rfl dX7_one_19 ?_
    refine q_ladd X dX7_one_20 ?_
    refine q_aload_n X 0 rfl dX7_one_21 ?_
    obtain ⟨r3, S4, c5, h⟩ := q_bE h
    refine q_cVJ X (As := []) ea2 ma2 ka2 rfl (by decide) (c_X7_end c5) (q_cwV X tK_X7_end tM_X7_29 tI_X7_end tV_X7_end tN_X7 rfl rfl tD_X7_end ⟨Nat.le_of_ble_eq_true rfl, Nat.le_of_ble_eq_true rfl⟩) rfl rfl (by first | exact Nat.le_of_ble_eq_true rfl | (simp only [List.map, q_catR]; exact Nat.le_of_ble_eq_true rfl)) ⟨Nat.zero_le _, Nat.zero_le _⟩ dX7_one_22 ?_
    obtain ⟨a6, ea6, ma6, ka6, h⟩ := q_atE h
    obtain ⟨r7, S8, c9, h⟩ := q_bE h
    refine q_cVI X (As := [.long (((q_I (S) a2 3).toInt64) + p0), .long (r3)]) ea6 ma6 ka6 rfl (by decide) (c_X4_one c9) (q_cwV X tK_X4_one tM_X7_33 tI_X4_one tV_X4_one tN_X4 rfl rfl tD_X4_one ⟨Nat.le_of_ble_eq_true rfl, Nat.le_of_ble_eq_true rfl⟩) rfl rfl (by first | exact Nat.le_of_ble_eq_true rfl | (simp only [List.map, q_catR]; exact Nat.le_of_ble_eq_true rfl)) ⟨Nat.zero_le _, Nat.zero_le _⟩ dX7_one_25 ?_
    refine q_lv [] rfl ?_
    exact w_X7_one_28 X hr hl _ _ h
  · rw [if_neg g1] at h
    refine q_iconst X (-1) (by decide) dX7_one_6 ?_
    refine q_goto X 28 (by decide) dX7_one_7 ?_
    refine q_lv [] rfl ?_
    exact w_X7_one_28 X hr hl _ _ h
theorem tD_X7_one : yX7_one.cls ≠ "java/lang/invoke/MethodHandle" ∧ yX7_one.cls ≠ "java/lang/invoke/VarHandle" ∧ (parseMethodDescriptor yX7_one.desc).map (fun d => d.parameters.length) = some 1 := by decide +kernel
theorem c_X7_one {l : Launch} {D : va_G} {cy : Nat → ClassId} {n : Nat} {S Sv : q_S} {rv : Int32} {o : Nat} {p0 : Int64} (h : m_X7_one n S o p0 = some (rv, Sv)) : q_MI l yX7_one (q_ws yX7_one cX7_one 3 ((some .int))) ({ frames := 1, cells := 0, slots := 0, locals := 24 } : Room) D cy [.ref o, .long (p0)] S rv Sv := by
  exact q_MI_of (by decide +kernel) (Nat.le_of_ble_eq_true rfl) (fun p e s m args below meth c A X hr hl => w_X7_one X hr hl h)
end MM
