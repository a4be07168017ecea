section MM
variable {p : Program} {l : Launch} {e : Env} {s : State} {m : MethodId} {args : Array Value} {below : List Frame} {meth : Method} {c : Code} {A : Nat → Prop} {D : va_G} {cy : Nat → ClassId}
/-! TrueOutlines$Table.total(Z)J -/
def m_X7_total_66 (n : Nat) (k5 : q_S → Option Nat → Int32 → Int64 → Int32 → Option (Int64 × q_S)) (S : q_S) (l0 : Option Nat) (l1 : Int32) (l2 : Int64) (l4 : Int32) : Option (Int64 × q_S) := k5 (S) (l0) (l1) (l2) (l4 + (1))
set_option maxHeartbeats 4000000 in
set_option maxRecDepth 100000 in
theorem w_X7_total_66 (X : q_X p s m args c cX7_total 6 RX7 q_T D cy A) (hr : meth.sig.returnType = (some .long)) (hl : meth.locks = false)  {n : Nat} {Sv : q_S} {rv : Int64}  {k5 : q_S → Option Nat → Int32 → Int64 → Int32 → Option (Int64 × q_S)} (hk5 : ∀ (S : q_S) (z0 : Option Nat) (z1 : Int32) (z2 : Int64) (z3 : Int32), k5 S z0 z1 z2 z3 = some (rv, Sv) → q_W p l e ({ frames := 2, cells := 0, slots := 0, locals := 46 } : Room) s m args below meth c (MQ below (va_Ql (fun (r : Int64) (u : q_S) => r = rv ∧ u = Sv) (q_B D cy A) A) args s 0 0 A) A D cy 6 0 0 S 5 [(0, va_rf (z0)), (1, .int (z1)), (2, .long (z2)), (4, .int (z3))] []) (S : q_S) (l0 : Option Nat) (l1 : Int32) (l2 : Int64) (l4 : Int32) (h : m_X7_total_66 n k5 S l0 l1 l2 l4 = some (rv, Sv)) : q_W p l e ({ frames := 2, cells := 0, slots := 0, locals := 46 } : Room) s m args below meth c (MQ below (va_Ql (fun (r : Int64) (u : q_S) => r = rv ∧ u = Sv) (q_B D cy A) A) args s 0 0 A) A D cy 6 0 0 S 66 [(0, va_rf (l0)), (1, .int (l1)), (2, .long (l2)), (4, .int (l4))] [] := by
  unfold m_X7_total_66 at h
  refine q_iinc X 4 3 (l4 + (1)) [(4, .int (l4 + (1))), (0, va_rf (l0)), (1, .int (l1)), (2, .long (l2))] rfl (congrArg (fun z => l4 + z) (show Int32.ofInt (1) = (1) by decide)) (by decide) (by first | rfl | simp [List.filter, q_catR]) dX7_total_66 ?_
  refine q_goto X 5 (by decide) dX7_total_69 ?_
  refine q_lv [1, 2, 3, 0] rfl ?_
  exact hk5 _ _ _ _ _ h
def m_X7_total_37 (n : Nat) (k5 : q_S → Option Nat → Int32 → Int64 → Int32 → Option (Int64 × q_S)) (S : q_S) (l0 : Option Nat) (l1 : Int32) (l2 : Int64) (l4 : Int32) (s0 : Int32) : Option (Int64 × q_S) := (if s0 = 0 then q_at (S) (l0) 8 (fun a2 => q_b (m_X7_one n (S) a2 (l4.toInt64)) (fun r3 S4 => m_X7_total_66 n k5 (S4) (l0) (l1) (l2 + ((r3.toInt64) <<< ((((24 : Int32) - ((8 : Int32) * (l4 &&& (3 : Int32))))).toInt64 &&& 63))) (l4))) else m_X7_total_66 n k5 (S) (l0) (l1) (l2) (l4))
set_option maxHeartbeats 4000000 in
set_option maxRecDepth 100000 in
theorem w_X7_total_37 (X : q_X p s m args c cX7_total 6 RX7 q_T D cy A) (hr : meth.sig.returnType = (some .long)) (hl : meth.locks = false)  {n : Nat} {Sv : q_S} {rv : Int64}  {k5 : q_S → Option Nat → Int32 → Int64 → Int32 → Option (Int64 × q_S)} (hk5 : ∀ (S : q_S) (z0 : Option Nat) (z1 : Int32) (z2 : Int64) (z3 : Int32), k5 S z0 z1 z2 z3 = some (rv, Sv) → q_W p l e ({ frames := 2, cells := 0, slots := 0, locals := 46 } : Room) s m args below meth c (MQ below (va_Ql (fun (r : Int64) (u : q_S) => r = rv ∧ u = Sv) (q_B D cy A) A) args s 0 0 A) A D cy 6 0 0 S 5 [(0, va_rf (z0)), (1, .int (z1)), (2, .long (z2)), (4, .int (z3))] []) (S : q_S) (l0 : Option Nat) (l1 : Int32) (l2 : Int64) (l4 : Int32) (s0 : Int32) (h : m_X7_total_37 n k5 S l0 l1 l2 l4 s0 = some (rv, Sv)) : q_W p l e ({ frames := 2, cells := 0, slots := 0, locals := 46 } : Room) s m args below meth c (MQ below (va_Ql (fun (r : Int64) (u : q_S) => r = rv ∧ u = Sv) (q_B D cy A) A) args s 0 0 A) A D cy 6 0 0 S 37 [(0, va_rf (l0)), (1, .int (l1)), (2, .long (l2)), (4, .int (l4))] [.int (s0)] := by
  unfold m_X7_total_37 at h
  refine q_istore X 5 [(5, .int (s0)), (0, va_rf (l0)), (1, .int (l1)), (2, .long (l2)), (4, .int (l4))] (by decide) (by first | rfl | simp [List.filter, q_catR]) dX7_total_37 ?_
  refine q_iload X 0 rfl dX7_total_39 ?_
  refine q_if_ne X 66 (by decide) dX7_total_41 (fun g1 => ?_) (fun g1 => ?_)
  · rw [if_neg g1] at h
    refine q_lv [1, 2, 3, 4] rfl ?_
    exact w_X7_total_66 X hr hl hk5 _ _ _ _ _ h
  · rw [if_pos g1] at h
    refine q_lload_n X 3 rfl dX7_total_44 ?_
    refine q_aload_n X 1 rfl dX7_total_45 ?_
    refine q_iload X 4 rfl dX7_total_46 ?_
    refine q_i2l X dX7_total_48 ?_
    obtain ⟨a2, ea2, ma2, ka2, h⟩ := q_atE h
    obtain ⟨r3, S4, c5, h⟩ := q_bE h
    refine q_cVI X (As := [.long (l4.toInt64)]) ea2 ma2 ka2 rfl (by decide) (c_X7_one c5) (q_cwV X tK_X7_one tM_X7_48 tI_X7_one tV_X7_one tN_X7 rfl rfl tD_X7_one ⟨Nat.le_of_ble_eq_true rfl, Nat.le_of_ble_eq_true rfl⟩) rfl rfl (by first | exact Nat.le_of_ble_eq_true rfl | (simp only [List.map, q_catR]; exact Nat.le_of_ble_eq_true rfl)) ⟨Nat.zero_le _, Nat.zero_le _⟩ dX7_total_49 ?_
    refine q_i2l X dX7_total_52 ?_
    refine q_bipush X (24) (by decide) dX7_total_53 ?_
    refine q_bipush X (8) (by decide) dX7_total_55 ?_
    refine q_iload X 4 rfl dX7_total_57 ?_
    refine q_iconst X (3) (by decide) dX7_total_59 ?_
    refine q_iand X dX7_total_60 ?_
    refine q_imul X dX7_total_61 ?_
    refine q_isub X dX7_total_62 ?_
    refine q_lshl X dX7_total_63 ?_
    refine q_ladd X dX7_total_64 ?_
    refine q_lstore_n X 2 [(2, .long (l2 + ((r3.toInt64) <<< ((((24 : Int32) - ((8 : Int32) * (l4 &&& (3 : Int32))))).toInt64 &&& 63)))), (5, .int (s0)), (0, va_rf (l0)), (1, .int (l1)), (4, .int (l4))] rfl (by decide) (by first | rfl | simp [List.filter, q_catR]) dX7_total_65 ?_
    refine q_lv [2, 3, 0, 4] rfl ?_
    exact w_X7_total_66 X hr hl hk5 _ _ _ _ _ h
def m_X7_total_36 (n : Nat) (k5 : q_S → Option Nat → Int32 → Int64 → Int32 → Option (Int64 × q_S)) (S : q_S) (l0 : Option Nat) (l1 : Int32) (l2 : Int64) (l4 : Int32) : Option (Int64 × q_S) := m_X7_total_37 n k5 (S) (l0) (l1) (l2) (l4) ((0 : Int32))
set_option maxHeartbeats 4000000 in
set_option maxRecDepth 100000 in
theorem w_X7_total_36 (X : q_X p s m args c cX7_total 6 RX7 q_T D cy A) (hr : meth.sig.returnType = (some .long)) (hl : meth.locks = false)  {n : Nat} {Sv : q_S} {rv : Int64}  {k5 : q_S → Option Nat → Int32 → Int64 → Int32 → Option (Int64 × q_S)} (hk5 : ∀ (S : q_S) (z0 : Option Nat) (z1 : Int32) (z2 : Int64) (z3 : Int32), k5 S z0 z1 z2 z3 = some (rv, Sv) → q_W p l e ({ frames := 2, cells := 0, slots := 0, locals := 46 } : Room) s m args below meth c (MQ below (va_Ql (fun (r : Int64) (u : q_S) => r = rv ∧ u = Sv) (q_B D cy A) A) args s 0 0 A) A D cy 6 0 0 S 5 [(0, va_rf (z0)), (1, .int (z1)), (2, .long (z2)), (4, .int (z3))] []) (S : q_S) (l0 : Option Nat) (l1 : Int32) (l2 : Int64) (l4 : Int32) (h : m_X7_total_36 n k5 S l0 l1 l2 l4 = some (rv, Sv)) : q_W p l e ({ frames := 2, cells := 0, slots := 0, locals := 46 } : Room) s m args below meth c (MQ below (va_Ql (fun (r : Int64) (u : q_S) => r = rv ∧ u = Sv) (q_B D cy A) A) args s 0 0 A) A D cy 6 0 0 S 36 [(0, va_rf (l0)), (1, .int (l1)), (2, .long (l2)), (4, .int (l4))] [] := by
  unfold m_X7_total_36 at h
  refine q_iconst X (0) (by decide) dX7_total_36 ?_
  exact w_X7_total_37 X hr hl hk5 _ _ _ _ _ _ h
def m_X7_total_5 (n : Nat) : Nat → q_S → Option Nat → Int32 → Int64 → Int32 → Option (Int64 × q_S)
  | 0, _, _, _, _, _ => none
  | k + 1, S, l0, l1, l2, l4 => q_at (S) (l0) 8 (fun a1 => (if (q_I (S) a1 4) ≤ l4 then some (l2 &&& (4294967295 : Int64), S) else (if l1 = 0 then m_X7_total_36 n (m_X7_total_5 n k) (S) (l0) (l1) (l2) (l4) else (if l4 < (8 : Int32) then m_X7_total_36 n (m_X7_total_5 n k) (S) (l0) (l1) (l2) (l4) else (if (12 : Int32) ≤ l4 then m_X7_total_36 n (m_X7_total_5 n k) (S) (l0) (l1) (l2) (l4) else m_X7_total_37 n (m_X7_total_5 n k) (S) (l0) (l1) (l2) (l4) ((1 : Int32)))))))
set_option maxHeartbeats 4000000 in
set_option maxRecDepth 100000 in
theorem w_X7_total_5 (X : q_X p s m args c cX7_total 6 RX7 q_T D cy A) (hr : meth.sig.returnType = (some .long)) (hl : meth.locks = false)  {n : Nat} {Sv : q_S} {rv : Int64}  : ∀ (k : Nat) (S : q_S) (l0 : Option Nat) (l1 : Int32) (l2 : Int64) (l4 : Int32), m_X7_total_5 n k S l0 l1 l2 l4 = some (rv, Sv) → q_W p l e ({ frames := 2, cells := 0, slots := 0, locals := 46 } : Room) s m args below meth c (MQ below (va_Ql (fun (r : Int64) (u : q_S) => r = rv ∧ u = Sv) (q_B D cy A) A) args s 0 0 A) A D cy 6 0 0 S 5 [(0, va_rf (l0)), (1, .int (l1)), (2, .long (l2)), (4, .int (l4))] [] := by
  intro k
  induction k with
  | zero => intro S l0 l1 l2 l4 h; rw [m_X7_total_5] at h; cases h
  | succ k ih =>
    intro S l0 l1 l2 l4 h
    rw [m_X7_total_5] at h
    refine q_iload X 3 rfl dX7_total_5 ?_
    refine q_aload_n X 0 rfl dX7_total_7 ?_
    obtain ⟨a1, ea1, ma1, ka1, h⟩ := q_atE h
    refine q_getI X 4 ea1 ma1 ka1 rfl tW_X7 (by decide) (by decide) tF_X7_26 rfl dX7_total_8 ?_
    refine q_icmp_ge X 72 (by decide) dX7_total_11 (fun g2 => ?_) (fun g2 => ?_)
    · rw [if_pos g2] at h
      refine q_lload_n X 2 rfl dX7_total_72 ?_
      refine q_ldc2_w X (4294967295) tC_X7_51 dX7_total_73 ?_
      refine q_land X dX7_total_76 ?_
      obtain ⟨ev, eS⟩ := q_end h
      exact q_lret X hr hl ev eS dX7_total_77
    · rw [if_neg g2] at h
      refine q_iload_n X 1 rfl dX7_total_14 ?_
      refine q_if_eq X 36 (by decide) dX7_total_15 (fun g3 => ?_) (fun g3 => ?_)
      · rw [if_pos g3] at h
        exact w_X7_total_36 X hr hl ih _ _ _ _ _ h
      · rw [if_neg g3] at h
        refine q_iload X 3 rfl dX7_total_18 ?_
        refine q_bipush X (8) (by decide) dX7_total_20 ?_
        refine q_icmp_lt X 36 (by decide) dX7_total_22 (fun g4 => ?_) (fun g4 => ?_)
        · rw [if_pos g4] at h
          exact w_X7_total_36 X hr hl ih _ _ _ _ _ h
        · rw [if_neg g4] at h
          refine q_iload X 3 rfl dX7_total_25 ?_
          refine q_bipush X (12) (by decide) dX7_total_27 ?_
          refine q_icmp_ge X 36 (by decide) dX7_total_29 (fun g5 => ?_) (fun g5 => ?_)
          · rw [if_pos g5] at h
            exact w_X7_total_36 X hr hl ih _ _ _ _ _ h
          · rw [if_neg g5] at h
            refine q_iconst X (1) (by decide) dX7_total_32 ?_
            refine q_goto X 37 (by decide) dX7_total_33 ?_
            exact w_X7_total_37 X hr hl ih _ _ _ _ _ _ h
def m_X7_total (n : Nat) (S : q_S) (o : Nat) (p0 : Int32) : Option (Int64 × q_S) := m_X7_total_5 n n (S) (some o) (p0) ((0 : Int64)) ((0 : Int32))
set_option maxHeartbeats 4000000 in
set_option maxRecDepth 100000 in
theorem w_X7_total (X : q_X p s m args c cX7_total 6 RX7 q_T D cy A) (hr : meth.sig.returnType = (some .long)) (hl : meth.locks = false)  {n : Nat} {S Sv : q_S} {rv : Int64} {o : Nat} {p0 : Int32} (h : m_X7_total n S o p0 = some (rv, Sv)) : q_W p l e ({ frames := 2, cells := 0, slots := 0, locals := 46 } : Room) s m args below meth c (MQ below (va_Ql (fun (r : Int64) (u : q_S) => r = rv ∧ u = Sv) (q_B D cy A) A) args s 0 0 A) A D cy 6 0 0 S 0 [(0, va_rf (some o)), (1, .int (p0))] [] := by
  unfold m_X7_total at h
  refine q_lconst X (0) (by decide) dX7_total_0 ?_
  refine q_lstore_n X 2 [(2, .long ((0 : Int64))), (0, va_rf (some o)), (1, .int (p0))] rfl (by decide) (by first | rfl | simp [List.filter, q_catR]) dX7_total_1 ?_
  refine q_iconst X (0) (by decide) dX7_total_2 ?_
  refine q_istore X 4 [(4, .int ((0 : Int32))), (2, .long ((0 : Int64))), (0, va_rf (some o)), (1, .int (p0))] (by decide) (by first | rfl | simp [List.filter, q_catR]) dX7_total_3 ?_
  refine q_lv [2, 3, 1, 0] rfl ?_
  exact w_X7_total_5 X hr hl n _ _ _ _ _ h
theorem tD_X7_total : yX7_total.cls ≠ "java/lang/invoke/MethodHandle" ∧ yX7_total.cls ≠ "java/lang/invoke/VarHandle" ∧ (parseMethodDescriptor yX7_total.desc).map (fun d => d.parameters.length) = some 1 := by decide +kernel
theorem c_X7_total {l : Launch} {D : va_G} {cy : Nat → ClassId} {n : Nat} {S Sv : q_S} {rv : Int64} {o : Nat} {p0 : Int32} (h : m_X7_total n S o p0 = some (rv, Sv)) : q_MJ l yX7_total (q_ws yX7_total cX7_total 6 ((some .long))) ({ frames := 2, cells := 0, slots := 0, locals := 46 } : Room) D cy [.ref o, .int (p0)] S rv Sv := by
  exact q_MJ_of (by decide +kernel) (Nat.le_of_ble_eq_true rfl) (fun p e s m args below meth c A X hr hl => w_X7_total X hr hl h)
/-! TrueOutlines$Writer.putFileSum()V -/
def m_X10_putFileSum (n : Nat) (S : q_S) (o : Nat)  : Option (Unit × q_S) := q_at (S) (some o) 11 (fun a1 => q_at (S) (q_R (S) a1 3) 5 (fun a2 => q_b (m_X4_size n (S) a2) (fun r3 S4 => q_at (S4) (q_R (S) a1 4) 8 (fun a6 => q_b (m_X7_set n (S4) a6 ((0 : Int64)) ((0 : Int64)) ((0 : Int32)) (r3)) (fun _ S7 => q_at (S7) (some o) 11 (fun a10 => q_at (S7) (q_R (S7) a10 4) 8 (fun a11 => q_b (m_X7_total n (S7) a11 ((0 : Int32))) (fun r12 S13 => q_at (S13) (q_R (S7) a10 3) 5 (fun a15 => q_b (m_X4_setFour n (S13) a15 ((q_I (S7) a10 8) + (8 : Int32)) ((2981146554 : Int64) - r12)) (fun _ S16 => some ((), S16)))))))))))
set_option maxHeartbeats 4000000 in
set_option maxRecDepth 100000 in
theorem w_X10_putFileSum (X : q_X p s m args c cX10_putFileSum 1 RX10 q_T D cy A) (hr : meth.sig.returnType = none) (hl : meth.locks = false)  {n : Nat} {S Sv : q_S} {o : Nat}  (h : m_X10_putFileSum n S o = some ((), Sv)) : q_W p l e ({ frames := 3, cells := 0, slots := 0, locals := 71 } : Room) s m args below meth c (MQ below (va_Qv (fun (u : q_S) => u = Sv) (q_B D cy A) A) args s 0 0 A) A D cy 1 0 0 S 0 [(0, va_rf (some o))] [] := by
  unfold m_X10_putFileSum at h
  refine q_aload_n X 0 rfl dX10_putFileSum_0 ?_
  obtain ⟨a1, ea1, ma1, ka1, h⟩ := q_atE h
  refine q_getR X 4 ea1 ma1 ka1 rfl tW_X10 (by decide) (by decide) tF_X10_46 rfl dX10_putFileSum_1 ?_
  refine q_lconst X (0) (by decide) dX10_putFileSum_4 ?_
  refine q_lconst X (0) (by decide) dX10_putFileSum_5 ?_
  refine q_iconst X (0) (by decide) dX10_putFileSum_6 ?_
  refine q_aload_n X 0 rfl dX10_putFileSum_7 ?_
  refine q_getR X 3 ea1 ma1 ka1 rfl tW_X10 (by decide) (by decide) tF_X10_14 rfl dX10_putFileSum_8 ?_
  obtain ⟨a2, ea2, ma2, ka2, h⟩ := q_atE h
  obtain ⟨r3, S4, c5, h⟩ := q_bE h
  refine q_cVI X (As := []) ea2 ma2 ka2 rfl (by decide) (c_X4_size c5) (q_cwV X tK_X4_size tM_X10_50 tI_X4_size tV_X4_size tN_X4 rfl rfl tD_X4_size ⟨Nat.le_of_ble_eq_true rfl, Nat.le_of_ble_eq_true rfl⟩) rfl rfl (by first | exact Nat.le_of_ble_eq_true rfl | (simp only [List.map, q_catR]; exact Nat.le_of_ble_eq_true rfl)) ⟨Nat.zero_le _, Nat.zero_le _⟩ dX10_putFileSum_11 ?_
  obtain ⟨a6, ea6, ma6, ka6, h⟩ := q_atE h
  obtain ⟨u9, S7, c8, h⟩ := q_bE h
  refine q_cVV X (As := [.long ((0 : Int64)), .long ((0 : Int64)), .int ((0 : Int32)), .int (r3)]) ea6 ma6 ka6 rfl (by decide) (c_X7_set c8) (q_cwV X tK_X7_set tM_X10_147 tI_X7_set tV_X7_set tN_X7 rfl rfl tD_X7_set ⟨Nat.le_of_ble_eq_true rfl, Nat.le_of_ble_eq_true rfl⟩) rfl rfl (by first | exact Nat.le_of_ble_eq_true rfl | (simp only [List.map, q_catR]; exact Nat.le_of_ble_eq_true rfl)) ⟨Nat.zero_le _, Nat.zero_le _⟩ dX10_putFileSum_14 ?_
  refine q_aload_n X 0 rfl dX10_putFileSum_17 ?_
  obtain ⟨a10, ea10, ma10, ka10, h⟩ := q_atE h
  refine q_getR X 3 ea10 ma10 ka10 rfl tW_X10 (by decide) (by decide) tF_X10_14 rfl dX10_putFileSum_18 ?_
  refine q_aload_n X 0 rfl dX10_putFileSum_21 ?_
  refine q_getI X 8 ea10 ma10 ka10 rfl tW_X10 (by decide) (by decide) tF_X10_175 rfl dX10_putFileSum_22 ?_
  refine q_bipush X (8) (by decide) dX10_putFileSum_25 ?_
  refine q_iadd X dX10_putFileSum_27 ?_
  refine q_ldc2_w X (2981146554) tC_X10_188 dX10_putFileSum_28 ?_
  refine q_aload_n X 0 rfl dX10_putFileSum_31 ?_
  refine q_getR X 4 ea10 ma10 ka10 rfl tW_X10 (by decide) (by decide) tF_X10_46 rfl dX10_putFileSum_32 ?_
  refine q_iconst X (0) (by decide) dX10_putFileSum_35 ?_
  obtain ⟨a11, ea11, ma11, ka11, h⟩ := q_atE h
  obtain ⟨r12, S13, c14, h⟩ := q_bE h
  refine q_cVJ X (As := [.int ((0 : Int32))]) ea11 ma11 ka11 rfl (by decide) (c_X7_total c14) (q_cwV X tK_X7_total tM_X10_155 tI_X7_total tV_X7_total tN_X7 rfl rfl tD_X7_total ⟨Nat.le_of_ble_eq_true rfl, Nat.le_of_ble_eq_true rfl⟩) rfl rfl (by first | exact Nat.le_of_ble_eq_true rfl | (simp only [List.map, q_catR]; exact Nat.le_of_ble_eq_true rfl)) ⟨Nat.zero_le _, Nat.zero_le _⟩ dX10_putFileSum_36 ?_
  refine q_lsub X dX10_putFileSum_39 ?_
  obtain ⟨a15, ea15, ma15, ka15, h⟩ := q_atE h
  obtain ⟨u18, S16, c17, h⟩ := q_bE h
  refine q_cVV X (As := [.int ((q_I (S7) a10 8) + (8 : Int32)), .long ((2981146554 : Int64) - r12)]) ea15 ma15 ka15 rfl (by decide) (c_X4_setFour c17) (q_cwV X tK_X4_setFour tM_X10_151 tI_X4_setFour tV_X4_setFour tN_X4 rfl rfl tD_X4_setFour ⟨Nat.le_of_ble_eq_true rfl, Nat.le_of_ble_eq_true rfl⟩) rfl rfl (by first | exact Nat.le_of_ble_eq_true rfl | (simp only [List.map, q_catR]; exact Nat.le_of_ble_eq_true rfl)) ⟨Nat.zero_le _, Nat.zero_le _⟩ dX10_putFileSum_40 ?_
  obtain ⟨ev, eS⟩ := q_end h
  exact q_vret X hr hl eS dX10_putFileSum_43
theorem tD_X10_putFileSum : yX10_putFileSum.cls ≠ "java/lang/invoke/MethodHandle" ∧ yX10_putFileSum.cls ≠ "java/lang/invoke/VarHandle" ∧ (parseMethodDescriptor yX10_putFileSum.desc).map (fun d => d.parameters.length) = some 0 := by decide +kernel
theorem c_X10_putFileSum {l : Launch} {D : va_G} {cy : Nat → ClassId} {n : Nat} {S Sv : q_S} {o : Nat}  (h : m_X10_putFileSum n S o = some ((), Sv)) : q_MV l yX10_putFileSum (q_ws yX10_putFileSum cX10_putFileSum 1 (none)) ({ frames := 3, cells := 0, slots := 0, locals := 71 } : Room) D cy [.ref o] S Sv := by
  exact q_MV_of (by decide +kernel) (Nat.le_of_ble_eq_true rfl) (fun p e s m args below meth c A X hr hl => w_X10_putFileSum X hr hl h)
/-! TrueOutlines$Row.push(I)V -/
def m_X4_push_36 (n : Nat) (S : q_S) : Option (Unit × q_S) := some ((), S)
set_option maxHeartbeats 4000000 in
set_option maxRecDepth 100000 in
theorem w_X4_push_36 (X : q_X p s m args c cX4_push 2 RX4 q_T D cy A) (hr : meth.sig.returnType = none) (hl : meth.locks = false)  {n : Nat} {Sv : q_S}  (S : q_S) (h : m_X4_push_36 n S = some ((), Sv)) : q_W p l e ({ frames := 0, cells := 0, slots := 0, locals := 0 } : Room) s m args below meth c (MQ below (va_Qv (fun (u : q_S) => u = Sv) (q_B D cy A) A) args s 0 0 A) A D cy 2 0 0 S 36 [] [] := by
  unfold m_X4_push_36 at h
  obtain ⟨ev, eS⟩ := q_end h
  exact q_vret X hr hl eS dX4_push_36
def m_X4_push (n : Nat) (S : q_S) (o : Nat) (p0 : Int32) : Option (Unit × q_S) := q_at (S) (some o) 5 (fun a1 => q_at (S) (q_R (S) a1 0) 100 (fun a2 => (if (nI (q_N (S) a2)) ≤ (q_I (S) a1 1) then m_X4_push_36 n (S) else q_if (q_in (q_I (S) a1 1) (q_N (S) a2) = true) (m_X4_push_36 n (q_sI (q_sI (S) a2 (q_I (S) a1 1).toNatClampNeg (p0 &&& (255 : Int32))) a1 1 ((q_I (q_sI (S) a2 (q_I (S) a1 1).toNatClampNeg (p0 &&& (255 : Int32))) a1 1) + (1 : Int32)))))))
set_option maxHeartbeats 4000000 in
set_option maxRecDepth 100000 in
theorem w_X4_push (X : q_X p s m args c cX4_push 2 RX4 q_T D cy A) (hr : meth.sig.returnType = none) (hl : meth.locks = false)  {n : Nat} {S Sv : q_S} {o : Nat} {p0 : Int32} (h : m_X4_push n S o p0 = some ((), Sv)) : q_W p l e ({ frames := 0, cells := 0, slots := 0, locals := 0 } : Room) s m args below meth c (MQ below (va_Qv (fun (u : q_S) => u = Sv) (q_B D cy A) A) args s 0 0 A) A D cy 2 0 0 S 0 [(0, va_rf (some o)), (1, .int (p0))] [] := by
  unfold m_X4_push at h
  refine q_aload_n X 0 rfl dX4_push_0 ?_
  obtain ⟨a1, ea1, ma1, ka1, h⟩ := q_atE h
  refine q_getI X 1 ea1 ma1 ka1 rfl tW_X4 (by decide) (by decide) tF_X4_15 rfl dX4_push_1 ?_
  refine q_aload_n X 0 rfl dX4_push_4 ?_
  refine q_getR X 0 ea1 ma1 ka1 rfl tW_X4 (by decide) (by decide) tF_X4_9 rfl dX4_push_5 ?_
  obtain ⟨a2, ea2, ma2, ka2, h⟩ := q_atE h
  refine q_alen100 X ea2 ma2 ka2 dX4_push_8 ?_
  refine q_icmp_ge X 36 (by decide) dX4_push_9 (fun g3 => ?_) (fun g3 => ?_)
  · rw [if_pos g3] at h
    refine q_lv [] rfl ?_
    exact w_X4_push_36 X hr hl _ h
  · rw [if_neg g3] at h
    refine q_aload_n X 0 rfl dX4_push_12 ?_
    refine q_getR X 0 ea1 ma1 ka1 rfl tW_X4 (by decide) (by decide) tF_X4_9 rfl dX4_push_13 ?_
    refine q_aload_n X 0 rfl dX4_push_16 ?_
    refine q_getI X 1 ea1 ma1 ka1 rfl tW_X4 (by decide) (by decide) tF_X4_15 rfl dX4_push_17 ?_
    refine q_iload_n X 1 rfl dX4_push_20 ?_
    refine q_sipush X (255) (by decide) dX4_push_21 ?_
    refine q_iand X dX4_push_24 ?_
    obtain ⟨g4, h⟩ := q_ifE h
    refine q_iastore X ea2 ma2 ka2 (q_inE g4) dX4_push_25 ?_
    have ma1 : a1 ∈ q_L (q_sI (S) a2 (q_I (S) a1 1).toNatClampNeg (p0 &&& (255 : Int32))) := q_LsI ma1
    have ka1 : q_K (q_sI (S) a2 (q_I (S) a1 1).toNatClampNeg (p0 &&& (255 : Int32))) a1 = 5 := q_KsI ka1
    have ma2 : a2 ∈ q_L (q_sI (S) a2 (q_I (S) a1 1).toNatClampNeg (p0 &&& (255 : Int32))) := q_LsI ma2
    have ka2 : q_K (q_sI (S) a2 (q_I (S) a1 1).toNatClampNeg (p0 &&& (255 : Int32))) a2 = 100 := q_KsI ka2
    refine q_aload_n X 0 rfl dX4_push_26 ?_
    refine q_dup X (q_catR _) dX4_push_27 ?_
    refine q_getI X 1 ea1 ma1 ka1 rfl tW_X4 (by decide) (by decide) tF_X4_15 rfl dX4_push_28 ?_
    refine q_iconst X (1) (by decide) dX4_push_31 ?_
    refine q_iadd X dX4_push_32 ?_
    refine q_putI X 1 ea1 ma1 ka1 rfl tW_X4 (by decide) (by decide) tF_X4_15 tyX4 tyX4_ok nmX4 rfl (tyX4_ok 1 (by decide)) rfl rfl rfl dX4_push_33 ?_
    have ma1 : a1 ∈ q_L (q_sI (q_sI (S) a2 (q_I (S) a1 1).toNatClampNeg (p0 &&& (255 : Int32))) a1 1 ((q_I (q_sI (S) a2 (q_I (S) a1 1).toNatClampNeg (p0 &&& (255 : Int32))) a1 1) + (1 : Int32))) := q_LsI ma1
    have ka1 : q_K (q_sI (q_sI (S) a2 (q_I (S) a1 1).toNatClampNeg (p0 &&& (255 : Int32))) a1 1 ((q_I (q_sI (S) a2 (q_I (S) a1 1).toNatClampNeg (p0 &&& (255 : Int32))) a1 1) + (1 : Int32))) a1 = 5 := q_KsI ka1
    have ma2 : a2 ∈ q_L (q_sI (q_sI (S) a2 (q_I (S) a1 1).toNatClampNeg (p0 &&& (255 : Int32))) a1 1 ((q_I (q_sI (S) a2 (q_I (S) a1 1).toNatClampNeg (p0 &&& (255 : Int32))) a1 1) + (1 : Int32))) := q_LsI ma2
    have ka2 : q_K (q_sI (q_sI (S) a2 (q_I (S) a1 1).toNatClampNeg (p0 &&& (255 : Int32))) a1 1 ((q_I (q_sI (S) a2 (q_I (S) a1 1).toNatClampNeg (p0 &&& (255 : Int32))) a1 1) + (1 : Int32))) a2 = 100 := q_KsI ka2
    refine q_lv [] rfl ?_
    exact w_X4_push_36 X hr hl _ h
theorem tD_X4_push : yX4_push.cls ≠ "java/lang/invoke/MethodHandle" ∧ yX4_push.cls ≠ "java/lang/invoke/VarHandle" ∧ (parseMethodDescriptor yX4_push.desc).map (fun d => d.parameters.length) = some 1 := by decide +kernel
theorem c_X4_push {l : Launch} {D : va_G} {cy : Nat → ClassId} {n : Nat} {S Sv : q_S} {o : Nat} {p0 : Int32} (h : m_X4_push n S o p0 = some ((), Sv)) : q_MV l yX4_push (q_ws yX4_push cX4_push 2 (none)) ({ frames := 0, cells := 0, slots := 0, locals := 0 } : Room) D cy [.ref o, .int (p0)] S Sv := by
  exact q_MV_of (by decide +kernel) (Nat.le_of_ble_eq_true rfl) (fun p e s m args below meth c A X hr hl => w_X4_push X hr hl h)
/-! TrueOutlines$Writer.putHeader()V -/
def m_X10_putHeader_35 (n : Nat) : Nat → q_S → Option Nat → Int32 → Option (Unit × q_S)
  | 0, _, _, _ => none
  | k + 1, S, l0, l1 => q_at (S) (l0) 11 (fun a1 => q_at (S) (q_R (S) a1 1) 9 (fun a2 => q_b (m_X8_size n (S) a2) (fun r3 S4 => (if ((16 : Int32) * r3) ≤ l1 then some ((), S4) else q_at (S4) (l0) 11 (fun a7 => q_at (S4) (q_R (S4) a7 3) 5 (fun a8 => q_b (m_X4_push n (S4) a8 ((0 : Int32))) (fun _ S9 => m_X10_putHeader_35 n k (S9) (l0) (l1 + (1)))))))))
set_option maxHeartbeats 4000000 in
set_option maxRecDepth 100000 in
theorem w_X10_putHeader_35 (X : q_X p s m args c cX10_putHeader 2 RX10 q_T D cy A) (hr : meth.sig.returnType = none) (hl : meth.locks = false)  {n : Nat} {Sv : q_S}  : ∀ (k : Nat) (S : q_S) (l0 : Option Nat) (l1 : Int32), m_X10_putHeader_35 n k S l0 l1 = some ((), Sv) → q_W p l e ({ frames := 1, cells := 0, slots := 0, locals := 24 } : Room) s m args below meth c (MQ below (va_Qv (fun (u : q_S) => u = Sv) (q_B D cy A) A) args s 0 0 A) A D cy 2 0 0 S 35 [(0, va_rf (l0)), (1, .int (l1))] [] := by
  intro k
  induction k with
  | zero => intro S l0 l1 h; rw [m_X10_putHeader_35] at h; cases h
  | succ k ih =>
    intro S l0 l1 h
    rw [m_X10_putHeader_35] at h
    refine q_iload_n X 1 rfl dX10_putHeader_35 ?_
    refine q_bipush X (16) (by decide) dX10_putHeader_36 ?_
    refine q_aload_n X 0 rfl dX10_putHeader_38 ?_
    obtain ⟨a1, ea1, ma1, ka1, h⟩ := q_atE h
    refine q_getR X 1 ea1 ma1 ka1 rfl tW_X10 (by decide) (by decide) tF_X10_33 rfl dX10_putHeader_39 ?_
    obtain ⟨a2, ea2, ma2, ka2, h⟩ := q_atE h
    obtain ⟨r3, S4, c5, h⟩ := q_bE h
    refine q_cVI X (As := []) ea2 ma2 ka2 rfl (by decide) (c_X8_size c5) (q_cwV X tK_X8_size tM_X10_77 tI_X8_size tV_X8_size tN_X8 rfl rfl tD_X8_size ⟨Nat.le_of_ble_eq_true rfl, Nat.le_of_ble_eq_true rfl⟩) rfl rfl (by first | exact Nat.le_of_ble_eq_true rfl | (simp only [List.map, q_catR]; exact Nat.le_of_ble_eq_true rfl)) ⟨Nat.zero_le _, Nat.zero_le _⟩ dX10_putHeader_42 ?_
    refine q_imul X dX10_putHeader_45 ?_
    refine q_icmp_ge X 63 (by decide) dX10_putHeader_46 (fun g6 => ?_) (fun g6 => ?_)
    · rw [if_pos g6] at h
      obtain ⟨ev, eS⟩ := q_end h
      exact q_vret X hr hl eS dX10_putHeader_63
    · rw [if_neg g6] at h
      refine q_aload_n X 0 rfl dX10_putHeader_49 ?_
      obtain ⟨a7, ea7, ma7, ka7, h⟩ := q_atE h
      refine q_getR X 3 ea7 ma7 ka7 rfl tW_X10 (by decide) (by decide) tF_X10_14 rfl dX10_putHeader_50 ?_
      refine q_iconst X (0) (by decide) dX10_putHeader_53 ?_
      obtain ⟨a8, ea8, ma8, ka8, h⟩ := q_atE h
      obtain ⟨u11, S9, c10, h⟩ := q_bE h
      refine q_cVV X (As := [.int ((0 : Int32))]) ea8 ma8 ka8 rfl (by decide) (c_X4_push c10) (q_cwV X tK_X4_push tM_X10_140 tI_X4_push tV_X4_push tN_X4 rfl rfl tD_X4_push ⟨Nat.le_of_ble_eq_true rfl, Nat.le_of_ble_eq_true rfl⟩) rfl rfl (by first | exact Nat.le_of_ble_eq_true rfl | (simp only [List.map, q_catR]; exact Nat.le_of_ble_eq_true rfl)) ⟨Nat.zero_le _, Nat.zero_le _⟩ dX10_putHeader_54 ?_
      refine q_iinc X 1 1 (l1 + (1)) [(1, .int (l1 + (1))), (0, va_rf (l0))] rfl (congrArg (fun z => l1 + z) (show Int32.ofInt (1) = (1) by decide)) (by decide) (by first | rfl | simp [List.filter, q_catR]) dX10_putHeader_57 ?_
      refine q_goto X 35 (by decide) dX10_putHeader_60 ?_
      refine q_lv [1, 0] rfl ?_
      exact ih _ _ _ h
def m_X10_putHeader_2 (n : Nat) : Nat → q_S → Option Nat → Int32 → Option (Unit × q_S)
  | 0, _, _, _ => none
  | k + 1, S, l0, l1 => (if (12 : Int32) ≤ l1 then m_X10_putHeader_35 n n (S) (l0) ((0 : Int32)) else q_at (S) (l0) 11 (fun a2 => q_at (S) (q_R (S) a2 0) 5 (fun a3 => q_b (m_X4_one n (S) a3 (l1.toInt64) ((12 : Int64))) (fun r4 S5 => q_at (S5) (q_R (S) a2 3) 5 (fun a7 => q_b (m_X4_push n (S5) a7 (r4)) (fun _ S8 => m_X10_putHeader_2 n k (S8) (l0) (l1 + (1))))))))
set_option maxHeartbeats 4000000 in
set_option maxRecDepth 100000 in
theorem w_X10_putHeader_2 (X : q_X p s m args c cX10_putHeader 2 RX10 q_T D cy A) (hr : meth.sig.returnType = none) (hl : meth.locks = false)  {n : Nat} {Sv : q_S}  : ∀ (k : Nat) (S : q_S) (l0 : Option Nat) (l1 : Int32), m_X10_putHeader_2 n k S l0 l1 = some ((), Sv) → q_W p l e ({ frames := 1, cells := 0, slots := 0, locals := 24 } : Room) s m args below meth c (MQ below (va_Qv (fun (u : q_S) => u = Sv) (q_B D cy A) A) args s 0 0 A) A D cy 2 0 0 S 2 [(0, va_rf (l0)), (1, .int (l1))] [] := by
  intro k
  induction k with
  | zero => intro S l0 l1 h; rw [m_X10_putHeader_2] at h; cases h
  | succ k ih =>
    intro S l0 l1 h
    rw [m_X10_putHeader_2] at h
    refine q_iload_n X 1 rfl dX10_putHeader_2 ?_
    refine q_bipush X (12) (by decide) dX10_putHeader_3 ?_
    refine q_icmp_ge X 33 (by decide) dX10_putHeader_5 (fun g1 => ?_) (fun g1 => ?_)
    · rw [if_pos g1] at h
      refine q_iconst X (0) (by decide) dX10_putHeader_33 ?_
      refine q_istore_n X 1 [(1, .int ((0 : Int32))), (0, va_rf (l0))] rfl (by decide) (by first | rfl | simp [List.filter, q_catR]) dX10_putHeader_34 ?_
      refine q_lv [1, 0] rfl ?_
      exact w_X10_putHeader_35 X hr hl n _ _ _ h
    · rw [if_neg g1] at h
      refine q_aload_n X 0 rfl dX10_putHeader_8 ?_
      obtain ⟨a2, ea2, ma2, ka2, h⟩ := q_atE h
      refine q_getR X 3 ea2 ma2 ka2 rfl tW_X10 (by decide) (by decide) tF_X10_14 rfl dX10_putHeader_9 ?_
      refine q_aload_n X 0 rfl dX10_putHeader_12 ?_
      refine q_getR X 0 ea2 ma2 ka2 rfl tW_X10 (by decide) (by decide) tF_X10_30 rfl dX10_putHeader_13 ?_
      refine q_iload_n X 1 rfl dX10_putHeader_16 ?_
      refine q_i2l X dX10_putHeader_17 ?_
      refine q_ldc2_w X (12) tC_X10_138 dX10_putHeader_18 ?_
      obtain ⟨a3, ea3, ma3, ka3, h⟩ := q_atE h
      obtain ⟨r4, S5, c6, h⟩ := q_bE h
      refine q_cVI X (As := [.long (l1.toInt64), .long ((12 : Int64))]) ea3 ma3 ka3 rfl (by decide) (c_X4_one c6) (q_cwV X tK_X4_one tM_X10_54 tI_X4_one tV_X4_one tN_X4 rfl rfl tD_X4_one ⟨Nat.le_of_ble_eq_true rfl, Nat.le_of_ble_eq_true rfl⟩) rfl rfl (by first | exact Nat.le_of_ble_eq_true rfl | (simp only [List.map, q_catR]; exact Nat.le_of_ble_eq_true rfl)) ⟨Nat.zero_le _, Nat.zero_le _⟩ dX10_putHeader_21 ?_
      obtain ⟨a7, ea7, ma7, ka7, h⟩ := q_atE h
      obtain ⟨u10, S8, c9, h⟩ := q_bE h
      refine q_cVV X (As := [.int (r4)]) ea7 ma7 ka7 rfl (by decide) (c_X4_push c9) (q_cwV X tK_X4_push tM_X10_140 tI_X4_push tV_X4_push tN_X4 rfl rfl tD_X4_push ⟨Nat.le_of_ble_eq_true rfl, Nat.le_of_ble_eq_true rfl⟩) rfl rfl (by first | exact Nat.le_of_ble_eq_true rfl | (simp only [List.map, q_catR]; exact Nat.le_of_ble_eq_true rfl)) ⟨Nat.zero_le _, Nat.zero_le _⟩ dX10_putHeader_24 ?_
      refine q_iinc X 1 1 (l1 + (1)) [(1, .int (l1 + (1))), (0, va_rf (l0))] rfl (congrArg (fun z => l1 + z) (show Int32.ofInt (1) = (1) by decide)) (by decide) (by first | rfl | simp [List.filter, q_catR]) dX10_putHeader_27 ?_
      refine q_goto X 2 (by decide) dX10_putHeader_30 ?_
      refine q_lv [1, 0] rfl ?_
      exact ih _ _ _ h
def m_X10_putHeader (n : Nat) (S : q_S) (o : Nat)  : Option (Unit × q_S) := m_X10_putHeader_2 n n (S) (some o) ((0 : Int32))
set_option maxHeartbeats 4000000 in
set_option maxRecDepth 100000 in
theorem w_X10_putHeader (X : q_X p s m args c cX10_putHeader 2 RX10 q_T D cy A) (hr : meth.sig.returnType = none) (hl : meth.locks = false)  {n : Nat} {S Sv : q_S} {o : Nat}  (h : m_X10_putHeader n S o = some ((), Sv)) : q_W p l e ({ frames := 1, cells := 0, slots := 0, locals := 24 } : Room) s m args below meth c (MQ below (va_Qv (fun (u : q_S) => u = Sv) (q_B D cy A) A) args s 0 0 A) A D cy 2 0 0 S 0 [(0, va_rf (some o))] [] := by
  unfold m_X10_putHeader at h
  refine q_iconst X (0) (by decide) dX10_putHeader_0 ?_
  refine q_istore_n X 1 [(1, .int ((0 : Int32))), (0, va_rf (some o))] rfl (by decide) (by first | rfl | simp [List.filter, q_catR]) dX10_putHeader_1 ?_
  refine q_lv [1, 0] rfl ?_
  exact w_X10_putHeader_2 X hr hl n _ _ _ h
theorem tD_X10_putHeader : yX10_putHeader.cls ≠ "java/lang/invoke/MethodHandle" ∧ yX10_putHeader.cls ≠ "java/lang/invoke/VarHandle" ∧ (parseMethodDescriptor yX10_putHeader.desc).map (fun d => d.parameters.length) = some 0 := by decide +kernel
theorem c_X10_putHeader {l : Launch} {D : va_G} {cy : Nat → ClassId} {n : Nat} {S Sv : q_S} {o : Nat}  (h : m_X10_putHeader n S o = some ((), Sv)) : q_MV l yX10_putHeader (q_ws yX10_putHeader cX10_putHeader 2 (none)) ({ frames := 1, cells := 0, slots := 0, locals := 24 } : Room) D cy [.ref o] S Sv := by
  exact q_MV_of (by decide +kernel) (Nat.le_of_ble_eq_true rfl) (fun p e s m args below meth c A X hr hl => w_X10_putHeader X hr hl h)
/-! TrueOutlines$Writer.putBytes(LTrueOutlines$Table;JI)V -/
def m_X10_putBytes_3 (n : Nat) : Nat → q_S → Option Nat → Option Nat → Int64 → Int32 → Int32 → Option (Unit × q_S)
  | 0, _, _, _, _, _, _ => none
  | k + 1, S, l0, l1, l2, l4, l5 => (if l4 ≤ l5 then some ((), S) else q_at (S) (l0) 11 (fun a2 => q_at (S) (l1) 8 (fun a3 => q_b (m_X7_one n (S) a3 (l2 + (l5.toInt64))) (fun r4 S5 => q_at (S5) (q_R (S) a2 3) 5 (fun a7 => q_b (m_X4_push n (S5) a7 (r4)) (fun _ S8 => m_X10_putBytes_3 n k (S8) (l0) (l1) (l2) (l4) (l5 + (1))))))))
set_option maxHeartbeats 4000000 in
set_option maxRecDepth 100000 in
theorem w_X10_putBytes_3 (X : q_X p s m args c cX10_putBytes 6 RX10 q_T D cy A) (hr : meth.sig.returnType = none) (hl : meth.locks = false)  {n : Nat} {Sv : q_S}  : ∀ (k : Nat) (S : q_S) (l0 : Option Nat) (l1 : Option Nat) (l2 : Int64) (l4 : Int32) (l5 : Int32), m_X10_putBytes_3 n k S l0 l1 l2 l4 l5 = some ((), Sv) → q_W p l e ({ frames := 2, cells := 0, slots := 0, locals := 46 } : Room) s m args below meth c (MQ below (va_Qv (fun (u : q_S) => u = Sv) (q_B D cy A) A) args s 0 0 A) A D cy 6 0 0 S 3 [(0, va_rf (l0)), (1, va_rf (l1)), (2, .long (l2)), (4, .int (l4)), (5, .int (l5))] [] := by
  intro k
  induction k with
  | zero => intro S l0 l1 l2 l4 l5 h; rw [m_X10_putBytes_3] at h; cases h
  | succ k ih =>
    intro S l0 l1 l2 l4 l5 h
    rw [m_X10_putBytes_3] at h
    refine q_iload X 4 rfl dX10_putBytes_3 ?_
    refine q_iload X 3 rfl dX10_putBytes_5 ?_
    refine q_icmp_ge X 32 (by decide) dX10_putBytes_7 (fun g1 => ?_) (fun g1 => ?_)
    · rw [if_pos g1] at h
      obtain ⟨ev, eS⟩ := q_end h
      exact q_vret X hr hl eS dX10_putBytes_32
    · rw [if_neg g1] at h
      refine q_aload_n X 0 rfl dX10_putBytes_10 ?_
      obtain ⟨a2, ea2, ma2, ka2, h⟩ := q_atE h
      refine q_getR X 3 ea2 ma2 ka2 rfl tW_X10 (by decide) (by decide) tF_X10_14 rfl dX10_putBytes_11 ?_
      refine q_aload_n X 1 rfl dX10_putBytes_14 ?_
      refine q_lload_n X 2 rfl dX10_putBytes_15 ?_
      refine q_iload X 4 rfl dX10_putBytes_16 ?_
      refine q_i2l X dX10_putBytes_18 ?_
      refine q_ladd X dX10_putBytes_19 ?_
      obtain ⟨a3, ea3, ma3, ka3, h⟩ := q_atE h
      obtain ⟨r4, S5, c6, h⟩ := q_bE h
      refine q_cVI X (As := [.long (l2 + (l5.toInt64))]) ea3 ma3 ka3 rfl (by decide) (c_X7_one c6) (q_cwV X tK_X7_one tM_X10_173 tI_X7_one tV_X7_one tN_X7 rfl rfl tD_X7_one ⟨Nat.le_of_ble_eq_true rfl, Nat.le_of_ble_eq_true rfl⟩) rfl rfl (by first | exact Nat.le_of_ble_eq_true rfl | (simp only [List.map, q_catR]; exact Nat.le_of_ble_eq_true rfl)) ⟨Nat.zero_le _, Nat.zero_le _⟩ dX10_putBytes_20 ?_
      obtain ⟨a7, ea7, ma7, ka7, h⟩ := q_atE h
      obtain ⟨u10, S8, c9, h⟩ := q_bE h
      refine q_cVV X (As := [.int (r4)]) ea7 ma7 ka7 rfl (by decide) (c_X4_push c9) (q_cwV X tK_X4_push tM_X10_140 tI_X4_push tV_X4_push tN_X4 rfl rfl tD_X4_push ⟨Nat.le_of_ble_eq_true rfl, Nat.le_of_ble_eq_true rfl⟩) rfl rfl (by first | exact Nat.le_of_ble_eq_true rfl | (simp only [List.map, q_catR]; exact Nat.le_of_ble_eq_true rfl)) ⟨Nat.zero_le _, Nat.zero_le _⟩ dX10_putBytes_23 ?_
      refine q_iinc X 5 4 (l5 + (1)) [(5, .int (l5 + (1))), (0, va_rf (l0)), (1, va_rf (l1)), (2, .long (l2)), (4, .int (l4))] rfl (congrArg (fun z => l5 + z) (show Int32.ofInt (1) = (1) by decide)) (by decide) (by first | rfl | simp [List.filter, q_catR]) dX10_putBytes_26 ?_
      refine q_goto X 3 (by decide) dX10_putBytes_29 ?_
      refine q_lv [1, 2, 3, 4, 0] rfl ?_
      exact ih _ _ _ _ _ _ h
def m_X10_putBytes (n : Nat) (S : q_S) (o : Nat) (p0 : Option Nat) (p1 : Int64) (p2 : Int32) : Option (Unit × q_S) := m_X10_putBytes_3 n n (S) (some o) (p0) (p1) (p2) ((0 : Int32))
set_option maxHeartbeats 4000000 in
set_option maxRecDepth 100000 in
theorem w_X10_putBytes (X : q_X p s m args c cX10_putBytes 6 RX10 q_T D cy A) (hr : meth.sig.returnType = none) (hl : meth.locks = false)  {n : Nat} {S Sv : q_S} {o : Nat} {p0 : Option Nat} {p1 : Int64} {p2 : Int32} (h : m_X10_putBytes n S o p0 p1 p2 = some ((), Sv)) : q_W p l e ({ frames := 2, cells := 0, slots := 0, locals := 46 } : Room) s m args below meth c (MQ below (va_Qv (fun (u : q_S) => u = Sv) (q_B D cy A) A) args s 0 0 A) A D cy 6 0 0 S 0 [(0, va_rf (some o)), (1, va_rf (p0)), (2, .long (p1)), (4, .int (p2))] [] := by
  unfold m_X10_putBytes at h
  refine q_iconst X (0) (by decide) dX10_putBytes_0 ?_
  refine q_istore X 5 [(5, .int ((0 : Int32))), (0, va_rf (some o)), (1, va_rf (p0)), (2, .long (p1)), (4, .int (p2))] (by decide) (by first | rfl | simp [List.filter, q_catR]) dX10_putBytes_1 ?_
  refine q_lv [1, 2, 3, 4, 0] rfl ?_
  exact w_X10_putBytes_3 X hr hl n _ _ _ _ _ _ h
theorem tD_X10_putBytes : yX10_putBytes.cls ≠ "java/lang/invoke/MethodHandle" ∧ yX10_putBytes.cls ≠ "java/lang/invoke/VarHandle" ∧ (parseMethodDescriptor yX10_putBytes.desc).map (fun d => d.parameters.length) = some 3 := by decide +kernel
theorem c_X10_putBytes {l : Launch} {D : va_G} {cy : Nat → ClassId} {n : Nat} {S Sv : q_S} {o : Nat} {p0 : Option Nat} {p1 : Int64} {p2 : Int32} (h : m_X10_putBytes n S o p0 p1 p2 = some ((), Sv)) : q_MV l yX10_putBytes (q_ws yX10_putBytes cX10_putBytes 6 (none)) ({ frames := 2, cells := 0, slots := 0, locals := 46 } : Room) D cy [.ref o, va_rf (p0), .long (p1), .int (p2)] S Sv := by
  cases p0 <;> exact q_MV_of (by decide +kernel) (Nat.le_of_ble_eq_true rfl) (fun p e s m args below meth c A X hr hl => w_X10_putBytes X hr hl h)
/-! TrueOutlines$Writer.putGlyf(LTrueOutlines$Table;)V -/
def m_X10_putGlyf_51 (n : Nat) (k2 : q_S → Option Nat → Option Nat → Int32 → Option (Unit × q_S)) (S : q_S) (l0 : Option Nat) (l1 : Option Nat) (l2 : Int32) : Option (Unit × q_S) := k2 (S) (l0) (l1) (l2 + (1))
set_option maxHeartbeats 4000000 in
set_option maxRecDepth 100000 in
theorem w_X10_putGlyf_51 (X : q_X p s m args c cX10_putGlyf 3 RX10 q_T D cy A) (hr : meth.sig.returnType = none) (hl : meth.locks = false)  {n : Nat} {Sv : q_S}  {k2 : q_S → Option Nat → Option Nat → Int32 → Option (Unit × q_S)} (hk2 : ∀ (S : q_S) (z0 : Option Nat) (z1 : Option Nat) (z2 : Int32), k2 S z0 z1 z2 = some ((), Sv) → q_W p l e ({ frames := 3, cells := 0, slots := 0, locals := 71 } : Room) s m args below meth c (MQ below (va_Qv (fun (u : q_S) => u = Sv) (q_B D cy A) A) args s 0 0 A) A D cy 3 0 0 S 2 [(0, va_rf (z0)), (1, va_rf (z1)), (2, .int (z2))] []) (S : q_S) (l0 : Option Nat) (l1 : Option Nat) (l2 : Int32) (h : m_X10_putGlyf_51 n k2 S l0 l1 l2 = some ((), Sv)) : q_W p l e ({ frames := 3, cells := 0, slots := 0, locals := 71 } : Room) s m args below meth c (MQ below (va_Qv (fun (u : q_S) => u = Sv) (q_B D cy A) A) args s 0 0 A) A D cy 3 0 0 S 51 [(0, va_rf (l0)), (1, va_rf (l1)), (2, .int (l2))] [] := by
  unfold m_X10_putGlyf_51 at h
  refine q_iinc X 2 2 (l2 + (1)) [(2, .int (l2 + (1))), (0, va_rf (l0)), (1, va_rf (l1))] rfl (congrArg (fun z => l2 + z) (show Int32.ofInt (1) = (1) by decide)) (by decide) (by first | rfl | simp [List.filter, q_catR]) dX10_putGlyf_51 ?_
  refine q_goto X 2 (by decide) dX10_putGlyf_54 ?_
  refine q_lv [1, 2, 0] rfl ?_
  exact hk2 _ _ _ _ h
def m_X10_putGlyf_2 (n : Nat) : Nat → q_S → Option Nat → Option Nat → Int32 → Option (Unit × q_S)
  | 0, _, _, _, _ => none
  | k + 1, S, l0, l1, l2 => q_at (S) (l0) 11 (fun a1 => q_at (S) (q_R (S) a1 2) 7 (fun a2 => q_b (m_X6_size n (S) a2) (fun r3 S4 => (if r3 ≤ l2 then some ((), S4) else q_at (S4) (l0) 11 (fun a7 => q_at (S4) (q_R (S4) a7 2) 7 (fun a8 => q_b (m_X6_placeAt n (S4) a8 (l2)) (fun r9 S10 => q_at (S10) (l0) 11 (fun a12 => q_at (S10) (q_R (S10) a12 6) 100 (fun a13 => q_if (q_in (l2) (q_N (S10) a13) = true) (q_b (m_X10_putBytes n (S10) a12 (l1) (r9) (q_I (S10) a13 (l2).toNatClampNeg)) (fun _ S15 => q_at (S15) (l0) 11 (fun a18 => q_at (S15) (q_R (S15) a18 6) 100 (fun a19 => q_if (q_in (l2) (q_N (S15) a19) = true) (q_if (¬ (2 : Int32) = 0) ((if ((q_I (S15) a19 (l2).toNatClampNeg) - (q_I (S15) a19 (l2).toNatClampNeg) / (2 : Int32) * (2 : Int32)) = 0 then m_X10_putGlyf_51 n (m_X10_putGlyf_2 n k) (S15) (l0) (l1) (l2) else q_at (S15) (q_R (S15) a18 3) 5 (fun a23 => q_b (m_X4_push n (S15) a23 ((0 : Int32))) (fun _ S24 => m_X10_putGlyf_51 n (m_X10_putGlyf_2 n k) (S24) (l0) (l1) (l2)))))))))))))))))))
set_option maxHeartbeats 4000000 in
set_option maxRecDepth 100000 in
theorem w_X10_putGlyf_2 (X : q_X p s m args c cX10_putGlyf 3 RX10 q_T D cy A) (hr : meth.sig.returnType = none) (hl : meth.locks = false)  {n : Nat} {Sv : q_S}  : ∀ (k : Nat) (S : q_S) (l0 : Option Nat) (l1 : Option Nat) (l2 : Int32), m_X10_putGlyf_2 n k S l0 l1 l2 = some ((), Sv) → q_W p l e ({ frames := 3, cells := 0, slots := 0, locals := 71 } : Room) s m args below meth c (MQ below (va_Qv (fun (u : q_S) => u = Sv) (q_B D cy A) A) args s 0 0 A) A D cy 3 0 0 S 2 [(0, va_rf (l0)), (1, va_rf (l1)), (2, .int (l2))] [] := by
  intro k
  induction k with
  | zero => intro S l0 l1 l2 h; rw [m_X10_putGlyf_2] at h; cases h
  | succ k ih =>
    intro S l0 l1 l2 h
    rw [m_X10_putGlyf_2] at h
    refine q_iload_n X 2 rfl dX10_putGlyf_2 ?_
    refine q_aload_n X 0 rfl dX10_putGlyf_3 ?_
    obtain ⟨a1, ea1, ma1, ka1, h⟩ := q_atE h
    refine q_getR X 2 ea1 ma1 ka1 rfl tW_X10 (by decide) (by decide) tF_X10_37 rfl dX10_putGlyf_4 ?_
    obtain ⟨a2, ea2, ma2, ka2, h⟩ := q_atE h
    obtain ⟨r3, S4, c5, h⟩ := q_bE h
    refine q_cVI X (As := []) ea2 ma2 ka2 rfl (by decide) (c_X6_size c5) (q_cwV X tK_X6_size tM_X10_112 tI_X6_size tV_X6_size tN_X6 rfl rfl tD_X6_size ⟨Nat.le_of_ble_eq_true rfl, Nat.le_of_ble_eq_true rfl⟩) rfl rfl (by first | exact Nat.le_of_ble_eq_true rfl | (simp only [List.map, q_catR]; exact Nat.le_of_ble_eq_true rfl)) ⟨Nat.zero_le _, Nat.zero_le _⟩ dX10_putGlyf_7 ?_
    refine q_icmp_ge X 57 (by decide) dX10_putGlyf_10 (fun g6 => ?_) (fun g6 => ?_)
    · rw [if_pos g6] at h
      obtain ⟨ev, eS⟩ := q_end h
      exact q_vret X hr hl eS dX10_putGlyf_57
    · rw [if_neg g6] at h
      refine q_aload_n X 0 rfl dX10_putGlyf_13 ?_
      refine q_aload_n X 1 rfl dX10_putGlyf_14 ?_
      refine q_aload_n X 0 rfl dX10_putGlyf_15 ?_
      obtain ⟨a7, ea7, ma7, ka7, h⟩ := q_atE h
      refine q_getR X 2 ea7 ma7 ka7 rfl tW_X10 (by decide) (by decide) tF_X10_37 rfl dX10_putGlyf_16 ?_
      refine q_iload_n X 2 rfl dX10_putGlyf_19 ?_
      obtain ⟨a8, ea8, ma8, ka8, h⟩ := q_atE h
      obtain ⟨r9, S10, c11, h⟩ := q_bE h
      refine q_cVJ X (As := [.int (l2)]) ea8 ma8 ka8 rfl (by decide) (c_X6_placeAt c11) (q_cwV X tK_X6_placeAt tM_X10_178 tI_X6_placeAt tV_X6_placeAt tN_X6 rfl rfl tD_X6_placeAt ⟨Nat.le_of_ble_eq_true rfl, Nat.le_of_ble_eq_true rfl⟩) rfl rfl (by first | exact Nat.le_of_ble_eq_true rfl | (simp only [List.map, q_catR]; exact Nat.le_of_ble_eq_true rfl)) ⟨Nat.zero_le _, Nat.zero_le _⟩ dX10_putGlyf_20 ?_
      refine q_aload_n X 0 rfl dX10_putGlyf_23 ?_
      obtain ⟨a12, ea12, ma12, ka12, h⟩ := q_atE h
      refine q_getR X 6 ea12 ma12 ka12 rfl tW_X10 (by decide) (by decide) tF_X10_24 rfl dX10_putGlyf_24 ?_
      refine q_iload_n X 2 rfl dX10_putGlyf_27 ?_
      obtain ⟨a13, ea13, ma13, ka13, h⟩ := q_atE h
      obtain ⟨g14, h⟩ := q_ifE h
      refine q_iaload X ea13 ma13 ka13 (q_inE g14) dX10_putGlyf_28 ?_
      obtain ⟨u17, S15, c16, h⟩ := q_bE h
      refine q_cVV X (As := [va_rf (l1), .long (r9), .int (q_I (S10) a13 (l2).toNatClampNeg)]) ea12 ma12 ka12 rfl (by decide) (c_X10_putBytes c16) (q_cwV X tK_X10_putBytes tM_X10_169 tI_X10_putBytes tV_X10_putBytes tN_X10 rfl rfl tD_X10_putBytes ⟨Nat.le_of_ble_eq_true rfl, Nat.le_of_ble_eq_true rfl⟩) rfl rfl (by first | exact Nat.le_of_ble_eq_true rfl | (simp only [List.map, q_catR]; exact Nat.le_of_ble_eq_true rfl)) ⟨Nat.zero_le _, Nat.zero_le _⟩ dX10_putGlyf_29 ?_
      refine q_aload_n X 0 rfl dX10_putGlyf_32 ?_
      obtain ⟨a18, ea18, ma18, ka18, h⟩ := q_atE h
      refine q_getR X 6 ea18 ma18 ka18 rfl tW_X10 (by decide) (by decide) tF_X10_24 rfl dX10_putGlyf_33 ?_
      refine q_iload_n X 2 rfl dX10_putGlyf_36 ?_
      obtain ⟨a19, ea19, ma19, ka19, h⟩ := q_atE h
      obtain ⟨g20, h⟩ := q_ifE h
      refine q_iaload X ea19 ma19 ka19 (q_inE g20) dX10_putGlyf_37 ?_
      refine q_iconst X (2) (by decide) dX10_putGlyf_38 ?_
      obtain ⟨g21, h⟩ := q_ifE h
      refine q_irem X g21 dX10_putGlyf_39 ?_
      refine q_if_eq X 51 (by decide) dX10_putGlyf_40 (fun g22 => ?_) (fun g22 => ?_)
      · rw [if_pos g22] at h
        exact w_X10_putGlyf_51 X hr hl ih _ _ _ _ h
      · rw [if_neg g22] at h
        refine q_aload_n X 0 rfl dX10_putGlyf_43 ?_
        refine q_getR X 3 ea18 ma18 ka18 rfl tW_X10 (by decide) (by decide) tF_X10_14 rfl dX10_putGlyf_44 ?_
        refine q_iconst X (0) (by decide) dX10_putGlyf_47 ?_
        obtain ⟨a23, ea23, ma23, ka23, h⟩ := q_atE h
        obtain ⟨u26, S24, c25, h⟩ := q_bE h
        refine q_cVV X (As := [.int ((0 : Int32))]) ea23 ma23 ka23 rfl (by decide) (c_X4_push c25) (q_cwV X tK_X4_push tM_X10_140 tI_X4_push tV_X4_push tN_X4 rfl rfl tD_X4_push ⟨Nat.le_of_ble_eq_true rfl, Nat.le_of_ble_eq_true rfl⟩) rfl rfl (by first | exact Nat.le_of_ble_eq_true rfl | (simp only [List.map, q_catR]; exact Nat.le_of_ble_eq_true rfl)) ⟨Nat.zero_le _, Nat.zero_le _⟩ dX10_putGlyf_48 ?_
        exact w_X10_putGlyf_51 X hr hl ih _ _ _ _ h
def m_X10_putGlyf (n : Nat) (S : q_S) (o : Nat) (p0 : Option Nat) : Option (Unit × q_S) := m_X10_putGlyf_2 n n (S) (some o) (p0) ((0 : Int32))
set_option maxHeartbeats 4000000 in
set_option maxRecDepth 100000 in
theorem w_X10_putGlyf (X : q_X p s m args c cX10_putGlyf 3 RX10 q_T D cy A) (hr : meth.sig.returnType = none) (hl : meth.locks = false)  {n : Nat} {S Sv : q_S} {o : Nat} {p0 : Option Nat} (h : m_X10_putGlyf n S o p0 = some ((), Sv)) : q_W p l e ({ frames := 3, cells := 0, slots := 0, locals := 71 } : Room) s m args below meth c (MQ below (va_Qv (fun (u : q_S) => u = Sv) (q_B D cy A) A) args s 0 0 A) A D cy 3 0 0 S 0 [(0, va_rf (some o)), (1, va_rf (p0))] [] := by
  unfold m_X10_putGlyf at h
  refine q_iconst X (0) (by decide) dX10_putGlyf_0 ?_
  refine q_istore_n X 2 [(2, .int ((0 : Int32))), (0, va_rf (some o)), (1, va_rf (p0))] rfl (by decide) (by first | rfl | simp [List.filter, q_catR]) dX10_putGlyf_1 ?_
  refine q_lv [1, 2, 0] rfl ?_
  exact w_X10_putGlyf_2 X hr hl n _ _ _ _ h
theorem tD_X10_putGlyf : yX10_putGlyf.cls ≠ "java/lang/invoke/MethodHandle" ∧ yX10_putGlyf.cls ≠ "java/lang/invoke/VarHandle" ∧ (parseMethodDescriptor yX10_putGlyf.desc).map (fun d => d.parameters.length) = some 1 := by decide +kernel
theorem c_X10_putGlyf {l : Launch} {D : va_G} {cy : Nat → ClassId} {n : Nat} {S Sv : q_S} {o : Nat} {p0 : Option Nat} (h : m_X10_putGlyf n S o p0 = some ((), Sv)) : q_MV l yX10_putGlyf (q_ws yX10_putGlyf cX10_putGlyf 3 (none)) ({ frames := 3, cells := 0, slots := 0, locals := 71 } : Room) D cy [.ref o, va_rf (p0)] S Sv := by
  cases p0 <;> exact q_MV_of (by decide +kernel) (Nat.le_of_ble_eq_true rfl) (fun p e s m args below meth c A X hr hl => w_X10_putGlyf X hr hl h)
/-! TrueOutlines$Writer.putHead(LTrueOutlines$Table;)V -/
def m_X10_putHead (n : Nat) (S : q_S) (o : Nat) (p0 : Option Nat) : Option (Unit × q_S) := q_at (S) (some o) 11 (fun a1 => q_at (S) (q_R (S) a1 3) 5 (fun a2 => q_b (m_X4_size n (S) a2) (fun r3 S4 => q_at (S4) (some o) 11 (fun a6 => q_at (q_sI (S4) a6 8 (r3)) (p0) 8 (fun a7 => q_b (m_X10_putBytes n (q_sI (S4) a6 8 (r3)) a6 (p0) ((0 : Int64)) (q_I (q_sI (S4) a6 8 (r3)) a7 4)) (fun _ S8 => q_at (S8) (some o) 11 (fun a11 => q_at (S8) (q_R (S8) a11 3) 5 (fun a12 => q_b (m_X4_setFour n (S8) a12 ((q_I (S8) a11 8) + (8 : Int32)) ((0 : Int64))) (fun _ S13 => some ((), S13))))))))))
set_option maxHeartbeats 4000000 in
set_option maxRecDepth 100000 in
theorem w_X10_putHead (X : q_X p s m args c cX10_putHead 2 RX10 q_T D cy A) (hr : meth.sig.returnType = none) (hl : meth.locks = false)  {n : Nat} {S Sv : q_S} {o : Nat} {p0 : Option Nat} (h : m_X10_putHead n S o p0 = some ((), Sv)) : q_W p l e ({ frames := 3, cells := 0, slots := 0, locals := 71 } : Room) s m args below meth c (MQ below (va_Qv (fun (u : q_S) => u = Sv) (q_B D cy A) A) args s 0 0 A) A D cy 2 0 0 S 0 [(0, va_rf (some o)), (1, va_rf (p0))] [] := by
  unfold m_X10_putHead at h
  refine q_aload_n X 0 rfl dX10_putHead_0 ?_
  refine q_aload_n X 0 rfl dX10_putHead_1 ?_
  obtain ⟨a1, ea1, ma1, ka1, h⟩ := q_atE h
  refine q_getR X 3 ea1 ma1 ka1 rfl tW_X10 (by decide) (by decide) tF_X10_14 rfl dX10_putHead_2 ?_
  obtain ⟨a2, ea2, ma2, ka2, h⟩ := q_atE h
  obtain ⟨r3, S4, c5, h⟩ := q_bE h
  refine q_cVI X (As := []) ea2 ma2 ka2 rfl (by decide) (c_X4_size c5) (q_cwV X tK_X4_size tM_X10_50 tI_X4_size tV_X4_size tN_X4 rfl rfl tD_X4_size ⟨Nat.le_of_ble_eq_true rfl, Nat.le_of_ble_eq_true rfl⟩) rfl rfl (by first | exact Nat.le_of_ble_eq_true rfl | (simp only [List.map, q_catR]; exact Nat.le_of_ble_eq_true rfl)) ⟨Nat.zero_le _, Nat.zero_le _⟩ dX10_putHead_5 ?_
  obtain ⟨a6, ea6, ma6, ka6, h⟩ := q_atE h
  refine q_putI X 8 ea6 ma6 ka6 rfl tW_X10 (by decide) (by decide) tF_X10_175 tyX10 tyX10_ok nmX10 rfl (tyX10_ok 8 (by decide)) rfl rfl rfl dX10_putHead_8 ?_
  have ma6 : a6 ∈ q_L (q_sI (S4) a6 8 (r3)) := q_LsI ma6
  have ka6 : q_K (q_sI (S4) a6 8 (r3)) a6 = 11 := q_KsI ka6
  refine q_aload_n X 0 rfl dX10_putHead_11 ?_
  refine q_aload_n X 1 rfl dX10_putHead_12 ?_
  refine q_lconst X (0) (by decide) dX10_putHead_13 ?_
  refine q_aload_n X 1 rfl dX10_putHead_14 ?_
  obtain ⟨a7, ea7, ma7, ka7, h⟩ := q_atE h
  refine q_getIN X 4 ea7 ma7 ka7 rfl tW_X7 (by decide) (by decide) "TrueOutlines" tF_X10_103 rfl dX10_putHead_15 ?_
  obtain ⟨u10, S8, c9, h⟩ := q_bE h
  refine q_cVV X (As := [va_rf (p0), .long ((0 : Int64)), .int (q_I (q_sI (S4) a6 8 (r3)) a7 4)]) ea6 ma6 ka6 rfl (by decide) (c_X10_putBytes c9) (q_cwV X tK_X10_putBytes tM_X10_169 tI_X10_putBytes tV_X10_putBytes tN_X10 rfl rfl tD_X10_putBytes ⟨Nat.le_of_ble_eq_true rfl, Nat.le_of_ble_eq_true rfl⟩) rfl rfl (by first | exact Nat.le_of_ble_eq_true rfl | (simp only [List.map, q_catR]; exact Nat.le_of_ble_eq_true rfl)) ⟨Nat.zero_le _, Nat.zero_le _⟩ dX10_putHead_18 ?_
  refine q_aload_n X 0 rfl dX10_putHead_21 ?_
  obtain ⟨a11, ea11, ma11, ka11, h⟩ := q_atE h
  refine q_getR X 3 ea11 ma11 ka11 rfl tW_X10 (by decide) (by decide) tF_X10_14 rfl dX10_putHead_22 ?_
  refine q_aload_n X 0 rfl dX10_putHead_25 ?_
  refine q_getI X 8 ea11 ma11 ka11 rfl tW_X10 (by decide) (by decide) tF_X10_175 rfl dX10_putHead_26 ?_
  refine q_bipush X (8) (by decide) dX10_putHead_29 ?_
  refine q_iadd X dX10_putHead_31 ?_
  refine q_lconst X (0) (by decide) dX10_putHead_32 ?_
  obtain ⟨a12, ea12, ma12, ka12, h⟩ := q_atE h
  obtain ⟨u15, S13, c14, h⟩ := q_bE h
  refine q_cVV X (As := [.int ((q_I (S8) a11 8) + (8 : Int32)), .long ((0 : Int64))]) ea12 ma12 ka12 rfl (by decide) (c_X4_setFour c14) (q_cwV X tK_X4_setFour tM_X10_151 tI_X4_setFour tV_X4_setFour tN_X4 rfl rfl tD_X4_setFour ⟨Nat.le_of_ble_eq_true rfl, Nat.le_of_ble_eq_true rfl⟩) rfl rfl (by first | exact Nat.le_of_ble_eq_true rfl | (simp only [List.map, q_catR]; exact Nat.le_of_ble_eq_true rfl)) ⟨Nat.zero_le _, Nat.zero_le _⟩ dX10_putHead_33 ?_
  obtain ⟨ev, eS⟩ := q_end h
  exact q_vret X hr hl eS dX10_putHead_36
theorem tD_X10_putHead : yX10_putHead.cls ≠ "java/lang/invoke/MethodHandle" ∧ yX10_putHead.cls ≠ "java/lang/invoke/VarHandle" ∧ (parseMethodDescriptor yX10_putHead.desc).map (fun d => d.parameters.length) = some 1 := by decide +kernel
theorem c_X10_putHead {l : Launch} {D : va_G} {cy : Nat → ClassId} {n : Nat} {S Sv : q_S} {o : Nat} {p0 : Option Nat} (h : m_X10_putHead n S o p0 = some ((), Sv)) : q_MV l yX10_putHead (q_ws yX10_putHead cX10_putHead 2 (none)) ({ frames := 3, cells := 0, slots := 0, locals := 71 } : Room) D cy [.ref o, va_rf (p0)] S Sv := by
  cases p0 <;> exact q_MV_of (by decide +kernel) (Nat.le_of_ble_eq_true rfl) (fun p e s m args below meth c A X hr hl => w_X10_putHead X hr hl h)
/-! TrueOutlines$Row.pushTwo(I)V -/
def m_X4_pushTwo (n : Nat) (S : q_S) (o : Nat) (p0 : Int32) : Option (Unit × q_S) := q_at (S) (some o) 5 (fun a1 => q_b (m_X4_push n (S) a1 (p0 >>> ((8 : Int32) &&& 31))) (fun _ S2 => q_at (S2) (some o) 5 (fun a5 => q_b (m_X4_push n (S2) a5 (p0)) (fun _ S6 => some ((), S6)))))
set_option maxHeartbeats 4000000 in
set_option maxRecDepth 100000 in
theorem w_X4_pushTwo (X : q_X p s m args c cX4_pushTwo 2 RX4 q_T D cy A) (hr : meth.sig.returnType = none) (hl : meth.locks = false)  {n : Nat} {S Sv : q_S} {o : Nat} {p0 : Int32} (h : m_X4_pushTwo n S o p0 = some ((), Sv)) : q_W p l e ({ frames := 1, cells := 0, slots := 0, locals := 21 } : Room) s m args below meth c (MQ below (va_Qv (fun (u : q_S) => u = Sv) (q_B D cy A) A) args s 0 0 A) A D cy 2 0 0 S 0 [(0, va_rf (some o)), (1, .int (p0))] [] := by
  unfold m_X4_pushTwo at h
  refine q_aload_n X 0 rfl dX4_pushTwo_0 ?_
  refine q_iload_n X 1 rfl dX4_pushTwo_1 ?_
  refine q_bipush X (8) (by decide) dX4_pushTwo_2 ?_
  refine q_ishr X dX4_pushTwo_4 ?_
  obtain ⟨a1, ea1, ma1, ka1, h⟩ := q_atE h
  obtain ⟨u4, S2, c3, h⟩ := q_bE h
  refine q_cVV X (As := [.int (p0 >>> ((8 : Int32) &&& 31))]) ea1 ma1 ka1 rfl (by decide) (c_X4_push c3) (q_cwV X tK_X4_push tM_X4_19 tI_X4_push tV_X4_push tN_X4 rfl rfl tD_X4_push ⟨Nat.le_of_ble_eq_true rfl, Nat.le_of_ble_eq_true rfl⟩) rfl rfl (by first | exact Nat.le_of_ble_eq_true rfl | (simp only [List.map, q_catR]; exact Nat.le_of_ble_eq_true rfl)) ⟨Nat.zero_le _, Nat.zero_le _⟩ dX4_pushTwo_5 ?_
  refine q_aload_n X 0 rfl dX4_pushTwo_8 ?_
  refine q_iload_n X 1 rfl dX4_pushTwo_9 ?_
  obtain ⟨a5, ea5, ma5, ka5, h⟩ := q_atE h
  obtain ⟨u8, S6, c7, h⟩ := q_bE h
  refine q_cVV X (As := [.int (p0)]) ea5 ma5 ka5 rfl (by decide) (c_X4_push c7) (q_cwV X tK_X4_push tM_X4_19 tI_X4_push tV_X4_push tN_X4 rfl rfl tD_X4_push ⟨Nat.le_of_ble_eq_true rfl, Nat.le_of_ble_eq_true rfl⟩) rfl rfl (by first | exact Nat.le_of_ble_eq_true rfl | (simp only [List.map, q_catR]; exact Nat.le_of_ble_eq_true rfl)) ⟨Nat.zero_le _, Nat.zero_le _⟩ dX4_pushTwo_10 ?_
  obtain ⟨ev, eS⟩ := q_end h
  exact q_vret X hr hl eS dX4_pushTwo_13
theorem tD_X4_pushTwo : yX4_pushTwo.cls ≠ "java/lang/invoke/MethodHandle" ∧ yX4_pushTwo.cls ≠ "java/lang/invoke/VarHandle" ∧ (parseMethodDescriptor yX4_pushTwo.desc).map (fun d => d.parameters.length) = some 1 := by decide +kernel
theorem c_X4_pushTwo {l : Launch} {D : va_G} {cy : Nat → ClassId} {n : Nat} {S Sv : q_S} {o : Nat} {p0 : Int32} (h : m_X4_pushTwo n S o p0 = some ((), Sv)) : q_MV l yX4_pushTwo (q_ws yX4_pushTwo cX4_pushTwo 2 (none)) ({ frames := 1, cells := 0, slots := 0, locals := 21 } : Room) D cy [.ref o, .int (p0)] S Sv := by
  exact q_MV_of (by decide +kernel) (Nat.le_of_ble_eq_true rfl) (fun p e s m args below meth c A X hr hl => w_X4_pushTwo X hr hl h)
/-! TrueOutlines$Row.pushFour(I)V -/
def m_X4_pushFour (n : Nat) (S : q_S) (o : Nat) (p0 : Int32) : Option (Unit × q_S) := q_at (S) (some o) 5 (fun a1 => q_b (m_X4_pushTwo n (S) a1 (p0 >>> ((16 : Int32) &&& 31))) (fun _ S2 => q_at (S2) (some o) 5 (fun a5 => q_b (m_X4_pushTwo n (S2) a5 (p0)) (fun _ S6 => some ((), S6)))))
set_option maxHeartbeats 4000000 in
set_option maxRecDepth 100000 in
theorem w_X4_pushFour (X : q_X p s m args c cX4_pushFour 2 RX4 q_T D cy A) (hr : meth.sig.returnType = none) (hl : meth.locks = false)  {n : Nat} {S Sv : q_S} {o : Nat} {p0 : Int32} (h : m_X4_pushFour n S o p0 = some ((), Sv)) : q_W p l e ({ frames := 2, cells := 0, slots := 0, locals := 42 } : Room) s m args below meth c (MQ below (va_Qv (fun (u : q_S) => u = Sv) (q_B D cy A) A) args s 0 0 A) A D cy 2 0 0 S 0 [(0, va_rf (some o)), (1, .int (p0))] [] := by
  unfold m_X4_pushFour at h
  refine q_aload_n X 0 rfl dX4_pushFour_0 ?_
  refine q_iload_n X 1 rfl dX4_pushFour_1 ?_
  refine q_bipush X (16) (by decide) dX4_pushFour_2 ?_
  refine q_ishr X dX4_pushFour_4 ?_
  obtain ⟨a1, ea1, ma1, ka1, h⟩ := q_atE h
  obtain ⟨u4, S2, c3, h⟩ := q_bE h
  refine q_cVV X (As := [.int (p0 >>> ((16 : Int32) &&& 31))]) ea1 ma1 ka1 rfl (by decide) (c_X4_pushTwo c3) (q_cwV X tK_X4_pushTwo tM_X4_23 tI_X4_pushTwo tV_X4_pushTwo tN_X4 rfl rfl tD_X4_pushTwo ⟨Nat.le_of_ble_eq_true rfl, Nat.le_of_ble_eq_true rfl⟩) rfl rfl (by first | exact Nat.le_of_ble_eq_true rfl | (simp only [List.map, q_catR]; exact Nat.le_of_ble_eq_true rfl)) ⟨Nat.zero_le _, Nat.zero_le _⟩ dX4_pushFour_5 ?_
  refine q_aload_n X 0 rfl dX4_pushFour_8 ?_
  refine q_iload_n X 1 rfl dX4_pushFour_9 ?_
  obtain ⟨a5, ea5, ma5, ka5, h⟩ := q_atE h
  obtain ⟨u8, S6, c7, h⟩ := q_bE h
  refine q_cVV X (As := [.int (p0)]) ea5 ma5 ka5 rfl (by decide) (c_X4_pushTwo c7) (q_cwV X tK_X4_pushTwo tM_X4_23 tI_X4_pushTwo tV_X4_pushTwo tN_X4 rfl rfl tD_X4_pushTwo ⟨Nat.le_of_ble_eq_true rfl, Nat.le_of_ble_eq_true rfl⟩) rfl rfl (by first | exact Nat.le_of_ble_eq_true rfl | (simp only [List.map, q_catR]; exact Nat.le_of_ble_eq_true rfl)) ⟨Nat.zero_le _, Nat.zero_le _⟩ dX4_pushFour_10 ?_
  obtain ⟨ev, eS⟩ := q_end h
  exact q_vret X hr hl eS dX4_pushFour_13
theorem tD_X4_pushFour : yX4_pushFour.cls ≠ "java/lang/invoke/MethodHandle" ∧ yX4_pushFour.cls ≠ "java/lang/invoke/VarHandle" ∧ (parseMethodDescriptor yX4_pushFour.desc).map (fun d => d.parameters.length) = some 1 := by decide +kernel
theorem c_X4_pushFour {l : Launch} {D : va_G} {cy : Nat → ClassId} {n : Nat} {S Sv : q_S} {o : Nat} {p0 : Int32} (h : m_X4_pushFour n S o p0 = some ((), Sv)) : q_MV l yX4_pushFour (q_ws yX4_pushFour cX4_pushFour 2 (none)) ({ frames := 2, cells := 0, slots := 0, locals := 42 } : Room) D cy [.ref o, .int (p0)] S Sv := by
  exact q_MV_of (by decide +kernel) (Nat.le_of_ble_eq_true rfl) (fun p e s m args below meth c A X hr hl => w_X4_pushFour X hr hl h)
/-! TrueOutlines$Writer.putLoca()V -/
def m_X10_putLoca_54 (n : Nat) (k2 : q_S → Option Nat → Int32 → Option (Unit × q_S)) (S : q_S) (l0 : Option Nat) (l1 : Int32) : Option (Unit × q_S) := k2 (S) (l0) (l1 + (1))
set_option maxHeartbeats 4000000 in
set_option maxRecDepth 100000 in
theorem w_X10_putLoca_54 (X : q_X p s m args c cX10_putLoca 2 RX10 q_T D cy A) (hr : meth.sig.returnType = none) (hl : meth.locks = false)  {n : Nat} {Sv : q_S}  {k2 : q_S → Option Nat → Int32 → Option (Unit × q_S)} (hk2 : ∀ (S : q_S) (z0 : Option Nat) (z1 : Int32), k2 S z0 z1 = some ((), Sv) → q_W p l e ({ frames := 3, cells := 0, slots := 0, locals := 63 } : Room) s m args below meth c (MQ below (va_Qv (fun (u : q_S) => u = Sv) (q_B D cy A) A) args s 0 0 A) A D cy 2 0 0 S 2 [(0, va_rf (z0)), (1, .int (z1))] []) (S : q_S) (l0 : Option Nat) (l1 : Int32) (h : m_X10_putLoca_54 n k2 S l0 l1 = some ((), Sv)) : q_W p l e ({ frames := 3, cells := 0, slots := 0, locals := 63 } : Room) s m args below meth c (MQ below (va_Qv (fun (u : q_S) => u = Sv) (q_B D cy A) A) args s 0 0 A) A D cy 2 0 0 S 54 [(0, va_rf (l0)), (1, .int (l1))] [] := by
  unfold m_X10_putLoca_54 at h
  refine q_iinc X 1 1 (l1 + (1)) [(1, .int (l1 + (1))), (0, va_rf (l0))] rfl (congrArg (fun z => l1 + z) (show Int32.ofInt (1) = (1) by decide)) (by decide) (by first | rfl | simp [List.filter, q_catR]) dX10_putLoca_54 ?_
  refine q_goto X 2 (by decide) dX10_putLoca_57 ?_
  refine q_lv [1, 0] rfl ?_
  exact hk2 _ _ _ h
def m_X10_putLoca_2 (n : Nat) : Nat → q_S → Option Nat → Int32 → Option (Unit × q_S)
  | 0, _, _, _ => none
  | k + 1, S, l0, l1 => q_at (S) (l0) 11 (fun a1 => q_at (S) (q_R (S) a1 2) 7 (fun a2 => q_b (m_X6_size n (S) a2) (fun r3 S4 => (if r3 < l1 then some ((), S4) else q_at (S4) (l0) 11 (fun a7 => q_at (S4) (q_R (S4) a7 2) 7 (fun a8 => q_b (m_X6_haveLongPlaces n (S4) a8) (fun r9 S10 => (if r9 = 0 then q_at (S10) (l0) 11 (fun a13 => q_at (S10) (q_R (S10) a13 7) 100 (fun a14 => q_if (q_in (l1) (q_N (S10) a14) = true) (q_if (¬ (2 : Int32) = 0) (q_at (S10) (q_R (S10) a13 3) 5 (fun a17 => q_b (m_X4_pushTwo n (S10) a17 ((q_I (S10) a14 (l1).toNatClampNeg) / (2 : Int32))) (fun _ S18 => m_X10_putLoca_54 n (m_X10_putLoca_2 n k) (S18) (l0) (l1))))))) else q_at (S10) (l0) 11 (fun a21 => q_at (S10) (q_R (S10) a21 7) 100 (fun a22 => q_if (q_in (l1) (q_N (S10) a22) = true) (q_at (S10) (q_R (S10) a21 3) 5 (fun a24 => q_b (m_X4_pushFour n (S10) a24 (q_I (S10) a22 (l1).toNatClampNeg)) (fun _ S25 => m_X10_putLoca_54 n (m_X10_putLoca_2 n k) (S25) (l0) (l1))))))))))))))
set_option maxHeartbeats 4000000 in
set_option maxRecDepth 100000 in
theorem w_X10_putLoca_2 (X : q_X p s m args c cX10_putLoca 2 RX10 q_T D cy A) (hr : meth.sig.returnType = none) (hl : meth.locks = false)  {n : Nat} {Sv : q_S}  : ∀ (k : Nat) (S : q_S) (l0 : Option Nat) (l1 : Int32), m_X10_putLoca_2 n k S l0 l1 = some ((), Sv) → q_W p l e ({ frames := 3, cells := 0, slots := 0, locals := 63 } : Room) s m args below meth c (MQ below (va_Qv (fun (u : q_S) => u = Sv) (q_B D cy A) A) args s 0 0 A) A D cy 2 0 0 S 2 [(0, va_rf (l0)), (1, .int (l1))] [] := by
  intro k
  induction k with
  | zero => intro S l0 l1 h; rw [m_X10_putLoca_2] at h; cases h
  | succ k ih =>
    intro S l0 l1 h
    rw [m_X10_putLoca_2] at h
    refine q_iload_n X 1 rfl dX10_putLoca_2 ?_
    refine q_aload_n X 0 rfl dX10_putLoca_3 ?_
    obtain ⟨a1, ea1, ma1, ka1, h⟩ := q_atE h
    refine q_getR X 2 ea1 ma1 ka1 rfl tW_X10 (by decide) (by decide) tF_X10_37 rfl dX10_putLoca_4 ?_
    obtain ⟨a2, ea2, ma2, ka2, h⟩ := q_atE h
    obtain ⟨r3, S4, c5, h⟩ := q_bE h
    refine q_cVI X (As := []) ea2 ma2 ka2 rfl (by decide) (c_X6_size c5) (q_cwV X tK_X6_size tM_X10_112 tI_X6_size tV_X6_size tN_X6 rfl rfl tD_X6_size ⟨Nat.le_of_ble_eq_true rfl, Nat.le_of_ble_eq_true rfl⟩) rfl rfl (by first | exact Nat.le_of_ble_eq_true rfl | (simp only [List.map, q_catR]; exact Nat.le_of_ble_eq_true rfl)) ⟨Nat.zero_le _, Nat.zero_le _⟩ dX10_putLoca_7 ?_
    refine q_icmp_gt X 60 (by decide) dX10_putLoca_10 (fun g6 => ?_) (fun g6 => ?_)
    · rw [if_pos g6] at h
      obtain ⟨ev, eS⟩ := q_end h
      exact q_vret X hr hl eS dX10_putLoca_60
    · rw [if_neg g6] at h
      refine q_aload_n X 0 rfl dX10_putLoca_13 ?_
      obtain ⟨a7, ea7, ma7, ka7, h⟩ := q_atE h
      refine q_getR X 2 ea7 ma7 ka7 rfl tW_X10 (by decide) (by decide) tF_X10_37 rfl dX10_putLoca_14 ?_
      obtain ⟨a8, ea8, ma8, ka8, h⟩ := q_atE h
      obtain ⟨r9, S10, c11, h⟩ := q_bE h
      refine q_cVI X (As := []) ea8 ma8 ka8 rfl (by decide) (c_X6_haveLongPlaces c11) (q_cwV X tK_X6_haveLongPlaces tM_X10_127 tI_X6_haveLongPlaces tV_X6_haveLongPlaces tN_X6 rfl rfl tD_X6_haveLongPlaces ⟨Nat.le_of_ble_eq_true rfl, Nat.le_of_ble_eq_true rfl⟩) rfl rfl (by first | exact Nat.le_of_ble_eq_true rfl | (simp only [List.map, q_catR]; exact Nat.le_of_ble_eq_true rfl)) ⟨Nat.zero_le _, Nat.zero_le _⟩ dX10_putLoca_17 ?_
      refine q_if_eq X 39 (by decide) dX10_putLoca_20 (fun g12 => ?_) (fun g12 => ?_)
      · rw [if_pos g12] at h
        refine q_aload_n X 0 rfl dX10_putLoca_39 ?_
        obtain ⟨a13, ea13, ma13, ka13, h⟩ := q_atE h
        refine q_getR X 3 ea13 ma13 ka13 rfl tW_X10 (by decide) (by decide) tF_X10_14 rfl dX10_putLoca_40 ?_
        refine q_aload_n X 0 rfl dX10_putLoca_43 ?_
        refine q_getR X 7 ea13 ma13 ka13 rfl tW_X10 (by decide) (by decide) tF_X10_27 rfl dX10_putLoca_44 ?_
        refine q_iload_n X 1 rfl dX10_putLoca_47 ?_
        obtain ⟨a14, ea14, ma14, ka14, h⟩ := q_atE h
        obtain ⟨g15, h⟩ := q_ifE h
        refine q_iaload X ea14 ma14 ka14 (q_inE g15) dX10_putLoca_48 ?_
        refine q_iconst X (2) (by decide) dX10_putLoca_49 ?_
        obtain ⟨g16, h⟩ := q_ifE h
        refine q_idiv X g16 dX10_putLoca_50 ?_
        obtain ⟨a17, ea17, ma17, ka17, h⟩ := q_atE h
        obtain ⟨u20, S18, c19, h⟩ := q_bE h
        refine q_cVV X (As := [.int ((q_I (S10) a14 (l1).toNatClampNeg) / (2 : Int32))]) ea17 ma17 ka17 rfl (by decide) (c_X4_pushTwo c19) (q_cwV X tK_X4_pushTwo tM_X10_185 tI_X4_pushTwo tV_X4_pushTwo tN_X4 rfl rfl tD_X4_pushTwo ⟨Nat.le_of_ble_eq_true rfl, Nat.le_of_ble_eq_true rfl⟩) rfl rfl (by first | exact Nat.le_of_ble_eq_true rfl | (simp only [List.map, q_catR]; exact Nat.le_of_ble_eq_true rfl)) ⟨Nat.zero_le _, Nat.zero_le _⟩ dX10_putLoca_51 ?_
        exact w_X10_putLoca_54 X hr hl ih _ _ _ h
      · rw [if_neg g12] at h
        refine q_aload_n X 0 rfl dX10_putLoca_23 ?_
        obtain ⟨a21, ea21, ma21, ka21, h⟩ := q_atE h
        refine q_getR X 3 ea21 ma21 ka21 rfl tW_X10 (by decide) (by decide) tF_X10_14 rfl dX10_putLoca_24 ?_
        refine q_aload_n X 0 rfl dX10_putLoca_27 ?_
        refine q_getR X 7 ea21 ma21 ka21 rfl tW_X10 (by decide) (by decide) tF_X10_27 rfl dX10_putLoca_28 ?_
        refine q_iload_n X 1 rfl dX10_putLoca_31 ?_
        obtain ⟨a22, ea22, ma22, ka22, h⟩ := q_atE h
        obtain ⟨g23, h⟩ := q_ifE h
        refine q_iaload X ea22 ma22 ka22 (q_inE g23) dX10_putLoca_32 ?_
        obtain ⟨a24, ea24, ma24, ka24, h⟩ := q_atE h
        obtain ⟨u27, S25, c26, h⟩ := q_bE h
        refine q_cVV X (As := [.int (q_I (S10) a22 (l1).toNatClampNeg)]) ea24 ma24 ka24 rfl (by decide) (c_X4_pushFour c26) (q_cwV X tK_X4_pushFour tM_X10_182 tI_X4_pushFour tV_X4_pushFour tN_X4 rfl rfl tD_X4_pushFour ⟨Nat.le_of_ble_eq_true rfl, Nat.le_of_ble_eq_true rfl⟩) rfl rfl (by first | exact Nat.le_of_ble_eq_true rfl | (simp only [List.map, q_catR]; exact Nat.le_of_ble_eq_true rfl)) ⟨Nat.zero_le _, Nat.zero_le _⟩ dX10_putLoca_33 ?_
        refine q_goto X 54 (by decide) dX10_putLoca_36 ?_
        exact w_X10_putLoca_54 X hr hl ih _ _ _ h
def m_X10_putLoca (n : Nat) (S : q_S) (o : Nat)  : Option (Unit × q_S) := m_X10_putLoca_2 n n (S) (some o) ((0 : Int32))
set_option maxHeartbeats 4000000 in
set_option maxRecDepth 100000 in
theorem w_X10_putLoca (X : q_X p s m args c cX10_putLoca 2 RX10 q_T D cy A) (hr : meth.sig.returnType = none) (hl : meth.locks = false)  {n : Nat} {S Sv : q_S} {o : Nat}  (h : m_X10_putLoca n S o = some ((), Sv)) : q_W p l e ({ frames := 3, cells := 0, slots := 0, locals := 63 } : Room) s m args below meth c (MQ below (va_Qv (fun (u : q_S) => u = Sv) (q_B D cy A) A) args s 0 0 A) A D cy 2 0 0 S 0 [(0, va_rf (some o))] [] := by
  unfold m_X10_putLoca at h
  refine q_iconst X (0) (by decide) dX10_putLoca_0 ?_
  refine q_istore_n X 1 [(1, .int ((0 : Int32))), (0, va_rf (some o))] rfl (by decide) (by first | rfl | simp [List.filter, q_catR]) dX10_putLoca_1 ?_
  refine q_lv [1, 0] rfl ?_
  exact w_X10_putLoca_2 X hr hl n _ _ _ h
theorem tD_X10_putLoca : yX10_putLoca.cls ≠ "java/lang/invoke/MethodHandle" ∧ yX10_putLoca.cls ≠ "java/lang/invoke/VarHandle" ∧ (parseMethodDescriptor yX10_putLoca.desc).map (fun d => d.parameters.length) = some 0 := by decide +kernel
theorem c_X10_putLoca {l : Launch} {D : va_G} {cy : Nat → ClassId} {n : Nat} {S Sv : q_S} {o : Nat}  (h : m_X10_putLoca n S o = some ((), Sv)) : q_MV l yX10_putLoca (q_ws yX10_putLoca cX10_putLoca 2 (none)) ({ frames := 3, cells := 0, slots := 0, locals := 63 } : Room) D cy [.ref o] S Sv := by
  exact q_MV_of (by decide +kernel) (Nat.le_of_ble_eq_true rfl) (fun p e s m args below meth c A X hr hl => w_X10_putLoca X hr hl h)
/-! TrueOutlines$Writer.putBody(I)V -/
def m_X10_putBody_103 (n : Nat) (S : q_S) : Option (Unit × q_S) := some ((), S)
set_option maxHeartbeats 4000000 in
set_option maxRecDepth 100000 in
theorem w_X10_putBody_103 (X : q_X p s m args c cX10_putBody 2 RX10 q_T D cy A) (hr : meth.sig.returnType = none) (hl : meth.locks = false)  {n : Nat} {Sv : q_S}  (S : q_S) (h : m_X10_putBody_103 n S = some ((), Sv)) : q_W p l e ({ frames := 4, cells := 0, slots := 0, locals := 93 } : Room) s m args below meth c (MQ below (va_Qv (fun (u : q_S) => u = Sv) (q_B D cy A) A) args s 0 0 A) A D cy 2 0 0 S 103 [] [] := by
  unfold m_X10_putBody_103 at h
  obtain ⟨ev, eS⟩ := q_end h
  exact q_vret X hr hl eS dX10_putBody_103
def m_X10_putBody (n : Nat) (S : q_S) (o : Nat) (p0 : Int32) : Option (Unit × q_S) := q_at (S) (some o) 11 (fun a1 => q_at (S) (q_R (S) a1 1) 9 (fun a2 => q_b (m_X8_indexOf n (S) a2 ((1735162214 : Int64))) (fun r3 S4 => (if p0 = r3 then q_at (S4) (some o) 11 (fun a47 => q_at (S4) (q_R (S4) a47 1) 9 (fun a48 => q_b (m_X8_get n (S4) a48 (p0)) (fun r49 S50 => q_at (S50) (some o) 11 (fun a52 => q_b (m_X10_putGlyf n (S50) a52 (some r49)) (fun _ S53 => m_X10_putBody_103 n (S53)))))) else q_at (S4) (some o) 11 (fun a7 => q_at (S4) (q_R (S4) a7 1) 9 (fun a8 => q_b (m_X8_indexOf n (S4) a8 ((1819239265 : Int64))) (fun r9 S10 => (if p0 = r9 then q_at (S10) (some o) 11 (fun a43 => q_b (m_X10_putLoca n (S10) a43) (fun _ S44 => m_X10_putBody_103 n (S44))) else q_at (S10) (some o) 11 (fun a13 => q_at (S10) (q_R (S10) a13 1) 9 (fun a14 => q_b (m_X8_indexOf n (S10) a14 ((1751474532 : Int64))) (fun r15 S16 => (if p0 = r15 then q_at (S16) (some o) 11 (fun a34 => q_at (S16) (q_R (S16) a34 1) 9 (fun a35 => q_b (m_X8_get n (S16) a35 (p0)) (fun r36 S37 => q_at (S37) (some o) 11 (fun a39 => q_b (m_X10_putHead n (S37) a39 (some r36)) (fun _ S40 => m_X10_putBody_103 n (S40)))))) else q_at (S16) (some o) 11 (fun a19 => q_at (S16) (q_R (S16) a19 1) 9 (fun a20 => q_b (m_X8_get n (S16) a20 (p0)) (fun r21 S22 => q_at (S22) (some o) 11 (fun a24 => q_at (S22) (q_R (S22) a24 1) 9 (fun a25 => q_b (m_X8_get n (S22) a25 (p0)) (fun r26 S27 => q_at (S27) (some r26) 8 (fun a29 => q_at (S27) (some o) 11 (fun a30 => q_b (m_X10_putBytes n (S27) a30 (some r21) ((0 : Int64)) (q_I (S27) a29 4)) (fun _ S31 => m_X10_putBody_103 n (S31))))))))))))))))))))))
set_option maxHeartbeats 4000000 in
set_option maxRecDepth 100000 in
theorem w_X10_putBody (X : q_X p s m args c cX10_putBody 2 RX10 q_T D cy A) (hr : meth.sig.returnType = none) (hl : meth.locks = false)  {n : Nat} {S Sv : q_S} {o : Nat} {p0 : Int32} (h : m_X10_putBody n S o p0 = some ((), Sv)) : q_W p l e ({ frames := 4, cells := 0, slots := 0, locals := 93 } : Room) s m args below meth c (MQ below (va_Qv (fun (u : q_S) => u = Sv) (q_B D cy A) A) args s 0 0 A) A D cy 2 0 0 S 0 [(0, va_rf (some o)), (1, .int (p0))] [] := by
  unfold m_X10_putBody at h
  refine q_iload_n X 1 rfl dX10_putBody_0 ?_
  refine q_aload_n X 0 rfl dX10_putBody_1 ?_
  obtain ⟨a1, ea1, ma1, ka1, h⟩ := q_atE h
  refine q_getR X 1 ea1 ma1 ka1 rfl tW_X10 (by decide) (by decide) tF_X10_33 rfl dX10_putBody_2 ?_
  refine q_ldc2_w X (1735162214) tC_X10_97 dX10_putBody_5 ?_
  obtain ⟨a2, ea2, ma2, ka2, h⟩ := q_atE h
  obtain ⟨r3, S4, c5, h⟩ := q_bE h
  refine q_cVI X (As := [.long ((1735162214 : Int64))]) ea2 ma2 ka2 rfl (by decide) (c_X8_indexOf c5) (q_cwV X tK_X8_indexOf tM_X10_123 tI_X8_indexOf tV_X8_indexOf tN_X8 rfl rfl tD_X8_indexOf ⟨Nat.le_of_ble_eq_true rfl, Nat.le_of_ble_eq_true rfl⟩) rfl rfl (by first | exact Nat.le_of_ble_eq_true rfl | (simp only [List.map, q_catR]; exact Nat.le_of_ble_eq_true rfl)) ⟨Nat.zero_le _, Nat.zero_le _⟩ dX10_putBody_8 ?_
  refine q_icmp_ne X 29 (by decide) dX10_putBody_11 (fun g6 => ?_) (fun g6 => ?_)
  · rw [if_neg g6] at h
    refine q_iload_n X 1 rfl dX10_putBody_29 ?_
    refine q_aload_n X 0 rfl dX10_putBody_30 ?_
    obtain ⟨a7, ea7, ma7, ka7, h⟩ := q_atE h
    refine q_getR X 1 ea7 ma7 ka7 rfl tW_X10 (by decide) (by decide) tF_X10_33 rfl dX10_putBody_31 ?_
    refine q_ldc2_w X (1819239265) tC_X10_95 dX10_putBody_34 ?_
    obtain ⟨a8, ea8, ma8, ka8, h⟩ := q_atE h
    obtain ⟨r9, S10, c11, h⟩ := q_bE h
    refine q_cVI X (As := [.long ((1819239265 : Int64))]) ea8 ma8 ka8 rfl (by decide) (c_X8_indexOf c11) (q_cwV X tK_X8_indexOf tM_X10_123 tI_X8_indexOf tV_X8_indexOf tN_X8 rfl rfl tD_X8_indexOf ⟨Nat.le_of_ble_eq_true rfl, Nat.le_of_ble_eq_true rfl⟩) rfl rfl (by first | exact Nat.le_of_ble_eq_true rfl | (simp only [List.map, q_catR]; exact Nat.le_of_ble_eq_true rfl)) ⟨Nat.zero_le _, Nat.zero_le _⟩ dX10_putBody_37 ?_
    refine q_icmp_ne X 50 (by decide) dX10_putBody_40 (fun g12 => ?_) (fun g12 => ?_)
    · rw [if_neg g12] at h
      refine q_iload_n X 1 rfl dX10_putBody_50 ?_
      refine q_aload_n X 0 rfl dX10_putBody_51 ?_
      obtain ⟨a13, ea13, ma13, ka13, h⟩ := q_atE h
      refine q_getR X 1 ea13 ma13 ka13 rfl tW_X10 (by decide) (by decide) tF_X10_33 rfl dX10_putBody_52 ?_
      refine q_ldc2_w X (1751474532) tC_X10_87 dX10_putBody_55 ?_
      obtain ⟨a14, ea14, ma14, ka14, h⟩ := q_atE h
      obtain ⟨r15, S16, c17, h⟩ := q_bE h
      refine q_cVI X (As := [.long ((1751474532 : Int64))]) ea14 ma14 ka14 rfl (by decide) (c_X8_indexOf c17) (q_cwV X tK_X8_indexOf tM_X10_123 tI_X8_indexOf tV_X8_indexOf tN_X8 rfl rfl tD_X8_indexOf ⟨Nat.le_of_ble_eq_true rfl, Nat.le_of_ble_eq_true rfl⟩) rfl rfl (by first | exact Nat.le_of_ble_eq_true rfl | (simp only [List.map, q_catR]; exact Nat.le_of_ble_eq_true rfl)) ⟨Nat.zero_le _, Nat.zero_le _⟩ dX10_putBody_58 ?_
      refine q_icmp_ne X 79 (by decide) dX10_putBody_61 (fun g18 => ?_) (fun g18 => ?_)
      · rw [if_neg g18] at h
        refine q_aload_n X 0 rfl dX10_putBody_79 ?_
        refine q_aload_n X 0 rfl dX10_putBody_80 ?_
        obtain ⟨a19, ea19, ma19, ka19, h⟩ := q_atE h
        refine q_getR X 1 ea19 ma19 ka19 rfl tW_X10 (by decide) (by decide) tF_X10_33 rfl dX10_putBody_81 ?_
        refine q_iload_n X 1 rfl dX10_putBody_84 ?_
        obtain ⟨a20, ea20, ma20, ka20, h⟩ := q_atE h
        obtain ⟨r21, S22, c23, h⟩ := q_bE h
        refine q_cVR X (As := [.int (p0)]) ea20 ma20 ka20 rfl (by decide) (c_X8_get c23) (q_cwV X tK_X8_get tM_X10_130 tI_X8_get tV_X8_get tN_X8 rfl rfl tD_X8_get ⟨Nat.le_of_ble_eq_true rfl, Nat.le_of_ble_eq_true rfl⟩) rfl rfl (by first | exact Nat.le_of_ble_eq_true rfl | (simp only [List.map, q_catR]; exact Nat.le_of_ble_eq_true rfl)) ⟨Nat.zero_le _, Nat.zero_le _⟩ dX10_putBody_85 ?_
        refine q_lconst X (0) (by decide) dX10_putBody_88 ?_
        refine q_aload_n X 0 rfl dX10_putBody_89 ?_
        obtain ⟨a24, ea24, ma24, ka24, h⟩ := q_atE h
        refine q_getR X 1 ea24 ma24 ka24 rfl tW_X10 (by decide) (by decide) tF_X10_33 rfl dX10_putBody_90 ?_
        refine q_iload_n X 1 rfl dX10_putBody_93 ?_
        obtain ⟨a25, ea25, ma25, ka25, h⟩ := q_atE h
        obtain ⟨r26, S27, c28, h⟩ := q_bE h
        refine q_cVR X (As := [.int (p0)]) ea25 ma25 ka25 rfl (by decide) (c_X8_get c28) (q_cwV X tK_X8_get tM_X10_130 tI_X8_get tV_X8_get tN_X8 rfl rfl tD_X8_get ⟨Nat.le_of_ble_eq_true rfl, Nat.le_of_ble_eq_true rfl⟩) rfl rfl (by first | exact Nat.le_of_ble_eq_true rfl | (simp only [List.map, q_catR]; exact Nat.le_of_ble_eq_true rfl)) ⟨Nat.zero_le _, Nat.zero_le _⟩ dX10_putBody_94 ?_
        obtain ⟨a29, ea29, ma29, ka29, h⟩ := q_atE h
        refine q_getIN X 4 ea29 ma29 ka29 rfl tW_X7 (by decide) (by decide) "TrueOutlines" tF_X10_103 rfl dX10_putBody_97 ?_
        obtain ⟨a30, ea30, ma30, ka30, h⟩ := q_atE h
        obtain ⟨u33, S31, c32, h⟩ := q_bE h
        refine q_cVV X (As := [va_rf (some r21), .long ((0 : Int64)), .int (q_I (S27) a29 4)]) ea30 ma30 ka30 rfl (by decide) (c_X10_putBytes c32) (q_cwV X tK_X10_putBytes tM_X10_169 tI_X10_putBytes tV_X10_putBytes tN_X10 rfl rfl tD_X10_putBytes ⟨Nat.le_of_ble_eq_true rfl, Nat.le_of_ble_eq_true rfl⟩) rfl rfl (by first | exact Nat.le_of_ble_eq_true rfl | (simp only [List.map, q_catR]; exact Nat.le_of_ble_eq_true rfl)) ⟨Nat.zero_le _, Nat.zero_le _⟩ dX10_putBody_100 ?_
        refine q_lv [] rfl ?_
        exact w_X10_putBody_103 X hr hl _ h
      · rw [if_pos g18] at h
        refine q_aload_n X 0 rfl dX10_putBody_64 ?_
        refine q_aload_n X 0 rfl dX10_putBody_65 ?_
        obtain ⟨a34, ea34, ma34, ka34, h⟩ := q_atE h
        refine q_getR X 1 ea34 ma34 ka34 rfl tW_X10 (by decide) (by decide) tF_X10_33 rfl dX10_putBody_66 ?_
        refine q_iload_n X 1 rfl dX10_putBody_69 ?_
        obtain ⟨a35, ea35, ma35, ka35, h⟩ := q_atE h
        obtain ⟨r36, S37, c38, h⟩ := q_bE h
        refine q_cVR X (As := [.int (p0)]) ea35 ma35 ka35 rfl (by decide) (c_X8_get c38) (q_cwV X tK_X8_get tM_X10_130 tI_X8_get tV_X8_get tN_X8 rfl rfl tD_X8_get ⟨Nat.le_of_ble_eq_true rfl, Nat.le_of_ble_eq_true rfl⟩) rfl rfl (by first | exact Nat.le_of_ble_eq_true rfl | (simp only [List.map, q_catR]; exact Nat.le_of_ble_eq_true rfl)) ⟨Nat.zero_le _, Nat.zero_le _⟩ dX10_putBody_70 ?_
        obtain ⟨a39, ea39, ma39, ka39, h⟩ := q_atE h
        obtain ⟨u42, S40, c41, h⟩ := q_bE h
        refine q_cVV X (As := [va_rf (some r36)]) ea39 ma39 ka39 rfl (by decide) (c_X10_putHead c41) (q_cwV X tK_X10_putHead tM_X10_166 tI_X10_putHead tV_X10_putHead tN_X10 rfl rfl tD_X10_putHead ⟨Nat.le_of_ble_eq_true rfl, Nat.le_of_ble_eq_true rfl⟩) rfl rfl (by first | exact Nat.le_of_ble_eq_true rfl | (simp only [List.map, q_catR]; exact Nat.le_of_ble_eq_true rfl)) ⟨Nat.zero_le _, Nat.zero_le _⟩ dX10_putBody_73 ?_
        refine q_goto X 103 (by decide) dX10_putBody_76 ?_
        refine q_lv [] rfl ?_
        exact w_X10_putBody_103 X hr hl _ h
    · rw [if_pos g12] at h
      refine q_aload_n X 0 rfl dX10_putBody_43 ?_
      obtain ⟨a43, ea43, ma43, ka43, h⟩ := q_atE h
      obtain ⟨u46, S44, c45, h⟩ := q_bE h
      refine q_cVV X (As := []) ea43 ma43 ka43 rfl (by decide) (c_X10_putLoca c45) (q_cwV X tK_X10_putLoca tM_X10_163 tI_X10_putLoca tV_X10_putLoca tN_X10 rfl rfl tD_X10_putLoca ⟨Nat.le_of_ble_eq_true rfl, Nat.le_of_ble_eq_true rfl⟩) rfl rfl (by first | exact Nat.le_of_ble_eq_true rfl | (simp only [List.map, q_catR]; exact Nat.le_of_ble_eq_true rfl)) ⟨Nat.zero_le _, Nat.zero_le _⟩ dX10_putBody_44 ?_
      refine q_goto X 103 (by decide) dX10_putBody_47 ?_
      refine q_lv [] rfl ?_
      exact w_X10_putBody_103 X hr hl _ h
  · rw [if_pos g6] at h
    refine q_aload_n X 0 rfl dX10_putBody_14 ?_
    refine q_aload_n X 0 rfl dX10_putBody_15 ?_
    obtain ⟨a47, ea47, ma47, ka47, h⟩ := q_atE h
    refine q_getR X 1 ea47 ma47 ka47 rfl tW_X10 (by decide) (by decide) tF_X10_33 rfl dX10_putBody_16 ?_
    refine q_iload_n X 1 rfl dX10_putBody_19 ?_
    obtain ⟨a48, ea48, ma48, ka48, h⟩ := q_atE h
    obtain ⟨r49, S50, c51, h⟩ := q_bE h
    refine q_cVR X (As := [.int (p0)]) ea48 ma48 ka48 rfl (by decide) (c_X8_get c51) (q_cwV X tK_X8_get tM_X10_130 tI_X8_get tV_X8_get tN_X8 rfl rfl tD_X8_get ⟨Nat.le_of_ble_eq_true rfl, Nat.le_of_ble_eq_true rfl⟩) rfl rfl (by first | exact Nat.le_of_ble_eq_true rfl | (simp only [List.map, q_catR]; exact Nat.le_of_ble_eq_true rfl)) ⟨Nat.zero_le _, Nat.zero_le _⟩ dX10_putBody_20 ?_
    obtain ⟨a52, ea52, ma52, ka52, h⟩ := q_atE h
    obtain ⟨u55, S53, c54, h⟩ := q_bE h
    refine q_cVV X (As := [va_rf (some r49)]) ea52 ma52 ka52 rfl (by decide) (c_X10_putGlyf c54) (q_cwV X tK_X10_putGlyf tM_X10_159 tI_X10_putGlyf tV_X10_putGlyf tN_X10 rfl rfl tD_X10_putGlyf ⟨Nat.le_of_ble_eq_true rfl, Nat.le_of_ble_eq_true rfl⟩) rfl rfl (by first | exact Nat.le_of_ble_eq_true rfl | (simp only [List.map, q_catR]; exact Nat.le_of_ble_eq_true rfl)) ⟨Nat.zero_le _, Nat.zero_le _⟩ dX10_putBody_23 ?_
    refine q_goto X 103 (by decide) dX10_putBody_26 ?_
    refine q_lv [] rfl ?_
    exact w_X10_putBody_103 X hr hl _ h
theorem tD_X10_putBody : yX10_putBody.cls ≠ "java/lang/invoke/MethodHandle" ∧ yX10_putBody.cls ≠ "java/lang/invoke/VarHandle" ∧ (parseMethodDescriptor yX10_putBody.desc).map (fun d => d.parameters.length) = some 1 := by decide +kernel
theorem c_X10_putBody {l : Launch} {D : va_G} {cy : Nat → ClassId} {n : Nat} {S Sv : q_S} {o : Nat} {p0 : Int32} (h : m_X10_putBody n S o p0 = some ((), Sv)) : q_MV l yX10_putBody (q_ws yX10_putBody cX10_putBody 2 (none)) ({ frames := 4, cells := 0, slots := 0, locals := 93 } : Room) D cy [.ref o, .int (p0)] S Sv := by
  exact q_MV_of (by decide +kernel) (Nat.le_of_ble_eq_true rfl) (fun p e s m args below meth c A X hr hl => w_X10_putBody X hr hl h)
/-! TrueOutlines$Writer.putTable(II)V -/
def m_X10_putTable_131 (n : Nat) : Nat → q_S → Option Nat → Int32 → Int32 → Option (Unit × q_S)
  | 0, _, _, _, _ => none
  | k + 1, S, l0, l8, l9 => (if l8 ≤ l9 then some ((), S) else q_at (S) (l0) 11 (fun a2 => q_at (S) (q_R (S) a2 3) 5 (fun a3 => q_b (m_X4_push n (S) a3 ((0 : Int32))) (fun _ S4 => m_X10_putTable_131 n k (S4) (l0) (l8) (l9 + (1))))))
set_option maxHeartbeats 4000000 in
set_option maxRecDepth 100000 in
theorem w_X10_putTable_131 (X : q_X p s m args c cX10_putTable 10 RX10 q_T D cy A) (hr : meth.sig.returnType = none) (hl : meth.locks = false)  {n : Nat} {Sv : q_S}  : ∀ (k : Nat) (S : q_S) (l0 : Option Nat) (l8 : Int32) (l9 : Int32), m_X10_putTable_131 n k S l0 l8 l9 = some ((), Sv) → q_W p l e ({ frames := 5, cells := 0, slots := 0, locals := 114 } : Room) s m args below meth c (MQ below (va_Qv (fun (u : q_S) => u = Sv) (q_B D cy A) A) args s 0 0 A) A D cy 10 0 0 S 131 [(0, va_rf (l0)), (8, .int (l8)), (9, .int (l9))] [] := by
  intro k
  induction k with
  | zero => intro S l0 l8 l9 h; rw [m_X10_putTable_131] at h; cases h
  | succ k ih =>
    intro S l0 l8 l9 h
    rw [m_X10_putTable_131] at h
    refine q_iload X 2 rfl dX10_putTable_131 ?_
    refine q_iload X 1 rfl dX10_putTable_133 ?_
    refine q_icmp_ge X 152 (by decide) dX10_putTable_135 (fun g1 => ?_) (fun g1 => ?_)
    · rw [if_pos g1] at h
      obtain ⟨ev, eS⟩ := q_end h
      exact q_vret X hr hl eS dX10_putTable_152
    · rw [if_neg g1] at h
      refine q_aload_n X 0 rfl dX10_putTable_138 ?_
      obtain ⟨a2, ea2, ma2, ka2, h⟩ := q_atE h
      refine q_getR X 3 ea2 ma2 ka2 rfl tW_X10 (by decide) (by decide) tF_X10_14 rfl dX10_putTable_139 ?_
      refine q_iconst X (0) (by decide) dX10_putTable_142 ?_
      obtain ⟨a3, ea3, ma3, ka3, h⟩ := q_atE h
      obtain ⟨u6, S4, c5, h⟩ := q_bE h
      refine q_cVV X (As := [.int ((0 : Int32))]) ea3 ma3 ka3 rfl (by decide) (c_X4_push c5) (q_cwV X tK_X4_push tM_X10_140 tI_X4_push tV_X4_push tN_X4 rfl rfl tD_X4_push ⟨Nat.le_of_ble_eq_true rfl, Nat.le_of_ble_eq_true rfl⟩) rfl rfl (by first | exact Nat.le_of_ble_eq_true rfl | (simp only [List.map, q_catR]; exact Nat.le_of_ble_eq_true rfl)) ⟨Nat.zero_le _, Nat.zero_le _⟩ dX10_putTable_143 ?_
      refine q_iinc X 9 2 (l9 + (1)) [(9, .int (l9 + (1))), (0, va_rf (l0)), (8, .int (l8))] rfl (congrArg (fun z => l9 + z) (show Int32.ofInt (1) = (1) by decide)) (by decide) (by first | rfl | simp [List.filter, q_catR]) dX10_putTable_146 ?_
      refine q_goto X 131 (by decide) dX10_putTable_149 ?_
      refine q_lv [1, 2, 0] rfl ?_
      exact ih _ _ _ _ h
def m_X10_putTable (n : Nat) (S : q_S) (o : Nat) (p0 : Int32) (p1 : Int32) : Option (Unit × q_S) := q_at (S) (some o) 11 (fun a1 => q_at (S) (q_R (S) a1 3) 5 (fun a2 => q_b (m_X4_size n (S) a2) (fun r3 S4 => q_at (S4) (some o) 11 (fun a6 => q_b (m_X10_putBody n (S4) a6 (p1)) (fun _ S7 => q_at (S7) (some o) 11 (fun a10 => q_at (S7) (q_R (S7) a10 3) 5 (fun a11 => q_b (m_X4_size n (S7) a11) (fun r12 S13 => q_at (S13) (some o) 11 (fun a15 => q_at (S13) (q_R (S13) a15 1) 9 (fun a16 => q_b (m_X8_get n (S13) a16 (p1)) (fun r17 S18 => q_at (S18) (some r17) 8 (fun a20 => q_at (S18) (some o) 11 (fun a21 => q_at (S18) (q_R (S18) a21 4) 8 (fun a22 => q_b (m_X7_set n (S18) a22 (q_J (S18) a20 1) ((0 : Int64)) (r3) (r12 - r3)) (fun _ S23 => q_at (S23) (some o) 11 (fun a26 => q_at (S23) (q_R (S23) a26 3) 5 (fun a27 => q_b (m_X4_setFour n (S23) a27 ((12 : Int32) + ((16 : Int32) * p0)) (q_J (S18) a20 1)) (fun _ S28 => q_at (S28) (some o) 11 (fun a31 => q_at (S28) (q_R (S28) a31 4) 8 (fun a32 => q_b (m_X7_total n (S28) a32 ((0 : Int32))) (fun r33 S34 => q_at (S34) (q_R (S28) a31 3) 5 (fun a36 => q_b (m_X4_setFour n (S34) a36 (((12 : Int32) + ((16 : Int32) * p0)) + (4 : Int32)) (r33)) (fun _ S37 => q_at (S37) (some o) 11 (fun a40 => q_at (S37) (q_R (S37) a40 3) 5 (fun a41 => q_b (m_X4_setFour n (S37) a41 (((12 : Int32) + ((16 : Int32) * p0)) + (8 : Int32)) (r3.toInt64)) (fun _ S42 => q_at (S42) (some o) 11 (fun a45 => q_at (S42) (q_R (S42) a45 3) 5 (fun a46 => q_b (m_X4_setFour n (S42) a46 (((12 : Int32) + ((16 : Int32) * p0)) + (12 : Int32)) ((r12 - r3).toInt64)) (fun _ S47 => q_b (m_X10_padded n (S47) (r12 - r3)) (fun r50 S51 => m_X10_putTable_131 n n (S51) (some o) (r50 - (r12 - r3)) ((0 : Int32))))))))))))))))))))))))))))))))
set_option maxHeartbeats 4000000 in
set_option maxRecDepth 100000 in
theorem w_X10_putTable (X : q_X p s m args c cX10_putTable 10 RX10 q_T D cy A) (hr : meth.sig.returnType = none) (hl : meth.locks = false)  {n : Nat} {S Sv : q_S} {o : Nat} {p0 : Int32} {p1 : Int32} (h : m_X10_putTable n S o p0 p1 = some ((), Sv)) : q_W p l e ({ frames := 5, cells := 0, slots := 0, locals := 114 } : Room) s m args below meth c (MQ below (va_Qv (fun (u : q_S) => u = Sv) (q_B D cy A) A) args s 0 0 A) A D cy 10 0 0 S 0 [(0, va_rf (some o)), (1, .int (p0)), (2, .int (p1))] [] := by
  unfold m_X10_putTable at h
  refine q_aload_n X 0 rfl dX10_putTable_0 ?_
  obtain ⟨a1, ea1, ma1, ka1, h⟩ := q_atE h
  refine q_getR X 3 ea1 ma1 ka1 rfl tW_X10 (by decide) (by decide) tF_X10_14 rfl dX10_putTable_1 ?_
  obtain ⟨a2, ea2, ma2, ka2, h⟩ := q_atE h
  obtain ⟨r3, S4, c5, h⟩ := q_bE h
  refine q_cVI X (As := []) ea2 ma2 ka2 rfl (by decide) (c_X4_size c5) (q_cwV X tK_X4_size tM_X10_50 tI_X4_size tV_X4_size tN_X4 rfl rfl tD_X4_size ⟨Nat.le_of_ble_eq_true rfl, Nat.le_of_ble_eq_true rfl⟩) rfl rfl (by first | exact Nat.le_of_ble_eq_true rfl | (simp only [List.map, q_catR]; exact Nat.le_of_ble_eq_true rfl)) ⟨Nat.zero_le _, Nat.zero_le _⟩ dX10_putTable_4 ?_
  refine q_istore_n X 3 [(3, .int (r3)), (0, va_rf (some o)), (1, .int (p0)), (2, .int (p1))] rfl (by decide) (by first | rfl | simp [List.filter, q_catR]) dX10_putTable_7 ?_
  refine q_aload_n X 1 rfl dX10_putTable_8 ?_
  refine q_iload_n X 3 rfl dX10_putTable_9 ?_
  obtain ⟨a6, ea6, ma6, ka6, h⟩ := q_atE h
  obtain ⟨u9, S7, c8, h⟩ := q_bE h
  refine q_cVV X (As := [.int (p1)]) ea6 ma6 ka6 rfl (by decide) (c_X10_putBody c8) (q_cwV X tK_X10_putBody tM_X10_144 tI_X10_putBody tV_X10_putBody tN_X10 rfl rfl tD_X10_putBody ⟨Nat.le_of_ble_eq_true rfl, Nat.le_of_ble_eq_true rfl⟩) rfl rfl (by first | exact Nat.le_of_ble_eq_true rfl | (simp only [List.map, q_catR]; exact Nat.le_of_ble_eq_true rfl)) ⟨Nat.zero_le _, Nat.zero_le _⟩ dX10_putTable_10 ?_
  refine q_aload_n X 1 rfl dX10_putTable_13 ?_
  obtain ⟨a10, ea10, ma10, ka10, h⟩ := q_atE h
  refine q_getR X 3 ea10 ma10 ka10 rfl tW_X10 (by decide) (by decide) tF_X10_14 rfl dX10_putTable_14 ?_
  obtain ⟨a11, ea11, ma11, ka11, h⟩ := q_atE h
  obtain ⟨r12, S13, c14, h⟩ := q_bE h
  refine q_cVI X (As := []) ea11 ma11 ka11 rfl (by decide) (c_X4_size c14) (q_cwV X tK_X4_size tM_X10_50 tI_X4_size tV_X4_size tN_X4 rfl rfl tD_X4_size ⟨Nat.le_of_ble_eq_true rfl, Nat.le_of_ble_eq_true rfl⟩) rfl rfl (by first | exact Nat.le_of_ble_eq_true rfl | (simp only [List.map, q_catR]; exact Nat.le_of_ble_eq_true rfl)) ⟨Nat.zero_le _, Nat.zero_le _⟩ dX10_putTable_17 ?_
  refine q_iload_n X 0 rfl dX10_putTable_20 ?_
  refine q_isub X dX10_putTable_21 ?_
  refine q_istore X 4 [(4, .int (r12 - r3)), (3, .int (r3)), (0, va_rf (some o)), (1, .int (p0)), (2, .int (p1))] (by decide) (by first | rfl | simp [List.filter, q_catR]) dX10_putTable_22 ?_
  refine q_aload_n X 2 rfl dX10_putTable_24 ?_
  obtain ⟨a15, ea15, ma15, ka15, h⟩ := q_atE h
  refine q_getR X 1 ea15 ma15 ka15 rfl tW_X10 (by decide) (by decide) tF_X10_33 rfl dX10_putTable_25 ?_
  refine q_iload_n X 4 rfl dX10_putTable_28 ?_
  obtain ⟨a16, ea16, ma16, ka16, h⟩ := q_atE h
  obtain ⟨r17, S18, c19, h⟩ := q_bE h
  refine q_cVR X (As := [.int (p1)]) ea16 ma16 ka16 rfl (by decide) (c_X8_get c19) (q_cwV X tK_X8_get tM_X10_130 tI_X8_get tV_X8_get tN_X8 rfl rfl tD_X8_get ⟨Nat.le_of_ble_eq_true rfl, Nat.le_of_ble_eq_true rfl⟩) rfl rfl (by first | exact Nat.le_of_ble_eq_true rfl | (simp only [List.map, q_catR]; exact Nat.le_of_ble_eq_true rfl)) ⟨Nat.zero_le _, Nat.zero_le _⟩ dX10_putTable_29 ?_
  obtain ⟨a20, ea20, ma20, ka20, h⟩ := q_atE h
  refine q_getJN X 1 ea20 ma20 ka20 rfl tW_X7 (by decide) (by decide) "TrueOutlines" tF_X10_134 rfl dX10_putTable_32 ?_
  refine q_lstore X 5 [(5, .long (q_J (S18) a20 1)), (4, .int (r12 - r3)), (3, .int (r3)), (0, va_rf (some o)), (1, .int (p0)), (2, .int (p1))] (by decide) (by first | rfl | simp [List.filter, q_catR]) dX10_putTable_35 ?_
  refine q_aload_n X 3 rfl dX10_putTable_37 ?_
  obtain ⟨a21, ea21, ma21, ka21, h⟩ := q_atE h
  refine q_getR X 4 ea21 ma21 ka21 rfl tW_X10 (by decide) (by decide) tF_X10_46 rfl dX10_putTable_38 ?_
  refine q_lload X 0 rfl dX10_putTable_41 ?_
  refine q_lconst X (0) (by decide) dX10_putTable_43 ?_
  refine q_iload_n X 2 rfl dX10_putTable_44 ?_
  refine q_iload X 1 rfl dX10_putTable_45 ?_
  obtain ⟨a22, ea22, ma22, ka22, h⟩ := q_atE h
  obtain ⟨u25, S23, c24, h⟩ := q_bE h
  refine q_cVV X (As := [.long (q_J (S18) a20 1), .long ((0 : Int64)), .int (r3), .int (r12 - r3)]) ea22 ma22 ka22 rfl (by decide) (c_X7_set c24) (q_cwV X tK_X7_set tM_X10_147 tI_X7_set tV_X7_set tN_X7 rfl rfl tD_X7_set ⟨Nat.le_of_ble_eq_true rfl, Nat.le_of_ble_eq_true rfl⟩) rfl rfl (by first | exact Nat.le_of_ble_eq_true rfl | (simp only [List.map, q_catR]; exact Nat.le_of_ble_eq_true rfl)) ⟨Nat.zero_le _, Nat.zero_le _⟩ dX10_putTable_47 ?_
  refine q_bipush X (12) (by decide) dX10_putTable_50 ?_
  refine q_bipush X (16) (by decide) dX10_putTable_52 ?_
  refine q_iload_n X 4 rfl dX10_putTable_54 ?_
  refine q_imul X dX10_putTable_55 ?_
  refine q_iadd X dX10_putTable_56 ?_
  refine q_istore X 7 [(7, .int ((12 : Int32) + ((16 : Int32) * p0))), (5, .long (q_J (S18) a20 1)), (4, .int (r12 - r3)), (3, .int (r3)), (0, va_rf (some o)), (1, .int (p0)), (2, .int (p1))] (by decide) (by first | rfl | simp [List.filter, q_catR]) dX10_putTable_57 ?_
  refine q_aload_n X 4 rfl dX10_putTable_59 ?_
  obtain ⟨a26, ea26, ma26, ka26, h⟩ := q_atE h
  refine q_getR X 3 ea26 ma26 ka26 rfl tW_X10 (by decide) (by decide) tF_X10_14 rfl dX10_putTable_60 ?_
  refine q_iload X 0 rfl dX10_putTable_63 ?_
  refine q_lload X 1 rfl dX10_putTable_65 ?_
  obtain ⟨a27, ea27, ma27, ka27, h⟩ := q_atE h
  obtain ⟨u30, S28, c29, h⟩ := q_bE h
  refine q_cVV X (As := [.int ((12 : Int32) + ((16 : Int32) * p0)), .long (q_J (S18) a20 1)]) ea27 ma27 ka27 rfl (by decide) (c_X4_setFour c29) (q_cwV X tK_X4_setFour tM_X10_151 tI_X4_setFour tV_X4_setFour tN_X4 rfl rfl tD_X4_setFour ⟨Nat.le_of_ble_eq_true rfl, Nat.le_of_ble_eq_true rfl⟩) rfl rfl (by first | exact Nat.le_of_ble_eq_true rfl | (simp only [List.map, q_catR]; exact Nat.le_of_ble_eq_true rfl)) ⟨Nat.zero_le _, Nat.zero_le _⟩ dX10_putTable_67 ?_
  refine q_aload_n X 4 rfl dX10_putTable_70 ?_
  obtain ⟨a31, ea31, ma31, ka31, h⟩ := q_atE h
  refine q_getR X 3 ea31 ma31 ka31 rfl tW_X10 (by decide) (by decide) tF_X10_14 rfl dX10_putTable_71 ?_
  refine q_iload X 0 rfl dX10_putTable_74 ?_
  refine q_iconst X (4) (by decide) dX10_putTable_76 ?_
  refine q_iadd X dX10_putTable_77 ?_
  refine q_aload_n X 4 rfl dX10_putTable_78 ?_
  refine q_getR X 4 ea31 ma31 ka31 rfl tW_X10 (by decide) (by decide) tF_X10_46 rfl dX10_putTable_79 ?_
  refine q_iconst X (0) (by decide) dX10_putTable_82 ?_
  obtain ⟨a32, ea32, ma32, ka32, h⟩ := q_atE h
  obtain ⟨r33, S34, c35, h⟩ := q_bE h
  refine q_cVJ X (As := [.int ((0 : Int32))]) ea32 ma32 ka32 rfl (by decide) (c_X7_total c35) (q_cwV X tK_X7_total tM_X10_155 tI_X7_total tV_X7_total tN_X7 rfl rfl tD_X7_total ⟨Nat.le_of_ble_eq_true rfl, Nat.le_of_ble_eq_true rfl⟩) rfl rfl (by first | exact Nat.le_of_ble_eq_true rfl | (simp only [List.map, q_catR]; exact Nat.le_of_ble_eq_true rfl)) ⟨Nat.zero_le _, Nat.zero_le _⟩ dX10_putTable_83 ?_
  obtain ⟨a36, ea36, ma36, ka36, h⟩ := q_atE h
  obtain ⟨u39, S37, c38, h⟩ := q_bE h
  refine q_cVV X (As := [.int (((12 : Int32) + ((16 : Int32) * p0)) + (4 : Int32)), .long (r33)]) ea36 ma36 ka36 rfl (by decide) (c_X4_setFour c38) (q_cwV X tK_X4_setFour tM_X10_151 tI_X4_setFour tV_X4_setFour tN_X4 rfl rfl tD_X4_setFour ⟨Nat.le_of_ble_eq_true rfl, Nat.le_of_ble_eq_true rfl⟩) rfl rfl (by first | exact Nat.le_of_ble_eq_true rfl | (simp only [List.map, q_catR]; exact Nat.le_of_ble_eq_true rfl)) ⟨Nat.zero_le _, Nat.zero_le _⟩ dX10_putTable_86 ?_
  refine q_aload_n X 4 rfl dX10_putTable_89 ?_
  obtain ⟨a40, ea40, ma40, ka40, h⟩ := q_atE h
  refine q_getR X 3 ea40 ma40 ka40 rfl tW_X10 (by decide) (by decide) tF_X10_14 rfl dX10_putTable_90 ?_
  refine q_iload X 0 rfl dX10_putTable_93 ?_
  refine q_bipush X (8) (by decide) dX10_putTable_95 ?_
  refine q_iadd X dX10_putTable_97 ?_
  refine q_iload_n X 3 rfl dX10_putTable_98 ?_
  refine q_i2l X dX10_putTable_99 ?_
  obtain ⟨a41, ea41, ma41, ka41, h⟩ := q_atE h
  obtain ⟨u44, S42, c43, h⟩ := q_bE h
  refine q_cVV X (As := [.int (((12 : Int32) + ((16 : Int32) * p0)) + (8 : Int32)), .long (r3.toInt64)]) ea41 ma41 ka41 rfl (by decide) (c_X4_setFour c43) (q_cwV X tK_X4_setFour tM_X10_151 tI_X4_setFour tV_X4_setFour tN_X4 rfl rfl tD_X4_setFour ⟨Nat.le_of_ble_eq_true rfl, Nat.le_of_ble_eq_true rfl⟩) rfl rfl (by first | exact Nat.le_of_ble_eq_true rfl | (simp only [List.map, q_catR]; exact Nat.le_of_ble_eq_true rfl)) ⟨Nat.zero_le _, Nat.zero_le _⟩ dX10_putTable_100 ?_
  refine q_aload_n X 4 rfl dX10_putTable_103 ?_
  obtain ⟨a45, ea45, ma45, ka45, h⟩ := q_atE h
  refine q_getR X 3 ea45 ma45 ka45 rfl tW_X10 (by decide) (by decide) tF_X10_14 rfl dX10_putTable_104 ?_
  refine q_iload X 0 rfl dX10_putTable_107 ?_
  refine q_bipush X (12) (by decide) dX10_putTable_109 ?_
  refine q_iadd X dX10_putTable_111 ?_
  refine q_iload X 2 rfl dX10_putTable_112 ?_
  refine q_i2l X dX10_putTable_114 ?_
  obtain ⟨a46, ea46, ma46, ka46, h⟩ := q_atE h
  obtain ⟨u49, S47, c48, h⟩ := q_bE h
  refine q_cVV X (As := [.int (((12 : Int32) + ((16 : Int32) * p0)) + (12 : Int32)), .long ((r12 - r3).toInt64)]) ea46 ma46 ka46 rfl (by decide) (c_X4_setFour c48) (q_cwV X tK_X4_setFour tM_X10_151 tI_X4_setFour tV_X4_setFour tN_X4 rfl rfl tD_X4_setFour ⟨Nat.le_of_ble_eq_true rfl, Nat.le_of_ble_eq_true rfl⟩) rfl rfl (by first | exact Nat.le_of_ble_eq_true rfl | (simp only [List.map, q_catR]; exact Nat.le_of_ble_eq_true rfl)) ⟨Nat.zero_le _, Nat.zero_le _⟩ dX10_putTable_115 ?_
  refine q_iload X 2 rfl dX10_putTable_118 ?_
  obtain ⟨r50, S51, c52, h⟩ := q_bE h
  refine q_cSI X (As := [.int (r12 - r3)]) (c_X10_padded c52) (q_cwS X tK_X10_padded tM_X10_120 tS_X10_padded tN_X10 rfl rfl tD_X10_padded ⟨Nat.le_of_ble_eq_true rfl, Nat.le_of_ble_eq_true rfl⟩) rfl rfl (by first | exact Nat.le_of_ble_eq_true rfl | (simp only [List.map, q_catR]; exact Nat.le_of_ble_eq_true rfl)) ⟨Nat.zero_le _, Nat.zero_le _⟩ dX10_putTable_120 ?_
  refine q_iload X 2 rfl dX10_putTable_123 ?_
  refine q_isub X dX10_putTable_125 ?_
  refine q_istore X 8 [(8, .int (r50 - (r12 - r3))), (7, .int ((12 : Int32) + ((16 : Int32) * p0))), (5, .long (q_J (S18) a20 1)), (4, .int (r12 - r3)), (3, .int (r3)), (0, va_rf (some o)), (1, .int (p0)), (2, .int (p1))] (by decide) (by first | rfl | simp [List.filter, q_catR]) dX10_putTable_126 ?_
  refine q_iconst X (0) (by decide) dX10_putTable_128 ?_
  refine q_istore X 9 [(9, .int ((0 : Int32))), (8, .int (r50 - (r12 - r3))), (7, .int ((12 : Int32) + ((16 : Int32) * p0))), (5, .long (q_J (S18) a20 1)), (4, .int (r12 - r3)), (3, .int (r3)), (0, va_rf (some o)), (1, .int (p0)), (2, .int (p1))] (by decide) (by first | rfl | simp [List.filter, q_catR]) dX10_putTable_129 ?_
  refine q_lv [6, 1, 0] rfl ?_
  exact w_X10_putTable_131 X hr hl n _ _ _ _ h
theorem tD_X10_putTable : yX10_putTable.cls ≠ "java/lang/invoke/MethodHandle" ∧ yX10_putTable.cls ≠ "java/lang/invoke/VarHandle" ∧ (parseMethodDescriptor yX10_putTable.desc).map (fun d => d.parameters.length) = some 2 := by decide +kernel
theorem c_X10_putTable {l : Launch} {D : va_G} {cy : Nat → ClassId} {n : Nat} {S Sv : q_S} {o : Nat} {p0 : Int32} {p1 : Int32} (h : m_X10_putTable n S o p0 p1 = some ((), Sv)) : q_MV l yX10_putTable (q_ws yX10_putTable cX10_putTable 10 (none)) ({ frames := 5, cells := 0, slots := 0, locals := 114 } : Room) D cy [.ref o, .int (p0), .int (p1)] S Sv := by
  exact q_MV_of (by decide +kernel) (Nat.le_of_ble_eq_true rfl) (fun p e s m args below meth c A X hr hl => w_X10_putTable X hr hl h)
/-! TrueOutlines$Writer.sortByTags()V -/
def m_X10_sortByTags_72 (n : Nat) (k2 : q_S → Option Nat → Int32 → Option (Unit × q_S)) (S : q_S) (l0 : Option Nat) (l1 : Int32) (l2 : Int32) : Option (Unit × q_S) := q_at (S) (l0) 11 (fun a1 => q_at (S) (q_R (S) a1 5) 100 (fun a2 => q_if (q_in (l2) (q_N (S) a2) = true) (k2 (q_sI (S) a2 (l2).toNatClampNeg (l1)) (l0) (l1 + (1)))))
set_option maxHeartbeats 4000000 in
set_option maxRecDepth 100000 in
theorem w_X10_sortByTags_72 (X : q_X p s m args c cX10_sortByTags 3 RX10 q_T D cy A) (hr : meth.sig.returnType = none) (hl : meth.locks = false)  {n : Nat} {Sv : q_S}  {k2 : q_S → Option Nat → Int32 → Option (Unit × q_S)} (hk2 : ∀ (S : q_S) (z0 : Option Nat) (z1 : Int32), k2 S z0 z1 = some ((), Sv) → q_W p l e ({ frames := 2, cells := 0, slots := 0, locals := 42 } : Room) s m args below meth c (MQ below (va_Qv (fun (u : q_S) => u = Sv) (q_B D cy A) A) args s 0 0 A) A D cy 3 0 0 S 2 [(0, va_rf (z0)), (1, .int (z1))] []) (S : q_S) (l0 : Option Nat) (l1 : Int32) (l2 : Int32) (h : m_X10_sortByTags_72 n k2 S l0 l1 l2 = some ((), Sv)) : q_W p l e ({ frames := 2, cells := 0, slots := 0, locals := 42 } : Room) s m args below meth c (MQ below (va_Qv (fun (u : q_S) => u = Sv) (q_B D cy A) A) args s 0 0 A) A D cy 3 0 0 S 72 [(0, va_rf (l0)), (1, .int (l1)), (2, .int (l2))] [] := by
  unfold m_X10_sortByTags_72 at h
  refine q_aload_n X 0 rfl dX10_sortByTags_72 ?_
  obtain ⟨a1, ea1, ma1, ka1, h⟩ := q_atE h
  refine q_getR X 5 ea1 ma1 ka1 rfl tW_X10 (by decide) (by decide) tF_X10_20 rfl dX10_sortByTags_73 ?_
  refine q_iload_n X 2 rfl dX10_sortByTags_76 ?_
  refine q_iload_n X 1 rfl dX10_sortByTags_77 ?_
  obtain ⟨a2, ea2, ma2, ka2, h⟩ := q_atE h
  obtain ⟨g3, h⟩ := q_ifE h
  refine q_iastore X ea2 ma2 ka2 (q_inE g3) dX10_sortByTags_78 ?_
  have ma1 : a1 ∈ q_L (q_sI (S) a2 (l2).toNatClampNeg (l1)) := q_LsI ma1
  have ka1 : q_K (q_sI (S) a2 (l2).toNatClampNeg (l1)) a1 = 11 := q_KsI ka1
  have ma2 : a2 ∈ q_L (q_sI (S) a2 (l2).toNatClampNeg (l1)) := q_LsI ma2
  have ka2 : q_K (q_sI (S) a2 (l2).toNatClampNeg (l1)) a2 = 100 := q_KsI ka2
  refine q_iinc X 1 1 (l1 + (1)) [(1, .int (l1 + (1))), (0, va_rf (l0)), (2, .int (l2))] rfl (congrArg (fun z => l1 + z) (show Int32.ofInt (1) = (1) by decide)) (by decide) (by first | rfl | simp [List.filter, q_catR]) dX10_sortByTags_79 ?_
  refine q_goto X 2 (by decide) dX10_sortByTags_82 ?_
  refine q_lv [1, 0] rfl ?_
  exact hk2 _ _ _ h
def m_X10_sortByTags_15 (n : Nat) (k2 : q_S → Option Nat → Int32 → Option (Unit × q_S)) : Nat → q_S → Option Nat → Int32 → Int32 → Option (Unit × q_S)
  | 0, _, _, _, _ => none
  | k + 1, S, l0, l1, l2 => (if l2 ≤ 0 then m_X10_sortByTags_72 n k2 (S) (l0) (l1) (l2) else q_at (S) (l0) 11 (fun a2 => q_at (S) (q_R (S) a2 5) 100 (fun a3 => q_if (q_in (l2 - (1 : Int32)) (q_N (S) a3) = true) (q_at (S) (q_R (S) a2 1) 9 (fun a5 => q_b (m_X8_get n (S) a5 (q_I (S) a3 (l2 - (1 : Int32)).toNatClampNeg)) (fun r6 S7 => q_at (S7) (some r6) 8 (fun a9 => q_at (S7) (l0) 11 (fun a10 => q_at (S7) (q_R (S7) a10 1) 9 (fun a11 => q_b (m_X8_get n (S7) a11 (l1)) (fun r12 S13 => q_at (S13) (some r12) 8 (fun a15 => (if (lg_cmp ((q_J (S7) a9 1)) ((q_J (S13) a15 1))) ≤ 0 then m_X10_sortByTags_72 n k2 (S13) (l0) (l1) (l2) else q_at (S13) (l0) 11 (fun a17 => q_at (S13) (q_R (S13) a17 5) 100 (fun a18 => q_if (q_in (l2 - (1 : Int32)) (q_N (S13) a18) = true) (q_if (q_in (l2) (q_N (S13) a18) = true) (m_X10_sortByTags_15 n k2 k (q_sI (S13) a18 (l2).toNatClampNeg (q_I (S13) a18 (l2 - (1 : Int32)).toNatClampNeg)) (l0) (l1) (l2 + (-1))))))))))))))))))
set_option maxHeartbeats 4000000 in
set_option maxRecDepth 100000 in
theorem w_X10_sortByTags_15 (X : q_X p s m args c cX10_sortByTags 3 RX10 q_T D cy A) (hr : meth.sig.returnType = none) (hl : meth.locks = false)  {n : Nat} {Sv : q_S}  {k2 : q_S → Option Nat → Int32 → Option (Unit × q_S)} (hk2 : ∀ (S : q_S) (z0 : Option Nat) (z1 : Int32), k2 S z0 z1 = some ((), Sv) → q_W p l e ({ frames := 2, cells := 0, slots := 0, locals := 42 } : Room) s m args below meth c (MQ below (va_Qv (fun (u : q_S) => u = Sv) (q_B D cy A) A) args s 0 0 A) A D cy 3 0 0 S 2 [(0, va_rf (z0)), (1, .int (z1))] []) : ∀ (k : Nat) (S : q_S) (l0 : Option Nat) (l1 : Int32) (l2 : Int32), m_X10_sortByTags_15 n k2 k S l0 l1 l2 = some ((), Sv) → q_W p l e ({ frames := 2, cells := 0, slots := 0, locals := 42 } : Room) s m args below meth c (MQ below (va_Qv (fun (u : q_S) => u = Sv) (q_B D cy A) A) args s 0 0 A) A D cy 3 0 0 S 15 [(0, va_rf (l0)), (1, .int (l1)), (2, .int (l2))] [] := by
  intro k
  induction k with
  | zero => intro S l0 l1 l2 h; rw [m_X10_sortByTags_15] at h; cases h
  | succ k ih =>
    intro S l0 l1 l2 h
    rw [m_X10_sortByTags_15] at h
    refine q_iload_n X 2 rfl dX10_sortByTags_15 ?_
    refine q_if_le X 72 (by decide) dX10_sortByTags_16 (fun g1 => ?_) (fun g1 => ?_)
    · rw [if_pos g1] at h
      exact w_X10_sortByTags_72 X hr hl hk2 _ _ _ _ h
    · rw [if_neg g1] at h
      refine q_aload_n X 0 rfl dX10_sortByTags_19 ?_
      obtain ⟨a2, ea2, ma2, ka2, h⟩ := q_atE h
      refine q_getR X 1 ea2 ma2 ka2 rfl tW_X10 (by decide) (by decide) tF_X10_33 rfl dX10_sortByTags_20 ?_
      refine q_aload_n X 0 rfl dX10_sortByTags_23 ?_
      refine q_getR X 5 ea2 ma2 ka2 rfl tW_X10 (by decide) (by decide) tF_X10_20 rfl dX10_sortByTags_24 ?_
      refine q_iload_n X 2 rfl dX10_sortByTags_27 ?_
      refine q_iconst X (1) (by decide) dX10_sortByTags_28 ?_
      refine q_isub X dX10_sortByTags_29 ?_
      obtain ⟨a3, ea3, ma3, ka3, h⟩ := q_atE h
      obtain ⟨g4, h⟩ := q_ifE h
      refine q_iaload X ea3 ma3 ka3 (q_inE g4) dX10_sortByTags_30 ?_
      obtain ⟨a5, ea5, ma5, ka5, h⟩ := q_atE h
      obtain ⟨r6, S7, c8, h⟩ := q_bE h
      refine q_cVR X (As := [.int (q_I (S) a3 (l2 - (1 : Int32)).toNatClampNeg)]) ea5 ma5 ka5 rfl (by decide) (c_X8_get c8) (q_cwV X tK_X8_get tM_X10_130 tI_X8_get tV_X8_get tN_X8 rfl rfl tD_X8_get ⟨Nat.le_of_ble_eq_true rfl, Nat.le_of_ble_eq_true rfl⟩) rfl rfl (by first | exact Nat.le_of_ble_eq_true rfl | (simp only [List.map, q_catR]; exact Nat.le_of_ble_eq_true rfl)) ⟨Nat.zero_le _, Nat.zero_le _⟩ dX10_sortByTags_31 ?_
      obtain ⟨a9, ea9, ma9, ka9, h⟩ := q_atE h
      refine q_getJN X 1 ea9 ma9 ka9 rfl tW_X7 (by decide) (by decide) "TrueOutlines" tF_X10_134 rfl dX10_sortByTags_34 ?_
      refine q_aload_n X 0 rfl dX10_sortByTags_37 ?_
      obtain ⟨a10, ea10, ma10, ka10, h⟩ := q_atE h
      refine q_getR X 1 ea10 ma10 ka10 rfl tW_X10 (by decide) (by decide) tF_X10_33 rfl dX10_sortByTags_38 ?_
      refine q_iload_n X 1 rfl dX10_sortByTags_41 ?_
      obtain ⟨a11, ea11, ma11, ka11, h⟩ := q_atE h
      obtain ⟨r12, S13, c14, h⟩ := q_bE h
      refine q_cVR X (As := [.int (l1)]) ea11 ma11 ka11 rfl (by decide) (c_X8_get c14) (q_cwV X tK_X8_get tM_X10_130 tI_X8_get tV_X8_get tN_X8 rfl rfl tD_X8_get ⟨Nat.le_of_ble_eq_true rfl, Nat.le_of_ble_eq_true rfl⟩) rfl rfl (by first | exact Nat.le_of_ble_eq_true rfl | (simp only [List.map, q_catR]; exact Nat.le_of_ble_eq_true rfl)) ⟨Nat.zero_le _, Nat.zero_le _⟩ dX10_sortByTags_42 ?_
      obtain ⟨a15, ea15, ma15, ka15, h⟩ := q_atE h
      refine q_getJN X 1 ea15 ma15 ka15 rfl tW_X7 (by decide) (by decide) "TrueOutlines" tF_X10_134 rfl dX10_sortByTags_45 ?_
      refine q_lcmp X dX10_sortByTags_48 ?_
      refine q_if_le X 72 (by decide) dX10_sortByTags_49 (fun g16 => ?_) (fun g16 => ?_)
      · rw [if_pos g16] at h
        exact w_X10_sortByTags_72 X hr hl hk2 _ _ _ _ h
      · rw [if_neg g16] at h
        refine q_aload_n X 0 rfl dX10_sortByTags_52 ?_
        obtain ⟨a17, ea17, ma17, ka17, h⟩ := q_atE h
        refine q_getR X 5 ea17 ma17 ka17 rfl tW_X10 (by decide) (by decide) tF_X10_20 rfl dX10_sortByTags_53 ?_
        refine q_iload_n X 2 rfl dX10_sortByTags_56 ?_
        refine q_aload_n X 0 rfl dX10_sortByTags_57 ?_
        refine q_getR X 5 ea17 ma17 ka17 rfl tW_X10 (by decide) (by decide) tF_X10_20 rfl dX10_sortByTags_58 ?_
        refine q_iload_n X 2 rfl dX10_sortByTags_61 ?_
        refine q_iconst X (1) (by decide) dX10_sortByTags_62 ?_
        refine q_isub X dX10_sortByTags_63 ?_
        obtain ⟨a18, ea18, ma18, ka18, h⟩ := q_atE h
        obtain ⟨g19, h⟩ := q_ifE h
        refine q_iaload X ea18 ma18 ka18 (q_inE g19) dX10_sortByTags_64 ?_
        obtain ⟨g20, h⟩ := q_ifE h
        refine q_iastore X ea18 ma18 ka18 (q_inE g20) dX10_sortByTags_65 ?_
        have ma15 : a15 ∈ q_L (q_sI (S13) a18 (l2).toNatClampNeg (q_I (S13) a18 (l2 - (1 : Int32)).toNatClampNeg)) := q_LsI ma15
        have ka15 : q_K (q_sI (S13) a18 (l2).toNatClampNeg (q_I (S13) a18 (l2 - (1 : Int32)).toNatClampNeg)) a15 = 8 := q_KsI ka15
        have ma17 : a17 ∈ q_L (q_sI (S13) a18 (l2).toNatClampNeg (q_I (S13) a18 (l2 - (1 : Int32)).toNatClampNeg)) := q_LsI ma17
        have ka17 : q_K (q_sI (S13) a18 (l2).toNatClampNeg (q_I (S13) a18 (l2 - (1 : Int32)).toNatClampNeg)) a17 = 11 := q_KsI ka17
        have ma18 : a18 ∈ q_L (q_sI (S13) a18 (l2).toNatClampNeg (q_I (S13) a18 (l2 - (1 : Int32)).toNatClampNeg)) := q_LsI ma18
        have ka18 : q_K (q_sI (S13) a18 (l2).toNatClampNeg (q_I (S13) a18 (l2 - (1 : Int32)).toNatClampNeg)) a18 = 100 := q_KsI ka18
        refine q_iinc X 2 2 (l2 + (-1)) [(2, .int (l2 + (-1))), (0, va_rf (l0)), (1, .int (l1))] rfl (congrArg (fun z => l2 + z) (show Int32.ofInt (-1) = (-1) by decide)) (by decide) (by first | rfl | simp [List.filter, q_catR]) dX10_sortByTags_66 ?_
        refine q_goto X 15 (by decide) dX10_sortByTags_69 ?_
        refine q_lv [1, 2, 0] rfl ?_
        exact ih _ _ _ _ h
def m_X10_sortByTags_2 (n : Nat) : Nat → q_S → Option Nat → Int32 → Option (Unit × q_S)
  | 0, _, _, _ => none
  | k + 1, S, l0, l1 => q_at (S) (l0) 11 (fun a1 => q_at (S) (q_R (S) a1 1) 9 (fun a2 => q_b (m_X8_size n (S) a2) (fun r3 S4 => (if r3 ≤ l1 then some ((), S4) else m_X10_sortByTags_15 n (m_X10_sortByTags_2 n k) n (S4) (l0) (l1) (l1)))))
set_option maxHeartbeats 4000000 in
set_option maxRecDepth 100000 in
theorem w_X10_sortByTags_2 (X : q_X p s m args c cX10_sortByTags 3 RX10 q_T D cy A) (hr : meth.sig.returnType = none) (hl : meth.locks = false)  {n : Nat} {Sv : q_S}  : ∀ (k : Nat) (S : q_S) (l0 : Option Nat) (l1 : Int32), m_X10_sortByTags_2 n k S l0 l1 = some ((), Sv) → q_W p l e ({ frames := 2, cells := 0, slots := 0, locals := 42 } : Room) s m args below meth c (MQ below (va_Qv (fun (u : q_S) => u = Sv) (q_B D cy A) A) args s 0 0 A) A D cy 3 0 0 S 2 [(0, va_rf (l0)), (1, .int (l1))] [] := by
  intro k
  induction k with
  | zero => intro S l0 l1 h; rw [m_X10_sortByTags_2] at h; cases h
  | succ k ih =>
    intro S l0 l1 h
    rw [m_X10_sortByTags_2] at h
    refine q_iload_n X 1 rfl dX10_sortByTags_2 ?_
    refine q_aload_n X 0 rfl dX10_sortByTags_3 ?_
    obtain ⟨a1, ea1, ma1, ka1, h⟩ := q_atE h
    refine q_getR X 1 ea1 ma1 ka1 rfl tW_X10 (by decide) (by decide) tF_X10_33 rfl dX10_sortByTags_4 ?_
    obtain ⟨a2, ea2, ma2, ka2, h⟩ := q_atE h
    obtain ⟨r3, S4, c5, h⟩ := q_bE h
    refine q_cVI X (As := []) ea2 ma2 ka2 rfl (by decide) (c_X8_size c5) (q_cwV X tK_X8_size tM_X10_77 tI_X8_size tV_X8_size tN_X8 rfl rfl tD_X8_size ⟨Nat.le_of_ble_eq_true rfl, Nat.le_of_ble_eq_true rfl⟩) rfl rfl (by first | exact Nat.le_of_ble_eq_true rfl | (simp only [List.map, q_catR]; exact Nat.le_of_ble_eq_true rfl)) ⟨Nat.zero_le _, Nat.zero_le _⟩ dX10_sortByTags_7 ?_
    refine q_icmp_ge X 85 (by decide) dX10_sortByTags_10 (fun g6 => ?_) (fun g6 => ?_)
    · rw [if_pos g6] at h
      obtain ⟨ev, eS⟩ := q_end h
      exact q_vret X hr hl eS dX10_sortByTags_85
    · rw [if_neg g6] at h
      refine q_iload_n X 1 rfl dX10_sortByTags_13 ?_
      refine q_istore_n X 2 [(2, .int (l1)), (0, va_rf (l0)), (1, .int (l1))] rfl (by decide) (by first | rfl | simp [List.filter, q_catR]) dX10_sortByTags_14 ?_
      refine q_lv [1, 2, 0] rfl ?_
      exact w_X10_sortByTags_15 X hr hl ih n _ _ _ _ h
def m_X10_sortByTags (n : Nat) (S : q_S) (o : Nat)  : Option (Unit × q_S) := m_X10_sortByTags_2 n n (S) (some o) ((0 : Int32))
set_option maxHeartbeats 4000000 in
set_option maxRecDepth 100000 in
theorem w_X10_sortByTags (X : q_X p s m args c cX10_sortByTags 3 RX10 q_T D cy A) (hr : meth.sig.returnType = none) (hl : meth.locks = false)  {n : Nat} {S Sv : q_S} {o : Nat}  (h : m_X10_sortByTags n S o = some ((), Sv)) : q_W p l e ({ frames := 2, cells := 0, slots := 0, locals := 42 } : Room) s m args below meth c (MQ below (va_Qv (fun (u : q_S) => u = Sv) (q_B D cy A) A) args s 0 0 A) A D cy 3 0 0 S 0 [(0, va_rf (some o))] [] := by
  unfold m_X10_sortByTags at h
  refine q_iconst X (0) (by decide) dX10_sortByTags_0 ?_
  refine q_istore_n X 1 [(1, .int ((0 : Int32))), (0, va_rf (some o))] rfl (by decide) (by first | rfl | simp [List.filter, q_catR]) dX10_sortByTags_1 ?_
  refine q_lv [1, 0] rfl ?_
  exact w_X10_sortByTags_2 X hr hl n _ _ _ h
theorem tD_X10_sortByTags : yX10_sortByTags.cls ≠ "java/lang/invoke/MethodHandle" ∧ yX10_sortByTags.cls ≠ "java/lang/invoke/VarHandle" ∧ (parseMethodDescriptor yX10_sortByTags.desc).map (fun d => d.parameters.length) = some 0 := by decide +kernel
theorem c_X10_sortByTags {l : Launch} {D : va_G} {cy : Nat → ClassId} {n : Nat} {S Sv : q_S} {o : Nat}  (h : m_X10_sortByTags n S o = some ((), Sv)) : q_MV l yX10_sortByTags (q_ws yX10_sortByTags cX10_sortByTags 3 (none)) ({ frames := 2, cells := 0, slots := 0, locals := 42 } : Room) D cy [.ref o] S Sv := by
  exact q_MV_of (by decide +kernel) (Nat.le_of_ble_eq_true rfl) (fun p e s m args below meth c A X hr hl => w_X10_sortByTags X hr hl h)
/-! TrueOutlines$Row.clear()V -/
def m_X4_clear (n : Nat) (S : q_S) (o : Nat)  : Option (Unit × q_S) := q_at (S) (some o) 5 (fun a1 => some ((), q_sI (S) a1 1 ((0 : Int32))))
set_option maxHeartbeats 4000000 in
set_option maxRecDepth 100000 in
theorem w_X4_clear (X : q_X p s m args c cX4_clear 1 RX4 q_T D cy A) (hr : meth.sig.returnType = none) (hl : meth.locks = false)  {n : Nat} {S Sv : q_S} {o : Nat}  (h : m_X4_clear n S o = some ((), Sv)) : q_W p l e ({ frames := 0, cells := 0, slots := 0, locals := 0 } : Room) s m args below meth c (MQ below (va_Qv (fun (u : q_S) => u = Sv) (q_B D cy A) A) args s 0 0 A) A D cy 1 0 0 S 0 [(0, va_rf (some o))] [] := by
  unfold m_X4_clear at h
  refine q_aload_n X 0 rfl dX4_clear_0 ?_
  refine q_iconst X (0) (by decide) dX4_clear_1 ?_
  obtain ⟨a1, ea1, ma1, ka1, h⟩ := q_atE h
  refine q_putI X 1 ea1 ma1 ka1 rfl tW_X4 (by decide) (by decide) tF_X4_15 tyX4 tyX4_ok nmX4 rfl (tyX4_ok 1 (by decide)) rfl rfl rfl dX4_clear_2 ?_
  have ma1 : a1 ∈ q_L (q_sI (S) a1 1 ((0 : Int32))) := q_LsI ma1
  have ka1 : q_K (q_sI (S) a1 1 ((0 : Int32))) a1 = 5 := q_KsI ka1
  obtain ⟨ev, eS⟩ := q_end h
  exact q_vret X hr hl eS dX4_clear_5
theorem tD_X4_clear : yX4_clear.cls ≠ "java/lang/invoke/MethodHandle" ∧ yX4_clear.cls ≠ "java/lang/invoke/VarHandle" ∧ (parseMethodDescriptor yX4_clear.desc).map (fun d => d.parameters.length) = some 0 := by decide +kernel
theorem c_X4_clear {l : Launch} {D : va_G} {cy : Nat → ClassId} {n : Nat} {S Sv : q_S} {o : Nat}  (h : m_X4_clear n S o = some ((), Sv)) : q_MV l yX4_clear (q_ws yX4_clear cX4_clear 1 (none)) ({ frames := 0, cells := 0, slots := 0, locals := 0 } : Room) D cy [.ref o] S Sv := by
  exact q_MV_of (by decide +kernel) (Nat.le_of_ble_eq_true rfl) (fun p e s m args below meth c A X hr hl => w_X4_clear X hr hl h)
/-! TrueOutlines$Writer.make()I -/
def m_X10_make_42 (n : Nat) : Nat → q_S → Option Nat → Int32 → Option (Int32 × q_S)
  | 0, _, _, _ => none
  | k + 1, S, l0, l1 => q_at (S) (l0) 11 (fun a1 => q_at (S) (q_R (S) a1 1) 9 (fun a2 => q_b (m_X8_size n (S) a2) (fun r3 S4 => (if r3 ≤ l1 then q_at (S4) (l0) 11 (fun a7 => q_b (m_X10_putFileSum n (S4) a7) (fun _ S8 => q_at (S8) (l0) 11 (fun a11 => q_at (S8) (q_R (S8) a11 3) 5 (fun a12 => q_b (m_X4_size n (S8) a12) (fun r13 S14 => some (r13, S14)))))) else q_at (S4) (l0) 11 (fun a16 => q_at (S4) (q_R (S4) a16 5) 100 (fun a17 => q_if (q_in (l1) (q_N (S4) a17) = true) (q_b (m_X10_putTable n (S4) a16 (l1) (q_I (S4) a17 (l1).toNatClampNeg)) (fun _ S19 => m_X10_make_42 n k (S19) (l0) (l1 + (1))))))))))
set_option maxHeartbeats 4000000 in
set_option maxRecDepth 100000 in
theorem w_X10_make_42 (X : q_X p s m args c cX10_make 2 RX10 q_T D cy A) (hr : meth.sig.returnType = (some .int)) (hl : meth.locks = false)  {n : Nat} {Sv : q_S} {rv : Int32}  : ∀ (k : Nat) (S : q_S) (l0 : Option Nat) (l1 : Int32), m_X10_make_42 n k S l0 l1 = some (rv, Sv) → q_W p l e ({ frames := 6, cells := 0, slots := 0, locals := 143 } : Room) s m args below meth c (MQ below (va_Qi (fun (r : Int32) (u : q_S) => r = rv ∧ u = Sv) (q_B D cy A) A) args s 0 0 A) A D cy 2 0 0 S 42 [(0, va_rf (l0)), (1, .int (l1))] [] := by
  intro k
  induction k with
  | zero => intro S l0 l1 h; rw [m_X10_make_42] at h; cases h
  | succ k ih =>
    intro S l0 l1 h
    rw [m_X10_make_42] at h
    refine q_iload_n X 1 rfl dX10_make_42 ?_
    refine q_aload_n X 0 rfl dX10_make_43 ?_
    obtain ⟨a1, ea1, ma1, ka1, h⟩ := q_atE h
    refine q_getR X 1 ea1 ma1 ka1 rfl tW_X10 (by decide) (by decide) tF_X10_33 rfl dX10_make_44 ?_
    obtain ⟨a2, ea2, ma2, ka2, h⟩ := q_atE h
    obtain ⟨r3, S4, c5, h⟩ := q_bE h
    refine q_cVI X (As := []) ea2 ma2 ka2 rfl (by decide) (c_X8_size c5) (q_cwV X tK_X8_size tM_X10_77 tI_X8_size tV_X8_size tN_X8 rfl rfl tD_X8_size ⟨Nat.le_of_ble_eq_true rfl, Nat.le_of_ble_eq_true rfl⟩) rfl rfl (by first | exact Nat.le_of_ble_eq_true rfl | (simp only [List.map, q_catR]; exact Nat.le_of_ble_eq_true rfl)) ⟨Nat.zero_le _, Nat.zero_le _⟩ dX10_make_47 ?_
    refine q_icmp_ge X 70 (by decide) dX10_make_50 (fun g6 => ?_) (fun g6 => ?_)
    · rw [if_pos g6] at h
      refine q_aload_n X 0 rfl dX10_make_70 ?_
      obtain ⟨a7, ea7, ma7, ka7, h⟩ := q_atE h
      obtain ⟨u10, S8, c9, h⟩ := q_bE h
      refine q_cVV X (As := []) ea7 ma7 ka7 rfl (by decide) (c_X10_putFileSum c9) (q_cwV X tK_X10_putFileSum tM_X10_84 tI_X10_putFileSum tV_X10_putFileSum tN_X10 rfl rfl tD_X10_putFileSum ⟨Nat.le_of_ble_eq_true rfl, Nat.le_of_ble_eq_true rfl⟩) rfl rfl (by first | exact Nat.le_of_ble_eq_true rfl | (simp only [List.map, q_catR]; exact Nat.le_of_ble_eq_true rfl)) ⟨Nat.zero_le _, Nat.zero_le _⟩ dX10_make_71 ?_
      refine q_aload_n X 0 rfl dX10_make_74 ?_
      obtain ⟨a11, ea11, ma11, ka11, h⟩ := q_atE h
      refine q_getR X 3 ea11 ma11 ka11 rfl tW_X10 (by decide) (by decide) tF_X10_14 rfl dX10_make_75 ?_
      obtain ⟨a12, ea12, ma12, ka12, h⟩ := q_atE h
      obtain ⟨r13, S14, c15, h⟩ := q_bE h
      refine q_cVI X (As := []) ea12 ma12 ka12 rfl (by decide) (c_X4_size c15) (q_cwV X tK_X4_size tM_X10_50 tI_X4_size tV_X4_size tN_X4 rfl rfl tD_X4_size ⟨Nat.le_of_ble_eq_true rfl, Nat.le_of_ble_eq_true rfl⟩) rfl rfl (by first | exact Nat.le_of_ble_eq_true rfl | (simp only [List.map, q_catR]; exact Nat.le_of_ble_eq_true rfl)) ⟨Nat.zero_le _, Nat.zero_le _⟩ dX10_make_78 ?_
      obtain ⟨ev, eS⟩ := q_end h
      exact q_iret X hr hl rfl ev eS dX10_make_81
    · rw [if_neg g6] at h
      refine q_aload_n X 0 rfl dX10_make_53 ?_
      refine q_iload_n X 1 rfl dX10_make_54 ?_
      refine q_aload_n X 0 rfl dX10_make_55 ?_
      obtain ⟨a16, ea16, ma16, ka16, h⟩ := q_atE h
      refine q_getR X 5 ea16 ma16 ka16 rfl tW_X10 (by decide) (by decide) tF_X10_20 rfl dX10_make_56 ?_
      refine q_iload_n X 1 rfl dX10_make_59 ?_
      obtain ⟨a17, ea17, ma17, ka17, h⟩ := q_atE h
      obtain ⟨g18, h⟩ := q_ifE h
      refine q_iaload X ea17 ma17 ka17 (q_inE g18) dX10_make_60 ?_
      obtain ⟨u21, S19, c20, h⟩ := q_bE h
      refine q_cVV X (As := [.int (l1), .int (q_I (S4) a17 (l1).toNatClampNeg)]) ea16 ma16 ka16 rfl (by decide) (c_X10_putTable c20) (q_cwV X tK_X10_putTable tM_X10_80 tI_X10_putTable tV_X10_putTable tN_X10 rfl rfl tD_X10_putTable ⟨Nat.le_of_ble_eq_true rfl, Nat.le_of_ble_eq_true rfl⟩) rfl rfl (by first | exact Nat.le_of_ble_eq_true rfl | (simp only [List.map, q_catR]; exact Nat.le_of_ble_eq_true rfl)) ⟨Nat.zero_le _, Nat.zero_le _⟩ dX10_make_61 ?_
      refine q_iinc X 1 1 (l1 + (1)) [(1, .int (l1 + (1))), (0, va_rf (l0))] rfl (congrArg (fun z => l1 + z) (show Int32.ofInt (1) = (1) by decide)) (by decide) (by first | rfl | simp [List.filter, q_catR]) dX10_make_64 ?_
      refine q_goto X 42 (by decide) dX10_make_67 ?_
      refine q_lv [1, 0] rfl ?_
      exact ih _ _ _ h
def m_X10_make (n : Nat) (S : q_S) (o : Nat)  : Option (Int32 × q_S) := q_at (S) (some o) 11 (fun a1 => q_b (m_X10_isPossible n (S) a1) (fun r2 S3 => (if r2 = 0 then some ((-1 : Int32), S3) else q_at (S3) (some o) 11 (fun a6 => q_b (m_X10_findPlaces n (S3) a6) (fun _ S7 => q_at (S7) (some o) 11 (fun a10 => q_b (m_X10_newSize n (S7) a10) (fun r11 S12 => (if r11 ≤ (2400 : Int32) then q_at (S12) (some o) 11 (fun a15 => q_b (m_X10_sortByTags n (S12) a15) (fun _ S16 => q_at (S16) (some o) 11 (fun a19 => q_at (S16) (q_R (S16) a19 3) 5 (fun a20 => q_b (m_X4_clear n (S16) a20) (fun _ S21 => q_at (S21) (some o) 11 (fun a24 => q_b (m_X10_putHeader n (S21) a24) (fun _ S25 => m_X10_make_42 n n (S25) (some o) ((0 : Int32))))))))) else some ((-1 : Int32), S12)))))))))
set_option maxHeartbeats 4000000 in
set_option maxRecDepth 100000 in
theorem w_X10_make (X : q_X p s m args c cX10_make 2 RX10 q_T D cy A) (hr : meth.sig.returnType = (some .int)) (hl : meth.locks = false)  {n : Nat} {S Sv : q_S} {rv : Int32} {o : Nat}  (h : m_X10_make n S o = some (rv, Sv)) : q_W p l e ({ frames := 6, cells := 0, slots := 0, locals := 143 } : Room) s m args below meth c (MQ below (va_Qi (fun (r : Int32) (u : q_S) => r = rv ∧ u = Sv) (q_B D cy A) A) args s 0 0 A) A D cy 2 0 0 S 0 [(0, va_rf (some o))] [] := by
  unfold m_X10_make at h
  refine q_aload_n X 0 rfl dX10_make_0 ?_
  obtain ⟨a1, ea1, ma1, ka1, h⟩ := q_atE h
  obtain ⟨r2, S3, c4, h⟩ := q_bE h
  refine q_cVI X (As := []) ea1 ma1 ka1 rfl (by decide) (c_X10_isPossible c4) (q_cwV X tK_X10_isPossible tM_X10_58 tI_X10_isPossible tV_X10_isPossible tN_X10 rfl rfl tD_X10_isPossible ⟨Nat.le_of_ble_eq_true rfl, Nat.le_of_ble_eq_true rfl⟩) rfl rfl (by first | exact Nat.le_of_ble_eq_true rfl | (simp only [List.map, q_catR]; exact Nat.le_of_ble_eq_true rfl)) ⟨Nat.zero_le _, Nat.zero_le _⟩ dX10_make_1 ?_
  refine q_if_ne X 9 (by decide) dX10_make_4 (fun g5 => ?_) (fun g5 => ?_)
  · rw [if_neg g5] at h
    refine q_aload_n X 0 rfl dX10_make_9 ?_
    obtain ⟨a6, ea6, ma6, ka6, h⟩ := q_atE h
    obtain ⟨u9, S7, c8, h⟩ := q_bE h
    refine q_cVV X (As := []) ea6 ma6 ka6 rfl (by decide) (c_X10_findPlaces c8) (q_cwV X tK_X10_findPlaces tM_X10_62 tI_X10_findPlaces tV_X10_findPlaces tN_X10 rfl rfl tD_X10_findPlaces ⟨Nat.le_of_ble_eq_true rfl, Nat.le_of_ble_eq_true rfl⟩) rfl rfl (by first | exact Nat.le_of_ble_eq_true rfl | (simp only [List.map, q_catR]; exact Nat.le_of_ble_eq_true rfl)) ⟨Nat.zero_le _, Nat.zero_le _⟩ dX10_make_10 ?_
    refine q_aload_n X 0 rfl dX10_make_13 ?_
    obtain ⟨a10, ea10, ma10, ka10, h⟩ := q_atE h
    obtain ⟨r11, S12, c13, h⟩ := q_bE h
    refine q_cVI X (As := []) ea10 ma10 ka10 rfl (by decide) (c_X10_newSize c13) (q_cwV X tK_X10_newSize tM_X10_65 tI_X10_newSize tV_X10_newSize tN_X10 rfl rfl tD_X10_newSize ⟨Nat.le_of_ble_eq_true rfl, Nat.le_of_ble_eq_true rfl⟩) rfl rfl (by first | exact Nat.le_of_ble_eq_true rfl | (simp only [List.map, q_catR]; exact Nat.le_of_ble_eq_true rfl)) ⟨Nat.zero_le _, Nat.zero_le _⟩ dX10_make_14 ?_
    refine q_sipush X (2400) (by decide) dX10_make_17 ?_
    refine q_icmp_le X 25 (by decide) dX10_make_20 (fun g14 => ?_) (fun g14 => ?_)
    · rw [if_pos g14] at h
      refine q_aload_n X 0 rfl dX10_make_25 ?_
      obtain ⟨a15, ea15, ma15, ka15, h⟩ := q_atE h
      obtain ⟨u18, S16, c17, h⟩ := q_bE h
      refine q_cVV X (As := []) ea15 ma15 ka15 rfl (by decide) (c_X10_sortByTags c17) (q_cwV X tK_X10_sortByTags tM_X10_68 tI_X10_sortByTags tV_X10_sortByTags tN_X10 rfl rfl tD_X10_sortByTags ⟨Nat.le_of_ble_eq_true rfl, Nat.le_of_ble_eq_true rfl⟩) rfl rfl (by first | exact Nat.le_of_ble_eq_true rfl | (simp only [List.map, q_catR]; exact Nat.le_of_ble_eq_true rfl)) ⟨Nat.zero_le _, Nat.zero_le _⟩ dX10_make_26 ?_
      refine q_aload_n X 0 rfl dX10_make_29 ?_
      obtain ⟨a19, ea19, ma19, ka19, h⟩ := q_atE h
      refine q_getR X 3 ea19 ma19 ka19 rfl tW_X10 (by decide) (by decide) tF_X10_14 rfl dX10_make_30 ?_
      obtain ⟨a20, ea20, ma20, ka20, h⟩ := q_atE h
      obtain ⟨u23, S21, c22, h⟩ := q_bE h
      refine q_cVV X (As := []) ea20 ma20 ka20 rfl (by decide) (c_X4_clear c22) (q_cwV X tK_X4_clear tM_X10_71 tI_X4_clear tV_X4_clear tN_X4 rfl rfl tD_X4_clear ⟨Nat.le_of_ble_eq_true rfl, Nat.le_of_ble_eq_true rfl⟩) rfl rfl (by first | exact Nat.le_of_ble_eq_true rfl | (simp only [List.map, q_catR]; exact Nat.le_of_ble_eq_true rfl)) ⟨Nat.zero_le _, Nat.zero_le _⟩ dX10_make_33 ?_
      refine q_aload_n X 0 rfl dX10_make_36 ?_
      obtain ⟨a24, ea24, ma24, ka24, h⟩ := q_atE h
      obtain ⟨u27, S25, c26, h⟩ := q_bE h
      refine q_cVV X (As := []) ea24 ma24 ka24 rfl (by decide) (c_X10_putHeader c26) (q_cwV X tK_X10_putHeader tM_X10_74 tI_X10_putHeader tV_X10_putHeader tN_X10 rfl rfl tD_X10_putHeader ⟨Nat.le_of_ble_eq_true rfl, Nat.le_of_ble_eq_true rfl⟩) rfl rfl (by first | exact Nat.le_of_ble_eq_true rfl | (simp only [List.map, q_catR]; exact Nat.le_of_ble_eq_true rfl)) ⟨Nat.zero_le _, Nat.zero_le _⟩ dX10_make_37 ?_
      refine q_iconst X (0) (by decide) dX10_make_40 ?_
      refine q_istore_n X 1 [(1, .int ((0 : Int32))), (0, va_rf (some o))] rfl (by decide) (by first | rfl | simp [List.filter, q_catR]) dX10_make_41 ?_
      refine q_lv [1, 0] rfl ?_
      exact w_X10_make_42 X hr hl n _ _ _ h
    · rw [if_neg g14] at h
      refine q_iconst X (-1) (by decide) dX10_make_23 ?_
      obtain ⟨ev, eS⟩ := q_end h
      exact q_iret X hr hl rfl ev eS dX10_make_24
  · rw [if_pos g5] at h
    refine q_iconst X (-1) (by decide) dX10_make_7 ?_
    obtain ⟨ev, eS⟩ := q_end h
    exact q_iret X hr hl rfl ev eS dX10_make_8
theorem tD_X10_make : yX10_make.cls ≠ "java/lang/invoke/MethodHandle" ∧ yX10_make.cls ≠ "java/lang/invoke/VarHandle" ∧ (parseMethodDescriptor yX10_make.desc).map (fun d => d.parameters.length) = some 0 := by decide +kernel
theorem c_X10_make {l : Launch} {D : va_G} {cy : Nat → ClassId} {n : Nat} {S Sv : q_S} {rv : Int32} {o : Nat}  (h : m_X10_make n S o = some (rv, Sv)) : q_MI l yX10_make (q_ws yX10_make cX10_make 2 ((some .int))) ({ frames := 6, cells := 0, slots := 0, locals := 143 } : Room) D cy [.ref o] S rv Sv := by
  exact q_MI_of (by decide +kernel) (Nat.le_of_ble_eq_true rfl) (fun p e s m args below meth c A X hr hl => w_X10_make X hr hl h)
end MM
