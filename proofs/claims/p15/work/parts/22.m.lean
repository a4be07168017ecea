section MM
variable {p : Program} {l : Launch} {e : Env} {s : State} {m : MethodId} {args : Array Value} {below : List Frame} {meth : Method} {c : Code} {A : Nat → Prop} {D : va_G} {cy : Nat → ClassId}
/-! TrueOutlinesModel.putNumber(JI)V -/
def m_X12_putNumber_5 (n : Nat) : Nat → q_S → Option Nat → Int64 → Int32 → Option (Unit × q_S)
  | 0, _, _, _, _ => none
  | k + 1, S, l0, l1, l4 => (if l4 < 0 then some ((), S) else q_at (S) (l0) 13 (fun a2 => q_b (m_X12_put n (S) a2 (((l1 >>> ((((8 : Int32) * l4)).toInt64 &&& 63)) &&& (255 : Int64)).toInt32)) (fun _ S3 => m_X12_putNumber_5 n k (S3) (l0) (l1) (l4 + (-1)))))
set_option maxHeartbeats 4000000 in
set_option maxRecDepth 100000 in
theorem w_X12_putNumber_5 (X : q_X p s m args c cX12_putNumber 5 RX12 q_T D cy A) (hr : meth.sig.returnType = none) (hl : meth.locks = false)  {n : Nat} {Sv : q_S}  : ∀ (k : Nat) (S : q_S) (l0 : Option Nat) (l1 : Int64) (l4 : Int32), m_X12_putNumber_5 n k S l0 l1 l4 = some ((), Sv) → q_W p l e ({ frames := 1, cells := 0, slots := 0, locals := 21 } : Room) s m args below meth c (MQ below (va_Qv (fun (u : q_S) => u = Sv) (q_B D cy A) A) args s 0 0 A) A D cy 5 0 0 S 5 [(0, va_rf (l0)), (1, .long (l1)), (4, .int (l4))] [] := by
  intro k
  induction k with
  | zero => intro S l0 l1 l4 h; rw [m_X12_putNumber_5] at h; cases h
  | succ k ih =>
    intro S l0 l1 l4 h
    rw [m_X12_putNumber_5] at h
    refine q_iload X 2 rfl dX12_putNumber_5 ?_
    refine q_if_lt X 32 (by decide) dX12_putNumber_7 (fun g1 => ?_) (fun g1 => ?_)
    · rw [if_pos g1] at h
      obtain ⟨ev, eS⟩ := q_end h
      exact q_vret X hr hl eS dX12_putNumber_32
    · rw [if_neg g1] at h
      refine q_aload_n X 0 rfl dX12_putNumber_10 ?_
      refine q_lload_n X 1 rfl dX12_putNumber_11 ?_
      refine q_bipush X (8) (by decide) dX12_putNumber_12 ?_
      refine q_iload X 2 rfl dX12_putNumber_14 ?_
      refine q_imul X dX12_putNumber_16 ?_
      refine q_lshr X dX12_putNumber_17 ?_
      refine q_ldc2_w X (255) tC_X12_109 dX12_putNumber_18 ?_
      refine q_land X dX12_putNumber_21 ?_
      refine q_l2i X dX12_putNumber_22 ?_
      obtain ⟨a2, ea2, ma2, ka2, h⟩ := q_atE h
      obtain ⟨u5, S3, c4, h⟩ := q_bE h
      refine q_cVV X (As := [.int (((l1 >>> ((((8 : Int32) * l4)).toInt64 &&& 63)) &&& (255 : Int64)).toInt32)]) ea2 ma2 ka2 rfl (by decide) (c_X12_put c4) (q_cwV X tK_X12_put tM_X12_312 tI_X12_put tV_X12_put tN_X12 rfl rfl tD_X12_put ⟨Nat.le_of_ble_eq_true rfl, Nat.le_of_ble_eq_true rfl⟩) rfl rfl (by first | exact Nat.le_of_ble_eq_true rfl | (simp only [List.map, q_catR]; exact Nat.le_of_ble_eq_true rfl)) ⟨Nat.zero_le _, Nat.zero_le _⟩ dX12_putNumber_23 ?_
      refine q_iinc X 4 2 (l4 + (-1)) [(4, .int (l4 + (-1))), (0, va_rf (l0)), (1, .long (l1))] rfl (congrArg (fun z => l4 + z) (show Int32.ofInt (-1) = (-1) by decide)) (by decide) (by first | rfl | simp [List.filter, q_catR]) dX12_putNumber_26 ?_
      refine q_goto X 5 (by decide) dX12_putNumber_29 ?_
      refine q_lv [1, 2, 0] rfl ?_
      exact ih _ _ _ _ h
def m_X12_putNumber (n : Nat) (S : q_S) (o : Nat) (p0 : Int64) (p1 : Int32) : Option (Unit × q_S) := m_X12_putNumber_5 n n (S) (some o) (p0) (p1 - (1 : Int32))
set_option maxHeartbeats 4000000 in
set_option maxRecDepth 100000 in
theorem w_X12_putNumber (X : q_X p s m args c cX12_putNumber 5 RX12 q_T D cy A) (hr : meth.sig.returnType = none) (hl : meth.locks = false)  {n : Nat} {S Sv : q_S} {o : Nat} {p0 : Int64} {p1 : Int32} (h : m_X12_putNumber n S o p0 p1 = some ((), Sv)) : q_W p l e ({ frames := 1, cells := 0, slots := 0, locals := 21 } : Room) s m args below meth c (MQ below (va_Qv (fun (u : q_S) => u = Sv) (q_B D cy A) A) args s 0 0 A) A D cy 5 0 0 S 0 [(0, va_rf (some o)), (1, .long (p0)), (3, .int (p1))] [] := by
  unfold m_X12_putNumber at h
  refine q_iload_n X 2 rfl dX12_putNumber_0 ?_
  refine q_iconst X (1) (by decide) dX12_putNumber_1 ?_
  refine q_isub X dX12_putNumber_2 ?_
  refine q_istore X 4 [(4, .int (p1 - (1 : Int32))), (0, va_rf (some o)), (1, .long (p0)), (3, .int (p1))] (by decide) (by first | rfl | simp [List.filter, q_catR]) dX12_putNumber_3 ?_
  refine q_lv [1, 2, 0] rfl ?_
  exact w_X12_putNumber_5 X hr hl n _ _ _ _ h
theorem tD_X12_putNumber : yX12_putNumber.cls ≠ "java/lang/invoke/MethodHandle" ∧ yX12_putNumber.cls ≠ "java/lang/invoke/VarHandle" ∧ (parseMethodDescriptor yX12_putNumber.desc).map (fun d => d.parameters.length) = some 2 := by decide +kernel
theorem c_X12_putNumber {l : Launch} {D : va_G} {cy : Nat → ClassId} {n : Nat} {S Sv : q_S} {o : Nat} {p0 : Int64} {p1 : Int32} (h : m_X12_putNumber n S o p0 p1 = some ((), Sv)) : q_MV l yX12_putNumber (q_ws yX12_putNumber cX12_putNumber 5 (none)) ({ frames := 1, cells := 0, slots := 0, locals := 21 } : Room) D cy [.ref o, .long (p0), .int (p1)] S Sv := by
  exact q_MV_of (by decide +kernel) (Nat.le_of_ble_eq_true rfl) (fun p e s m args below meth c A X hr hl => w_X12_putNumber X hr hl h)
/-! TrueOutlinesModel.putLoca(IZ)V -/
def m_X12_putLoca_71 (n : Nat) (k5 : q_S → Option Nat → Int32 → Int32 → Int64 → Int32 → Option (Unit × q_S)) (S : q_S) (l0 : Option Nat) (l1 : Int32) (l2 : Int32) (l3 : Int64) (l5 : Int32) : Option (Unit × q_S) := k5 (S) (l0) (l1) (l2) (l3) (l5 + (1))
set_option maxHeartbeats 4000000 in
set_option maxRecDepth 100000 in
theorem w_X12_putLoca_71 (X : q_X p s m args c cX12_putLoca 6 RX12 q_T D cy A) (hr : meth.sig.returnType = none) (hl : meth.locks = false)  {n : Nat} {Sv : q_S}  {k5 : q_S → Option Nat → Int32 → Int32 → Int64 → Int32 → Option (Unit × q_S)} (hk5 : ∀ (S : q_S) (z0 : Option Nat) (z1 : Int32) (z2 : Int32) (z3 : Int64) (z4 : Int32), k5 S z0 z1 z2 z3 z4 = some ((), Sv) → q_W p l e ({ frames := 5, cells := 0, slots := 0, locals := 118 } : Room) s m args below meth c (MQ below (va_Qv (fun (u : q_S) => u = Sv) (q_B D cy A) A) args s 0 0 A) A D cy 6 0 0 S 5 [(0, va_rf (z0)), (1, .int (z1)), (2, .int (z2)), (3, .long (z3)), (5, .int (z4))] []) (S : q_S) (l0 : Option Nat) (l1 : Int32) (l2 : Int32) (l3 : Int64) (l5 : Int32) (h : m_X12_putLoca_71 n k5 S l0 l1 l2 l3 l5 = some ((), Sv)) : q_W p l e ({ frames := 5, cells := 0, slots := 0, locals := 118 } : Room) s m args below meth c (MQ below (va_Qv (fun (u : q_S) => u = Sv) (q_B D cy A) A) args s 0 0 A) A D cy 6 0 0 S 71 [(0, va_rf (l0)), (1, .int (l1)), (2, .int (l2)), (3, .long (l3)), (5, .int (l5))] [] := by
  unfold m_X12_putLoca_71 at h
  refine q_iinc X 5 4 (l5 + (1)) [(5, .int (l5 + (1))), (0, va_rf (l0)), (1, .int (l1)), (2, .int (l2)), (3, .long (l3))] rfl (congrArg (fun z => l5 + z) (show Int32.ofInt (1) = (1) by decide)) (by decide) (by first | rfl | simp [List.filter, q_catR]) dX12_putLoca_71 ?_
  refine q_goto X 5 (by decide) dX12_putLoca_74 ?_
  refine q_lv [1, 2, 3, 4, 0] rfl ?_
  exact hk5 _ _ _ _ _ _ h
def m_X12_putLoca_34 (n : Nat) (k5 : q_S → Option Nat → Int32 → Int32 → Int64 → Int32 → Option (Unit × q_S)) (S : q_S) (l0 : Option Nat) (l1 : Int32) (l2 : Int32) (l3 : Int64) (l5 : Int32) (s0 : Int32) (s1 : Int64) (s2 : Option Nat) : Option (Unit × q_S) := q_at (S) (s2) 13 (fun a1 => q_b (m_X12_putNumber n (S) a1 (s1) (s0)) (fun _ S2 => (if l1 ≤ l5 then m_X12_putLoca_71 n k5 (S2) (l0) (l1) (l2) (l3) (l5) else q_at (S2) (l0) 13 (fun a6 => q_b (m_X12_goes n (S2) a6 (l5)) (fun r7 S8 => (if r7 = 0 then m_X12_putLoca_71 n k5 (S8) (l0) (l1) (l2) (l3) (l5) else q_at (S8) (l0) 13 (fun a11 => q_if (¬ (2 : Int32) = 0) (m_X12_putLoca_71 n k5 (S8) (l0) (l1) (l2) (l3 + ((((((q_I (S8) a11 22) - (q_I (S8) a11 21)) + (1 : Int32)) / (2 : Int32)) * (2 : Int32)).toInt64)) (l5)))))))))
set_option maxHeartbeats 4000000 in
set_option maxRecDepth 100000 in
theorem w_X12_putLoca_34 (X : q_X p s m args c cX12_putLoca 6 RX12 q_T D cy A) (hr : meth.sig.returnType = none) (hl : meth.locks = false)  {n : Nat} {Sv : q_S}  {k5 : q_S → Option Nat → Int32 → Int32 → Int64 → Int32 → Option (Unit × q_S)} (hk5 : ∀ (S : q_S) (z0 : Option Nat) (z1 : Int32) (z2 : Int32) (z3 : Int64) (z4 : Int32), k5 S z0 z1 z2 z3 z4 = some ((), Sv) → q_W p l e ({ frames := 5, cells := 0, slots := 0, locals := 118 } : Room) s m args below meth c (MQ below (va_Qv (fun (u : q_S) => u = Sv) (q_B D cy A) A) args s 0 0 A) A D cy 6 0 0 S 5 [(0, va_rf (z0)), (1, .int (z1)), (2, .int (z2)), (3, .long (z3)), (5, .int (z4))] []) (S : q_S) (l0 : Option Nat) (l1 : Int32) (l2 : Int32) (l3 : Int64) (l5 : Int32) (s0 : Int32) (s1 : Int64) (s2 : Option Nat) (h : m_X12_putLoca_34 n k5 S l0 l1 l2 l3 l5 s0 s1 s2 = some ((), Sv)) : q_W p l e ({ frames := 5, cells := 0, slots := 0, locals := 118 } : Room) s m args below meth c (MQ below (va_Qv (fun (u : q_S) => u = Sv) (q_B D cy A) A) args s 0 0 A) A D cy 6 0 0 S 34 [(0, va_rf (l0)), (1, .int (l1)), (2, .int (l2)), (3, .long (l3)), (5, .int (l5))] [.int (s0), .long (s1), va_rf (s2)] := by
  unfold m_X12_putLoca_34 at h
  obtain ⟨a1, ea1, ma1, ka1, h⟩ := q_atE h
  obtain ⟨u4, S2, c3, h⟩ := q_bE h
  refine q_cVV X (As := [.long (s1), .int (s0)]) ea1 ma1 ka1 rfl (by decide) (c_X12_putNumber c3) (q_cwV X tK_X12_putNumber tM_X12_318 tI_X12_putNumber tV_X12_putNumber tN_X12 rfl rfl tD_X12_putNumber ⟨Nat.le_of_ble_eq_true rfl, Nat.le_of_ble_eq_true rfl⟩) rfl rfl (by first | exact Nat.le_of_ble_eq_true rfl | (simp only [List.map, q_catR]; exact Nat.le_of_ble_eq_true rfl)) ⟨Nat.zero_le _, Nat.zero_le _⟩ dX12_putLoca_34 ?_
  refine q_iload X 4 rfl dX12_putLoca_37 ?_
  refine q_iload_n X 1 rfl dX12_putLoca_39 ?_
  refine q_icmp_ge X 71 (by decide) dX12_putLoca_40 (fun g5 => ?_) (fun g5 => ?_)
  · rw [if_pos g5] at h
    exact w_X12_putLoca_71 X hr hl hk5 _ _ _ _ _ _ h
  · rw [if_neg g5] at h
    refine q_aload_n X 0 rfl dX12_putLoca_43 ?_
    refine q_iload X 4 rfl dX12_putLoca_44 ?_
    obtain ⟨a6, ea6, ma6, ka6, h⟩ := q_atE h
    obtain ⟨r7, S8, c9, h⟩ := q_bE h
    refine q_cVI X (As := [.int (l5)]) ea6 ma6 ka6 rfl (by decide) (c_X12_goes c9) (q_cwV X tK_X12_goes tM_X12_315 tI_X12_goes tV_X12_goes tN_X12 rfl rfl tD_X12_goes ⟨Nat.le_of_ble_eq_true rfl, Nat.le_of_ble_eq_true rfl⟩) rfl rfl (by first | exact Nat.le_of_ble_eq_true rfl | (simp only [List.map, q_catR]; exact Nat.le_of_ble_eq_true rfl)) ⟨Nat.zero_le _, Nat.zero_le _⟩ dX12_putLoca_46 ?_
    refine q_if_eq X 71 (by decide) dX12_putLoca_49 (fun g10 => ?_) (fun g10 => ?_)
    · rw [if_pos g10] at h
      exact w_X12_putLoca_71 X hr hl hk5 _ _ _ _ _ _ h
    · rw [if_neg g10] at h
      refine q_lload_n X 3 rfl dX12_putLoca_52 ?_
      refine q_aload_n X 0 rfl dX12_putLoca_53 ?_
      obtain ⟨a11, ea11, ma11, ka11, h⟩ := q_atE h
      refine q_getI X 22 ea11 ma11 ka11 rfl tW_X12 (by decide) (by decide) tF_X12_194 rfl dX12_putLoca_54 ?_
      refine q_aload_n X 0 rfl dX12_putLoca_57 ?_
      refine q_getI X 21 ea11 ma11 ka11 rfl tW_X12 (by decide) (by decide) tF_X12_191 rfl dX12_putLoca_58 ?_
      refine q_isub X dX12_putLoca_61 ?_
      refine q_iconst X (1) (by decide) dX12_putLoca_62 ?_
      refine q_iadd X dX12_putLoca_63 ?_
      refine q_iconst X (2) (by decide) dX12_putLoca_64 ?_
      obtain ⟨g12, h⟩ := q_ifE h
      refine q_idiv X g12 dX12_putLoca_65 ?_
      refine q_iconst X (2) (by decide) dX12_putLoca_66 ?_
      refine q_imul X dX12_putLoca_67 ?_
      refine q_i2l X dX12_putLoca_68 ?_
      refine q_ladd X dX12_putLoca_69 ?_
      refine q_lstore_n X 3 [(3, .long (l3 + ((((((q_I (S8) a11 22) - (q_I (S8) a11 21)) + (1 : Int32)) / (2 : Int32)) * (2 : Int32)).toInt64))), (0, va_rf (l0)), (1, .int (l1)), (2, .int (l2)), (5, .int (l5))] rfl (by decide) (by first | rfl | simp [List.filter, q_catR]) dX12_putLoca_70 ?_
      refine q_lv [1, 2, 3, 0, 4] rfl ?_
      exact w_X12_putLoca_71 X hr hl hk5 _ _ _ _ _ _ h
def m_X12_putLoca_25 (n : Nat) (k5 : q_S → Option Nat → Int32 → Int32 → Int64 → Int32 → Option (Unit × q_S)) (S : q_S) (l0 : Option Nat) (l1 : Int32) (l2 : Int32) (l3 : Int64) (l5 : Int32) (s0 : Int64) (s1 : Option Nat) : Option (Unit × q_S) := (if l2 = 0 then m_X12_putLoca_34 n k5 (S) (l0) (l1) (l2) (l3) (l5) ((2 : Int32)) (s0) (s1) else m_X12_putLoca_34 n k5 (S) (l0) (l1) (l2) (l3) (l5) ((4 : Int32)) (s0) (s1))
set_option maxHeartbeats 4000000 in
set_option maxRecDepth 100000 in
theorem w_X12_putLoca_25 (X : q_X p s m args c cX12_putLoca 6 RX12 q_T D cy A) (hr : meth.sig.returnType = none) (hl : meth.locks = false)  {n : Nat} {Sv : q_S}  {k5 : q_S → Option Nat → Int32 → Int32 → Int64 → Int32 → Option (Unit × q_S)} (hk5 : ∀ (S : q_S) (z0 : Option Nat) (z1 : Int32) (z2 : Int32) (z3 : Int64) (z4 : Int32), k5 S z0 z1 z2 z3 z4 = some ((), Sv) → q_W p l e ({ frames := 5, cells := 0, slots := 0, locals := 118 } : Room) s m args below meth c (MQ below (va_Qv (fun (u : q_S) => u = Sv) (q_B D cy A) A) args s 0 0 A) A D cy 6 0 0 S 5 [(0, va_rf (z0)), (1, .int (z1)), (2, .int (z2)), (3, .long (z3)), (5, .int (z4))] []) (S : q_S) (l0 : Option Nat) (l1 : Int32) (l2 : Int32) (l3 : Int64) (l5 : Int32) (s0 : Int64) (s1 : Option Nat) (h : m_X12_putLoca_25 n k5 S l0 l1 l2 l3 l5 s0 s1 = some ((), Sv)) : q_W p l e ({ frames := 5, cells := 0, slots := 0, locals := 118 } : Room) s m args below meth c (MQ below (va_Qv (fun (u : q_S) => u = Sv) (q_B D cy A) A) args s 0 0 A) A D cy 6 0 0 S 25 [(0, va_rf (l0)), (1, .int (l1)), (2, .int (l2)), (3, .long (l3)), (5, .int (l5))] [.long (s0), va_rf (s1)] := by
  unfold m_X12_putLoca_25 at h
  refine q_iload_n X 2 rfl dX12_putLoca_25 ?_
  refine q_if_eq X 33 (by decide) dX12_putLoca_26 (fun g1 => ?_) (fun g1 => ?_)
  · rw [if_pos g1] at h
    refine q_iconst X (2) (by decide) dX12_putLoca_33 ?_
    exact w_X12_putLoca_34 X hr hl hk5 _ _ _ _ _ _ _ _ _ h
  · rw [if_neg g1] at h
    refine q_iconst X (4) (by decide) dX12_putLoca_29 ?_
    refine q_goto X 34 (by decide) dX12_putLoca_30 ?_
    exact w_X12_putLoca_34 X hr hl hk5 _ _ _ _ _ _ _ _ _ h
def m_X12_putLoca_5 (n : Nat) : Nat → q_S → Option Nat → Int32 → Int32 → Int64 → Int32 → Option (Unit × q_S)
  | 0, _, _, _, _, _, _ => none
  | k + 1, S, l0, l1, l2, l3, l5 => (if l1 < l5 then some ((), S) else (if l2 = 0 then q_if (¬ (2 : Int64) = 0) (m_X12_putLoca_25 n (m_X12_putLoca_5 n k) (S) (l0) (l1) (l2) (l3) (l5) (l3 / (2 : Int64)) (l0)) else m_X12_putLoca_25 n (m_X12_putLoca_5 n k) (S) (l0) (l1) (l2) (l3) (l5) (l3) (l0)))
set_option maxHeartbeats 4000000 in
set_option maxRecDepth 100000 in
theorem w_X12_putLoca_5 (X : q_X p s m args c cX12_putLoca 6 RX12 q_T D cy A) (hr : meth.sig.returnType = none) (hl : meth.locks = false)  {n : Nat} {Sv : q_S}  : ∀ (k : Nat) (S : q_S) (l0 : Option Nat) (l1 : Int32) (l2 : Int32) (l3 : Int64) (l5 : Int32), m_X12_putLoca_5 n k S l0 l1 l2 l3 l5 = some ((), Sv) → q_W p l e ({ frames := 5, cells := 0, slots := 0, locals := 118 } : Room) s m args below meth c (MQ below (va_Qv (fun (u : q_S) => u = Sv) (q_B D cy A) A) args s 0 0 A) A D cy 6 0 0 S 5 [(0, va_rf (l0)), (1, .int (l1)), (2, .int (l2)), (3, .long (l3)), (5, .int (l5))] [] := by
  intro k
  induction k with
  | zero => intro S l0 l1 l2 l3 l5 h; rw [m_X12_putLoca_5] at h; cases h
  | succ k ih =>
    intro S l0 l1 l2 l3 l5 h
    rw [m_X12_putLoca_5] at h
    refine q_iload X 4 rfl dX12_putLoca_5 ?_
    refine q_iload_n X 1 rfl dX12_putLoca_7 ?_
    refine q_icmp_gt X 77 (by decide) dX12_putLoca_8 (fun g1 => ?_) (fun g1 => ?_)
    · rw [if_pos g1] at h
      obtain ⟨ev, eS⟩ := q_end h
      exact q_vret X hr hl eS dX12_putLoca_77
    · rw [if_neg g1] at h
      refine q_aload_n X 0 rfl dX12_putLoca_11 ?_
      refine q_iload_n X 2 rfl dX12_putLoca_12 ?_
      refine q_if_eq X 20 (by decide) dX12_putLoca_13 (fun g2 => ?_) (fun g2 => ?_)
      · rw [if_pos g2] at h
        refine q_lload_n X 3 rfl dX12_putLoca_20 ?_
        refine q_ldc2_w X (2) tC_X12_181 dX12_putLoca_21 ?_
        obtain ⟨g3, h⟩ := q_ifE h
        refine q_ldiv X g3 dX12_putLoca_24 ?_
        exact w_X12_putLoca_25 X hr hl ih _ _ _ _ _ _ _ _ h
      · rw [if_neg g2] at h
        refine q_lload_n X 3 rfl dX12_putLoca_16 ?_
        refine q_goto X 25 (by decide) dX12_putLoca_17 ?_
        exact w_X12_putLoca_25 X hr hl ih _ _ _ _ _ _ _ _ h
def m_X12_putLoca (n : Nat) (S : q_S) (o : Nat) (p0 : Int32) (p1 : Int32) : Option (Unit × q_S) := m_X12_putLoca_5 n n (S) (some o) (p0) (p1) ((0 : Int64)) ((0 : Int32))
set_option maxHeartbeats 4000000 in
set_option maxRecDepth 100000 in
theorem w_X12_putLoca (X : q_X p s m args c cX12_putLoca 6 RX12 q_T D cy A) (hr : meth.sig.returnType = none) (hl : meth.locks = false)  {n : Nat} {S Sv : q_S} {o : Nat} {p0 : Int32} {p1 : Int32} (h : m_X12_putLoca n S o p0 p1 = some ((), Sv)) : q_W p l e ({ frames := 5, cells := 0, slots := 0, locals := 118 } : Room) s m args below meth c (MQ below (va_Qv (fun (u : q_S) => u = Sv) (q_B D cy A) A) args s 0 0 A) A D cy 6 0 0 S 0 [(0, va_rf (some o)), (1, .int (p0)), (2, .int (p1))] [] := by
  unfold m_X12_putLoca at h
  refine q_lconst X (0) (by decide) dX12_putLoca_0 ?_
  refine q_lstore_n X 3 [(3, .long ((0 : Int64))), (0, va_rf (some o)), (1, .int (p0)), (2, .int (p1))] rfl (by decide) (by first | rfl | simp [List.filter, q_catR]) dX12_putLoca_1 ?_
  refine q_iconst X (0) (by decide) dX12_putLoca_2 ?_
  refine q_istore X 5 [(5, .int ((0 : Int32))), (3, .long ((0 : Int64))), (0, va_rf (some o)), (1, .int (p0)), (2, .int (p1))] (by decide) (by first | rfl | simp [List.filter, q_catR]) dX12_putLoca_3 ?_
  refine q_lv [2, 3, 4, 1, 0] rfl ?_
  exact w_X12_putLoca_5 X hr hl n _ _ _ _ _ _ h
theorem tD_X12_putLoca : yX12_putLoca.cls ≠ "java/lang/invoke/MethodHandle" ∧ yX12_putLoca.cls ≠ "java/lang/invoke/VarHandle" ∧ (parseMethodDescriptor yX12_putLoca.desc).map (fun d => d.parameters.length) = some 2 := by decide +kernel
theorem c_X12_putLoca {l : Launch} {D : va_G} {cy : Nat → ClassId} {n : Nat} {S Sv : q_S} {o : Nat} {p0 : Int32} {p1 : Int32} (h : m_X12_putLoca n S o p0 p1 = some ((), Sv)) : q_MV l yX12_putLoca (q_ws yX12_putLoca cX12_putLoca 6 (none)) ({ frames := 5, cells := 0, slots := 0, locals := 118 } : Room) D cy [.ref o, .int (p0), .int (p1)] S Sv := by
  exact q_MV_of (by decide +kernel) (Nat.le_of_ble_eq_true rfl) (fun p e s m args below meth c A X hr hl => w_X12_putLoca X hr hl h)
/-! TrueOutlinesModel.sumOf(I)J -/
def m_X12_sumOf_63 (n : Nat) (k14 : q_S → Option Nat → Int32 → Int64 → Int32 → Int32 → Option (Int64 × q_S)) (S : q_S) (l0 : Option Nat) (l1 : Int32) (l2 : Int64) (l4 : Int32) (l5 : Int32) (s0 : Int32) : Option (Int64 × q_S) := q_if (¬ (4 : Int32) = 0) (k14 (S) (l0) (l1) (l2 + ((s0.toInt64) <<< ((((24 : Int32) - ((8 : Int32) * (l5 - l5 / (4 : Int32) * (4 : Int32))))).toInt64 &&& 63))) (l4) (l5 + (1)))
set_option maxHeartbeats 4000000 in
set_option maxRecDepth 100000 in
theorem w_X12_sumOf_63 (X : q_X p s m args c cX12_sumOf 7 RX12 q_T D cy A) (hr : meth.sig.returnType = (some .long)) (hl : meth.locks = false)  {n : Nat} {Sv : q_S} {rv : Int64}  {k14 : q_S → Option Nat → Int32 → Int64 → Int32 → Int32 → Option (Int64 × q_S)} (hk14 : ∀ (S : q_S) (z0 : Option Nat) (z1 : Int32) (z2 : Int64) (z3 : Int32) (z4 : Int32), k14 S z0 z1 z2 z3 z4 = some (rv, Sv) → q_W p l e ({ frames := 1, cells := 0, slots := 0, locals := 23 } : Room) s m args below meth c (MQ below (va_Ql (fun (r : Int64) (u : q_S) => r = rv ∧ u = Sv) (q_B D cy A) A) args s 0 0 A) A D cy 7 0 0 S 14 [(0, va_rf (z0)), (1, .int (z1)), (2, .long (z2)), (4, .int (z3)), (5, .int (z4))] []) (S : q_S) (l0 : Option Nat) (l1 : Int32) (l2 : Int64) (l4 : Int32) (l5 : Int32) (s0 : Int32) (h : m_X12_sumOf_63 n k14 S l0 l1 l2 l4 l5 s0 = some (rv, Sv)) : q_W p l e ({ frames := 1, cells := 0, slots := 0, locals := 23 } : Room) s m args below meth c (MQ below (va_Ql (fun (r : Int64) (u : q_S) => r = rv ∧ u = Sv) (q_B D cy A) A) args s 0 0 A) A D cy 7 0 0 S 63 [(0, va_rf (l0)), (1, .int (l1)), (2, .long (l2)), (4, .int (l4)), (5, .int (l5))] [.int (s0)] := by
  unfold m_X12_sumOf_63 at h
  refine q_istore X 6 [(6, .int (s0)), (0, va_rf (l0)), (1, .int (l1)), (2, .long (l2)), (4, .int (l4)), (5, .int (l5))] (by decide) (by first | rfl | simp [List.filter, q_catR]) dX12_sumOf_63 ?_
  refine q_lload_n X 3 rfl dX12_sumOf_65 ?_
  refine q_iload X 0 rfl dX12_sumOf_66 ?_
  refine q_i2l X dX12_sumOf_68 ?_
  refine q_bipush X (24) (by decide) dX12_sumOf_69 ?_
  refine q_bipush X (8) (by decide) dX12_sumOf_71 ?_
  refine q_iload X 5 rfl dX12_sumOf_73 ?_
  refine q_iconst X (4) (by decide) dX12_sumOf_75 ?_
  obtain ⟨g1, h⟩ := q_ifE h
  refine q_irem X g1 dX12_sumOf_76 ?_
  refine q_imul X dX12_sumOf_77 ?_
  refine q_isub X dX12_sumOf_78 ?_
  refine q_lshl X dX12_sumOf_79 ?_
  refine q_ladd X dX12_sumOf_80 ?_
  refine q_lstore_n X 2 [(2, .long (l2 + ((s0.toInt64) <<< ((((24 : Int32) - ((8 : Int32) * (l5 - l5 / (4 : Int32) * (4 : Int32))))).toInt64 &&& 63)))), (6, .int (s0)), (0, va_rf (l0)), (1, .int (l1)), (4, .int (l4)), (5, .int (l5))] rfl (by decide) (by first | rfl | simp [List.filter, q_catR]) dX12_sumOf_81 ?_
  refine q_iinc X 5 5 (l5 + (1)) [(5, .int (l5 + (1))), (2, .long (l2 + ((s0.toInt64) <<< ((((24 : Int32) - ((8 : Int32) * (l5 - l5 / (4 : Int32) * (4 : Int32))))).toInt64 &&& 63)))), (6, .int (s0)), (0, va_rf (l0)), (1, .int (l1)), (4, .int (l4))] rfl (congrArg (fun z => l5 + z) (show Int32.ofInt (1) = (1) by decide)) (by decide) (by first | rfl | simp [List.filter, q_catR]) dX12_sumOf_82 ?_
  refine q_goto X 14 (by decide) dX12_sumOf_85 ?_
  refine q_lv [3, 4, 1, 5, 0] rfl ?_
  exact hk14 _ _ _ _ _ _ h
def m_X12_sumOf_49 (n : Nat) (k14 : q_S → Option Nat → Int32 → Int64 → Int32 → Int32 → Option (Int64 × q_S)) (S : q_S) (l0 : Option Nat) (l1 : Int32) (l2 : Int64) (l4 : Int32) (l5 : Int32) : Option (Int64 × q_S) := q_at (S) (l0) 13 (fun a1 => q_at (S) (q_R (S) a1 6) 100 (fun a2 => q_if (q_in (l1) (q_N (S) a2) = true) (q_at (S) (q_R (S) a1 1) 100 (fun a4 => q_if (q_in ((q_I (S) a2 (l1).toNatClampNeg) + l5) (q_N (S) a4) = true) (m_X12_sumOf_63 n k14 (S) (l0) (l1) (l2) (l4) (l5) (q_I (S) a4 ((q_I (S) a2 (l1).toNatClampNeg) + l5).toNatClampNeg))))))
set_option maxHeartbeats 4000000 in
set_option maxRecDepth 100000 in
theorem w_X12_sumOf_49 (X : q_X p s m args c cX12_sumOf 7 RX12 q_T D cy A) (hr : meth.sig.returnType = (some .long)) (hl : meth.locks = false)  {n : Nat} {Sv : q_S} {rv : Int64}  {k14 : q_S → Option Nat → Int32 → Int64 → Int32 → Int32 → Option (Int64 × q_S)} (hk14 : ∀ (S : q_S) (z0 : Option Nat) (z1 : Int32) (z2 : Int64) (z3 : Int32) (z4 : Int32), k14 S z0 z1 z2 z3 z4 = some (rv, Sv) → q_W p l e ({ frames := 1, cells := 0, slots := 0, locals := 23 } : Room) s m args below meth c (MQ below (va_Ql (fun (r : Int64) (u : q_S) => r = rv ∧ u = Sv) (q_B D cy A) A) args s 0 0 A) A D cy 7 0 0 S 14 [(0, va_rf (z0)), (1, .int (z1)), (2, .long (z2)), (4, .int (z3)), (5, .int (z4))] []) (S : q_S) (l0 : Option Nat) (l1 : Int32) (l2 : Int64) (l4 : Int32) (l5 : Int32) (h : m_X12_sumOf_49 n k14 S l0 l1 l2 l4 l5 = some (rv, Sv)) : q_W p l e ({ frames := 1, cells := 0, slots := 0, locals := 23 } : Room) s m args below meth c (MQ below (va_Ql (fun (r : Int64) (u : q_S) => r = rv ∧ u = Sv) (q_B D cy A) A) args s 0 0 A) A D cy 7 0 0 S 49 [(0, va_rf (l0)), (1, .int (l1)), (2, .long (l2)), (4, .int (l4)), (5, .int (l5))] [] := by
  unfold m_X12_sumOf_49 at h
  refine q_aload_n X 0 rfl dX12_sumOf_49 ?_
  obtain ⟨a1, ea1, ma1, ka1, h⟩ := q_atE h
  refine q_getR X 1 ea1 ma1 ka1 rfl tW_X12 (by decide) (by decide) tF_X12_7 rfl dX12_sumOf_50 ?_
  refine q_aload_n X 0 rfl dX12_sumOf_53 ?_
  refine q_getR X 6 ea1 ma1 ka1 rfl tW_X12 (by decide) (by decide) tF_X12_20 rfl dX12_sumOf_54 ?_
  refine q_iload_n X 1 rfl dX12_sumOf_57 ?_
  obtain ⟨a2, ea2, ma2, ka2, h⟩ := q_atE h
  obtain ⟨g3, h⟩ := q_ifE h
  refine q_iaload X ea2 ma2 ka2 (q_inE g3) dX12_sumOf_58 ?_
  refine q_iload X 4 rfl dX12_sumOf_59 ?_
  refine q_iadd X dX12_sumOf_61 ?_
  obtain ⟨a4, ea4, ma4, ka4, h⟩ := q_atE h
  obtain ⟨g5, h⟩ := q_ifE h
  refine q_iaload X ea4 ma4 ka4 (q_inE g5) dX12_sumOf_62 ?_
  exact w_X12_sumOf_63 X hr hl hk14 _ _ _ _ _ _ _ h
def m_X12_sumOf_14 (n : Nat) : Nat → q_S → Option Nat → Int32 → Int64 → Int32 → Int32 → Option (Int64 × q_S)
  | 0, _, _, _, _, _, _ => none
  | k + 1, S, l0, l1, l2, l4, l5 => q_at (S) (l0) 13 (fun a1 => q_at (S) (q_R (S) a1 7) 100 (fun a2 => q_if (q_in (l1) (q_N (S) a2) = true) ((if (q_I (S) a2 (l1).toNatClampNeg) ≤ l5 then some (l2 &&& (4294967295 : Int64), S) else (if l1 = l4 then (if l5 < (8 : Int32) then m_X12_sumOf_49 n (m_X12_sumOf_14 n k) (S) (l0) (l1) (l2) (l4) (l5) else (if (12 : Int32) ≤ l5 then m_X12_sumOf_49 n (m_X12_sumOf_14 n k) (S) (l0) (l1) (l2) (l4) (l5) else m_X12_sumOf_63 n (m_X12_sumOf_14 n k) (S) (l0) (l1) (l2) (l4) (l5) ((0 : Int32)))) else m_X12_sumOf_49 n (m_X12_sumOf_14 n k) (S) (l0) (l1) (l2) (l4) (l5))))))
set_option maxHeartbeats 4000000 in
set_option maxRecDepth 100000 in
theorem w_X12_sumOf_14 (X : q_X p s m args c cX12_sumOf 7 RX12 q_T D cy A) (hr : meth.sig.returnType = (some .long)) (hl : meth.locks = false)  {n : Nat} {Sv : q_S} {rv : Int64}  : ∀ (k : Nat) (S : q_S) (l0 : Option Nat) (l1 : Int32) (l2 : Int64) (l4 : Int32) (l5 : Int32), m_X12_sumOf_14 n k S l0 l1 l2 l4 l5 = some (rv, Sv) → q_W p l e ({ frames := 1, cells := 0, slots := 0, locals := 23 } : Room) s m args below meth c (MQ below (va_Ql (fun (r : Int64) (u : q_S) => r = rv ∧ u = Sv) (q_B D cy A) A) args s 0 0 A) A D cy 7 0 0 S 14 [(0, va_rf (l0)), (1, .int (l1)), (2, .long (l2)), (4, .int (l4)), (5, .int (l5))] [] := by
  intro k
  induction k with
  | zero => intro S l0 l1 l2 l4 l5 h; rw [m_X12_sumOf_14] at h; cases h
  | succ k ih =>
    intro S l0 l1 l2 l4 l5 h
    rw [m_X12_sumOf_14] at h
    refine q_iload X 4 rfl dX12_sumOf_14 ?_
    refine q_aload_n X 0 rfl dX12_sumOf_16 ?_
    obtain ⟨a1, ea1, ma1, ka1, h⟩ := q_atE h
    refine q_getR X 7 ea1 ma1 ka1 rfl tW_X12 (by decide) (by decide) tF_X12_23 rfl dX12_sumOf_17 ?_
    refine q_iload_n X 1 rfl dX12_sumOf_20 ?_
    obtain ⟨a2, ea2, ma2, ka2, h⟩ := q_atE h
    obtain ⟨g3, h⟩ := q_ifE h
    refine q_iaload X ea2 ma2 ka2 (q_inE g3) dX12_sumOf_21 ?_
    refine q_icmp_ge X 88 (by decide) dX12_sumOf_22 (fun g4 => ?_) (fun g4 => ?_)
    · rw [if_pos g4] at h
      refine q_lload_n X 2 rfl dX12_sumOf_88 ?_
      refine q_ldc2_w X (4294967295) tC_X12_131 dX12_sumOf_89 ?_
      refine q_land X dX12_sumOf_92 ?_
      obtain ⟨ev, eS⟩ := q_end h
      exact q_lret X hr hl ev eS dX12_sumOf_93
    · rw [if_neg g4] at h
      refine q_iload_n X 1 rfl dX12_sumOf_25 ?_
      refine q_iload X 3 rfl dX12_sumOf_26 ?_
      refine q_icmp_ne X 49 (by decide) dX12_sumOf_28 (fun g5 => ?_) (fun g5 => ?_)
      · rw [if_neg g5] at h
        exact w_X12_sumOf_49 X hr hl ih _ _ _ _ _ _ h
      · rw [if_pos g5] at h
        refine q_iload X 4 rfl dX12_sumOf_31 ?_
        refine q_bipush X (8) (by decide) dX12_sumOf_33 ?_
        refine q_icmp_lt X 49 (by decide) dX12_sumOf_35 (fun g6 => ?_) (fun g6 => ?_)
        · rw [if_pos g6] at h
          exact w_X12_sumOf_49 X hr hl ih _ _ _ _ _ _ h
        · rw [if_neg g6] at h
          refine q_iload X 4 rfl dX12_sumOf_38 ?_
          refine q_bipush X (12) (by decide) dX12_sumOf_40 ?_
          refine q_icmp_ge X 49 (by decide) dX12_sumOf_42 (fun g7 => ?_) (fun g7 => ?_)
          · rw [if_pos g7] at h
            exact w_X12_sumOf_49 X hr hl ih _ _ _ _ _ _ h
          · rw [if_neg g7] at h
            refine q_iconst X (0) (by decide) dX12_sumOf_45 ?_
            refine q_goto X 63 (by decide) dX12_sumOf_46 ?_
            exact w_X12_sumOf_63 X hr hl ih _ _ _ _ _ _ _ h
def m_X12_sumOf (n : Nat) (S : q_S) (o : Nat) (p0 : Int32) : Option (Int64 × q_S) := q_at (S) (some o) 13 (fun a1 => q_b (m_X12_find n (S) a1 ((1751474532 : Int64))) (fun r2 S3 => m_X12_sumOf_14 n n (S3) (some o) (p0) ((0 : Int64)) (r2) ((0 : Int32))))
set_option maxHeartbeats 4000000 in
set_option maxRecDepth 100000 in
theorem w_X12_sumOf (X : q_X p s m args c cX12_sumOf 7 RX12 q_T D cy A) (hr : meth.sig.returnType = (some .long)) (hl : meth.locks = false)  {n : Nat} {S Sv : q_S} {rv : Int64} {o : Nat} {p0 : Int32} (h : m_X12_sumOf n S o p0 = some (rv, Sv)) : q_W p l e ({ frames := 1, cells := 0, slots := 0, locals := 23 } : Room) s m args below meth c (MQ below (va_Ql (fun (r : Int64) (u : q_S) => r = rv ∧ u = Sv) (q_B D cy A) A) args s 0 0 A) A D cy 7 0 0 S 0 [(0, va_rf (some o)), (1, .int (p0))] [] := by
  unfold m_X12_sumOf at h
  refine q_lconst X (0) (by decide) dX12_sumOf_0 ?_
  refine q_lstore_n X 2 [(2, .long ((0 : Int64))), (0, va_rf (some o)), (1, .int (p0))] rfl (by decide) (by first | rfl | simp [List.filter, q_catR]) dX12_sumOf_1 ?_
  refine q_aload_n X 1 rfl dX12_sumOf_2 ?_
  refine q_ldc2_w X (1751474532) tC_X12_125 dX12_sumOf_3 ?_
  obtain ⟨a1, ea1, ma1, ka1, h⟩ := q_atE h
  obtain ⟨r2, S3, c4, h⟩ := q_bE h
  refine q_cVI X (As := [.long ((1751474532 : Int64))]) ea1 ma1 ka1 rfl (by decide) (c_X12_find c4) (q_cwV X tK_X12_find tM_X12_127 tI_X12_find tV_X12_find tN_X12 rfl rfl tD_X12_find ⟨Nat.le_of_ble_eq_true rfl, Nat.le_of_ble_eq_true rfl⟩) rfl rfl (by first | exact Nat.le_of_ble_eq_true rfl | (simp only [List.map, q_catR]; exact Nat.le_of_ble_eq_true rfl)) ⟨Nat.zero_le _, Nat.zero_le _⟩ dX12_sumOf_6 ?_
  refine q_istore X 4 [(4, .int (r2)), (2, .long ((0 : Int64))), (0, va_rf (some o)), (1, .int (p0))] (by decide) (by first | rfl | simp [List.filter, q_catR]) dX12_sumOf_9 ?_
  refine q_iconst X (0) (by decide) dX12_sumOf_11 ?_
  refine q_istore X 5 [(5, .int ((0 : Int32))), (4, .int (r2)), (2, .long ((0 : Int64))), (0, va_rf (some o)), (1, .int (p0))] (by decide) (by first | rfl | simp [List.filter, q_catR]) dX12_sumOf_12 ?_
  refine q_lv [3, 4, 2, 1, 0] rfl ?_
  exact w_X12_sumOf_14 X hr hl n _ _ _ _ _ _ h
theorem tD_X12_sumOf : yX12_sumOf.cls ≠ "java/lang/invoke/MethodHandle" ∧ yX12_sumOf.cls ≠ "java/lang/invoke/VarHandle" ∧ (parseMethodDescriptor yX12_sumOf.desc).map (fun d => d.parameters.length) = some 1 := by decide +kernel
theorem c_X12_sumOf {l : Launch} {D : va_G} {cy : Nat → ClassId} {n : Nat} {S Sv : q_S} {rv : Int64} {o : Nat} {p0 : Int32} (h : m_X12_sumOf n S o p0 = some (rv, Sv)) : q_MJ l yX12_sumOf (q_ws yX12_sumOf cX12_sumOf 7 ((some .long))) ({ frames := 1, cells := 0, slots := 0, locals := 23 } : Room) D cy [.ref o, .int (p0)] S rv Sv := by
  exact q_MJ_of (by decide +kernel) (Nat.le_of_ble_eq_true rfl) (fun p e s m args below meth c A X hr hl => w_X12_sumOf X hr hl h)
/-! TrueOutlinesModel.twoAt(I)I -/
def m_X12_twoAt (n : Nat) (S : q_S) (o : Nat) (p0 : Int32) : Option (Int32 × q_S) := q_at (S) (some o) 13 (fun a1 => q_at (S) (q_R (S) a1 1) 100 (fun a2 => q_if (q_in (p0) (q_N (S) a2) = true) (q_if (q_in (p0 + (1 : Int32)) (q_N (S) a2) = true) (some (((256 : Int32) * (q_I (S) a2 (p0).toNatClampNeg)) + (q_I (S) a2 (p0 + (1 : Int32)).toNatClampNeg), S)))))
set_option maxHeartbeats 4000000 in
set_option maxRecDepth 100000 in
theorem w_X12_twoAt (X : q_X p s m args c cX12_twoAt 2 RX12 q_T D cy A) (hr : meth.sig.returnType = (some .int)) (hl : meth.locks = false)  {n : Nat} {S Sv : q_S} {rv : Int32} {o : Nat} {p0 : Int32} (h : m_X12_twoAt n S o p0 = some (rv, Sv)) : q_W p l e ({ frames := 0, cells := 0, slots := 0, locals := 0 } : Room) s m args below meth c (MQ below (va_Qi (fun (r : Int32) (u : q_S) => r = rv ∧ u = Sv) (q_B D cy A) A) args s 0 0 A) A D cy 2 0 0 S 0 [(0, va_rf (some o)), (1, .int (p0))] [] := by
  unfold m_X12_twoAt at h
  refine q_sipush X (256) (by decide) dX12_twoAt_0 ?_
  refine q_aload_n X 0 rfl dX12_twoAt_3 ?_
  obtain ⟨a1, ea1, ma1, ka1, h⟩ := q_atE h
  refine q_getR X 1 ea1 ma1 ka1 rfl tW_X12 (by decide) (by decide) tF_X12_7 rfl dX12_twoAt_4 ?_
  refine q_iload_n X 1 rfl dX12_twoAt_7 ?_
  obtain ⟨a2, ea2, ma2, ka2, h⟩ := q_atE h
  obtain ⟨g3, h⟩ := q_ifE h
  refine q_iaload X ea2 ma2 ka2 (q_inE g3) dX12_twoAt_8 ?_
  refine q_imul X dX12_twoAt_9 ?_
  refine q_aload_n X 0 rfl dX12_twoAt_10 ?_
  refine q_getR X 1 ea1 ma1 ka1 rfl tW_X12 (by decide) (by decide) tF_X12_7 rfl dX12_twoAt_11 ?_
  refine q_iload_n X 1 rfl dX12_twoAt_14 ?_
  refine q_iconst X (1) (by decide) dX12_twoAt_15 ?_
  refine q_iadd X dX12_twoAt_16 ?_
  obtain ⟨g4, h⟩ := q_ifE h
  refine q_iaload X ea2 ma2 ka2 (q_inE g4) dX12_twoAt_17 ?_
  refine q_iadd X dX12_twoAt_18 ?_
  obtain ⟨ev, eS⟩ := q_end h
  exact q_iret X hr hl rfl ev eS dX12_twoAt_19
theorem tD_X12_twoAt : yX12_twoAt.cls ≠ "java/lang/invoke/MethodHandle" ∧ yX12_twoAt.cls ≠ "java/lang/invoke/VarHandle" ∧ (parseMethodDescriptor yX12_twoAt.desc).map (fun d => d.parameters.length) = some 1 := by decide +kernel
theorem c_X12_twoAt {l : Launch} {D : va_G} {cy : Nat → ClassId} {n : Nat} {S Sv : q_S} {rv : Int32} {o : Nat} {p0 : Int32} (h : m_X12_twoAt n S o p0 = some (rv, Sv)) : q_MI l yX12_twoAt (q_ws yX12_twoAt cX12_twoAt 2 ((some .int))) ({ frames := 0, cells := 0, slots := 0, locals := 0 } : Room) D cy [.ref o, .int (p0)] S rv Sv := by
  exact q_MI_of (by decide +kernel) (Nat.le_of_ble_eq_true rfl) (fun p e s m args below meth c A X hr hl => w_X12_twoAt X hr hl h)
/-! TrueOutlinesModel.read()I -/
def m_X12_read_217 (n : Nat) (k191 : q_S → Option Nat → Int32 → Int32 → Option (Int32 × q_S)) (S : q_S) (l0 : Option Nat) (l1 : Int32) (l2 : Int32) : Option (Int32 × q_S) := k191 (S) (l0) (l1) (l2 + (1))
set_option maxHeartbeats 4000000 in
set_option maxRecDepth 100000 in
theorem w_X12_read_217 (X : q_X p s m args c cX12_read 4 RX12 q_T D cy A) (hr : meth.sig.returnType = (some .int)) (hl : meth.locks = false)  {n : Nat} {Sv : q_S} {rv : Int32}  {k191 : q_S → Option Nat → Int32 → Int32 → Option (Int32 × q_S)} (hk191 : ∀ (S : q_S) (z0 : Option Nat) (z1 : Int32) (z2 : Int32), k191 S z0 z1 z2 = some (rv, Sv) → q_W p l e ({ frames := 2, cells := 0, slots := 0, locals := 49 } : Room) s m args below meth c (MQ below (va_Qi (fun (r : Int32) (u : q_S) => r = rv ∧ u = Sv) (q_B D cy A) A) args s 0 0 A) A D cy 4 0 0 S 191 [(0, va_rf (z0)), (1, .int (z1)), (2, .int (z2))] []) (S : q_S) (l0 : Option Nat) (l1 : Int32) (l2 : Int32) (h : m_X12_read_217 n k191 S l0 l1 l2 = some (rv, Sv)) : q_W p l e ({ frames := 2, cells := 0, slots := 0, locals := 49 } : Room) s m args below meth c (MQ below (va_Qi (fun (r : Int32) (u : q_S) => r = rv ∧ u = Sv) (q_B D cy A) A) args s 0 0 A) A D cy 4 0 0 S 217 [(0, va_rf (l0)), (1, .int (l1)), (2, .int (l2))] [] := by
  unfold m_X12_read_217 at h
  refine q_iinc X 2 2 (l2 + (1)) [(2, .int (l2 + (1))), (0, va_rf (l0)), (1, .int (l1))] rfl (congrArg (fun z => l2 + z) (show Int32.ofInt (1) = (1) by decide)) (by decide) (by first | rfl | simp [List.filter, q_catR]) dX12_read_217 ?_
  refine q_goto X 191 (by decide) dX12_read_220 ?_
  refine q_lv [1, 2, 0] rfl ?_
  exact hk191 _ _ _ _ h
def m_X12_read_191 (n : Nat) : Nat → q_S → Option Nat → Int32 → Int32 → Option (Int32 × q_S)
  | 0, _, _, _, _ => none
  | k + 1, S, l0, l1, l2 => (if l1 ≤ l2 then some (l1, S) else q_at (S) (l0) 13 (fun a2 => q_b (m_X12_sumOf n (S) a2 (l2)) (fun r3 S4 => q_at (S4) (l0) 13 (fun a6 => q_at (S4) (q_R (S4) a6 5) 101 (fun a7 => q_if (q_in (l2) (q_N (S4) a7) = true) ((if (lg_cmp (r3) ((q_J (S4) a7 (l2).toNatClampNeg))) = 0 then m_X12_read_217 n (m_X12_read_191 n k) (S4) (l0) (l1) (l2) else q_b (m_X12_tell n (S4) a6 ((2 : Int32)) (l2)) (fun _ S10 => m_X12_read_217 n (m_X12_read_191 n k) (S10) (l0) (l1) (l2)))))))))
set_option maxHeartbeats 4000000 in
set_option maxRecDepth 100000 in
theorem w_X12_read_191 (X : q_X p s m args c cX12_read 4 RX12 q_T D cy A) (hr : meth.sig.returnType = (some .int)) (hl : meth.locks = false)  {n : Nat} {Sv : q_S} {rv : Int32}  : ∀ (k : Nat) (S : q_S) (l0 : Option Nat) (l1 : Int32) (l2 : Int32), m_X12_read_191 n k S l0 l1 l2 = some (rv, Sv) → q_W p l e ({ frames := 2, cells := 0, slots := 0, locals := 49 } : Room) s m args below meth c (MQ below (va_Qi (fun (r : Int32) (u : q_S) => r = rv ∧ u = Sv) (q_B D cy A) A) args s 0 0 A) A D cy 4 0 0 S 191 [(0, va_rf (l0)), (1, .int (l1)), (2, .int (l2))] [] := by
  intro k
  induction k with
  | zero => intro S l0 l1 l2 h; rw [m_X12_read_191] at h; cases h
  | succ k ih =>
    intro S l0 l1 l2 h
    rw [m_X12_read_191] at h
    refine q_iload_n X 2 rfl dX12_read_191 ?_
    refine q_iload_n X 1 rfl dX12_read_192 ?_
    refine q_icmp_ge X 223 (by decide) dX12_read_193 (fun g1 => ?_) (fun g1 => ?_)
    · rw [if_pos g1] at h
      refine q_iload_n X 1 rfl dX12_read_223 ?_
      obtain ⟨ev, eS⟩ := q_end h
      exact q_iret X hr hl rfl ev eS dX12_read_224
    · rw [if_neg g1] at h
      refine q_aload_n X 0 rfl dX12_read_196 ?_
      refine q_iload_n X 2 rfl dX12_read_197 ?_
      obtain ⟨a2, ea2, ma2, ka2, h⟩ := q_atE h
      obtain ⟨r3, S4, c5, h⟩ := q_bE h
      refine q_cVJ X (As := [.int (l2)]) ea2 ma2 ka2 rfl (by decide) (c_X12_sumOf c5) (q_cwV X tK_X12_sumOf tM_X12_156 tI_X12_sumOf tV_X12_sumOf tN_X12 rfl rfl tD_X12_sumOf ⟨Nat.le_of_ble_eq_true rfl, Nat.le_of_ble_eq_true rfl⟩) rfl rfl (by first | exact Nat.le_of_ble_eq_true rfl | (simp only [List.map, q_catR]; exact Nat.le_of_ble_eq_true rfl)) ⟨Nat.zero_le _, Nat.zero_le _⟩ dX12_read_198 ?_
      refine q_aload_n X 0 rfl dX12_read_201 ?_
      obtain ⟨a6, ea6, ma6, ka6, h⟩ := q_atE h
      refine q_getR X 5 ea6 ma6 ka6 rfl tW_X12 (by decide) (by decide) tF_X12_17 rfl dX12_read_202 ?_
      refine q_iload_n X 2 rfl dX12_read_205 ?_
      obtain ⟨a7, ea7, ma7, ka7, h⟩ := q_atE h
      obtain ⟨g8, h⟩ := q_ifE h
      refine q_laload X ea7 ma7 ka7 (q_inE g8) dX12_read_206 ?_
      refine q_lcmp X dX12_read_207 ?_
      refine q_if_eq X 217 (by decide) dX12_read_208 (fun g9 => ?_) (fun g9 => ?_)
      · rw [if_pos g9] at h
        exact w_X12_read_217 X hr hl ih _ _ _ _ h
      · rw [if_neg g9] at h
        refine q_aload_n X 0 rfl dX12_read_211 ?_
        refine q_iconst X (2) (by decide) dX12_read_212 ?_
        refine q_iload_n X 2 rfl dX12_read_213 ?_
        obtain ⟨u12, S10, c11, h⟩ := q_bE h
        refine q_cVV X (As := [.int ((2 : Int32)), .int (l2)]) ea6 ma6 ka6 rfl (by decide) (c_X12_tell c11) (q_cwV X tK_X12_tell tM_X12_159 tI_X12_tell tV_X12_tell tN_X12 rfl rfl tD_X12_tell ⟨Nat.le_of_ble_eq_true rfl, Nat.le_of_ble_eq_true rfl⟩) rfl rfl (by first | exact Nat.le_of_ble_eq_true rfl | (simp only [List.map, q_catR]; exact Nat.le_of_ble_eq_true rfl)) ⟨Nat.zero_le _, Nat.zero_le _⟩ dX12_read_214 ?_
        exact w_X12_read_217 X hr hl ih _ _ _ _ h
def m_X12_read_120 (n : Nat) (S : q_S) (l2 : Int32) : Option (Int32 × q_S) := some ((-1 : Int32) - l2, S)
set_option maxHeartbeats 4000000 in
set_option maxRecDepth 100000 in
theorem w_X12_read_120 (X : q_X p s m args c cX12_read 4 RX12 q_T D cy A) (hr : meth.sig.returnType = (some .int)) (hl : meth.locks = false)  {n : Nat} {Sv : q_S} {rv : Int32}  (S : q_S) (l2 : Int32) (h : m_X12_read_120 n S l2 = some (rv, Sv)) : q_W p l e ({ frames := 2, cells := 0, slots := 0, locals := 49 } : Room) s m args below meth c (MQ below (va_Qi (fun (r : Int32) (u : q_S) => r = rv ∧ u = Sv) (q_B D cy A) A) args s 0 0 A) A D cy 4 0 0 S 120 [(2, .int (l2))] [] := by
  unfold m_X12_read_120 at h
  refine q_iconst X (-1) (by decide) dX12_read_120 ?_
  refine q_iload_n X 0 rfl dX12_read_121 ?_
  refine q_isub X dX12_read_122 ?_
  obtain ⟨ev, eS⟩ := q_end h
  exact q_iret X hr hl rfl ev eS dX12_read_123
def m_X12_read_70 (n : Nat) : Nat → q_S → Option Nat → Int32 → Int32 → Option (Int32 × q_S)
  | 0, _, _, _, _ => none
  | k + 1, S, l0, l1, l2 => (if l1 ≤ l2 then q_at (S) (l0) 13 (fun a2 => m_X12_read_191 n n (q_sI (S) a2 3 (l1)) (l0) (l1) ((0 : Int32))) else q_at (S) (l0) 13 (fun a3 => (if (q_I (S) a3 2) < (((12 : Int32) + ((16 : Int32) * l2)) + (16 : Int32)) then m_X12_read_120 n (S) (l2) else q_b (m_X12_fourAt n (S) a3 (((12 : Int32) + ((16 : Int32) * l2)) + (8 : Int32))) (fun r5 S6 => q_at (S6) (l0) 13 (fun a8 => q_b (m_X12_fourAt n (S6) a8 (((12 : Int32) + ((16 : Int32) * l2)) + (12 : Int32))) (fun r9 S10 => q_at (S10) (l0) 13 (fun a12 => (if (lg_cmp ((r5 + r9)) (((q_I (S10) a12 2).toInt64))) ≤ 0 then q_b (m_X12_fourAt n (S10) a12 ((12 : Int32) + ((16 : Int32) * l2))) (fun r14 S15 => q_at (S15) (q_R (S10) a12 4) 101 (fun a17 => q_if (q_in (l2) (q_N (S15) a17) = true) (q_at (q_sJ (S15) a17 (l2).toNatClampNeg (r14)) (l0) 13 (fun a19 => q_b (m_X12_fourAt n (q_sJ (S15) a17 (l2).toNatClampNeg (r14)) a19 (((12 : Int32) + ((16 : Int32) * l2)) + (4 : Int32))) (fun r20 S21 => q_at (S21) (q_R (q_sJ (S15) a17 (l2).toNatClampNeg (r14)) a19 5) 101 (fun a23 => q_if (q_in (l2) (q_N (S21) a23) = true) (q_at (q_sJ (S21) a23 (l2).toNatClampNeg (r20)) (l0) 13 (fun a25 => q_b (m_X12_fourAt n (q_sJ (S21) a23 (l2).toNatClampNeg (r20)) a25 (((12 : Int32) + ((16 : Int32) * l2)) + (8 : Int32))) (fun r26 S27 => q_at (S27) (q_R (q_sJ (S21) a23 (l2).toNatClampNeg (r20)) a25 6) 100 (fun a29 => q_if (q_in (l2) (q_N (S27) a29) = true) (q_at (q_sI (S27) a29 (l2).toNatClampNeg (r26.toInt32)) (l0) 13 (fun a31 => q_b (m_X12_fourAt n (q_sI (S27) a29 (l2).toNatClampNeg (r26.toInt32)) a31 (((12 : Int32) + ((16 : Int32) * l2)) + (12 : Int32))) (fun r32 S33 => q_at (S33) (q_R (q_sI (S27) a29 (l2).toNatClampNeg (r26.toInt32)) a31 7) 100 (fun a35 => q_if (q_in (l2) (q_N (S33) a35) = true) (m_X12_read_70 n k (q_sI (S33) a35 (l2).toNatClampNeg (r32.toInt32)) (l0) (l1) (l2 + (1))))))))))))))))) else m_X12_read_120 n (S10) (l2)))))))))
set_option maxHeartbeats 4000000 in
set_option maxRecDepth 100000 in
theorem w_X12_read_70 (X : q_X p s m args c cX12_read 4 RX12 q_T D cy A) (hr : meth.sig.returnType = (some .int)) (hl : meth.locks = false)  {n : Nat} {Sv : q_S} {rv : Int32}  : ∀ (k : Nat) (S : q_S) (l0 : Option Nat) (l1 : Int32) (l2 : Int32), m_X12_read_70 n k S l0 l1 l2 = some (rv, Sv) → q_W p l e ({ frames := 2, cells := 0, slots := 0, locals := 49 } : Room) s m args below meth c (MQ below (va_Qi (fun (r : Int32) (u : q_S) => r = rv ∧ u = Sv) (q_B D cy A) A) args s 0 0 A) A D cy 4 0 0 S 70 [(0, va_rf (l0)), (1, .int (l1)), (2, .int (l2))] [] := by
  intro k
  induction k with
  | zero => intro S l0 l1 l2 h; rw [m_X12_read_70] at h; cases h
  | succ k ih =>
    intro S l0 l1 l2 h
    rw [m_X12_read_70] at h
    refine q_iload_n X 2 rfl dX12_read_70 ?_
    refine q_iload_n X 1 rfl dX12_read_71 ?_
    refine q_icmp_ge X 184 (by decide) dX12_read_72 (fun g1 => ?_) (fun g1 => ?_)
    · rw [if_pos g1] at h
      refine q_aload_n X 0 rfl dX12_read_184 ?_
      refine q_iload_n X 1 rfl dX12_read_185 ?_
      obtain ⟨a2, ea2, ma2, ka2, h⟩ := q_atE h
      refine q_putI X 3 ea2 ma2 ka2 rfl tW_X12 (by decide) (by decide) tF_X12_111 tyX12 tyX12_ok nmX12 rfl (tyX12_ok 3 (by decide)) rfl rfl rfl dX12_read_186 ?_
      have ma2 : a2 ∈ q_L (q_sI (S) a2 3 (l1)) := q_LsI ma2
      have ka2 : q_K (q_sI (S) a2 3 (l1)) a2 = 13 := q_KsI ka2
      refine q_iconst X (0) (by decide) dX12_read_189 ?_
      refine q_istore_n X 2 [(2, .int ((0 : Int32))), (0, va_rf (l0)), (1, .int (l1))] rfl (by decide) (by first | rfl | simp [List.filter, q_catR]) dX12_read_190 ?_
      refine q_lv [1, 2, 0] rfl ?_
      exact w_X12_read_191 X hr hl n _ _ _ _ h
    · rw [if_neg g1] at h
      refine q_bipush X (12) (by decide) dX12_read_75 ?_
      refine q_bipush X (16) (by decide) dX12_read_77 ?_
      refine q_iload_n X 2 rfl dX12_read_79 ?_
      refine q_imul X dX12_read_80 ?_
      refine q_iadd X dX12_read_81 ?_
      refine q_istore_n X 3 [(3, .int ((12 : Int32) + ((16 : Int32) * l2))), (0, va_rf (l0)), (1, .int (l1)), (2, .int (l2))] rfl (by decide) (by first | rfl | simp [List.filter, q_catR]) dX12_read_82 ?_
      refine q_iload_n X 0 rfl dX12_read_83 ?_
      refine q_bipush X (16) (by decide) dX12_read_84 ?_
      refine q_iadd X dX12_read_86 ?_
      refine q_aload_n X 1 rfl dX12_read_87 ?_
      obtain ⟨a3, ea3, ma3, ka3, h⟩ := q_atE h
      refine q_getI X 2 ea3 ma3 ka3 rfl tW_X12 (by decide) (by decide) tF_X12_106 rfl dX12_read_88 ?_
      refine q_icmp_gt X 120 (by decide) dX12_read_91 (fun g4 => ?_) (fun g4 => ?_)
      · rw [if_pos g4] at h
        refine q_lv [3] rfl ?_
        exact w_X12_read_120 X hr hl _ _ h
      · rw [if_neg g4] at h
        refine q_aload_n X 1 rfl dX12_read_94 ?_
        refine q_iload_n X 0 rfl dX12_read_95 ?_
        refine q_bipush X (8) (by decide) dX12_read_96 ?_
        refine q_iadd X dX12_read_98 ?_
        obtain ⟨r5, S6, c7, h⟩ := q_bE h
        refine q_cVJ X (As := [.int (((12 : Int32) + ((16 : Int32) * l2)) + (8 : Int32))]) ea3 ma3 ka3 rfl (by decide) (c_X12_fourAt c7) (q_cwV X tK_X12_fourAt tM_X12_152 tI_X12_fourAt tV_X12_fourAt tN_X12 rfl rfl tD_X12_fourAt ⟨Nat.le_of_ble_eq_true rfl, Nat.le_of_ble_eq_true rfl⟩) rfl rfl (by first | exact Nat.le_of_ble_eq_true rfl | (simp only [List.map, q_catR]; exact Nat.le_of_ble_eq_true rfl)) ⟨Nat.zero_le _, Nat.zero_le _⟩ dX12_read_99 ?_
        refine q_aload_n X 1 rfl dX12_read_102 ?_
        refine q_iload_n X 0 rfl dX12_read_103 ?_
        refine q_bipush X (12) (by decide) dX12_read_104 ?_
        refine q_iadd X dX12_read_106 ?_
        obtain ⟨a8, ea8, ma8, ka8, h⟩ := q_atE h
        obtain ⟨r9, S10, c11, h⟩ := q_bE h
        refine q_cVJ X (As := [.int (((12 : Int32) + ((16 : Int32) * l2)) + (12 : Int32))]) ea8 ma8 ka8 rfl (by decide) (c_X12_fourAt c11) (q_cwV X tK_X12_fourAt tM_X12_152 tI_X12_fourAt tV_X12_fourAt tN_X12 rfl rfl tD_X12_fourAt ⟨Nat.le_of_ble_eq_true rfl, Nat.le_of_ble_eq_true rfl⟩) rfl rfl (by first | exact Nat.le_of_ble_eq_true rfl | (simp only [List.map, q_catR]; exact Nat.le_of_ble_eq_true rfl)) ⟨Nat.zero_le _, Nat.zero_le _⟩ dX12_read_107 ?_
        refine q_ladd X dX12_read_110 ?_
        refine q_aload_n X 1 rfl dX12_read_111 ?_
        obtain ⟨a12, ea12, ma12, ka12, h⟩ := q_atE h
        refine q_getI X 2 ea12 ma12 ka12 rfl tW_X12 (by decide) (by decide) tF_X12_106 rfl dX12_read_112 ?_
        refine q_i2l X dX12_read_115 ?_
        refine q_lcmp X dX12_read_116 ?_
        refine q_if_le X 124 (by decide) dX12_read_117 (fun g13 => ?_) (fun g13 => ?_)
        · rw [if_pos g13] at h
          refine q_aload_n X 1 rfl dX12_read_124 ?_
          refine q_getR X 4 ea12 ma12 ka12 rfl tW_X12 (by decide) (by decide) tF_X12_13 rfl dX12_read_125 ?_
          refine q_iload_n X 3 rfl dX12_read_128 ?_
          refine q_aload_n X 1 rfl dX12_read_129 ?_
          refine q_iload_n X 0 rfl dX12_read_130 ?_
          obtain ⟨r14, S15, c16, h⟩ := q_bE h
          refine q_cVJ X (As := [.int ((12 : Int32) + ((16 : Int32) * l2))]) ea12 ma12 ka12 rfl (by decide) (c_X12_fourAt c16) (q_cwV X tK_X12_fourAt tM_X12_152 tI_X12_fourAt tV_X12_fourAt tN_X12 rfl rfl tD_X12_fourAt ⟨Nat.le_of_ble_eq_true rfl, Nat.le_of_ble_eq_true rfl⟩) rfl rfl (by first | exact Nat.le_of_ble_eq_true rfl | (simp only [List.map, q_catR]; exact Nat.le_of_ble_eq_true rfl)) ⟨Nat.zero_le _, Nat.zero_le _⟩ dX12_read_131 ?_
          obtain ⟨a17, ea17, ma17, ka17, h⟩ := q_atE h
          obtain ⟨g18, h⟩ := q_ifE h
          refine q_lastore X ea17 ma17 ka17 (q_inE g18) dX12_read_134 ?_
          have ma17 : a17 ∈ q_L (q_sJ (S15) a17 (l2).toNatClampNeg (r14)) := q_LsJ ma17
          have ka17 : q_K (q_sJ (S15) a17 (l2).toNatClampNeg (r14)) a17 = 101 := q_KsJ ka17
          refine q_aload_n X 1 rfl dX12_read_135 ?_
          obtain ⟨a19, ea19, ma19, ka19, h⟩ := q_atE h
          refine q_getR X 5 ea19 ma19 ka19 rfl tW_X12 (by decide) (by decide) tF_X12_17 rfl dX12_read_136 ?_
          refine q_iload_n X 3 rfl dX12_read_139 ?_
          refine q_aload_n X 1 rfl dX12_read_140 ?_
          refine q_iload_n X 0 rfl dX12_read_141 ?_
          refine q_iconst X (4) (by decide) dX12_read_142 ?_
          refine q_iadd X dX12_read_143 ?_
          obtain ⟨r20, S21, c22, h⟩ := q_bE h
          refine q_cVJ X (As := [.int (((12 : Int32) + ((16 : Int32) * l2)) + (4 : Int32))]) ea19 ma19 ka19 rfl (by decide) (c_X12_fourAt c22) (q_cwV X tK_X12_fourAt tM_X12_152 tI_X12_fourAt tV_X12_fourAt tN_X12 rfl rfl tD_X12_fourAt ⟨Nat.le_of_ble_eq_true rfl, Nat.le_of_ble_eq_true rfl⟩) rfl rfl (by first | exact Nat.le_of_ble_eq_true rfl | (simp only [List.map, q_catR]; exact Nat.le_of_ble_eq_true rfl)) ⟨Nat.zero_le _, Nat.zero_le _⟩ dX12_read_144 ?_
          obtain ⟨a23, ea23, ma23, ka23, h⟩ := q_atE h
          obtain ⟨g24, h⟩ := q_ifE h
          refine q_lastore X ea23 ma23 ka23 (q_inE g24) dX12_read_147 ?_
          have ma23 : a23 ∈ q_L (q_sJ (S21) a23 (l2).toNatClampNeg (r20)) := q_LsJ ma23
          have ka23 : q_K (q_sJ (S21) a23 (l2).toNatClampNeg (r20)) a23 = 101 := q_KsJ ka23
          refine q_aload_n X 1 rfl dX12_read_148 ?_
          obtain ⟨a25, ea25, ma25, ka25, h⟩ := q_atE h
          refine q_getR X 6 ea25 ma25 ka25 rfl tW_X12 (by decide) (by decide) tF_X12_20 rfl dX12_read_149 ?_
          refine q_iload_n X 3 rfl dX12_read_152 ?_
          refine q_aload_n X 1 rfl dX12_read_153 ?_
          refine q_iload_n X 0 rfl dX12_read_154 ?_
          refine q_bipush X (8) (by decide) dX12_read_155 ?_
          refine q_iadd X dX12_read_157 ?_
          obtain ⟨r26, S27, c28, h⟩ := q_bE h
          refine q_cVJ X (As := [.int (((12 : Int32) + ((16 : Int32) * l2)) + (8 : Int32))]) ea25 ma25 ka25 rfl (by decide) (c_X12_fourAt c28) (q_cwV X tK_X12_fourAt tM_X12_152 tI_X12_fourAt tV_X12_fourAt tN_X12 rfl rfl tD_X12_fourAt ⟨Nat.le_of_ble_eq_true rfl, Nat.le_of_ble_eq_true rfl⟩) rfl rfl (by first | exact Nat.le_of_ble_eq_true rfl | (simp only [List.map, q_catR]; exact Nat.le_of_ble_eq_true rfl)) ⟨Nat.zero_le _, Nat.zero_le _⟩ dX12_read_158 ?_
          refine q_l2i X dX12_read_161 ?_
          obtain ⟨a29, ea29, ma29, ka29, h⟩ := q_atE h
          obtain ⟨g30, h⟩ := q_ifE h
          refine q_iastore X ea29 ma29 ka29 (q_inE g30) dX12_read_162 ?_
          have ma29 : a29 ∈ q_L (q_sI (S27) a29 (l2).toNatClampNeg (r26.toInt32)) := q_LsI ma29
          have ka29 : q_K (q_sI (S27) a29 (l2).toNatClampNeg (r26.toInt32)) a29 = 100 := q_KsI ka29
          refine q_aload_n X 1 rfl dX12_read_163 ?_
          obtain ⟨a31, ea31, ma31, ka31, h⟩ := q_atE h
          refine q_getR X 7 ea31 ma31 ka31 rfl tW_X12 (by decide) (by decide) tF_X12_23 rfl dX12_read_164 ?_
          refine q_iload_n X 3 rfl dX12_read_167 ?_
          refine q_aload_n X 1 rfl dX12_read_168 ?_
          refine q_iload_n X 0 rfl dX12_read_169 ?_
          refine q_bipush X (12) (by decide) dX12_read_170 ?_
          refine q_iadd X dX12_read_172 ?_
          obtain ⟨r32, S33, c34, h⟩ := q_bE h
          refine q_cVJ X (As := [.int (((12 : Int32) + ((16 : Int32) * l2)) + (12 : Int32))]) ea31 ma31 ka31 rfl (by decide) (c_X12_fourAt c34) (q_cwV X tK_X12_fourAt tM_X12_152 tI_X12_fourAt tV_X12_fourAt tN_X12 rfl rfl tD_X12_fourAt ⟨Nat.le_of_ble_eq_true rfl, Nat.le_of_ble_eq_true rfl⟩) rfl rfl (by first | exact Nat.le_of_ble_eq_true rfl | (simp only [List.map, q_catR]; exact Nat.le_of_ble_eq_true rfl)) ⟨Nat.zero_le _, Nat.zero_le _⟩ dX12_read_173 ?_
          refine q_l2i X dX12_read_176 ?_
          obtain ⟨a35, ea35, ma35, ka35, h⟩ := q_atE h
          obtain ⟨g36, h⟩ := q_ifE h
          refine q_iastore X ea35 ma35 ka35 (q_inE g36) dX12_read_177 ?_
          have ma35 : a35 ∈ q_L (q_sI (S33) a35 (l2).toNatClampNeg (r32.toInt32)) := q_LsI ma35
          have ka35 : q_K (q_sI (S33) a35 (l2).toNatClampNeg (r32.toInt32)) a35 = 100 := q_KsI ka35
          refine q_iinc X 2 3 (l2 + (1)) [(2, .int (l2 + (1))), (3, .int ((12 : Int32) + ((16 : Int32) * l2))), (0, va_rf (l0)), (1, .int (l1))] rfl (congrArg (fun z => l2 + z) (show Int32.ofInt (1) = (1) by decide)) (by decide) (by first | rfl | simp [List.filter, q_catR]) dX12_read_178 ?_
          refine q_goto X 70 (by decide) dX12_read_181 ?_
          refine q_lv [2, 3, 0] rfl ?_
          exact ih _ _ _ _ h
        · rw [if_neg g13] at h
          refine q_lv [3] rfl ?_
          exact w_X12_read_120 X hr hl _ _ h
def m_X12_read_67 (n : Nat) (S : q_S) (l0 : Option Nat) (s0 : Int32) : Option (Int32 × q_S) := m_X12_read_70 n n (S) (l0) (s0) ((0 : Int32))
set_option maxHeartbeats 4000000 in
set_option maxRecDepth 100000 in
theorem w_X12_read_67 (X : q_X p s m args c cX12_read 4 RX12 q_T D cy A) (hr : meth.sig.returnType = (some .int)) (hl : meth.locks = false)  {n : Nat} {Sv : q_S} {rv : Int32}  (S : q_S) (l0 : Option Nat) (s0 : Int32) (h : m_X12_read_67 n S l0 s0 = some (rv, Sv)) : q_W p l e ({ frames := 2, cells := 0, slots := 0, locals := 49 } : Room) s m args below meth c (MQ below (va_Qi (fun (r : Int32) (u : q_S) => r = rv ∧ u = Sv) (q_B D cy A) A) args s 0 0 A) A D cy 4 0 0 S 67 [(0, va_rf (l0))] [.int (s0)] := by
  unfold m_X12_read_67 at h
  refine q_istore_n X 1 [(1, .int (s0)), (0, va_rf (l0))] rfl (by decide) (by first | rfl | simp [List.filter, q_catR]) dX12_read_67 ?_
  refine q_iconst X (0) (by decide) dX12_read_68 ?_
  refine q_istore_n X 2 [(2, .int ((0 : Int32))), (1, .int (s0)), (0, va_rf (l0))] rfl (by decide) (by first | rfl | simp [List.filter, q_catR]) dX12_read_69 ?_
  refine q_lv [2, 1, 0] rfl ?_
  exact w_X12_read_70 X hr hl n _ _ _ _ h
def m_X12_read_16 (n : Nat) : Nat → q_S → Option Nat → Int32 → Option (Int32 × q_S)
  | 0, _, _, _ => none
  | k + 1, S, l0, l1 => (if (200 : Int32) ≤ l1 then q_at (S) (l0) 13 (fun a2 => (if (12 : Int32) ≤ (q_I (S) a2 2) then q_b (m_X12_twoAt n (S) a2 ((4 : Int32))) (fun r4 S5 => (if r4 ≤ (24 : Int32) then q_at (S5) (l0) 13 (fun a8 => q_b (m_X12_twoAt n (S5) a8 ((4 : Int32))) (fun r9 S10 => m_X12_read_67 n (S10) (l0) (r9))) else m_X12_read_67 n (S5) (l0) ((24 : Int32)))) else some ((-1 : Int32), S))) else q_at (S) (l0) 13 (fun a12 => q_at (S) (q_R (S) a12 9) 102 (fun a13 => q_if (q_in (l1) (q_N (S) a13) = true) (m_X12_read_16 n k (q_sI (S) a13 (l1).toNatClampNeg (vp_nar .boolean ((0 : Int32)))) (l0) (l1 + (1))))))
set_option maxHeartbeats 4000000 in
set_option maxRecDepth 100000 in
theorem w_X12_read_16 (X : q_X p s m args c cX12_read 4 RX12 q_T D cy A) (hr : meth.sig.returnType = (some .int)) (hl : meth.locks = false)  {n : Nat} {Sv : q_S} {rv : Int32}  : ∀ (k : Nat) (S : q_S) (l0 : Option Nat) (l1 : Int32), m_X12_read_16 n k S l0 l1 = some (rv, Sv) → q_W p l e ({ frames := 2, cells := 0, slots := 0, locals := 49 } : Room) s m args below meth c (MQ below (va_Qi (fun (r : Int32) (u : q_S) => r = rv ∧ u = Sv) (q_B D cy A) A) args s 0 0 A) A D cy 4 0 0 S 16 [(0, va_rf (l0)), (1, .int (l1))] [] := by
  intro k
  induction k with
  | zero => intro S l0 l1 h; rw [m_X12_read_16] at h; cases h
  | succ k ih =>
    intro S l0 l1 h
    rw [m_X12_read_16] at h
    refine q_iload_n X 1 rfl dX12_read_16 ?_
    refine q_sipush X (200) (by decide) dX12_read_17 ?_
    refine q_icmp_ge X 36 (by decide) dX12_read_20 (fun g1 => ?_) (fun g1 => ?_)
    · rw [if_pos g1] at h
      refine q_aload_n X 0 rfl dX12_read_36 ?_
      obtain ⟨a2, ea2, ma2, ka2, h⟩ := q_atE h
      refine q_getI X 2 ea2 ma2 ka2 rfl tW_X12 (by decide) (by decide) tF_X12_106 rfl dX12_read_37 ?_
      refine q_bipush X (12) (by decide) dX12_read_40 ?_
      refine q_icmp_ge X 47 (by decide) dX12_read_42 (fun g3 => ?_) (fun g3 => ?_)
      · rw [if_pos g3] at h
        refine q_aload_n X 0 rfl dX12_read_47 ?_
        refine q_iconst X (4) (by decide) dX12_read_48 ?_
        obtain ⟨r4, S5, c6, h⟩ := q_bE h
        refine q_cVI X (As := [.int ((4 : Int32))]) ea2 ma2 ka2 rfl (by decide) (c_X12_twoAt c6) (q_cwV X tK_X12_twoAt tM_X12_148 tI_X12_twoAt tV_X12_twoAt tN_X12 rfl rfl tD_X12_twoAt ⟨Nat.le_of_ble_eq_true rfl, Nat.le_of_ble_eq_true rfl⟩) rfl rfl (by first | exact Nat.le_of_ble_eq_true rfl | (simp only [List.map, q_catR]; exact Nat.le_of_ble_eq_true rfl)) ⟨Nat.zero_le _, Nat.zero_le _⟩ dX12_read_49 ?_
        refine q_bipush X (24) (by decide) dX12_read_52 ?_
        refine q_icmp_le X 62 (by decide) dX12_read_54 (fun g7 => ?_) (fun g7 => ?_)
        · rw [if_pos g7] at h
          refine q_aload_n X 0 rfl dX12_read_62 ?_
          refine q_iconst X (4) (by decide) dX12_read_63 ?_
          obtain ⟨a8, ea8, ma8, ka8, h⟩ := q_atE h
          obtain ⟨r9, S10, c11, h⟩ := q_bE h
          refine q_cVI X (As := [.int ((4 : Int32))]) ea8 ma8 ka8 rfl (by decide) (c_X12_twoAt c11) (q_cwV X tK_X12_twoAt tM_X12_148 tI_X12_twoAt tV_X12_twoAt tN_X12 rfl rfl tD_X12_twoAt ⟨Nat.le_of_ble_eq_true rfl, Nat.le_of_ble_eq_true rfl⟩) rfl rfl (by first | exact Nat.le_of_ble_eq_true rfl | (simp only [List.map, q_catR]; exact Nat.le_of_ble_eq_true rfl)) ⟨Nat.zero_le _, Nat.zero_le _⟩ dX12_read_64 ?_
          refine q_lv [0] rfl ?_
          exact w_X12_read_67 X hr hl _ _ _ h
        · rw [if_neg g7] at h
          refine q_bipush X (24) (by decide) dX12_read_57 ?_
          refine q_goto X 67 (by decide) dX12_read_59 ?_
          refine q_lv [0] rfl ?_
          exact w_X12_read_67 X hr hl _ _ _ h
      · rw [if_neg g3] at h
        refine q_iconst X (-1) (by decide) dX12_read_45 ?_
        obtain ⟨ev, eS⟩ := q_end h
        exact q_iret X hr hl rfl ev eS dX12_read_46
    · rw [if_neg g1] at h
      refine q_aload_n X 0 rfl dX12_read_23 ?_
      obtain ⟨a12, ea12, ma12, ka12, h⟩ := q_atE h
      refine q_getR X 9 ea12 ma12 ka12 rfl tW_X12 (by decide) (by decide) tF_X12_26 rfl dX12_read_24 ?_
      refine q_iload_n X 1 rfl dX12_read_27 ?_
      refine q_iconst X (0) (by decide) dX12_read_28 ?_
      obtain ⟨a13, ea13, ma13, ka13, h⟩ := q_atE h
      obtain ⟨g14, h⟩ := q_ifE h
      refine q_zastore X ea13 ma13 ka13 (q_inE g14) dX12_read_29 ?_
      have ma12 : a12 ∈ q_L (q_sI (S) a13 (l1).toNatClampNeg (vp_nar .boolean ((0 : Int32)))) := q_LsI ma12
      have ka12 : q_K (q_sI (S) a13 (l1).toNatClampNeg (vp_nar .boolean ((0 : Int32)))) a12 = 13 := q_KsI ka12
      have ma13 : a13 ∈ q_L (q_sI (S) a13 (l1).toNatClampNeg (vp_nar .boolean ((0 : Int32)))) := q_LsI ma13
      have ka13 : q_K (q_sI (S) a13 (l1).toNatClampNeg (vp_nar .boolean ((0 : Int32)))) a13 = 102 := q_KsI ka13
      refine q_iinc X 1 1 (l1 + (1)) [(1, .int (l1 + (1))), (0, va_rf (l0))] rfl (congrArg (fun z => l1 + z) (show Int32.ofInt (1) = (1) by decide)) (by decide) (by first | rfl | simp [List.filter, q_catR]) dX12_read_30 ?_
      refine q_goto X 16 (by decide) dX12_read_33 ?_
      refine q_lv [1, 0] rfl ?_
      exact ih _ _ _ h
def m_X12_read (n : Nat) (S : q_S) (o : Nat)  : Option (Int32 × q_S) := q_at (S) (some o) 13 (fun a1 => q_b (m_X12_forgetRun n (q_sI (S) a1 0 ((0 : Int32))) a1) (fun _ S2 => q_at (S2) (some o) 13 (fun a5 => m_X12_read_16 n n (q_sI (S2) a5 3 ((0 : Int32))) (some o) ((0 : Int32)))))
set_option maxHeartbeats 4000000 in
set_option maxRecDepth 100000 in
theorem w_X12_read (X : q_X p s m args c cX12_read 4 RX12 q_T D cy A) (hr : meth.sig.returnType = (some .int)) (hl : meth.locks = false)  {n : Nat} {S Sv : q_S} {rv : Int32} {o : Nat}  (h : m_X12_read n S o = some (rv, Sv)) : q_W p l e ({ frames := 2, cells := 0, slots := 0, locals := 49 } : Room) s m args below meth c (MQ below (va_Qi (fun (r : Int32) (u : q_S) => r = rv ∧ u = Sv) (q_B D cy A) A) args s 0 0 A) A D cy 4 0 0 S 0 [(0, va_rf (some o))] [] := by
  unfold m_X12_read at h
  refine q_aload_n X 0 rfl dX12_read_0 ?_
  refine q_iconst X (0) (by decide) dX12_read_1 ?_
  obtain ⟨a1, ea1, ma1, ka1, h⟩ := q_atE h
  refine q_putI X 0 ea1 ma1 ka1 rfl tW_X12 (by decide) (by decide) tF_X12_96 tyX12 tyX12_ok nmX12 rfl (tyX12_ok 0 (by decide)) rfl rfl rfl dX12_read_2 ?_
  have ma1 : a1 ∈ q_L (q_sI (S) a1 0 ((0 : Int32))) := q_LsI ma1
  have ka1 : q_K (q_sI (S) a1 0 ((0 : Int32))) a1 = 13 := q_KsI ka1
  refine q_aload_n X 0 rfl dX12_read_5 ?_
  obtain ⟨u4, S2, c3, h⟩ := q_bE h
  refine q_cVV X (As := []) ea1 ma1 ka1 rfl (by decide) (c_X12_forgetRun c3) (q_cwV X tK_X12_forgetRun tM_X12_145 tI_X12_forgetRun tV_X12_forgetRun tN_X12 rfl rfl tD_X12_forgetRun ⟨Nat.le_of_ble_eq_true rfl, Nat.le_of_ble_eq_true rfl⟩) rfl rfl (by first | exact Nat.le_of_ble_eq_true rfl | (simp only [List.map, q_catR]; exact Nat.le_of_ble_eq_true rfl)) ⟨Nat.zero_le _, Nat.zero_le _⟩ dX12_read_6 ?_
  refine q_aload_n X 0 rfl dX12_read_9 ?_
  refine q_iconst X (0) (by decide) dX12_read_10 ?_
  obtain ⟨a5, ea5, ma5, ka5, h⟩ := q_atE h
  refine q_putI X 3 ea5 ma5 ka5 rfl tW_X12 (by decide) (by decide) tF_X12_111 tyX12 tyX12_ok nmX12 rfl (tyX12_ok 3 (by decide)) rfl rfl rfl dX12_read_11 ?_
  have ma5 : a5 ∈ q_L (q_sI (S2) a5 3 ((0 : Int32))) := q_LsI ma5
  have ka5 : q_K (q_sI (S2) a5 3 ((0 : Int32))) a5 = 13 := q_KsI ka5
  refine q_iconst X (0) (by decide) dX12_read_14 ?_
  refine q_istore_n X 1 [(1, .int ((0 : Int32))), (0, va_rf (some o))] rfl (by decide) (by first | rfl | simp [List.filter, q_catR]) dX12_read_15 ?_
  refine q_lv [1, 0] rfl ?_
  exact w_X12_read_16 X hr hl n _ _ _ h
theorem tD_X12_read : yX12_read.cls ≠ "java/lang/invoke/MethodHandle" ∧ yX12_read.cls ≠ "java/lang/invoke/VarHandle" ∧ (parseMethodDescriptor yX12_read.desc).map (fun d => d.parameters.length) = some 0 := by decide +kernel
theorem c_X12_read {l : Launch} {D : va_G} {cy : Nat → ClassId} {n : Nat} {S Sv : q_S} {rv : Int32} {o : Nat}  (h : m_X12_read n S o = some (rv, Sv)) : q_MI l yX12_read (q_ws yX12_read cX12_read 4 ((some .int))) ({ frames := 2, cells := 0, slots := 0, locals := 49 } : Room) D cy [.ref o] S rv Sv := by
  exact q_MI_of (by decide +kernel) (Nat.le_of_ble_eq_true rfl) (fun p e s m args below meth c A X hr hl => w_X12_read X hr hl h)
/-! TrueOutlinesModel.run(I)I -/
def m_X12_run_90 (n : Nat) (k53 : q_S → Option Nat → Int32 → Int32 → Option (Int32 × q_S)) (S : q_S) (l0 : Option Nat) (l4 : Int32) : Option (Int32 × q_S) := q_at (S) (l0) 13 (fun a1 => q_at (S) (q_R (S) a1 19) 100 (fun a2 => q_if (q_in (l4) (q_N (S) a2) = true) (k53 (S) (l0) ((q_I (S) a2 (l4).toNatClampNeg) + (1 : Int32)) (l4 + (1)))))
set_option maxHeartbeats 4000000 in
set_option maxRecDepth 100000 in
theorem w_X12_run_90 (X : q_X p s m args c cX12_run 6 RX12 q_T D cy A) (hr : meth.sig.returnType = (some .int)) (hl : meth.locks = false)  {n : Nat} {Sv : q_S} {rv : Int32}  {k53 : q_S → Option Nat → Int32 → Int32 → Option (Int32 × q_S)} (hk53 : ∀ (S : q_S) (z0 : Option Nat) (z1 : Int32) (z2 : Int32), k53 S z0 z1 z2 = some (rv, Sv) → q_W p l e ({ frames := 6, cells := 0, slots := 0, locals := 153 } : Room) s m args below meth c (MQ below (va_Qi (fun (r : Int32) (u : q_S) => r = rv ∧ u = Sv) (q_B D cy A) A) args s 0 0 A) A D cy 6 0 0 S 53 [(0, va_rf (z0)), (3, .int (z1)), (4, .int (z2))] []) (S : q_S) (l0 : Option Nat) (l4 : Int32) (h : m_X12_run_90 n k53 S l0 l4 = some (rv, Sv)) : q_W p l e ({ frames := 6, cells := 0, slots := 0, locals := 153 } : Room) s m args below meth c (MQ below (va_Qi (fun (r : Int32) (u : q_S) => r = rv ∧ u = Sv) (q_B D cy A) A) args s 0 0 A) A D cy 6 0 0 S 90 [(0, va_rf (l0)), (4, .int (l4))] [] := by
  unfold m_X12_run_90 at h
  refine q_aload_n X 0 rfl dX12_run_90 ?_
  obtain ⟨a1, ea1, ma1, ka1, h⟩ := q_atE h
  refine q_getR X 19 ea1 ma1 ka1 rfl tW_X12 (by decide) (by decide) tF_X12_48 rfl dX12_run_91 ?_
  refine q_iload X 1 rfl dX12_run_94 ?_
  obtain ⟨a2, ea2, ma2, ka2, h⟩ := q_atE h
  obtain ⟨g3, h⟩ := q_ifE h
  refine q_iaload X ea2 ma2 ka2 (q_inE g3) dX12_run_96 ?_
  refine q_iconst X (1) (by decide) dX12_run_97 ?_
  refine q_iadd X dX12_run_98 ?_
  refine q_istore_n X 3 [(3, .int ((q_I (S) a2 (l4).toNatClampNeg) + (1 : Int32))), (0, va_rf (l0)), (4, .int (l4))] rfl (by decide) (by first | rfl | simp [List.filter, q_catR]) dX12_run_99 ?_
  refine q_iinc X 4 2 (l4 + (1)) [(4, .int (l4 + (1))), (3, .int ((q_I (S) a2 (l4).toNatClampNeg) + (1 : Int32))), (0, va_rf (l0))] rfl (congrArg (fun z => l4 + z) (show Int32.ofInt (1) = (1) by decide)) (by decide) (by first | rfl | simp [List.filter, q_catR]) dX12_run_100 ?_
  refine q_goto X 53 (by decide) dX12_run_103 ?_
  refine q_lv [2, 1, 0] rfl ?_
  exact hk53 _ _ _ _ h
def m_X12_run_53 (n : Nat) : Nat → q_S → Option Nat → Int32 → Int32 → Option (Int32 × q_S)
  | 0, _, _, _, _ => none
  | k + 1, S, l0, l3, l4 => q_at (S) (l0) 13 (fun a1 => (if (q_I (S) a1 18) ≤ l4 then some (q_I (S) a1 36, S) else q_at (S) (q_R (S) a1 19) 100 (fun a3 => q_if (q_in (l4) (q_N (S) a3) = true) ((if (((q_I (S) a3 (l4).toNatClampNeg) + (1 : Int32)) - l3) ≤ (1 : Int32) then m_X12_run_90 n (m_X12_run_53 n k) (S) (l0) (l4) else q_b (m_X12_goRound n (S) a1 (l4) (l3) (((q_I (S) a3 (l4).toNatClampNeg) + (1 : Int32)) - l3)) (fun _ S6 => m_X12_run_90 n (m_X12_run_53 n k) (S6) (l0) (l4)))))))
set_option maxHeartbeats 4000000 in
set_option maxRecDepth 100000 in
theorem w_X12_run_53 (X : q_X p s m args c cX12_run 6 RX12 q_T D cy A) (hr : meth.sig.returnType = (some .int)) (hl : meth.locks = false)  {n : Nat} {Sv : q_S} {rv : Int32}  : ∀ (k : Nat) (S : q_S) (l0 : Option Nat) (l3 : Int32) (l4 : Int32), m_X12_run_53 n k S l0 l3 l4 = some (rv, Sv) → q_W p l e ({ frames := 6, cells := 0, slots := 0, locals := 153 } : Room) s m args below meth c (MQ below (va_Qi (fun (r : Int32) (u : q_S) => r = rv ∧ u = Sv) (q_B D cy A) A) args s 0 0 A) A D cy 6 0 0 S 53 [(0, va_rf (l0)), (3, .int (l3)), (4, .int (l4))] [] := by
  intro k
  induction k with
  | zero => intro S l0 l3 l4 h; rw [m_X12_run_53] at h; cases h
  | succ k ih =>
    intro S l0 l3 l4 h
    rw [m_X12_run_53] at h
    refine q_iload X 2 rfl dX12_run_53 ?_
    refine q_aload_n X 0 rfl dX12_run_55 ?_
    obtain ⟨a1, ea1, ma1, ka1, h⟩ := q_atE h
    refine q_getI X 18 ea1 ma1 ka1 rfl tW_X12 (by decide) (by decide) tF_X12_139 rfl dX12_run_56 ?_
    refine q_icmp_ge X 106 (by decide) dX12_run_59 (fun g2 => ?_) (fun g2 => ?_)
    · rw [if_pos g2] at h
      refine q_aload_n X 0 rfl dX12_run_106 ?_
      refine q_getI X 36 ea1 ma1 ka1 rfl tW_X12 (by decide) (by decide) tF_X12_142 rfl dX12_run_107 ?_
      obtain ⟨ev, eS⟩ := q_end h
      exact q_iret X hr hl rfl ev eS dX12_run_110
    · rw [if_neg g2] at h
      refine q_aload_n X 0 rfl dX12_run_62 ?_
      refine q_getR X 19 ea1 ma1 ka1 rfl tW_X12 (by decide) (by decide) tF_X12_48 rfl dX12_run_63 ?_
      refine q_iload X 2 rfl dX12_run_66 ?_
      obtain ⟨a3, ea3, ma3, ka3, h⟩ := q_atE h
      obtain ⟨g4, h⟩ := q_ifE h
      refine q_iaload X ea3 ma3 ka3 (q_inE g4) dX12_run_68 ?_
      refine q_iconst X (1) (by decide) dX12_run_69 ?_
      refine q_iadd X dX12_run_70 ?_
      refine q_iload_n X 1 rfl dX12_run_71 ?_
      refine q_isub X dX12_run_72 ?_
      refine q_istore X 5 [(5, .int (((q_I (S) a3 (l4).toNatClampNeg) + (1 : Int32)) - l3)), (0, va_rf (l0)), (3, .int (l3)), (4, .int (l4))] (by decide) (by first | rfl | simp [List.filter, q_catR]) dX12_run_73 ?_
      refine q_iload X 0 rfl dX12_run_75 ?_
      refine q_iconst X (1) (by decide) dX12_run_77 ?_
      refine q_icmp_le X 90 (by decide) dX12_run_78 (fun g5 => ?_) (fun g5 => ?_)
      · rw [if_pos g5] at h
        refine q_lv [1, 3] rfl ?_
        exact w_X12_run_90 X hr hl ih _ _ _ h
      · rw [if_neg g5] at h
        refine q_aload_n X 1 rfl dX12_run_81 ?_
        refine q_iload X 3 rfl dX12_run_82 ?_
        refine q_iload_n X 2 rfl dX12_run_84 ?_
        refine q_iload X 0 rfl dX12_run_85 ?_
        obtain ⟨u8, S6, c7, h⟩ := q_bE h
        refine q_cVV X (As := [.int (l4), .int (l3), .int (((q_I (S) a3 (l4).toNatClampNeg) + (1 : Int32)) - l3)]) ea1 ma1 ka1 rfl (by decide) (c_X12_goRound c7) (q_cwV X tK_X12_goRound tM_X12_255 tI_X12_goRound tV_X12_goRound tN_X12 rfl rfl tD_X12_goRound ⟨Nat.le_of_ble_eq_true rfl, Nat.le_of_ble_eq_true rfl⟩) rfl rfl (by first | exact Nat.le_of_ble_eq_true rfl | (simp only [List.map, q_catR]; exact Nat.le_of_ble_eq_true rfl)) ⟨Nat.zero_le _, Nat.zero_le _⟩ dX12_run_87 ?_
        refine q_lv [1, 3] rfl ?_
        exact w_X12_run_90 X hr hl ih _ _ _ h
def m_X12_run_48 (n : Nat) (S : q_S) (l0 : Option Nat) : Option (Int32 × q_S) := m_X12_run_53 n n (S) (l0) ((0 : Int32)) ((0 : Int32))
set_option maxHeartbeats 4000000 in
set_option maxRecDepth 100000 in
theorem w_X12_run_48 (X : q_X p s m args c cX12_run 6 RX12 q_T D cy A) (hr : meth.sig.returnType = (some .int)) (hl : meth.locks = false)  {n : Nat} {Sv : q_S} {rv : Int32}  (S : q_S) (l0 : Option Nat) (h : m_X12_run_48 n S l0 = some (rv, Sv)) : q_W p l e ({ frames := 6, cells := 0, slots := 0, locals := 153 } : Room) s m args below meth c (MQ below (va_Qi (fun (r : Int32) (u : q_S) => r = rv ∧ u = Sv) (q_B D cy A) A) args s 0 0 A) A D cy 6 0 0 S 48 [(0, va_rf (l0))] [] := by
  unfold m_X12_run_48 at h
  refine q_iconst X (0) (by decide) dX12_run_48 ?_
  refine q_istore_n X 3 [(3, .int ((0 : Int32))), (0, va_rf (l0))] rfl (by decide) (by first | rfl | simp [List.filter, q_catR]) dX12_run_49 ?_
  refine q_iconst X (0) (by decide) dX12_run_50 ?_
  refine q_istore X 4 [(4, .int ((0 : Int32))), (3, .int ((0 : Int32))), (0, va_rf (l0))] (by decide) (by first | rfl | simp [List.filter, q_catR]) dX12_run_51 ?_
  refine q_lv [2, 1, 0] rfl ?_
  exact w_X12_run_53 X hr hl n _ _ _ _ h
def m_X12_run_30 (n : Nat) : Nat → q_S → Option Nat → Int32 → Option (Int32 × q_S)
  | 0, _, _, _ => none
  | k + 1, S, l0, l2 => (if l2 = 0 then m_X12_run_48 n (S) (l0) else q_at (S) (l0) 13 (fun a2 => (if (q_I (S) a2 24) ≤ 0 then m_X12_run_48 n (S) (l0) else q_b (m_X12_goOn n (S) a2) (fun _ S4 => m_X12_run_30 n k (S4) (l0) (l2)))))
set_option maxHeartbeats 4000000 in
set_option maxRecDepth 100000 in
theorem w_X12_run_30 (X : q_X p s m args c cX12_run 6 RX12 q_T D cy A) (hr : meth.sig.returnType = (some .int)) (hl : meth.locks = false)  {n : Nat} {Sv : q_S} {rv : Int32}  : ∀ (k : Nat) (S : q_S) (l0 : Option Nat) (l2 : Int32), m_X12_run_30 n k S l0 l2 = some (rv, Sv) → q_W p l e ({ frames := 6, cells := 0, slots := 0, locals := 153 } : Room) s m args below meth c (MQ below (va_Qi (fun (r : Int32) (u : q_S) => r = rv ∧ u = Sv) (q_B D cy A) A) args s 0 0 A) A D cy 6 0 0 S 30 [(0, va_rf (l0)), (2, .int (l2))] [] := by
  intro k
  induction k with
  | zero => intro S l0 l2 h; rw [m_X12_run_30] at h; cases h
  | succ k ih =>
    intro S l0 l2 h
    rw [m_X12_run_30] at h
    refine q_iload_n X 1 rfl dX12_run_30 ?_
    refine q_if_eq X 48 (by decide) dX12_run_31 (fun g1 => ?_) (fun g1 => ?_)
    · rw [if_pos g1] at h
      refine q_lv [0] rfl ?_
      exact w_X12_run_48 X hr hl _ _ h
    · rw [if_neg g1] at h
      refine q_aload_n X 0 rfl dX12_run_34 ?_
      obtain ⟨a2, ea2, ma2, ka2, h⟩ := q_atE h
      refine q_getI X 24 ea2 ma2 ka2 rfl tW_X12 (by decide) (by decide) tF_X12_213 rfl dX12_run_35 ?_
      refine q_if_le X 48 (by decide) dX12_run_38 (fun g3 => ?_) (fun g3 => ?_)
      · rw [if_pos g3] at h
        refine q_lv [0] rfl ?_
        exact w_X12_run_48 X hr hl _ _ h
      · rw [if_neg g3] at h
        refine q_aload_n X 0 rfl dX12_run_41 ?_
        obtain ⟨u6, S4, c5, h⟩ := q_bE h
        refine q_cVV X (As := []) ea2 ma2 ka2 rfl (by decide) (c_X12_goOn c5) (q_cwV X tK_X12_goOn tM_X12_252 tI_X12_goOn tV_X12_goOn tN_X12 rfl rfl tD_X12_goOn ⟨Nat.le_of_ble_eq_true rfl, Nat.le_of_ble_eq_true rfl⟩) rfl rfl (by first | exact Nat.le_of_ble_eq_true rfl | (simp only [List.map, q_catR]; exact Nat.le_of_ble_eq_true rfl)) ⟨Nat.zero_le _, Nat.zero_le _⟩ dX12_run_42 ?_
        refine q_goto X 30 (by decide) dX12_run_45 ?_
        exact ih _ _ _ h
def m_X12_run (n : Nat) (S : q_S) (o : Nat) (p0 : Int32) : Option (Int32 × q_S) := q_at (S) (some o) 13 (fun a1 => q_b (m_X12_forgetRun n (q_sI (S) a1 0 ((0 : Int32))) a1) (fun _ S2 => q_at (S2) (some o) 13 (fun a5 => q_b (m_X12_isSign n (S2) a5 (p0)) (fun r6 S7 => (if r6 = 0 then some ((-1 : Int32), S7) else q_at (S7) (some o) 13 (fun a10 => q_b (m_X12_enter n (q_sI (S7) a10 24 ((0 : Int32))) a10 (p0)) (fun r11 S12 => m_X12_run_30 n n (S12) (some o) (r11))))))))
set_option maxHeartbeats 4000000 in
set_option maxRecDepth 100000 in
theorem w_X12_run (X : q_X p s m args c cX12_run 6 RX12 q_T D cy A) (hr : meth.sig.returnType = (some .int)) (hl : meth.locks = false)  {n : Nat} {S Sv : q_S} {rv : Int32} {o : Nat} {p0 : Int32} (h : m_X12_run n S o p0 = some (rv, Sv)) : q_W p l e ({ frames := 6, cells := 0, slots := 0, locals := 153 } : Room) s m args below meth c (MQ below (va_Qi (fun (r : Int32) (u : q_S) => r = rv ∧ u = Sv) (q_B D cy A) A) args s 0 0 A) A D cy 6 0 0 S 0 [(0, va_rf (some o)), (1, .int (p0))] [] := by
  unfold m_X12_run at h
  refine q_aload_n X 0 rfl dX12_run_0 ?_
  refine q_iconst X (0) (by decide) dX12_run_1 ?_
  obtain ⟨a1, ea1, ma1, ka1, h⟩ := q_atE h
  refine q_putI X 0 ea1 ma1 ka1 rfl tW_X12 (by decide) (by decide) tF_X12_96 tyX12 tyX12_ok nmX12 rfl (tyX12_ok 0 (by decide)) rfl rfl rfl dX12_run_2 ?_
  have ma1 : a1 ∈ q_L (q_sI (S) a1 0 ((0 : Int32))) := q_LsI ma1
  have ka1 : q_K (q_sI (S) a1 0 ((0 : Int32))) a1 = 13 := q_KsI ka1
  refine q_aload_n X 0 rfl dX12_run_5 ?_
  obtain ⟨u4, S2, c3, h⟩ := q_bE h
  refine q_cVV X (As := []) ea1 ma1 ka1 rfl (by decide) (c_X12_forgetRun c3) (q_cwV X tK_X12_forgetRun tM_X12_145 tI_X12_forgetRun tV_X12_forgetRun tN_X12 rfl rfl tD_X12_forgetRun ⟨Nat.le_of_ble_eq_true rfl, Nat.le_of_ble_eq_true rfl⟩) rfl rfl (by first | exact Nat.le_of_ble_eq_true rfl | (simp only [List.map, q_catR]; exact Nat.le_of_ble_eq_true rfl)) ⟨Nat.zero_le _, Nat.zero_le _⟩ dX12_run_6 ?_
  refine q_aload_n X 0 rfl dX12_run_9 ?_
  refine q_iload_n X 1 rfl dX12_run_10 ?_
  obtain ⟨a5, ea5, ma5, ka5, h⟩ := q_atE h
  obtain ⟨r6, S7, c8, h⟩ := q_bE h
  refine q_cVI X (As := [.int (p0)]) ea5 ma5 ka5 rfl (by decide) (c_X12_isSign c8) (q_cwV X tK_X12_isSign tM_X12_239 tI_X12_isSign tV_X12_isSign tN_X12 rfl rfl tD_X12_isSign ⟨Nat.le_of_ble_eq_true rfl, Nat.le_of_ble_eq_true rfl⟩) rfl rfl (by first | exact Nat.le_of_ble_eq_true rfl | (simp only [List.map, q_catR]; exact Nat.le_of_ble_eq_true rfl)) ⟨Nat.zero_le _, Nat.zero_le _⟩ dX12_run_11 ?_
  refine q_if_ne X 19 (by decide) dX12_run_14 (fun g9 => ?_) (fun g9 => ?_)
  · rw [if_neg g9] at h
    refine q_aload_n X 0 rfl dX12_run_19 ?_
    refine q_iconst X (0) (by decide) dX12_run_20 ?_
    obtain ⟨a10, ea10, ma10, ka10, h⟩ := q_atE h
    refine q_putI X 24 ea10 ma10 ka10 rfl tW_X12 (by decide) (by decide) tF_X12_213 tyX12 tyX12_ok nmX12 rfl (tyX12_ok 24 (by decide)) rfl rfl rfl dX12_run_21 ?_
    have ma10 : a10 ∈ q_L (q_sI (S7) a10 24 ((0 : Int32))) := q_LsI ma10
    have ka10 : q_K (q_sI (S7) a10 24 ((0 : Int32))) a10 = 13 := q_KsI ka10
    refine q_aload_n X 0 rfl dX12_run_24 ?_
    refine q_iload_n X 1 rfl dX12_run_25 ?_
    obtain ⟨r11, S12, c13, h⟩ := q_bE h
    refine q_cVI X (As := [.int (p0)]) ea10 ma10 ka10 rfl (by decide) (c_X12_enter c13) (q_cwV X tK_X12_enter tM_X12_245 tI_X12_enter tV_X12_enter tN_X12 rfl rfl tD_X12_enter ⟨Nat.le_of_ble_eq_true rfl, Nat.le_of_ble_eq_true rfl⟩) rfl rfl (by first | exact Nat.le_of_ble_eq_true rfl | (simp only [List.map, q_catR]; exact Nat.le_of_ble_eq_true rfl)) ⟨Nat.zero_le _, Nat.zero_le _⟩ dX12_run_26 ?_
    refine q_istore_n X 2 [(2, .int (r11)), (0, va_rf (some o)), (1, .int (p0))] rfl (by decide) (by first | rfl | simp [List.filter, q_catR]) dX12_run_29 ?_
    refine q_lv [1, 0] rfl ?_
    exact w_X12_run_30 X hr hl n _ _ _ h
  · rw [if_pos g9] at h
    refine q_iconst X (-1) (by decide) dX12_run_17 ?_
    obtain ⟨ev, eS⟩ := q_end h
    exact q_iret X hr hl rfl ev eS dX12_run_18
theorem tD_X12_run : yX12_run.cls ≠ "java/lang/invoke/MethodHandle" ∧ yX12_run.cls ≠ "java/lang/invoke/VarHandle" ∧ (parseMethodDescriptor yX12_run.desc).map (fun d => d.parameters.length) = some 1 := by decide +kernel
theorem c_X12_run {l : Launch} {D : va_G} {cy : Nat → ClassId} {n : Nat} {S Sv : q_S} {rv : Int32} {o : Nat} {p0 : Int32} (h : m_X12_run n S o p0 = some (rv, Sv)) : q_MI l yX12_run (q_ws yX12_run cX12_run 6 ((some .int))) ({ frames := 6, cells := 0, slots := 0, locals := 153 } : Room) D cy [.ref o, .int (p0)] S rv Sv := by
  exact q_MI_of (by decide +kernel) (Nat.le_of_ble_eq_true rfl) (fun p e s m args below meth c A X hr hl => w_X12_run X hr hl h)
/-! TrueOutlinesModel.scaled(II)J -/
def m_X12_scaled_55 (n : Nat) (S : q_S) : Option (Int64 × q_S) := some ((0 : Int64), S)
set_option maxHeartbeats 4000000 in
set_option maxRecDepth 100000 in
theorem w_X12_scaled_55 (X : q_X p s m args c cX12_scaled 9 RX12 q_T D cy A) (hr : meth.sig.returnType = (some .long)) (hl : meth.locks = false)  {n : Nat} {Sv : q_S} {rv : Int64}  (S : q_S) (h : m_X12_scaled_55 n S = some (rv, Sv)) : q_W p l e ({ frames := 2, cells := 0, slots := 0, locals := 50 } : Room) s m args below meth c (MQ below (va_Ql (fun (r : Int64) (u : q_S) => r = rv ∧ u = Sv) (q_B D cy A) A) args s 0 0 A) A D cy 9 0 0 S 55 [] [] := by
  unfold m_X12_scaled_55 at h
  refine q_lconst X (0) (by decide) dX12_scaled_55 ?_
  obtain ⟨ev, eS⟩ := q_end h
  exact q_lret X hr hl ev eS dX12_scaled_56
def m_X12_scaled_102 (n : Nat) (S : q_S) (s0 : Int64) : Option (Int64 × q_S) := some (s0, S)
set_option maxHeartbeats 4000000 in
set_option maxRecDepth 100000 in
theorem w_X12_scaled_102 (X : q_X p s m args c cX12_scaled 9 RX12 q_T D cy A) (hr : meth.sig.returnType = (some .long)) (hl : meth.locks = false)  {n : Nat} {Sv : q_S} {rv : Int64}  (S : q_S) (s0 : Int64) (h : m_X12_scaled_102 n S s0 = some (rv, Sv)) : q_W p l e ({ frames := 2, cells := 0, slots := 0, locals := 50 } : Room) s m args below meth c (MQ below (va_Ql (fun (r : Int64) (u : q_S) => r = rv ∧ u = Sv) (q_B D cy A) A) args s 0 0 A) A D cy 9 0 0 S 102 [] [.long (s0)] := by
  unfold m_X12_scaled_102 at h
  obtain ⟨ev, eS⟩ := q_end h
  exact q_lret X hr hl ev eS dX12_scaled_102
def m_X12_scaled (n : Nat) (S : q_S) (o : Nat) (p0 : Int32) (p1 : Int32) : Option (Int64 × q_S) := q_at (S) (some o) 13 (fun a1 => q_b (m_X12_in n (q_sI (S) a1 0 ((0 : Int32))) (p1.toInt64) ((0 : Int64)) ((1000 : Int64))) (fun r2 S3 => (if r2 = 0 then some ((-1 : Int64), S3) else q_at (S3) (some o) 13 (fun a6 => q_if ((0 : Int32) = 0 ∨ (0 : Int32) = 1) (q_b (m_X12_find n (q_sI (S3) a6 8 ((0 : Int32))) a6 ((1751474532 : Int64))) (fun r8 S9 => q_at (S9) (some o) 13 (fun a11 => q_b (m_X12_two n (S9) a11 (r8) ((18 : Int64))) (fun r12 S13 => q_at (S13) (some o) 13 (fun a15 => (if (q_I (S13) a15 8) = 0 then (if (lg_cmp ((r12.toInt64)) ((0 : Int64))) = 0 then m_X12_scaled_55 n (S13) else q_if (¬ ((2 : Int64) * (r12.toInt64)) = 0) (q_if (¬ ((2 : Int64) * (r12.toInt64)) = 0) ((if 0 ≤ (lg_cmp ((((((128 : Int64) * (p1.toInt64)) * (p0.toInt64)) + (r12.toInt64)) - ((((128 : Int64) * (p1.toInt64)) * (p0.toInt64)) + (r12.toInt64)) / ((2 : Int64) * (r12.toInt64)) * ((2 : Int64) * (r12.toInt64)))) ((0 : Int64))) then m_X12_scaled_102 n (S13) (((((128 : Int64) * (p1.toInt64)) * (p0.toInt64)) + (r12.toInt64)) / ((2 : Int64) * (r12.toInt64))) else m_X12_scaled_102 n (S13) ((((((128 : Int64) * (p1.toInt64)) * (p0.toInt64)) + (r12.toInt64)) / ((2 : Int64) * (r12.toInt64))) - (1 : Int64)))))) else m_X12_scaled_55 n (S13)))))))))))
set_option maxHeartbeats 4000000 in
set_option maxRecDepth 100000 in
theorem w_X12_scaled (X : q_X p s m args c cX12_scaled 9 RX12 q_T D cy A) (hr : meth.sig.returnType = (some .long)) (hl : meth.locks = false)  {n : Nat} {S Sv : q_S} {rv : Int64} {o : Nat} {p0 : Int32} {p1 : Int32} (h : m_X12_scaled n S o p0 p1 = some (rv, Sv)) : q_W p l e ({ frames := 2, cells := 0, slots := 0, locals := 50 } : Room) s m args below meth c (MQ below (va_Ql (fun (r : Int64) (u : q_S) => r = rv ∧ u = Sv) (q_B D cy A) A) args s 0 0 A) A D cy 9 0 0 S 0 [(0, va_rf (some o)), (1, .int (p0)), (2, .int (p1))] [] := by
  unfold m_X12_scaled at h
  refine q_aload_n X 0 rfl dX12_scaled_0 ?_
  refine q_iconst X (0) (by decide) dX12_scaled_1 ?_
  obtain ⟨a1, ea1, ma1, ka1, h⟩ := q_atE h
  refine q_putI X 0 ea1 ma1 ka1 rfl tW_X12 (by decide) (by decide) tF_X12_96 tyX12 tyX12_ok nmX12 rfl (tyX12_ok 0 (by decide)) rfl rfl rfl dX12_scaled_2 ?_
  have ma1 : a1 ∈ q_L (q_sI (S) a1 0 ((0 : Int32))) := q_LsI ma1
  have ka1 : q_K (q_sI (S) a1 0 ((0 : Int32))) a1 = 13 := q_KsI ka1
  refine q_iload_n X 2 rfl dX12_scaled_5 ?_
  refine q_i2l X dX12_scaled_6 ?_
  refine q_lconst X (0) (by decide) dX12_scaled_7 ?_
  refine q_ldc2_w X (1000) tC_X12_296 dX12_scaled_8 ?_
  obtain ⟨r2, S3, c4, h⟩ := q_bE h
  refine q_cSI X (As := [.long (p1.toInt64), .long ((0 : Int64)), .long ((1000 : Int64))]) (c_X12_in c4) (q_cwS X tK_X12_in tM_X12_102 tS_X12_in tN_X12 rfl rfl tD_X12_in ⟨Nat.le_of_ble_eq_true rfl, Nat.le_of_ble_eq_true rfl⟩) rfl rfl (by first | exact Nat.le_of_ble_eq_true rfl | (simp only [List.map, q_catR]; exact Nat.le_of_ble_eq_true rfl)) ⟨Nat.zero_le _, Nat.zero_le _⟩ dX12_scaled_11 ?_
  refine q_if_ne X 21 (by decide) dX12_scaled_14 (fun g5 => ?_) (fun g5 => ?_)
  · rw [if_neg g5] at h
    refine q_aload_n X 0 rfl dX12_scaled_21 ?_
    refine q_iconst X (0) (by decide) dX12_scaled_22 ?_
    obtain ⟨a6, ea6, ma6, ka6, h⟩ := q_atE h
    obtain ⟨g7, h⟩ := q_ifE h
    refine q_putI X 8 ea6 ma6 ka6 rfl tW_X12 (by decide) (by decide) tF_X12_114 tyX12 tyX12_ok nmX12 rfl (tyX12_ok 8 (by decide)) (q_bool g7) (q_boolF g7) rfl dX12_scaled_23 ?_
    have ma6 : a6 ∈ q_L (q_sI (S3) a6 8 ((0 : Int32))) := q_LsI ma6
    have ka6 : q_K (q_sI (S3) a6 8 ((0 : Int32))) a6 = 13 := q_KsI ka6
    refine q_aload_n X 0 rfl dX12_scaled_26 ?_
    refine q_aload_n X 0 rfl dX12_scaled_27 ?_
    refine q_ldc2_w X (1751474532) tC_X12_125 dX12_scaled_28 ?_
    obtain ⟨r8, S9, c10, h⟩ := q_bE h
    refine q_cVI X (As := [.long ((1751474532 : Int64))]) ea6 ma6 ka6 rfl (by decide) (c_X12_find c10) (q_cwV X tK_X12_find tM_X12_127 tI_X12_find tV_X12_find tN_X12 rfl rfl tD_X12_find ⟨Nat.le_of_ble_eq_true rfl, Nat.le_of_ble_eq_true rfl⟩) rfl rfl (by first | exact Nat.le_of_ble_eq_true rfl | (simp only [List.map, q_catR]; exact Nat.le_of_ble_eq_true rfl)) ⟨Nat.zero_le _, Nat.zero_le _⟩ dX12_scaled_31 ?_
    refine q_ldc2_w X (18) tC_X12_292 dX12_scaled_34 ?_
    obtain ⟨a11, ea11, ma11, ka11, h⟩ := q_atE h
    obtain ⟨r12, S13, c14, h⟩ := q_bE h
    refine q_cVI X (As := [.int (r8), .long ((18 : Int64))]) ea11 ma11 ka11 rfl (by decide) (c_X12_two c14) (q_cwV X tK_X12_two tM_X12_169 tI_X12_two tV_X12_two tN_X12 rfl rfl tD_X12_two ⟨Nat.le_of_ble_eq_true rfl, Nat.le_of_ble_eq_true rfl⟩) rfl rfl (by first | exact Nat.le_of_ble_eq_true rfl | (simp only [List.map, q_catR]; exact Nat.le_of_ble_eq_true rfl)) ⟨Nat.zero_le _, Nat.zero_le _⟩ dX12_scaled_37 ?_
    refine q_i2l X dX12_scaled_40 ?_
    refine q_lstore_n X 3 [(3, .long (r12.toInt64)), (0, va_rf (some o)), (1, .int (p0)), (2, .int (p1))] rfl (by decide) (by first | rfl | simp [List.filter, q_catR]) dX12_scaled_41 ?_
    refine q_aload_n X 1 rfl dX12_scaled_42 ?_
    obtain ⟨a15, ea15, ma15, ka15, h⟩ := q_atE h
    refine q_getI X 8 ea15 ma15 ka15 rfl tW_X12 (by decide) (by decide) tF_X12_114 rfl dX12_scaled_43 ?_
    refine q_if_ne X 55 (by decide) dX12_scaled_46 (fun g16 => ?_) (fun g16 => ?_)
    · rw [if_neg g16] at h
      refine q_lv [] rfl ?_
      exact w_X12_scaled_55 X hr hl _ h
    · rw [if_pos g16] at h
      refine q_lload_n X 0 rfl dX12_scaled_49 ?_
      refine q_lconst X (0) (by decide) dX12_scaled_50 ?_
      refine q_lcmp X dX12_scaled_51 ?_
      refine q_if_ne X 57 (by decide) dX12_scaled_52 (fun g17 => ?_) (fun g17 => ?_)
      · rw [if_neg g17] at h
        refine q_ldc2_w X (128) tC_X12_298 dX12_scaled_57 ?_
        refine q_iload_n X 3 rfl dX12_scaled_60 ?_
        refine q_i2l X dX12_scaled_61 ?_
        refine q_lmul X dX12_scaled_62 ?_
        refine q_iload_n X 2 rfl dX12_scaled_63 ?_
        refine q_i2l X dX12_scaled_64 ?_
        refine q_lmul X dX12_scaled_65 ?_
        refine q_lload_n X 0 rfl dX12_scaled_66 ?_
        refine q_ladd X dX12_scaled_67 ?_
        refine q_lstore X 5 [(5, .long ((((128 : Int64) * (p1.toInt64)) * (p0.toInt64)) + (r12.toInt64))), (3, .long (r12.toInt64)), (0, va_rf (some o)), (1, .int (p0)), (2, .int (p1))] (by decide) (by first | rfl | simp [List.filter, q_catR]) dX12_scaled_68 ?_
        refine q_lload X 0 rfl dX12_scaled_70 ?_
        refine q_ldc2_w X (2) tC_X12_181 dX12_scaled_72 ?_
        refine q_lload_n X 1 rfl dX12_scaled_75 ?_
        refine q_lmul X dX12_scaled_76 ?_
        obtain ⟨g18, h⟩ := q_ifE h
        refine q_ldiv X g18 dX12_scaled_77 ?_
        refine q_lstore X 7 [(7, .long (((((128 : Int64) * (p1.toInt64)) * (p0.toInt64)) + (r12.toInt64)) / ((2 : Int64) * (r12.toInt64)))), (5, .long ((((128 : Int64) * (p1.toInt64)) * (p0.toInt64)) + (r12.toInt64))), (3, .long (r12.toInt64)), (0, va_rf (some o)), (1, .int (p0)), (2, .int (p1))] (by decide) (by first | rfl | simp [List.filter, q_catR]) dX12_scaled_78 ?_
        refine q_lload X 1 rfl dX12_scaled_80 ?_
        refine q_ldc2_w X (2) tC_X12_181 dX12_scaled_82 ?_
        refine q_lload_n X 2 rfl dX12_scaled_85 ?_
        refine q_lmul X dX12_scaled_86 ?_
        obtain ⟨g19, h⟩ := q_ifE h
        refine q_lrem X g19 dX12_scaled_87 ?_
        refine q_lconst X (0) (by decide) dX12_scaled_88 ?_
        refine q_lcmp X dX12_scaled_89 ?_
        refine q_if_ge X 100 (by decide) dX12_scaled_90 (fun g20 => ?_) (fun g20 => ?_)
        · rw [if_pos g20] at h
          refine q_lload X 0 rfl dX12_scaled_100 ?_
          refine q_lv [] rfl ?_
          exact w_X12_scaled_102 X hr hl _ _ h
        · rw [if_neg g20] at h
          refine q_lload X 0 rfl dX12_scaled_93 ?_
          refine q_lconst X (1) (by decide) dX12_scaled_95 ?_
          refine q_lsub X dX12_scaled_96 ?_
          refine q_goto X 102 (by decide) dX12_scaled_97 ?_
          refine q_lv [] rfl ?_
          exact w_X12_scaled_102 X hr hl _ _ h
      · rw [if_pos g17] at h
        refine q_lv [] rfl ?_
        exact w_X12_scaled_55 X hr hl _ h
  · rw [if_pos g5] at h
    refine q_ldc2_w X (-1) tC_X12_163 dX12_scaled_17 ?_
    obtain ⟨ev, eS⟩ := q_end h
    exact q_lret X hr hl ev eS dX12_scaled_20
theorem tD_X12_scaled : yX12_scaled.cls ≠ "java/lang/invoke/MethodHandle" ∧ yX12_scaled.cls ≠ "java/lang/invoke/VarHandle" ∧ (parseMethodDescriptor yX12_scaled.desc).map (fun d => d.parameters.length) = some 2 := by decide +kernel
theorem c_X12_scaled {l : Launch} {D : va_G} {cy : Nat → ClassId} {n : Nat} {S Sv : q_S} {rv : Int64} {o : Nat} {p0 : Int32} {p1 : Int32} (h : m_X12_scaled n S o p0 p1 = some (rv, Sv)) : q_MJ l yX12_scaled (q_ws yX12_scaled cX12_scaled 9 ((some .long))) ({ frames := 2, cells := 0, slots := 0, locals := 50 } : Room) D cy [.ref o, .int (p0), .int (p1)] S rv Sv := by
  exact q_MJ_of (by decide +kernel) (Nat.le_of_ble_eq_true rfl) (fun p e s m args below meth c A X hr hl => w_X12_scaled X hr hl h)
/-! TrueOutlinesModel.setFour(IJ)V -/
def m_X12_setFour_49 (n : Nat) (S : q_S) : Option (Unit × q_S) := some ((), S)
set_option maxHeartbeats 4000000 in
set_option maxRecDepth 100000 in
theorem w_X12_setFour_49 (X : q_X p s m args c cX12_setFour 5 RX12 q_T D cy A) (hr : meth.sig.returnType = none) (hl : meth.locks = false)  {n : Nat} {Sv : q_S}  (S : q_S) (h : m_X12_setFour_49 n S = some ((), Sv)) : q_W p l e ({ frames := 0, cells := 0, slots := 0, locals := 0 } : Room) s m args below meth c (MQ below (va_Qv (fun (u : q_S) => u = Sv) (q_B D cy A) A) args s 0 0 A) A D cy 5 0 0 S 49 [] [] := by
  unfold m_X12_setFour_49 at h
  obtain ⟨ev, eS⟩ := q_end h
  exact q_vret X hr hl eS dX12_setFour_49
def m_X12_setFour_3 (n : Nat) : Nat → q_S → Option Nat → Int32 → Int64 → Int32 → Option (Unit × q_S)
  | 0, _, _, _, _, _ => none
  | k + 1, S, l0, l1, l2, l4 => (if (4 : Int32) ≤ l4 then m_X12_setFour_49 n (S) else (if (2400 : Int32) ≤ (l1 + l4) then m_X12_setFour_49 n (S) else q_at (S) (l0) 13 (fun a3 => q_at (S) (q_R (S) a3 39) 100 (fun a4 => q_if (q_in (l1 + l4) (q_N (S) a4) = true) (m_X12_setFour_3 n k (q_sI (S) a4 (l1 + l4).toNatClampNeg (((l2 >>> ((((24 : Int32) - ((8 : Int32) * l4))).toInt64 &&& 63)) &&& (255 : Int64)).toInt32)) (l0) (l1) (l2) (l4 + (1)))))))
set_option maxHeartbeats 4000000 in
set_option maxRecDepth 100000 in
theorem w_X12_setFour_3 (X : q_X p s m args c cX12_setFour 5 RX12 q_T D cy A) (hr : meth.sig.returnType = none) (hl : meth.locks = false)  {n : Nat} {Sv : q_S}  : ∀ (k : Nat) (S : q_S) (l0 : Option Nat) (l1 : Int32) (l2 : Int64) (l4 : Int32), m_X12_setFour_3 n k S l0 l1 l2 l4 = some ((), Sv) → q_W p l e ({ frames := 0, cells := 0, slots := 0, locals := 0 } : Room) s m args below meth c (MQ below (va_Qv (fun (u : q_S) => u = Sv) (q_B D cy A) A) args s 0 0 A) A D cy 5 0 0 S 3 [(0, va_rf (l0)), (1, .int (l1)), (2, .long (l2)), (4, .int (l4))] [] := by
  intro k
  induction k with
  | zero => intro S l0 l1 l2 l4 h; rw [m_X12_setFour_3] at h; cases h
  | succ k ih =>
    intro S l0 l1 l2 l4 h
    rw [m_X12_setFour_3] at h
    refine q_iload X 3 rfl dX12_setFour_3 ?_
    refine q_iconst X (4) (by decide) dX12_setFour_5 ?_
    refine q_icmp_ge X 49 (by decide) dX12_setFour_6 (fun g1 => ?_) (fun g1 => ?_)
    · rw [if_pos g1] at h
      refine q_lv [] rfl ?_
      exact w_X12_setFour_49 X hr hl _ h
    · rw [if_neg g1] at h
      refine q_iload_n X 1 rfl dX12_setFour_9 ?_
      refine q_iload X 3 rfl dX12_setFour_10 ?_
      refine q_iadd X dX12_setFour_12 ?_
      refine q_sipush X (2400) (by decide) dX12_setFour_13 ?_
      refine q_icmp_ge X 49 (by decide) dX12_setFour_16 (fun g2 => ?_) (fun g2 => ?_)
      · rw [if_pos g2] at h
        refine q_lv [] rfl ?_
        exact w_X12_setFour_49 X hr hl _ h
      · rw [if_neg g2] at h
        refine q_aload_n X 0 rfl dX12_setFour_19 ?_
        obtain ⟨a3, ea3, ma3, ka3, h⟩ := q_atE h
        refine q_getR X 39 ea3 ma3 ka3 rfl tW_X12 (by decide) (by decide) tF_X12_90 rfl dX12_setFour_20 ?_
        refine q_iload_n X 1 rfl dX12_setFour_23 ?_
        refine q_iload X 3 rfl dX12_setFour_24 ?_
        refine q_iadd X dX12_setFour_26 ?_
        refine q_lload_n X 2 rfl dX12_setFour_27 ?_
        refine q_bipush X (24) (by decide) dX12_setFour_28 ?_
        refine q_bipush X (8) (by decide) dX12_setFour_30 ?_
        refine q_iload X 3 rfl dX12_setFour_32 ?_
        refine q_imul X dX12_setFour_34 ?_
        refine q_isub X dX12_setFour_35 ?_
        refine q_lshr X dX12_setFour_36 ?_
        refine q_ldc2_w X (255) tC_X12_109 dX12_setFour_37 ?_
        refine q_land X dX12_setFour_40 ?_
        refine q_l2i X dX12_setFour_41 ?_
        obtain ⟨a4, ea4, ma4, ka4, h⟩ := q_atE h
        obtain ⟨g5, h⟩ := q_ifE h
        refine q_iastore X ea4 ma4 ka4 (q_inE g5) dX12_setFour_42 ?_
        have ma3 : a3 ∈ q_L (q_sI (S) a4 (l1 + l4).toNatClampNeg (((l2 >>> ((((24 : Int32) - ((8 : Int32) * l4))).toInt64 &&& 63)) &&& (255 : Int64)).toInt32)) := q_LsI ma3
        have ka3 : q_K (q_sI (S) a4 (l1 + l4).toNatClampNeg (((l2 >>> ((((24 : Int32) - ((8 : Int32) * l4))).toInt64 &&& 63)) &&& (255 : Int64)).toInt32)) a3 = 13 := q_KsI ka3
        have ma4 : a4 ∈ q_L (q_sI (S) a4 (l1 + l4).toNatClampNeg (((l2 >>> ((((24 : Int32) - ((8 : Int32) * l4))).toInt64 &&& 63)) &&& (255 : Int64)).toInt32)) := q_LsI ma4
        have ka4 : q_K (q_sI (S) a4 (l1 + l4).toNatClampNeg (((l2 >>> ((((24 : Int32) - ((8 : Int32) * l4))).toInt64 &&& 63)) &&& (255 : Int64)).toInt32)) a4 = 100 := q_KsI ka4
        refine q_iinc X 4 3 (l4 + (1)) [(4, .int (l4 + (1))), (0, va_rf (l0)), (1, .int (l1)), (2, .long (l2))] rfl (congrArg (fun z => l4 + z) (show Int32.ofInt (1) = (1) by decide)) (by decide) (by first | rfl | simp [List.filter, q_catR]) dX12_setFour_43 ?_
        refine q_goto X 3 (by decide) dX12_setFour_46 ?_
        refine q_lv [1, 2, 3, 0] rfl ?_
        exact ih _ _ _ _ _ h
def m_X12_setFour (n : Nat) (S : q_S) (o : Nat) (p0 : Int32) (p1 : Int64) : Option (Unit × q_S) := m_X12_setFour_3 n n (S) (some o) (p0) (p1) ((0 : Int32))
set_option maxHeartbeats 4000000 in
set_option maxRecDepth 100000 in
theorem w_X12_setFour (X : q_X p s m args c cX12_setFour 5 RX12 q_T D cy A) (hr : meth.sig.returnType = none) (hl : meth.locks = false)  {n : Nat} {S Sv : q_S} {o : Nat} {p0 : Int32} {p1 : Int64} (h : m_X12_setFour n S o p0 p1 = some ((), Sv)) : q_W p l e ({ frames := 0, cells := 0, slots := 0, locals := 0 } : Room) s m args below meth c (MQ below (va_Qv (fun (u : q_S) => u = Sv) (q_B D cy A) A) args s 0 0 A) A D cy 5 0 0 S 0 [(0, va_rf (some o)), (1, .int (p0)), (2, .long (p1))] [] := by
  unfold m_X12_setFour at h
  refine q_iconst X (0) (by decide) dX12_setFour_0 ?_
  refine q_istore X 4 [(4, .int ((0 : Int32))), (0, va_rf (some o)), (1, .int (p0)), (2, .long (p1))] (by decide) (by first | rfl | simp [List.filter, q_catR]) dX12_setFour_1 ?_
  refine q_lv [1, 2, 3, 0] rfl ?_
  exact w_X12_setFour_3 X hr hl n _ _ _ _ _ h
theorem tD_X12_setFour : yX12_setFour.cls ≠ "java/lang/invoke/MethodHandle" ∧ yX12_setFour.cls ≠ "java/lang/invoke/VarHandle" ∧ (parseMethodDescriptor yX12_setFour.desc).map (fun d => d.parameters.length) = some 2 := by decide +kernel
theorem c_X12_setFour {l : Launch} {D : va_G} {cy : Nat → ClassId} {n : Nat} {S Sv : q_S} {o : Nat} {p0 : Int32} {p1 : Int64} (h : m_X12_setFour n S o p0 p1 = some ((), Sv)) : q_MV l yX12_setFour (q_ws yX12_setFour cX12_setFour 5 (none)) ({ frames := 0, cells := 0, slots := 0, locals := 0 } : Room) D cy [.ref o, .int (p0), .long (p1)] S Sv := by
  exact q_MV_of (by decide +kernel) (Nat.le_of_ble_eq_true rfl) (fun p e s m args below meth c A X hr hl => w_X12_setFour X hr hl h)
/-! TrueOutlinesModel.sort()V -/
def m_X12_sort_65 (n : Nat) (k2 : q_S → Option Nat → Int32 → Option (Unit × q_S)) (k14 : q_S → Option Nat → Int32 → Int32 → Int32 → Option (Unit × q_S)) (S : q_S) (l0 : Option Nat) (l1 : Int32) (l3 : Int32) (s0 : Int32) (s1 : Int32) : Option (Unit × q_S) := k14 (S) (l0) (l1) (s1 + s0) (l3 + (1))
set_option maxHeartbeats 4000000 in
set_option maxRecDepth 100000 in
theorem w_X12_sort_65 (X : q_X p s m args c cX12_sort 4 RX12 q_T D cy A) (hr : meth.sig.returnType = none) (hl : meth.locks = false)  {n : Nat} {Sv : q_S}  {k2 : q_S → Option Nat → Int32 → Option (Unit × q_S)} {k14 : q_S → Option Nat → Int32 → Int32 → Int32 → Option (Unit × q_S)} (hk2 : ∀ (S : q_S) (z0 : Option Nat) (z1 : Int32), k2 S z0 z1 = some ((), Sv) → q_W p l e ({ frames := 0, cells := 0, slots := 0, locals := 0 } : Room) s m args below meth c (MQ below (va_Qv (fun (u : q_S) => u = Sv) (q_B D cy A) A) args s 0 0 A) A D cy 4 0 0 S 2 [(0, va_rf (z0)), (1, .int (z1))] []) (hk14 : ∀ (S : q_S) (z0 : Option Nat) (z1 : Int32) (z2 : Int32) (z3 : Int32), k14 S z0 z1 z2 z3 = some ((), Sv) → q_W p l e ({ frames := 0, cells := 0, slots := 0, locals := 0 } : Room) s m args below meth c (MQ below (va_Qv (fun (u : q_S) => u = Sv) (q_B D cy A) A) args s 0 0 A) A D cy 4 0 0 S 14 [(0, va_rf (z0)), (1, .int (z1)), (2, .int (z2)), (3, .int (z3))] []) (S : q_S) (l0 : Option Nat) (l1 : Int32) (l3 : Int32) (s0 : Int32) (s1 : Int32) (h : m_X12_sort_65 n k2 k14 S l0 l1 l3 s0 s1 = some ((), Sv)) : q_W p l e ({ frames := 0, cells := 0, slots := 0, locals := 0 } : Room) s m args below meth c (MQ below (va_Qv (fun (u : q_S) => u = Sv) (q_B D cy A) A) args s 0 0 A) A D cy 4 0 0 S 65 [(0, va_rf (l0)), (1, .int (l1)), (3, .int (l3))] [.int (s0), .int (s1)] := by
  unfold m_X12_sort_65 at h
  refine q_iadd X dX12_sort_65 ?_
  refine q_istore_n X 2 [(2, .int (s1 + s0)), (0, va_rf (l0)), (1, .int (l1)), (3, .int (l3))] rfl (by decide) (by first | rfl | simp [List.filter, q_catR]) dX12_sort_66 ?_
  refine q_iinc X 3 3 (l3 + (1)) [(3, .int (l3 + (1))), (2, .int (s1 + s0)), (0, va_rf (l0)), (1, .int (l1))] rfl (congrArg (fun z => l3 + z) (show Int32.ofInt (1) = (1) by decide)) (by decide) (by first | rfl | simp [List.filter, q_catR]) dX12_sort_67 ?_
  refine q_goto X 14 (by decide) dX12_sort_70 ?_
  refine q_lv [2, 3, 1, 0] rfl ?_
  exact hk14 _ _ _ _ _ h
def m_X12_sort_60 (n : Nat) (k2 : q_S → Option Nat → Int32 → Option (Unit × q_S)) (k14 : q_S → Option Nat → Int32 → Int32 → Int32 → Option (Unit × q_S)) (S : q_S) (l0 : Option Nat) (l1 : Int32) (l3 : Int32) (s0 : Int32) : Option (Unit × q_S) := m_X12_sort_65 n k2 k14 (S) (l0) (l1) (l3) ((1 : Int32)) (s0)
set_option maxHeartbeats 4000000 in
set_option maxRecDepth 100000 in
theorem w_X12_sort_60 (X : q_X p s m args c cX12_sort 4 RX12 q_T D cy A) (hr : meth.sig.returnType = none) (hl : meth.locks = false)  {n : Nat} {Sv : q_S}  {k2 : q_S → Option Nat → Int32 → Option (Unit × q_S)} {k14 : q_S → Option Nat → Int32 → Int32 → Int32 → Option (Unit × q_S)} (hk2 : ∀ (S : q_S) (z0 : Option Nat) (z1 : Int32), k2 S z0 z1 = some ((), Sv) → q_W p l e ({ frames := 0, cells := 0, slots := 0, locals := 0 } : Room) s m args below meth c (MQ below (va_Qv (fun (u : q_S) => u = Sv) (q_B D cy A) A) args s 0 0 A) A D cy 4 0 0 S 2 [(0, va_rf (z0)), (1, .int (z1))] []) (hk14 : ∀ (S : q_S) (z0 : Option Nat) (z1 : Int32) (z2 : Int32) (z3 : Int32), k14 S z0 z1 z2 z3 = some ((), Sv) → q_W p l e ({ frames := 0, cells := 0, slots := 0, locals := 0 } : Room) s m args below meth c (MQ below (va_Qv (fun (u : q_S) => u = Sv) (q_B D cy A) A) args s 0 0 A) A D cy 4 0 0 S 14 [(0, va_rf (z0)), (1, .int (z1)), (2, .int (z2)), (3, .int (z3))] []) (S : q_S) (l0 : Option Nat) (l1 : Int32) (l3 : Int32) (s0 : Int32) (h : m_X12_sort_60 n k2 k14 S l0 l1 l3 s0 = some ((), Sv)) : q_W p l e ({ frames := 0, cells := 0, slots := 0, locals := 0 } : Room) s m args below meth c (MQ below (va_Qv (fun (u : q_S) => u = Sv) (q_B D cy A) A) args s 0 0 A) A D cy 4 0 0 S 60 [(0, va_rf (l0)), (1, .int (l1)), (3, .int (l3))] [.int (s0)] := by
  unfold m_X12_sort_60 at h
  refine q_iconst X (1) (by decide) dX12_sort_60 ?_
  refine q_goto X 65 (by decide) dX12_sort_61 ?_
  exact w_X12_sort_65 X hr hl hk2 hk14 _ _ _ _ _ _ h
def m_X12_sort_64 (n : Nat) (k2 : q_S → Option Nat → Int32 → Option (Unit × q_S)) (k14 : q_S → Option Nat → Int32 → Int32 → Int32 → Option (Unit × q_S)) (S : q_S) (l0 : Option Nat) (l1 : Int32) (l3 : Int32) (s0 : Int32) : Option (Unit × q_S) := m_X12_sort_65 n k2 k14 (S) (l0) (l1) (l3) ((0 : Int32)) (s0)
set_option maxHeartbeats 4000000 in
set_option maxRecDepth 100000 in
theorem w_X12_sort_64 (X : q_X p s m args c cX12_sort 4 RX12 q_T D cy A) (hr : meth.sig.returnType = none) (hl : meth.locks = false)  {n : Nat} {Sv : q_S}  {k2 : q_S → Option Nat → Int32 → Option (Unit × q_S)} {k14 : q_S → Option Nat → Int32 → Int32 → Int32 → Option (Unit × q_S)} (hk2 : ∀ (S : q_S) (z0 : Option Nat) (z1 : Int32), k2 S z0 z1 = some ((), Sv) → q_W p l e ({ frames := 0, cells := 0, slots := 0, locals := 0 } : Room) s m args below meth c (MQ below (va_Qv (fun (u : q_S) => u = Sv) (q_B D cy A) A) args s 0 0 A) A D cy 4 0 0 S 2 [(0, va_rf (z0)), (1, .int (z1))] []) (hk14 : ∀ (S : q_S) (z0 : Option Nat) (z1 : Int32) (z2 : Int32) (z3 : Int32), k14 S z0 z1 z2 z3 = some ((), Sv) → q_W p l e ({ frames := 0, cells := 0, slots := 0, locals := 0 } : Room) s m args below meth c (MQ below (va_Qv (fun (u : q_S) => u = Sv) (q_B D cy A) A) args s 0 0 A) A D cy 4 0 0 S 14 [(0, va_rf (z0)), (1, .int (z1)), (2, .int (z2)), (3, .int (z3))] []) (S : q_S) (l0 : Option Nat) (l1 : Int32) (l3 : Int32) (s0 : Int32) (h : m_X12_sort_64 n k2 k14 S l0 l1 l3 s0 = some ((), Sv)) : q_W p l e ({ frames := 0, cells := 0, slots := 0, locals := 0 } : Room) s m args below meth c (MQ below (va_Qv (fun (u : q_S) => u = Sv) (q_B D cy A) A) args s 0 0 A) A D cy 4 0 0 S 64 [(0, va_rf (l0)), (1, .int (l1)), (3, .int (l3))] [.int (s0)] := by
  unfold m_X12_sort_64 at h
  refine q_iconst X (0) (by decide) dX12_sort_64 ?_
  exact w_X12_sort_65 X hr hl hk2 hk14 _ _ _ _ _ _ h
def m_X12_sort_14 (n : Nat) (k2 : q_S → Option Nat → Int32 → Option (Unit × q_S)) : Nat → q_S → Option Nat → Int32 → Int32 → Int32 → Option (Unit × q_S)
  | 0, _, _, _, _, _ => none
  | k + 1, S, l0, l1, l2, l3 => q_at (S) (l0) 13 (fun a1 => (if (q_I (S) a1 3) ≤ l3 then q_at (S) (q_R (S) a1 40) 100 (fun a3 => q_if (q_in (l2) (q_N (S) a3) = true) (k2 (q_sI (S) a3 (l2).toNatClampNeg (l1)) (l0) (l1 + (1)))) else q_at (S) (q_R (S) a1 4) 101 (fun a5 => q_if (q_in (l3) (q_N (S) a5) = true) (q_if (q_in (l1) (q_N (S) a5) = true) ((if (lg_cmp ((q_J (S) a5 (l3).toNatClampNeg)) ((q_J (S) a5 (l1).toNatClampNeg))) < 0 then m_X12_sort_60 n k2 (m_X12_sort_14 n k2 k) (S) (l0) (l1) (l3) (l2) else q_if (q_in (l3) (q_N (S) a5) = true) (q_if (q_in (l1) (q_N (S) a5) = true) ((if (lg_cmp ((q_J (S) a5 (l3).toNatClampNeg)) ((q_J (S) a5 (l1).toNatClampNeg))) = 0 then (if l1 ≤ l3 then m_X12_sort_64 n k2 (m_X12_sort_14 n k2 k) (S) (l0) (l1) (l3) (l2) else m_X12_sort_60 n k2 (m_X12_sort_14 n k2 k) (S) (l0) (l1) (l3) (l2)) else m_X12_sort_64 n k2 (m_X12_sort_14 n k2 k) (S) (l0) (l1) (l3) (l2))))))))))
set_option maxHeartbeats 4000000 in
set_option maxRecDepth 100000 in
theorem w_X12_sort_14 (X : q_X p s m args c cX12_sort 4 RX12 q_T D cy A) (hr : meth.sig.returnType = none) (hl : meth.locks = false)  {n : Nat} {Sv : q_S}  {k2 : q_S → Option Nat → Int32 → Option (Unit × q_S)} (hk2 : ∀ (S : q_S) (z0 : Option Nat) (z1 : Int32), k2 S z0 z1 = some ((), Sv) → q_W p l e ({ frames := 0, cells := 0, slots := 0, locals := 0 } : Room) s m args below meth c (MQ below (va_Qv (fun (u : q_S) => u = Sv) (q_B D cy A) A) args s 0 0 A) A D cy 4 0 0 S 2 [(0, va_rf (z0)), (1, .int (z1))] []) : ∀ (k : Nat) (S : q_S) (l0 : Option Nat) (l1 : Int32) (l2 : Int32) (l3 : Int32), m_X12_sort_14 n k2 k S l0 l1 l2 l3 = some ((), Sv) → q_W p l e ({ frames := 0, cells := 0, slots := 0, locals := 0 } : Room) s m args below meth c (MQ below (va_Qv (fun (u : q_S) => u = Sv) (q_B D cy A) A) args s 0 0 A) A D cy 4 0 0 S 14 [(0, va_rf (l0)), (1, .int (l1)), (2, .int (l2)), (3, .int (l3))] [] := by
  intro k
  induction k with
  | zero => intro S l0 l1 l2 l3 h; rw [m_X12_sort_14] at h; cases h
  | succ k ih =>
    intro S l0 l1 l2 l3 h
    rw [m_X12_sort_14] at h
    refine q_iload_n X 3 rfl dX12_sort_14 ?_
    refine q_aload_n X 0 rfl dX12_sort_15 ?_
    obtain ⟨a1, ea1, ma1, ka1, h⟩ := q_atE h
    refine q_getI X 3 ea1 ma1 ka1 rfl tW_X12 (by decide) (by decide) tF_X12_111 rfl dX12_sort_16 ?_
    refine q_icmp_ge X 73 (by decide) dX12_sort_19 (fun g2 => ?_) (fun g2 => ?_)
    · rw [if_pos g2] at h
      refine q_aload_n X 0 rfl dX12_sort_73 ?_
      refine q_getR X 40 ea1 ma1 ka1 rfl tW_X12 (by decide) (by decide) tF_X12_93 rfl dX12_sort_74 ?_
      refine q_iload_n X 2 rfl dX12_sort_77 ?_
      refine q_iload_n X 1 rfl dX12_sort_78 ?_
      obtain ⟨a3, ea3, ma3, ka3, h⟩ := q_atE h
      obtain ⟨g4, h⟩ := q_ifE h
      refine q_iastore X ea3 ma3 ka3 (q_inE g4) dX12_sort_79 ?_
      have ma1 : a1 ∈ q_L (q_sI (S) a3 (l2).toNatClampNeg (l1)) := q_LsI ma1
      have ka1 : q_K (q_sI (S) a3 (l2).toNatClampNeg (l1)) a1 = 13 := q_KsI ka1
      have ma3 : a3 ∈ q_L (q_sI (S) a3 (l2).toNatClampNeg (l1)) := q_LsI ma3
      have ka3 : q_K (q_sI (S) a3 (l2).toNatClampNeg (l1)) a3 = 100 := q_KsI ka3
      refine q_iinc X 1 1 (l1 + (1)) [(1, .int (l1 + (1))), (0, va_rf (l0)), (2, .int (l2)), (3, .int (l3))] rfl (congrArg (fun z => l1 + z) (show Int32.ofInt (1) = (1) by decide)) (by decide) (by first | rfl | simp [List.filter, q_catR]) dX12_sort_80 ?_
      refine q_goto X 2 (by decide) dX12_sort_83 ?_
      refine q_lv [1, 0] rfl ?_
      exact hk2 _ _ _ h
    · rw [if_neg g2] at h
      refine q_iload_n X 2 rfl dX12_sort_22 ?_
      refine q_aload_n X 0 rfl dX12_sort_23 ?_
      refine q_getR X 4 ea1 ma1 ka1 rfl tW_X12 (by decide) (by decide) tF_X12_13 rfl dX12_sort_24 ?_
      refine q_iload_n X 3 rfl dX12_sort_27 ?_
      obtain ⟨a5, ea5, ma5, ka5, h⟩ := q_atE h
      obtain ⟨g6, h⟩ := q_ifE h
      refine q_laload X ea5 ma5 ka5 (q_inE g6) dX12_sort_28 ?_
      refine q_aload_n X 0 rfl dX12_sort_29 ?_
      refine q_getR X 4 ea1 ma1 ka1 rfl tW_X12 (by decide) (by decide) tF_X12_13 rfl dX12_sort_30 ?_
      refine q_iload_n X 1 rfl dX12_sort_33 ?_
      obtain ⟨g7, h⟩ := q_ifE h
      refine q_laload X ea5 ma5 ka5 (q_inE g7) dX12_sort_34 ?_
      refine q_lcmp X dX12_sort_35 ?_
      refine q_if_lt X 60 (by decide) dX12_sort_36 (fun g8 => ?_) (fun g8 => ?_)
      · rw [if_pos g8] at h
        refine q_lv [0, 1, 3] rfl ?_
        exact w_X12_sort_60 X hr hl hk2 ih _ _ _ _ _ h
      · rw [if_neg g8] at h
        refine q_aload_n X 0 rfl dX12_sort_39 ?_
        refine q_getR X 4 ea1 ma1 ka1 rfl tW_X12 (by decide) (by decide) tF_X12_13 rfl dX12_sort_40 ?_
        refine q_iload_n X 3 rfl dX12_sort_43 ?_
        obtain ⟨g9, h⟩ := q_ifE h
        refine q_laload X ea5 ma5 ka5 (q_inE g9) dX12_sort_44 ?_
        refine q_aload_n X 0 rfl dX12_sort_45 ?_
        refine q_getR X 4 ea1 ma1 ka1 rfl tW_X12 (by decide) (by decide) tF_X12_13 rfl dX12_sort_46 ?_
        refine q_iload_n X 1 rfl dX12_sort_49 ?_
        obtain ⟨g10, h⟩ := q_ifE h
        refine q_laload X ea5 ma5 ka5 (q_inE g10) dX12_sort_50 ?_
        refine q_lcmp X dX12_sort_51 ?_
        refine q_if_ne X 64 (by decide) dX12_sort_52 (fun g11 => ?_) (fun g11 => ?_)
        · rw [if_neg g11] at h
          refine q_lv [0, 1, 3] rfl ?_
          exact w_X12_sort_64 X hr hl hk2 ih _ _ _ _ _ h
        · rw [if_pos g11] at h
          refine q_iload_n X 3 rfl dX12_sort_55 ?_
          refine q_iload_n X 1 rfl dX12_sort_56 ?_
          refine q_icmp_ge X 64 (by decide) dX12_sort_57 (fun g12 => ?_) (fun g12 => ?_)
          · rw [if_pos g12] at h
            refine q_lv [0, 1, 3] rfl ?_
            exact w_X12_sort_64 X hr hl hk2 ih _ _ _ _ _ h
          · rw [if_neg g12] at h
            refine q_lv [0, 1, 3] rfl ?_
            exact w_X12_sort_60 X hr hl hk2 ih _ _ _ _ _ h
def m_X12_sort_2 (n : Nat) : Nat → q_S → Option Nat → Int32 → Option (Unit × q_S)
  | 0, _, _, _ => none
  | k + 1, S, l0, l1 => q_at (S) (l0) 13 (fun a1 => (if (q_I (S) a1 3) ≤ l1 then some ((), S) else m_X12_sort_14 n (m_X12_sort_2 n k) n (S) (l0) (l1) ((0 : Int32)) ((0 : Int32))))
set_option maxHeartbeats 4000000 in
set_option maxRecDepth 100000 in
theorem w_X12_sort_2 (X : q_X p s m args c cX12_sort 4 RX12 q_T D cy A) (hr : meth.sig.returnType = none) (hl : meth.locks = false)  {n : Nat} {Sv : q_S}  : ∀ (k : Nat) (S : q_S) (l0 : Option Nat) (l1 : Int32), m_X12_sort_2 n k S l0 l1 = some ((), Sv) → q_W p l e ({ frames := 0, cells := 0, slots := 0, locals := 0 } : Room) s m args below meth c (MQ below (va_Qv (fun (u : q_S) => u = Sv) (q_B D cy A) A) args s 0 0 A) A D cy 4 0 0 S 2 [(0, va_rf (l0)), (1, .int (l1))] [] := by
  intro k
  induction k with
  | zero => intro S l0 l1 h; rw [m_X12_sort_2] at h; cases h
  | succ k ih =>
    intro S l0 l1 h
    rw [m_X12_sort_2] at h
    refine q_iload_n X 1 rfl dX12_sort_2 ?_
    refine q_aload_n X 0 rfl dX12_sort_3 ?_
    obtain ⟨a1, ea1, ma1, ka1, h⟩ := q_atE h
    refine q_getI X 3 ea1 ma1 ka1 rfl tW_X12 (by decide) (by decide) tF_X12_111 rfl dX12_sort_4 ?_
    refine q_icmp_ge X 86 (by decide) dX12_sort_7 (fun g2 => ?_) (fun g2 => ?_)
    · rw [if_pos g2] at h
      obtain ⟨ev, eS⟩ := q_end h
      exact q_vret X hr hl eS dX12_sort_86
    · rw [if_neg g2] at h
      refine q_iconst X (0) (by decide) dX12_sort_10 ?_
      refine q_istore_n X 2 [(2, .int ((0 : Int32))), (0, va_rf (l0)), (1, .int (l1))] rfl (by decide) (by first | rfl | simp [List.filter, q_catR]) dX12_sort_11 ?_
      refine q_iconst X (0) (by decide) dX12_sort_12 ?_
      refine q_istore_n X 3 [(3, .int ((0 : Int32))), (2, .int ((0 : Int32))), (0, va_rf (l0)), (1, .int (l1))] rfl (by decide) (by first | rfl | simp [List.filter, q_catR]) dX12_sort_13 ?_
      refine q_lv [2, 3, 1, 0] rfl ?_
      exact w_X12_sort_14 X hr hl ih n _ _ _ _ _ h
def m_X12_sort (n : Nat) (S : q_S) (o : Nat)  : Option (Unit × q_S) := m_X12_sort_2 n n (S) (some o) ((0 : Int32))
set_option maxHeartbeats 4000000 in
set_option maxRecDepth 100000 in
theorem w_X12_sort (X : q_X p s m args c cX12_sort 4 RX12 q_T D cy A) (hr : meth.sig.returnType = none) (hl : meth.locks = false)  {n : Nat} {S Sv : q_S} {o : Nat}  (h : m_X12_sort n S o = some ((), Sv)) : q_W p l e ({ frames := 0, cells := 0, slots := 0, locals := 0 } : Room) s m args below meth c (MQ below (va_Qv (fun (u : q_S) => u = Sv) (q_B D cy A) A) args s 0 0 A) A D cy 4 0 0 S 0 [(0, va_rf (some o))] [] := by
  unfold m_X12_sort at h
  refine q_iconst X (0) (by decide) dX12_sort_0 ?_
  refine q_istore_n X 1 [(1, .int ((0 : Int32))), (0, va_rf (some o))] rfl (by decide) (by first | rfl | simp [List.filter, q_catR]) dX12_sort_1 ?_
  refine q_lv [1, 0] rfl ?_
  exact w_X12_sort_2 X hr hl n _ _ _ h
theorem tD_X12_sort : yX12_sort.cls ≠ "java/lang/invoke/MethodHandle" ∧ yX12_sort.cls ≠ "java/lang/invoke/VarHandle" ∧ (parseMethodDescriptor yX12_sort.desc).map (fun d => d.parameters.length) = some 0 := by decide +kernel
theorem c_X12_sort {l : Launch} {D : va_G} {cy : Nat → ClassId} {n : Nat} {S Sv : q_S} {o : Nat}  (h : m_X12_sort n S o = some ((), Sv)) : q_MV l yX12_sort (q_ws yX12_sort cX12_sort 4 (none)) ({ frames := 0, cells := 0, slots := 0, locals := 0 } : Room) D cy [.ref o] S Sv := by
  exact q_MV_of (by decide +kernel) (Nat.le_of_ble_eq_true rfl) (fun p e s m args below meth c A X hr hl => w_X12_sort X hr hl h)
end MM
