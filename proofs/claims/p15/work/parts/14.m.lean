section MM
variable {p : Program} {l : Launch} {e : Env} {s : State} {m : MethodId} {args : Array Value} {below : List Frame} {meth : Method} {c : Code} {A : Nat → Prop} {D : va_G} {cy : Nat → ClassId}
/-! TrueOutlines$Signs.use(I)V -/
def m_X6_use_43 (n : Nat) (S : q_S) : Option (Unit × q_S) := some ((), S)
set_option maxHeartbeats 4000000 in
set_option maxRecDepth 100000 in
theorem w_X6_use_43 (X : q_X p s m args c cX6_use 4 RX6 q_T D cy A) (hr : meth.sig.returnType = none) (hl : meth.locks = false)  {n : Nat} {Sv : q_S}  (S : q_S) (h : m_X6_use_43 n S = some ((), Sv)) : q_W p l e ({ frames := 5, cells := 0, slots := 0, locals := 120 } : Room) s m args below meth c (MQ below (va_Qv (fun (u : q_S) => u = Sv) (q_B D cy A) A) args s 0 0 A) A D cy 4 0 0 S 43 [] [] := by
  unfold m_X6_use_43 at h
  obtain ⟨ev, eS⟩ := q_end h
  exact q_vret X hr hl eS dX6_use_43
def m_X6_use_12 (n : Nat) : Nat → q_S → Option Nat → Int32 → Option (Unit × q_S)
  | 0, _, _, _ => none
  | k + 1, S, l0, l3 => q_at (S) (l0) 7 (fun a1 => (if (q_I (S) a1 4) ≤ l3 then m_X6_use_43 n (S) else (if (200 : Int32) ≤ l3 then m_X6_use_43 n (S) else q_at (S) (q_R (S) a1 3) 100 (fun a4 => q_if (q_in (l3) (q_N (S) a4) = true) (q_b (m_X6_markPartsOf n (S) a1 (q_I (S) a4 (l3).toNatClampNeg)) (fun _ S6 => m_X6_use_12 n k (S6) (l0) (l3 + (1))))))))
set_option maxHeartbeats 4000000 in
set_option maxRecDepth 100000 in
theorem w_X6_use_12 (X : q_X p s m args c cX6_use 4 RX6 q_T D cy A) (hr : meth.sig.returnType = none) (hl : meth.locks = false)  {n : Nat} {Sv : q_S}  : ∀ (k : Nat) (S : q_S) (l0 : Option Nat) (l3 : Int32), m_X6_use_12 n k S l0 l3 = some ((), Sv) → q_W p l e ({ frames := 5, cells := 0, slots := 0, locals := 120 } : Room) s m args below meth c (MQ below (va_Qv (fun (u : q_S) => u = Sv) (q_B D cy A) A) args s 0 0 A) A D cy 4 0 0 S 12 [(0, va_rf (l0)), (3, .int (l3))] [] := by
  intro k
  induction k with
  | zero => intro S l0 l3 h; rw [m_X6_use_12] at h; cases h
  | succ k ih =>
    intro S l0 l3 h
    rw [m_X6_use_12] at h
    refine q_iload_n X 1 rfl dX6_use_12 ?_
    refine q_aload_n X 0 rfl dX6_use_13 ?_
    obtain ⟨a1, ea1, ma1, ka1, h⟩ := q_atE h
    refine q_getI X 4 ea1 ma1 ka1 rfl tW_X6 (by decide) (by decide) tF_X6_86 rfl dX6_use_14 ?_
    refine q_icmp_ge X 43 (by decide) dX6_use_17 (fun g2 => ?_) (fun g2 => ?_)
    · rw [if_pos g2] at h
      refine q_lv [] rfl ?_
      exact w_X6_use_43 X hr hl _ h
    · rw [if_neg g2] at h
      refine q_iload_n X 1 rfl dX6_use_20 ?_
      refine q_sipush X (200) (by decide) dX6_use_21 ?_
      refine q_icmp_ge X 43 (by decide) dX6_use_24 (fun g3 => ?_) (fun g3 => ?_)
      · rw [if_pos g3] at h
        refine q_lv [] rfl ?_
        exact w_X6_use_43 X hr hl _ h
      · rw [if_neg g3] at h
        refine q_aload_n X 0 rfl dX6_use_27 ?_
        refine q_aload_n X 0 rfl dX6_use_28 ?_
        refine q_getR X 3 ea1 ma1 ka1 rfl tW_X6 (by decide) (by decide) tF_X6_15 rfl dX6_use_29 ?_
        refine q_iload_n X 1 rfl dX6_use_32 ?_
        obtain ⟨a4, ea4, ma4, ka4, h⟩ := q_atE h
        obtain ⟨g5, h⟩ := q_ifE h
        refine q_iaload X ea4 ma4 ka4 (q_inE g5) dX6_use_33 ?_
        obtain ⟨u8, S6, c7, h⟩ := q_bE h
        refine q_cVV X (As := [.int (q_I (S) a4 (l3).toNatClampNeg)]) ea1 ma1 ka1 rfl (by decide) (c_X6_markPartsOf c7) (q_cwV X tK_X6_markPartsOf tM_X6_126 tI_X6_markPartsOf tV_X6_markPartsOf tN_X6 rfl rfl tD_X6_markPartsOf ⟨Nat.le_of_ble_eq_true rfl, Nat.le_of_ble_eq_true rfl⟩) rfl rfl (by first | exact Nat.le_of_ble_eq_true rfl | (simp only [List.map, q_catR]; exact Nat.le_of_ble_eq_true rfl)) ⟨Nat.zero_le _, Nat.zero_le _⟩ dX6_use_34 ?_
        refine q_iinc X 3 1 (l3 + (1)) [(3, .int (l3 + (1))), (0, va_rf (l0))] rfl (congrArg (fun z => l3 + z) (show Int32.ofInt (1) = (1) by decide)) (by decide) (by first | rfl | simp [List.filter, q_catR]) dX6_use_37 ?_
        refine q_goto X 12 (by decide) dX6_use_40 ?_
        refine q_lv [1, 0] rfl ?_
        exact ih _ _ _ h
def m_X6_use (n : Nat) (S : q_S) (o : Nat) (p0 : Int32) : Option (Unit × q_S) := q_at (S) (some o) 7 (fun a1 => q_b (m_X6_mark n (S) a1 (p0)) (fun _ S2 => m_X6_use_12 n n (S2) (some o) (q_I (S) a1 4)))
set_option maxHeartbeats 4000000 in
set_option maxRecDepth 100000 in
theorem w_X6_use (X : q_X p s m args c cX6_use 4 RX6 q_T D cy A) (hr : meth.sig.returnType = none) (hl : meth.locks = false)  {n : Nat} {S Sv : q_S} {o : Nat} {p0 : Int32} (h : m_X6_use n S o p0 = some ((), Sv)) : q_W p l e ({ frames := 5, cells := 0, slots := 0, locals := 120 } : Room) s m args below meth c (MQ below (va_Qv (fun (u : q_S) => u = Sv) (q_B D cy A) A) args s 0 0 A) A D cy 4 0 0 S 0 [(0, va_rf (some o)), (1, .int (p0))] [] := by
  unfold m_X6_use at h
  refine q_aload_n X 0 rfl dX6_use_0 ?_
  obtain ⟨a1, ea1, ma1, ka1, h⟩ := q_atE h
  refine q_getI X 4 ea1 ma1 ka1 rfl tW_X6 (by decide) (by decide) tF_X6_86 rfl dX6_use_1 ?_
  refine q_istore_n X 2 [(2, .int (q_I (S) a1 4)), (0, va_rf (some o)), (1, .int (p0))] rfl (by decide) (by first | rfl | simp [List.filter, q_catR]) dX6_use_4 ?_
  refine q_aload_n X 1 rfl dX6_use_5 ?_
  refine q_iload_n X 2 rfl dX6_use_6 ?_
  obtain ⟨u4, S2, c3, h⟩ := q_bE h
  refine q_cVV X (As := [.int (p0)]) ea1 ma1 ka1 rfl (by decide) (c_X6_mark c3) (q_cwV X tK_X6_mark tM_X6_122 tI_X6_mark tV_X6_mark tN_X6 rfl rfl tD_X6_mark ⟨Nat.le_of_ble_eq_true rfl, Nat.le_of_ble_eq_true rfl⟩) rfl rfl (by first | exact Nat.le_of_ble_eq_true rfl | (simp only [List.map, q_catR]; exact Nat.le_of_ble_eq_true rfl)) ⟨Nat.zero_le _, Nat.zero_le _⟩ dX6_use_7 ?_
  refine q_iload_n X 0 rfl dX6_use_10 ?_
  refine q_istore_n X 3 [(3, .int (q_I (S) a1 4)), (2, .int (q_I (S) a1 4)), (0, va_rf (some o)), (1, .int (p0))] rfl (by decide) (by first | rfl | simp [List.filter, q_catR]) dX6_use_11 ?_
  refine q_lv [2, 0] rfl ?_
  exact w_X6_use_12 X hr hl n _ _ _ h
theorem tD_X6_use : yX6_use.cls ≠ "java/lang/invoke/MethodHandle" ∧ yX6_use.cls ≠ "java/lang/invoke/VarHandle" ∧ (parseMethodDescriptor yX6_use.desc).map (fun d => d.parameters.length) = some 1 := by decide +kernel
theorem c_X6_use {l : Launch} {D : va_G} {cy : Nat → ClassId} {n : Nat} {S Sv : q_S} {o : Nat} {p0 : Int32} (h : m_X6_use n S o p0 = some ((), Sv)) : q_MV l yX6_use (q_ws yX6_use cX6_use 4 (none)) ({ frames := 5, cells := 0, slots := 0, locals := 120 } : Room) D cy [.ref o, .int (p0)] S Sv := by
  exact q_MV_of (by decide +kernel) (Nat.le_of_ble_eq_true rfl) (fun p e s m args below meth c A X hr hl => w_X6_use X hr hl h)
/-! TrueOutlines.cut(I)I -/
def m_X11_cut (n : Nat) (S : q_S) (o : Nat) (p0 : Int32) : Option (Int32 × q_S) := q_at (S) (some o) 12 (fun a1 => q_at (S) (q_R (S) a1 3) 7 (fun a2 => q_b (m_X6_has n (S) a2 (p0)) (fun r3 S4 => (if r3 = 0 then some ((-1 : Int32), S4) else q_at (S4) (some o) 12 (fun a7 => q_at (S4) (q_R (S4) a7 3) 7 (fun a8 => q_b (m_X6_use n (S4) a8 (p0)) (fun _ S9 => q_at (S9) (some o) 12 (fun a12 => q_at (S9) (q_R (S9) a12 3) 7 (fun a13 => q_b (m_X6_used n (S9) a13) (fun r14 S15 => some (r14, S15)))))))))))
set_option maxHeartbeats 4000000 in
set_option maxRecDepth 100000 in
theorem w_X11_cut (X : q_X p s m args c cX11_cut 2 RX11 q_T D cy A) (hr : meth.sig.returnType = (some .int)) (hl : meth.locks = false)  {n : Nat} {S Sv : q_S} {rv : Int32} {o : Nat} {p0 : Int32} (h : m_X11_cut n S o p0 = some (rv, Sv)) : q_W p l e ({ frames := 6, cells := 0, slots := 0, locals := 143 } : Room) s m args below meth c (MQ below (va_Qi (fun (r : Int32) (u : q_S) => r = rv ∧ u = Sv) (q_B D cy A) A) args s 0 0 A) A D cy 2 0 0 S 0 [(0, va_rf (some o)), (1, .int (p0))] [] := by
  unfold m_X11_cut at h
  refine q_aload_n X 0 rfl dX11_cut_0 ?_
  obtain ⟨a1, ea1, ma1, ka1, h⟩ := q_atE h
  refine q_getR X 3 ea1 ma1 ka1 rfl tW_X11 (by decide) (by decide) tF_X11_39 rfl dX11_cut_1 ?_
  refine q_iload_n X 1 rfl dX11_cut_4 ?_
  obtain ⟨a2, ea2, ma2, ka2, h⟩ := q_atE h
  obtain ⟨r3, S4, c5, h⟩ := q_bE h
  refine q_cVI X (As := [.int (p0)]) ea2 ma2 ka2 rfl (by decide) (c_X6_has c5) (q_cwV X tK_X6_has tM_X11_152 tI_X6_has tV_X6_has tN_X6 rfl rfl tD_X6_has ⟨Nat.le_of_ble_eq_true rfl, Nat.le_of_ble_eq_true rfl⟩) rfl rfl (by first | exact Nat.le_of_ble_eq_true rfl | (simp only [List.map, q_catR]; exact Nat.le_of_ble_eq_true rfl)) ⟨Nat.zero_le _, Nat.zero_le _⟩ dX11_cut_5 ?_
  refine q_if_ne X 13 (by decide) dX11_cut_8 (fun g6 => ?_) (fun g6 => ?_)
  · rw [if_neg g6] at h
    refine q_aload_n X 0 rfl dX11_cut_13 ?_
    obtain ⟨a7, ea7, ma7, ka7, h⟩ := q_atE h
    refine q_getR X 3 ea7 ma7 ka7 rfl tW_X11 (by decide) (by decide) tF_X11_39 rfl dX11_cut_14 ?_
    refine q_iload_n X 1 rfl dX11_cut_17 ?_
    obtain ⟨a8, ea8, ma8, ka8, h⟩ := q_atE h
    obtain ⟨u11, S9, c10, h⟩ := q_bE h
    refine q_cVV X (As := [.int (p0)]) ea8 ma8 ka8 rfl (by decide) (c_X6_use c10) (q_cwV X tK_X6_use tM_X11_210 tI_X6_use tV_X6_use tN_X6 rfl rfl tD_X6_use ⟨Nat.le_of_ble_eq_true rfl, Nat.le_of_ble_eq_true rfl⟩) rfl rfl (by first | exact Nat.le_of_ble_eq_true rfl | (simp only [List.map, q_catR]; exact Nat.le_of_ble_eq_true rfl)) ⟨Nat.zero_le _, Nat.zero_le _⟩ dX11_cut_18 ?_
    refine q_aload_n X 0 rfl dX11_cut_21 ?_
    obtain ⟨a12, ea12, ma12, ka12, h⟩ := q_atE h
    refine q_getR X 3 ea12 ma12 ka12 rfl tW_X11 (by decide) (by decide) tF_X11_39 rfl dX11_cut_22 ?_
    obtain ⟨a13, ea13, ma13, ka13, h⟩ := q_atE h
    obtain ⟨r14, S15, c16, h⟩ := q_bE h
    refine q_cVI X (As := []) ea13 ma13 ka13 rfl (by decide) (c_X6_used c16) (q_cwV X tK_X6_used tM_X11_129 tI_X6_used tV_X6_used tN_X6 rfl rfl tD_X6_used ⟨Nat.le_of_ble_eq_true rfl, Nat.le_of_ble_eq_true rfl⟩) rfl rfl (by first | exact Nat.le_of_ble_eq_true rfl | (simp only [List.map, q_catR]; exact Nat.le_of_ble_eq_true rfl)) ⟨Nat.zero_le _, Nat.zero_le _⟩ dX11_cut_25 ?_
    obtain ⟨ev, eS⟩ := q_end h
    exact q_iret X hr hl rfl ev eS dX11_cut_28
  · rw [if_pos g6] at h
    refine q_iconst X (-1) (by decide) dX11_cut_11 ?_
    obtain ⟨ev, eS⟩ := q_end h
    exact q_iret X hr hl rfl ev eS dX11_cut_12
theorem tD_X11_cut : yX11_cut.cls ≠ "java/lang/invoke/MethodHandle" ∧ yX11_cut.cls ≠ "java/lang/invoke/VarHandle" ∧ (parseMethodDescriptor yX11_cut.desc).map (fun d => d.parameters.length) = some 1 := by decide +kernel
theorem c_X11_cut {l : Launch} {D : va_G} {cy : Nat → ClassId} {n : Nat} {S Sv : q_S} {rv : Int32} {o : Nat} {p0 : Int32} (h : m_X11_cut n S o p0 = some (rv, Sv)) : q_MI l yX11_cut (q_ws yX11_cut cX11_cut 2 ((some .int))) ({ frames := 6, cells := 0, slots := 0, locals := 143 } : Room) D cy [.ref o, .int (p0)] S rv Sv := by
  exact q_MI_of (by decide +kernel) (Nat.le_of_ble_eq_true rfl) (fun p e s m args below meth c A X hr hl => w_X11_cut X hr hl h)
/-! TrueOutlines.kern(II)I -/
def m_X11_kern_89 (n : Nat) (k23 : q_S → Int32 → Int32 → Option Nat → Int32 → Int32 → Option (Int32 × q_S)) (S : q_S) (l1 : Int32) (l2 : Int32) (l3 : Option Nat) (l4 : Int32) (l5 : Int32) : Option (Int32 × q_S) := k23 (S) (l1) (l2) (l3) (l4) (l5 + (1))
set_option maxHeartbeats 4000000 in
set_option maxRecDepth 100000 in
theorem w_X11_kern_89 (X : q_X p s m args c cX11_kern 8 RX11 q_T D cy A) (hr : meth.sig.returnType = (some .int)) (hl : meth.locks = false)  {n : Nat} {Sv : q_S} {rv : Int32}  {k23 : q_S → Int32 → Int32 → Option Nat → Int32 → Int32 → Option (Int32 × q_S)} (hk23 : ∀ (S : q_S) (z0 : Int32) (z1 : Int32) (z2 : Option Nat) (z3 : Int32) (z4 : Int32), k23 S z0 z1 z2 z3 z4 = some (rv, Sv) → q_W p l e ({ frames := 3, cells := 0, slots := 0, locals := 64 } : Room) s m args below meth c (MQ below (va_Qi (fun (r : Int32) (u : q_S) => r = rv ∧ u = Sv) (q_B D cy A) A) args s 0 0 A) A D cy 8 0 0 S 23 [(1, .int (z0)), (2, .int (z1)), (3, va_rf (z2)), (4, .int (z3)), (5, .int (z4))] []) (S : q_S) (l1 : Int32) (l2 : Int32) (l3 : Option Nat) (l4 : Int32) (l5 : Int32) (h : m_X11_kern_89 n k23 S l1 l2 l3 l4 l5 = some (rv, Sv)) : q_W p l e ({ frames := 3, cells := 0, slots := 0, locals := 64 } : Room) s m args below meth c (MQ below (va_Qi (fun (r : Int32) (u : q_S) => r = rv ∧ u = Sv) (q_B D cy A) A) args s 0 0 A) A D cy 8 0 0 S 89 [(1, .int (l1)), (2, .int (l2)), (3, va_rf (l3)), (4, .int (l4)), (5, .int (l5))] [] := by
  unfold m_X11_kern_89 at h
  refine q_iinc X 5 4 (l5 + (1)) [(5, .int (l5 + (1))), (1, .int (l1)), (2, .int (l2)), (3, va_rf (l3)), (4, .int (l4))] rfl (congrArg (fun z => l5 + z) (show Int32.ofInt (1) = (1) by decide)) (by decide) (by first | rfl | simp [List.filter, q_catR]) dX11_kern_89 ?_
  refine q_goto X 23 (by decide) dX11_kern_92 ?_
  refine q_lv [1, 2, 3, 4, 0] rfl ?_
  exact hk23 _ _ _ _ _ _ h
def m_X11_kern_23 (n : Nat) : Nat → q_S → Int32 → Int32 → Option Nat → Int32 → Int32 → Option (Int32 × q_S)
  | 0, _, _, _, _, _, _ => none
  | k + 1, S, l1, l2, l3, l4, l5 => (if l4 ≤ l5 then some ((0 : Int32), S) else q_at (S) (l3) 8 (fun a2 => q_b (m_X7_two n (S) a2 ((((18 : Int32) + ((6 : Int32) * l5)) + (4 : Int32)).toInt64)) (fun r3 S4 => (if r3 = (-1 : Int32) then some ((0 : Int32), S4) else q_at (S4) (l3) 8 (fun a7 => q_b (m_X7_two n (S4) a7 (((18 : Int32) + ((6 : Int32) * l5)).toInt64)) (fun r8 S9 => (if r8 = l1 then q_at (S9) (l3) 8 (fun a12 => q_b (m_X7_two n (S9) a12 ((((18 : Int32) + ((6 : Int32) * l5)) + (2 : Int32)).toInt64)) (fun r13 S14 => (if r13 = l2 then q_b (m_X11_signed n (S14) (r3)) (fun r17 S18 => some (r17, S18)) else m_X11_kern_89 n (m_X11_kern_23 n k) (S14) (l1) (l2) (l3) (l4) (l5)))) else m_X11_kern_89 n (m_X11_kern_23 n k) (S9) (l1) (l2) (l3) (l4) (l5))))))))
set_option maxHeartbeats 4000000 in
set_option maxRecDepth 100000 in
theorem w_X11_kern_23 (X : q_X p s m args c cX11_kern 8 RX11 q_T D cy A) (hr : meth.sig.returnType = (some .int)) (hl : meth.locks = false)  {n : Nat} {Sv : q_S} {rv : Int32}  : ∀ (k : Nat) (S : q_S) (l1 : Int32) (l2 : Int32) (l3 : Option Nat) (l4 : Int32) (l5 : Int32), m_X11_kern_23 n k S l1 l2 l3 l4 l5 = some (rv, Sv) → q_W p l e ({ frames := 3, cells := 0, slots := 0, locals := 64 } : Room) s m args below meth c (MQ below (va_Qi (fun (r : Int32) (u : q_S) => r = rv ∧ u = Sv) (q_B D cy A) A) args s 0 0 A) A D cy 8 0 0 S 23 [(1, .int (l1)), (2, .int (l2)), (3, va_rf (l3)), (4, .int (l4)), (5, .int (l5))] [] := by
  intro k
  induction k with
  | zero => intro S l1 l2 l3 l4 l5 h; rw [m_X11_kern_23] at h; cases h
  | succ k ih =>
    intro S l1 l2 l3 l4 l5 h
    rw [m_X11_kern_23] at h
    refine q_iload X 4 rfl dX11_kern_23 ?_
    refine q_iload X 3 rfl dX11_kern_25 ?_
    refine q_icmp_ge X 95 (by decide) dX11_kern_27 (fun g1 => ?_) (fun g1 => ?_)
    · rw [if_pos g1] at h
      refine q_iconst X (0) (by decide) dX11_kern_95 ?_
      obtain ⟨ev, eS⟩ := q_end h
      exact q_iret X hr hl rfl ev eS dX11_kern_96
    · rw [if_neg g1] at h
      refine q_bipush X (18) (by decide) dX11_kern_30 ?_
      refine q_bipush X (6) (by decide) dX11_kern_32 ?_
      refine q_iload X 4 rfl dX11_kern_34 ?_
      refine q_imul X dX11_kern_36 ?_
      refine q_iadd X dX11_kern_37 ?_
      refine q_istore X 6 [(6, .int ((18 : Int32) + ((6 : Int32) * l5))), (1, .int (l1)), (2, .int (l2)), (3, va_rf (l3)), (4, .int (l4)), (5, .int (l5))] (by decide) (by first | rfl | simp [List.filter, q_catR]) dX11_kern_38 ?_
      refine q_aload_n X 3 rfl dX11_kern_40 ?_
      refine q_iload X 0 rfl dX11_kern_41 ?_
      refine q_iconst X (4) (by decide) dX11_kern_43 ?_
      refine q_iadd X dX11_kern_44 ?_
      refine q_i2l X dX11_kern_45 ?_
      obtain ⟨a2, ea2, ma2, ka2, h⟩ := q_atE h
      obtain ⟨r3, S4, c5, h⟩ := q_bE h
      refine q_cVI X (As := [.long ((((18 : Int32) + ((6 : Int32) * l5)) + (4 : Int32)).toInt64)]) ea2 ma2 ka2 rfl (by decide) (c_X7_two c5) (q_cwV X tK_X7_two tM_X11_178 tI_X7_two tV_X7_two tN_X7 rfl rfl tD_X7_two ⟨Nat.le_of_ble_eq_true rfl, Nat.le_of_ble_eq_true rfl⟩) rfl rfl (by first | exact Nat.le_of_ble_eq_true rfl | (simp only [List.map, q_catR]; exact Nat.le_of_ble_eq_true rfl)) ⟨Nat.zero_le _, Nat.zero_le _⟩ dX11_kern_46 ?_
      refine q_istore X 7 [(7, .int (r3)), (6, .int ((18 : Int32) + ((6 : Int32) * l5))), (1, .int (l1)), (2, .int (l2)), (3, va_rf (l3)), (4, .int (l4)), (5, .int (l5))] (by decide) (by first | rfl | simp [List.filter, q_catR]) dX11_kern_49 ?_
      refine q_iload X 0 rfl dX11_kern_51 ?_
      refine q_iconst X (-1) (by decide) dX11_kern_53 ?_
      refine q_icmp_ne X 59 (by decide) dX11_kern_54 (fun g6 => ?_) (fun g6 => ?_)
      · rw [if_neg g6] at h
        refine q_aload_n X 4 rfl dX11_kern_59 ?_
        refine q_iload X 1 rfl dX11_kern_60 ?_
        refine q_i2l X dX11_kern_62 ?_
        obtain ⟨a7, ea7, ma7, ka7, h⟩ := q_atE h
        obtain ⟨r8, S9, c10, h⟩ := q_bE h
        refine q_cVI X (As := [.long (((18 : Int32) + ((6 : Int32) * l5)).toInt64)]) ea7 ma7 ka7 rfl (by decide) (c_X7_two c10) (q_cwV X tK_X7_two tM_X11_178 tI_X7_two tV_X7_two tN_X7 rfl rfl tD_X7_two ⟨Nat.le_of_ble_eq_true rfl, Nat.le_of_ble_eq_true rfl⟩) rfl rfl (by first | exact Nat.le_of_ble_eq_true rfl | (simp only [List.map, q_catR]; exact Nat.le_of_ble_eq_true rfl)) ⟨Nat.zero_le _, Nat.zero_le _⟩ dX11_kern_63 ?_
        refine q_iload_n X 2 rfl dX11_kern_66 ?_
        refine q_icmp_ne X 89 (by decide) dX11_kern_67 (fun g11 => ?_) (fun g11 => ?_)
        · rw [if_neg g11] at h
          refine q_lv [2, 3, 4, 5, 6] rfl ?_
          exact w_X11_kern_89 X hr hl ih _ _ _ _ _ _ h
        · rw [if_pos g11] at h
          refine q_aload_n X 4 rfl dX11_kern_70 ?_
          refine q_iload X 1 rfl dX11_kern_71 ?_
          refine q_iconst X (2) (by decide) dX11_kern_73 ?_
          refine q_iadd X dX11_kern_74 ?_
          refine q_i2l X dX11_kern_75 ?_
          obtain ⟨a12, ea12, ma12, ka12, h⟩ := q_atE h
          obtain ⟨r13, S14, c15, h⟩ := q_bE h
          refine q_cVI X (As := [.long ((((18 : Int32) + ((6 : Int32) * l5)) + (2 : Int32)).toInt64)]) ea12 ma12 ka12 rfl (by decide) (c_X7_two c15) (q_cwV X tK_X7_two tM_X11_178 tI_X7_two tV_X7_two tN_X7 rfl rfl tD_X7_two ⟨Nat.le_of_ble_eq_true rfl, Nat.le_of_ble_eq_true rfl⟩) rfl rfl (by first | exact Nat.le_of_ble_eq_true rfl | (simp only [List.map, q_catR]; exact Nat.le_of_ble_eq_true rfl)) ⟨Nat.zero_le _, Nat.zero_le _⟩ dX11_kern_76 ?_
          refine q_iload_n X 3 rfl dX11_kern_79 ?_
          refine q_icmp_ne X 89 (by decide) dX11_kern_80 (fun g16 => ?_) (fun g16 => ?_)
          · rw [if_neg g16] at h
            refine q_lv [2, 3, 4, 5, 6] rfl ?_
            exact w_X11_kern_89 X hr hl ih _ _ _ _ _ _ h
          · rw [if_pos g16] at h
            refine q_iload X 0 rfl dX11_kern_83 ?_
            obtain ⟨r17, S18, c19, h⟩ := q_bE h
            refine q_cSI X (As := [.int (r3)]) (c_X11_signed c19) (q_cwS X tK_X11_signed tM_X11_194 tS_X11_signed tN_X11 rfl rfl tD_X11_signed ⟨Nat.le_of_ble_eq_true rfl, Nat.le_of_ble_eq_true rfl⟩) rfl rfl (by first | exact Nat.le_of_ble_eq_true rfl | (simp only [List.map, q_catR]; exact Nat.le_of_ble_eq_true rfl)) ⟨Nat.zero_le _, Nat.zero_le _⟩ dX11_kern_85 ?_
            obtain ⟨ev, eS⟩ := q_end h
            exact q_iret X hr hl rfl ev eS dX11_kern_88
      · rw [if_pos g6] at h
        refine q_iconst X (0) (by decide) dX11_kern_57 ?_
        obtain ⟨ev, eS⟩ := q_end h
        exact q_iret X hr hl rfl ev eS dX11_kern_58
def m_X11_kern (n : Nat) (S : q_S) (o : Nat) (p0 : Int32) (p1 : Int32) : Option (Int32 × q_S) := q_at (S) (some o) 12 (fun a1 => q_at (S) (q_R (S) a1 2) 9 (fun a2 => q_b (m_X8_first n (S) a2 ((1801810542 : Int64))) (fun r3 S4 => q_at (S4) (some r3) 8 (fun a6 => q_b (m_X7_two n (S4) a6 ((10 : Int64))) (fun r7 S8 => m_X11_kern_23 n n (S8) (p0) (p1) (some r3) (r7) ((0 : Int32)))))))
set_option maxHeartbeats 4000000 in
set_option maxRecDepth 100000 in
theorem w_X11_kern (X : q_X p s m args c cX11_kern 8 RX11 q_T D cy A) (hr : meth.sig.returnType = (some .int)) (hl : meth.locks = false)  {n : Nat} {S Sv : q_S} {rv : Int32} {o : Nat} {p0 : Int32} {p1 : Int32} (h : m_X11_kern n S o p0 p1 = some (rv, Sv)) : q_W p l e ({ frames := 3, cells := 0, slots := 0, locals := 64 } : Room) s m args below meth c (MQ below (va_Qi (fun (r : Int32) (u : q_S) => r = rv ∧ u = Sv) (q_B D cy A) A) args s 0 0 A) A D cy 8 0 0 S 0 [(0, va_rf (some o)), (1, .int (p0)), (2, .int (p1))] [] := by
  unfold m_X11_kern at h
  refine q_aload_n X 0 rfl dX11_kern_0 ?_
  obtain ⟨a1, ea1, ma1, ka1, h⟩ := q_atE h
  refine q_getR X 2 ea1 ma1 ka1 rfl tW_X11 (by decide) (by decide) tF_X11_30 rfl dX11_kern_1 ?_
  refine q_ldc2_w X (1801810542) tC_X11_190 dX11_kern_4 ?_
  obtain ⟨a2, ea2, ma2, ka2, h⟩ := q_atE h
  obtain ⟨r3, S4, c5, h⟩ := q_bE h
  refine q_cVR X (As := [.long ((1801810542 : Int64))]) ea2 ma2 ka2 rfl (by decide) (c_X8_first c5) (q_cwV X tK_X8_first tM_X11_172 tI_X8_first tV_X8_first tN_X8 rfl rfl tD_X8_first ⟨Nat.le_of_ble_eq_true rfl, Nat.le_of_ble_eq_true rfl⟩) rfl rfl (by first | exact Nat.le_of_ble_eq_true rfl | (simp only [List.map, q_catR]; exact Nat.le_of_ble_eq_true rfl)) ⟨Nat.zero_le _, Nat.zero_le _⟩ dX11_kern_7 ?_
  refine q_astore_n X 3 [(3, va_rf (some r3)), (0, va_rf (some o)), (1, .int (p0)), (2, .int (p1))] rfl (by decide) (by first | rfl | simp [List.filter, q_catR]) dX11_kern_10 ?_
  refine q_aload_n X 0 rfl dX11_kern_11 ?_
  refine q_ldc2_w X (10) tC_X11_192 dX11_kern_12 ?_
  obtain ⟨a6, ea6, ma6, ka6, h⟩ := q_atE h
  obtain ⟨r7, S8, c9, h⟩ := q_bE h
  refine q_cVI X (As := [.long ((10 : Int64))]) ea6 ma6 ka6 rfl (by decide) (c_X7_two c9) (q_cwV X tK_X7_two tM_X11_178 tI_X7_two tV_X7_two tN_X7 rfl rfl tD_X7_two ⟨Nat.le_of_ble_eq_true rfl, Nat.le_of_ble_eq_true rfl⟩) rfl rfl (by first | exact Nat.le_of_ble_eq_true rfl | (simp only [List.map, q_catR]; exact Nat.le_of_ble_eq_true rfl)) ⟨Nat.zero_le _, Nat.zero_le _⟩ dX11_kern_15 ?_
  refine q_istore X 4 [(4, .int (r7)), (3, va_rf (some r3)), (0, va_rf (some o)), (1, .int (p0)), (2, .int (p1))] (by decide) (by first | rfl | simp [List.filter, q_catR]) dX11_kern_18 ?_
  refine q_iconst X (0) (by decide) dX11_kern_20 ?_
  refine q_istore X 5 [(5, .int ((0 : Int32))), (4, .int (r7)), (3, va_rf (some r3)), (0, va_rf (some o)), (1, .int (p0)), (2, .int (p1))] (by decide) (by first | rfl | simp [List.filter, q_catR]) dX11_kern_21 ?_
  refine q_lv [4, 5, 2, 1, 0] rfl ?_
  exact w_X11_kern_23 X hr hl n _ _ _ _ _ _ h
theorem tD_X11_kern : yX11_kern.cls ≠ "java/lang/invoke/MethodHandle" ∧ yX11_kern.cls ≠ "java/lang/invoke/VarHandle" ∧ (parseMethodDescriptor yX11_kern.desc).map (fun d => d.parameters.length) = some 2 := by decide +kernel
theorem c_X11_kern {l : Launch} {D : va_G} {cy : Nat → ClassId} {n : Nat} {S Sv : q_S} {rv : Int32} {o : Nat} {p0 : Int32} {p1 : Int32} (h : m_X11_kern n S o p0 p1 = some (rv, Sv)) : q_MI l yX11_kern (q_ws yX11_kern cX11_kern 8 ((some .int))) ({ frames := 3, cells := 0, slots := 0, locals := 64 } : Room) D cy [.ref o, .int (p0), .int (p1)] S rv Sv := by
  exact q_MI_of (by decide +kernel) (Nat.le_of_ble_eq_true rfl) (fun p e s m args below meth c A X hr hl => w_X11_kern X hr hl h)
/-! TrueOutlines.map(I)I -/
def m_X11_map_42 (n : Nat) (S : q_S) (s0 : Int32) : Option (Int32 × q_S) := some (s0, S)
set_option maxHeartbeats 4000000 in
set_option maxRecDepth 100000 in
theorem w_X11_map_42 (X : q_X p s m args c cX11_map 4 RX11 q_T D cy A) (hr : meth.sig.returnType = (some .int)) (hl : meth.locks = false)  {n : Nat} {Sv : q_S} {rv : Int32}  (S : q_S) (s0 : Int32) (h : m_X11_map_42 n S s0 = some (rv, Sv)) : q_W p l e ({ frames := 7, cells := 0, slots := 0, locals := 167 } : Room) s m args below meth c (MQ below (va_Qi (fun (r : Int32) (u : q_S) => r = rv ∧ u = Sv) (q_B D cy A) A) args s 0 0 A) A D cy 4 0 0 S 42 [] [.int (s0)] := by
  unfold m_X11_map_42 at h
  obtain ⟨ev, eS⟩ := q_end h
  exact q_iret X hr hl rfl ev eS dX11_map_42
def m_X11_map_41 (n : Nat) (S : q_S) : Option (Int32 × q_S) := m_X11_map_42 n (S) ((0 : Int32))
set_option maxHeartbeats 4000000 in
set_option maxRecDepth 100000 in
theorem w_X11_map_41 (X : q_X p s m args c cX11_map 4 RX11 q_T D cy A) (hr : meth.sig.returnType = (some .int)) (hl : meth.locks = false)  {n : Nat} {Sv : q_S} {rv : Int32}  (S : q_S) (h : m_X11_map_41 n S = some (rv, Sv)) : q_W p l e ({ frames := 7, cells := 0, slots := 0, locals := 167 } : Room) s m args below meth c (MQ below (va_Qi (fun (r : Int32) (u : q_S) => r = rv ∧ u = Sv) (q_B D cy A) A) args s 0 0 A) A D cy 4 0 0 S 41 [] [] := by
  unfold m_X11_map_41 at h
  refine q_iconst X (0) (by decide) dX11_map_41 ?_
  exact w_X11_map_42 X hr hl _ _ h
def m_X11_map_16 (n : Nat) (S : q_S) (l0 : Option Nat) (s0 : Int64) : Option (Int32 × q_S) := (if (lg_cmp (s0) ((0 : Int64))) ≤ 0 then m_X11_map_41 n (S) else q_at (S) (l0) 12 (fun a2 => q_at (S) (q_R (S) a2 3) 7 (fun a3 => q_b (m_X6_size n (S) a3) (fun r4 S5 => (if 0 ≤ (lg_cmp (s0) ((r4.toInt64))) then m_X11_map_41 n (S5) else m_X11_map_42 n (S5) (s0.toInt32))))))
set_option maxHeartbeats 4000000 in
set_option maxRecDepth 100000 in
theorem w_X11_map_16 (X : q_X p s m args c cX11_map 4 RX11 q_T D cy A) (hr : meth.sig.returnType = (some .int)) (hl : meth.locks = false)  {n : Nat} {Sv : q_S} {rv : Int32}  (S : q_S) (l0 : Option Nat) (s0 : Int64) (h : m_X11_map_16 n S l0 s0 = some (rv, Sv)) : q_W p l e ({ frames := 7, cells := 0, slots := 0, locals := 167 } : Room) s m args below meth c (MQ below (va_Qi (fun (r : Int32) (u : q_S) => r = rv ∧ u = Sv) (q_B D cy A) A) args s 0 0 A) A D cy 4 0 0 S 16 [(0, va_rf (l0))] [.long (s0)] := by
  unfold m_X11_map_16 at h
  refine q_lstore_n X 2 [(2, .long (s0)), (0, va_rf (l0))] rfl (by decide) (by first | rfl | simp [List.filter, q_catR]) dX11_map_16 ?_
  refine q_lload_n X 0 rfl dX11_map_17 ?_
  refine q_lconst X (0) (by decide) dX11_map_18 ?_
  refine q_lcmp X dX11_map_19 ?_
  refine q_if_le X 41 (by decide) dX11_map_20 (fun g1 => ?_) (fun g1 => ?_)
  · rw [if_pos g1] at h
    refine q_lv [] rfl ?_
    exact w_X11_map_41 X hr hl _ h
  · rw [if_neg g1] at h
    refine q_lload_n X 0 rfl dX11_map_23 ?_
    refine q_aload_n X 1 rfl dX11_map_24 ?_
    obtain ⟨a2, ea2, ma2, ka2, h⟩ := q_atE h
    refine q_getR X 3 ea2 ma2 ka2 rfl tW_X11 (by decide) (by decide) tF_X11_39 rfl dX11_map_25 ?_
    obtain ⟨a3, ea3, ma3, ka3, h⟩ := q_atE h
    obtain ⟨r4, S5, c6, h⟩ := q_bE h
    refine q_cVI X (As := []) ea3 ma3 ka3 rfl (by decide) (c_X6_size c6) (q_cwV X tK_X6_size tM_X11_128 tI_X6_size tV_X6_size tN_X6 rfl rfl tD_X6_size ⟨Nat.le_of_ble_eq_true rfl, Nat.le_of_ble_eq_true rfl⟩) rfl rfl (by first | exact Nat.le_of_ble_eq_true rfl | (simp only [List.map, q_catR]; exact Nat.le_of_ble_eq_true rfl)) ⟨Nat.zero_le _, Nat.zero_le _⟩ dX11_map_28 ?_
    refine q_i2l X dX11_map_31 ?_
    refine q_lcmp X dX11_map_32 ?_
    refine q_if_ge X 41 (by decide) dX11_map_33 (fun g7 => ?_) (fun g7 => ?_)
    · rw [if_pos g7] at h
      refine q_lv [] rfl ?_
      exact w_X11_map_41 X hr hl _ h
    · rw [if_neg g7] at h
      refine q_lload_n X 0 rfl dX11_map_36 ?_
      refine q_l2i X dX11_map_37 ?_
      refine q_goto X 42 (by decide) dX11_map_38 ?_
      refine q_lv [] rfl ?_
      exact w_X11_map_42 X hr hl _ _ h
def m_X11_map (n : Nat) (S : q_S) (o : Nat) (p0 : Int32) : Option (Int32 × q_S) := (if 0 ≤ p0 then q_at (S) (some o) 12 (fun a2 => q_at (S) (q_R (S) a2 4) 1 (fun a3 => q_b (m_X0_find n (S) a3 (p0)) (fun r4 S5 => m_X11_map_16 n (S5) (some o) (r4)))) else m_X11_map_16 n (S) (some o) ((0 : Int64)))
set_option maxHeartbeats 4000000 in
set_option maxRecDepth 100000 in
theorem w_X11_map (X : q_X p s m args c cX11_map 4 RX11 q_T D cy A) (hr : meth.sig.returnType = (some .int)) (hl : meth.locks = false)  {n : Nat} {S Sv : q_S} {rv : Int32} {o : Nat} {p0 : Int32} (h : m_X11_map n S o p0 = some (rv, Sv)) : q_W p l e ({ frames := 7, cells := 0, slots := 0, locals := 167 } : Room) s m args below meth c (MQ below (va_Qi (fun (r : Int32) (u : q_S) => r = rv ∧ u = Sv) (q_B D cy A) A) args s 0 0 A) A D cy 4 0 0 S 0 [(0, va_rf (some o)), (1, .int (p0))] [] := by
  unfold m_X11_map at h
  refine q_iload_n X 1 rfl dX11_map_0 ?_
  refine q_if_ge X 8 (by decide) dX11_map_1 (fun g1 => ?_) (fun g1 => ?_)
  · rw [if_pos g1] at h
    refine q_aload_n X 0 rfl dX11_map_8 ?_
    obtain ⟨a2, ea2, ma2, ka2, h⟩ := q_atE h
    refine q_getR X 4 ea2 ma2 ka2 rfl tW_X11 (by decide) (by decide) tF_X11_48 rfl dX11_map_9 ?_
    refine q_iload_n X 1 rfl dX11_map_12 ?_
    obtain ⟨a3, ea3, ma3, ka3, h⟩ := q_atE h
    obtain ⟨r4, S5, c6, h⟩ := q_bE h
    refine q_cVJ X (As := [.int (p0)]) ea3 ma3 ka3 rfl (by decide) (c_X0_find c6) (q_cwV X tK_X0_find tM_X11_142 tI_X0_find tV_X0_find tN_X0 rfl rfl tD_X0_find ⟨Nat.le_of_ble_eq_true rfl, Nat.le_of_ble_eq_true rfl⟩) rfl rfl (by first | exact Nat.le_of_ble_eq_true rfl | (simp only [List.map, q_catR]; exact Nat.le_of_ble_eq_true rfl)) ⟨Nat.zero_le _, Nat.zero_le _⟩ dX11_map_13 ?_
    refine q_lv [0] rfl ?_
    exact w_X11_map_16 X hr hl _ _ _ h
  · rw [if_neg g1] at h
    refine q_lconst X (0) (by decide) dX11_map_4 ?_
    refine q_goto X 16 (by decide) dX11_map_5 ?_
    refine q_lv [0] rfl ?_
    exact w_X11_map_16 X hr hl _ _ _ h
theorem tD_X11_map : yX11_map.cls ≠ "java/lang/invoke/MethodHandle" ∧ yX11_map.cls ≠ "java/lang/invoke/VarHandle" ∧ (parseMethodDescriptor yX11_map.desc).map (fun d => d.parameters.length) = some 1 := by decide +kernel
theorem c_X11_map {l : Launch} {D : va_G} {cy : Nat → ClassId} {n : Nat} {S Sv : q_S} {rv : Int32} {o : Nat} {p0 : Int32} (h : m_X11_map n S o p0 = some (rv, Sv)) : q_MI l yX11_map (q_ws yX11_map cX11_map 4 ((some .int))) ({ frames := 7, cells := 0, slots := 0, locals := 167 } : Room) D cy [.ref o, .int (p0)] S rv Sv := by
  exact q_MI_of (by decide +kernel) (Nat.le_of_ble_eq_true rfl) (fun p e s m args below meth c A X hr hl => w_X11_map X hr hl h)
/-! TrueOutlines$Pieces.has(II)Z -/
def m_X2_has_27 (n : Nat) (S : q_S) (s0 : Int32) : Option (Int32 × q_S) := q_if (s0 = 0 ∨ s0 = 1) (some (s0, S))
set_option maxHeartbeats 4000000 in
set_option maxRecDepth 100000 in
theorem w_X2_has_27 (X : q_X p s m args c cX2_has 3 RX2 q_T D cy A) (hr : meth.sig.returnType = (some .boolean)) (hl : meth.locks = false)  {n : Nat} {Sv : q_S} {rv : Int32}  (S : q_S) (s0 : Int32) (h : m_X2_has_27 n S s0 = some (rv, Sv)) : q_W p l e ({ frames := 0, cells := 0, slots := 0, locals := 0 } : Room) s m args below meth c (MQ below (va_Qi (fun (r : Int32) (u : q_S) => r = rv ∧ u = Sv) (q_B D cy A) A) args s 0 0 A) A D cy 3 0 0 S 27 [] [.int (s0)] := by
  unfold m_X2_has_27 at h
  obtain ⟨g1, h⟩ := q_ifE h
  obtain ⟨ev, eS⟩ := q_end h
  exact q_iret X hr hl (q_bool g1) ev eS dX2_has_27
def m_X2_has_26 (n : Nat) (S : q_S) : Option (Int32 × q_S) := m_X2_has_27 n (S) ((0 : Int32))
set_option maxHeartbeats 4000000 in
set_option maxRecDepth 100000 in
theorem w_X2_has_26 (X : q_X p s m args c cX2_has 3 RX2 q_T D cy A) (hr : meth.sig.returnType = (some .boolean)) (hl : meth.locks = false)  {n : Nat} {Sv : q_S} {rv : Int32}  (S : q_S) (h : m_X2_has_26 n S = some (rv, Sv)) : q_W p l e ({ frames := 0, cells := 0, slots := 0, locals := 0 } : Room) s m args below meth c (MQ below (va_Qi (fun (r : Int32) (u : q_S) => r = rv ∧ u = Sv) (q_B D cy A) A) args s 0 0 A) A D cy 3 0 0 S 26 [] [] := by
  unfold m_X2_has_26 at h
  refine q_iconst X (0) (by decide) dX2_has_26 ?_
  exact w_X2_has_27 X hr hl _ _ h
def m_X2_has (n : Nat) (S : q_S) (o : Nat) (p0 : Int32) (p1 : Int32) : Option (Int32 × q_S) := (if p0 < 0 then m_X2_has_26 n (S) else q_at (S) (some o) 3 (fun a2 => (if (q_I (S) a2 1) ≤ p0 then m_X2_has_26 n (S) else (if p1 < 0 then m_X2_has_26 n (S) else (if (8 : Int32) ≤ p1 then m_X2_has_26 n (S) else m_X2_has_27 n (S) ((1 : Int32)))))))
set_option maxHeartbeats 4000000 in
set_option maxRecDepth 100000 in
theorem w_X2_has (X : q_X p s m args c cX2_has 3 RX2 q_T D cy A) (hr : meth.sig.returnType = (some .boolean)) (hl : meth.locks = false)  {n : Nat} {S Sv : q_S} {rv : Int32} {o : Nat} {p0 : Int32} {p1 : Int32} (h : m_X2_has n S o p0 p1 = some (rv, Sv)) : q_W p l e ({ frames := 0, cells := 0, slots := 0, locals := 0 } : Room) s m args below meth c (MQ below (va_Qi (fun (r : Int32) (u : q_S) => r = rv ∧ u = Sv) (q_B D cy A) A) args s 0 0 A) A D cy 3 0 0 S 0 [(0, va_rf (some o)), (1, .int (p0)), (2, .int (p1))] [] := by
  unfold m_X2_has at h
  refine q_iload_n X 1 rfl dX2_has_0 ?_
  refine q_if_lt X 26 (by decide) dX2_has_1 (fun g1 => ?_) (fun g1 => ?_)
  · rw [if_pos g1] at h
    refine q_lv [] rfl ?_
    exact w_X2_has_26 X hr hl _ h
  · rw [if_neg g1] at h
    refine q_iload_n X 1 rfl dX2_has_4 ?_
    refine q_aload_n X 0 rfl dX2_has_5 ?_
    obtain ⟨a2, ea2, ma2, ka2, h⟩ := q_atE h
    refine q_getI X 1 ea2 ma2 ka2 rfl tW_X2 (by decide) (by decide) tF_X2_15 rfl dX2_has_6 ?_
    refine q_icmp_ge X 26 (by decide) dX2_has_9 (fun g3 => ?_) (fun g3 => ?_)
    · rw [if_pos g3] at h
      refine q_lv [] rfl ?_
      exact w_X2_has_26 X hr hl _ h
    · rw [if_neg g3] at h
      refine q_iload_n X 2 rfl dX2_has_12 ?_
      refine q_if_lt X 26 (by decide) dX2_has_13 (fun g4 => ?_) (fun g4 => ?_)
      · rw [if_pos g4] at h
        refine q_lv [] rfl ?_
        exact w_X2_has_26 X hr hl _ h
      · rw [if_neg g4] at h
        refine q_iload_n X 2 rfl dX2_has_16 ?_
        refine q_bipush X (8) (by decide) dX2_has_17 ?_
        refine q_icmp_ge X 26 (by decide) dX2_has_19 (fun g5 => ?_) (fun g5 => ?_)
        · rw [if_pos g5] at h
          refine q_lv [] rfl ?_
          exact w_X2_has_26 X hr hl _ h
        · rw [if_neg g5] at h
          refine q_iconst X (1) (by decide) dX2_has_22 ?_
          refine q_goto X 27 (by decide) dX2_has_23 ?_
          refine q_lv [] rfl ?_
          exact w_X2_has_27 X hr hl _ _ h
theorem tD_X2_has : yX2_has.cls ≠ "java/lang/invoke/MethodHandle" ∧ yX2_has.cls ≠ "java/lang/invoke/VarHandle" ∧ (parseMethodDescriptor yX2_has.desc).map (fun d => d.parameters.length) = some 2 := by decide +kernel
theorem c_X2_has {l : Launch} {D : va_G} {cy : Nat → ClassId} {n : Nat} {S Sv : q_S} {rv : Int32} {o : Nat} {p0 : Int32} {p1 : Int32} (h : m_X2_has n S o p0 p1 = some (rv, Sv)) : q_MI l yX2_has (q_ws yX2_has cX2_has 3 ((some .boolean))) ({ frames := 0, cells := 0, slots := 0, locals := 0 } : Room) D cy [.ref o, .int (p0), .int (p1)] S rv Sv := by
  exact q_MI_of (by decide +kernel) (Nat.le_of_ble_eq_true rfl) (fun p e s m args below meth c A X hr hl => w_X2_has X hr hl h)
/-! TrueOutlines$Pieces.get(II)I -/
def m_X2_get_24 (n : Nat) (S : q_S) (s0 : Int32) : Option (Int32 × q_S) := some (s0, S)
set_option maxHeartbeats 4000000 in
set_option maxRecDepth 100000 in
theorem w_X2_get_24 (X : q_X p s m args c cX2_get 3 RX2 q_T D cy A) (hr : meth.sig.returnType = (some .int)) (hl : meth.locks = false)  {n : Nat} {Sv : q_S} {rv : Int32}  (S : q_S) (s0 : Int32) (h : m_X2_get_24 n S s0 = some (rv, Sv)) : q_W p l e ({ frames := 1, cells := 0, slots := 0, locals := 22 } : Room) s m args below meth c (MQ below (va_Qi (fun (r : Int32) (u : q_S) => r = rv ∧ u = Sv) (q_B D cy A) A) args s 0 0 A) A D cy 3 0 0 S 24 [] [.int (s0)] := by
  unfold m_X2_get_24 at h
  obtain ⟨ev, eS⟩ := q_end h
  exact q_iret X hr hl rfl ev eS dX2_get_24
def m_X2_get (n : Nat) (S : q_S) (o : Nat) (p0 : Int32) (p1 : Int32) : Option (Int32 × q_S) := q_at (S) (some o) 3 (fun a1 => q_b (m_X2_has n (S) a1 (p0) (p1)) (fun r2 S3 => (if r2 = 0 then m_X2_get_24 n (S3) ((0 : Int32)) else q_at (S3) (some o) 3 (fun a6 => q_at (S3) (q_R (S3) a6 0) 100 (fun a7 => q_if (q_in (((8 : Int32) * p0) + p1) (q_N (S3) a7) = true) (m_X2_get_24 n (S3) (q_I (S3) a7 (((8 : Int32) * p0) + p1).toNatClampNeg)))))))
set_option maxHeartbeats 4000000 in
set_option maxRecDepth 100000 in
theorem w_X2_get (X : q_X p s m args c cX2_get 3 RX2 q_T D cy A) (hr : meth.sig.returnType = (some .int)) (hl : meth.locks = false)  {n : Nat} {S Sv : q_S} {rv : Int32} {o : Nat} {p0 : Int32} {p1 : Int32} (h : m_X2_get n S o p0 p1 = some (rv, Sv)) : q_W p l e ({ frames := 1, cells := 0, slots := 0, locals := 22 } : Room) s m args below meth c (MQ below (va_Qi (fun (r : Int32) (u : q_S) => r = rv ∧ u = Sv) (q_B D cy A) A) args s 0 0 A) A D cy 3 0 0 S 0 [(0, va_rf (some o)), (1, .int (p0)), (2, .int (p1))] [] := by
  unfold m_X2_get at h
  refine q_aload_n X 0 rfl dX2_get_0 ?_
  refine q_iload_n X 1 rfl dX2_get_1 ?_
  refine q_iload_n X 2 rfl dX2_get_2 ?_
  obtain ⟨a1, ea1, ma1, ka1, h⟩ := q_atE h
  obtain ⟨r2, S3, c4, h⟩ := q_bE h
  refine q_cVI X (As := [.int (p0), .int (p1)]) ea1 ma1 ka1 rfl (by decide) (c_X2_has c4) (q_cwV X tK_X2_has tM_X2_19 tI_X2_has tV_X2_has tN_X2 rfl rfl tD_X2_has ⟨Nat.le_of_ble_eq_true rfl, Nat.le_of_ble_eq_true rfl⟩) rfl rfl (by first | exact Nat.le_of_ble_eq_true rfl | (simp only [List.map, q_catR]; exact Nat.le_of_ble_eq_true rfl)) ⟨Nat.zero_le _, Nat.zero_le _⟩ dX2_get_3 ?_
  refine q_if_eq X 23 (by decide) dX2_get_6 (fun g5 => ?_) (fun g5 => ?_)
  · rw [if_pos g5] at h
    refine q_iconst X (0) (by decide) dX2_get_23 ?_
    refine q_lv [] rfl ?_
    exact w_X2_get_24 X hr hl _ _ h
  · rw [if_neg g5] at h
    refine q_aload_n X 0 rfl dX2_get_9 ?_
    obtain ⟨a6, ea6, ma6, ka6, h⟩ := q_atE h
    refine q_getR X 0 ea6 ma6 ka6 rfl tW_X2 (by decide) (by decide) tF_X2_9 rfl dX2_get_10 ?_
    refine q_bipush X (8) (by decide) dX2_get_13 ?_
    refine q_iload_n X 1 rfl dX2_get_15 ?_
    refine q_imul X dX2_get_16 ?_
    refine q_iload_n X 2 rfl dX2_get_17 ?_
    refine q_iadd X dX2_get_18 ?_
    obtain ⟨a7, ea7, ma7, ka7, h⟩ := q_atE h
    obtain ⟨g8, h⟩ := q_ifE h
    refine q_iaload X ea7 ma7 ka7 (q_inE g8) dX2_get_19 ?_
    refine q_goto X 24 (by decide) dX2_get_20 ?_
    refine q_lv [] rfl ?_
    exact w_X2_get_24 X hr hl _ _ h
theorem tD_X2_get : yX2_get.cls ≠ "java/lang/invoke/MethodHandle" ∧ yX2_get.cls ≠ "java/lang/invoke/VarHandle" ∧ (parseMethodDescriptor yX2_get.desc).map (fun d => d.parameters.length) = some 2 := by decide +kernel
theorem c_X2_get {l : Launch} {D : va_G} {cy : Nat → ClassId} {n : Nat} {S Sv : q_S} {rv : Int32} {o : Nat} {p0 : Int32} {p1 : Int32} (h : m_X2_get n S o p0 p1 = some (rv, Sv)) : q_MI l yX2_get (q_ws yX2_get cX2_get 3 ((some .int))) ({ frames := 1, cells := 0, slots := 0, locals := 22 } : Room) D cy [.ref o, .int (p0), .int (p1)] S rv Sv := by
  exact q_MI_of (by decide +kernel) (Nat.le_of_ble_eq_true rfl) (fun p e s m args below meth c A X hr hl => w_X2_get X hr hl h)
/-! TrueOutlines$Shaper.cellOf(II)I -/
def m_X5_cellOf_41 (n : Nat) (S : q_S) (s0 : Int32) : Option (Int32 × q_S) := some (s0, S)
set_option maxHeartbeats 4000000 in
set_option maxRecDepth 100000 in
theorem w_X5_cellOf_41 (X : q_X p s m args c cX5_cellOf 4 RX5 q_T D cy A) (hr : meth.sig.returnType = (some .int)) (hl : meth.locks = false)  {n : Nat} {Sv : q_S} {rv : Int32}  (S : q_S) (s0 : Int32) (h : m_X5_cellOf_41 n S s0 = some (rv, Sv)) : q_W p l e ({ frames := 1, cells := 0, slots := 0, locals := 21 } : Room) s m args below meth c (MQ below (va_Qi (fun (r : Int32) (u : q_S) => r = rv ∧ u = Sv) (q_B D cy A) A) args s 0 0 A) A D cy 4 0 0 S 41 [] [.int (s0)] := by
  unfold m_X5_cellOf_41 at h
  obtain ⟨ev, eS⟩ := q_end h
  exact q_iret X hr hl rfl ev eS dX5_cellOf_41
def m_X5_cellOf_25 (n : Nat) (S : q_S) (l1 : Int32) (l2 : Int32) (s0 : Int32) : Option (Int32 × q_S) := (if s0 = 0 then m_X5_cellOf_41 n (S) ((-1 : Int32)) else m_X5_cellOf_41 n (S) ((l1 * (200 : Int32)) + l2))
set_option maxHeartbeats 4000000 in
set_option maxRecDepth 100000 in
theorem w_X5_cellOf_25 (X : q_X p s m args c cX5_cellOf 4 RX5 q_T D cy A) (hr : meth.sig.returnType = (some .int)) (hl : meth.locks = false)  {n : Nat} {Sv : q_S} {rv : Int32}  (S : q_S) (l1 : Int32) (l2 : Int32) (s0 : Int32) (h : m_X5_cellOf_25 n S l1 l2 s0 = some (rv, Sv)) : q_W p l e ({ frames := 1, cells := 0, slots := 0, locals := 21 } : Room) s m args below meth c (MQ below (va_Qi (fun (r : Int32) (u : q_S) => r = rv ∧ u = Sv) (q_B D cy A) A) args s 0 0 A) A D cy 4 0 0 S 25 [(1, .int (l1)), (2, .int (l2))] [.int (s0)] := by
  unfold m_X5_cellOf_25 at h
  refine q_istore_n X 3 [(3, .int (s0)), (1, .int (l1)), (2, .int (l2))] rfl (by decide) (by first | rfl | simp [List.filter, q_catR]) dX5_cellOf_25 ?_
  refine q_iload_n X 0 rfl dX5_cellOf_26 ?_
  refine q_if_eq X 40 (by decide) dX5_cellOf_27 (fun g1 => ?_) (fun g1 => ?_)
  · rw [if_pos g1] at h
    refine q_iconst X (-1) (by decide) dX5_cellOf_40 ?_
    refine q_lv [] rfl ?_
    exact w_X5_cellOf_41 X hr hl _ _ h
  · rw [if_neg g1] at h
    refine q_iload_n X 1 rfl dX5_cellOf_30 ?_
    refine q_sipush X (200) (by decide) dX5_cellOf_31 ?_
    refine q_imul X dX5_cellOf_34 ?_
    refine q_iload_n X 2 rfl dX5_cellOf_35 ?_
    refine q_iadd X dX5_cellOf_36 ?_
    refine q_goto X 41 (by decide) dX5_cellOf_37 ?_
    refine q_lv [] rfl ?_
    exact w_X5_cellOf_41 X hr hl _ _ h
def m_X5_cellOf_24 (n : Nat) (S : q_S) (l1 : Int32) (l2 : Int32) : Option (Int32 × q_S) := m_X5_cellOf_25 n (S) (l1) (l2) ((0 : Int32))
set_option maxHeartbeats 4000000 in
set_option maxRecDepth 100000 in
theorem w_X5_cellOf_24 (X : q_X p s m args c cX5_cellOf 4 RX5 q_T D cy A) (hr : meth.sig.returnType = (some .int)) (hl : meth.locks = false)  {n : Nat} {Sv : q_S} {rv : Int32}  (S : q_S) (l1 : Int32) (l2 : Int32) (h : m_X5_cellOf_24 n S l1 l2 = some (rv, Sv)) : q_W p l e ({ frames := 1, cells := 0, slots := 0, locals := 21 } : Room) s m args below meth c (MQ below (va_Qi (fun (r : Int32) (u : q_S) => r = rv ∧ u = Sv) (q_B D cy A) A) args s 0 0 A) A D cy 4 0 0 S 24 [(1, .int (l1)), (2, .int (l2))] [] := by
  unfold m_X5_cellOf_24 at h
  refine q_iconst X (0) (by decide) dX5_cellOf_24 ?_
  exact w_X5_cellOf_25 X hr hl _ _ _ _ h
def m_X5_cellOf (n : Nat) (S : q_S) (o : Nat) (p0 : Int32) (p1 : Int32) : Option (Int32 × q_S) := (if p0 ≤ 0 then m_X5_cellOf_24 n (S) (p0) (p1) else (if (5 : Int32) < p0 then m_X5_cellOf_24 n (S) (p0) (p1) else q_at (S) (some o) 6 (fun a3 => q_at (S) (q_R (S) a3 0) 7 (fun a4 => q_b (m_X6_has n (S) a4 (p1)) (fun r5 S6 => (if r5 = 0 then m_X5_cellOf_24 n (S6) (p0) (p1) else m_X5_cellOf_25 n (S6) (p0) (p1) ((1 : Int32))))))))
set_option maxHeartbeats 4000000 in
set_option maxRecDepth 100000 in
theorem w_X5_cellOf (X : q_X p s m args c cX5_cellOf 4 RX5 q_T D cy A) (hr : meth.sig.returnType = (some .int)) (hl : meth.locks = false)  {n : Nat} {S Sv : q_S} {rv : Int32} {o : Nat} {p0 : Int32} {p1 : Int32} (h : m_X5_cellOf n S o p0 p1 = some (rv, Sv)) : q_W p l e ({ frames := 1, cells := 0, slots := 0, locals := 21 } : Room) s m args below meth c (MQ below (va_Qi (fun (r : Int32) (u : q_S) => r = rv ∧ u = Sv) (q_B D cy A) A) args s 0 0 A) A D cy 4 0 0 S 0 [(0, va_rf (some o)), (1, .int (p0)), (2, .int (p1))] [] := by
  unfold m_X5_cellOf at h
  refine q_iload_n X 1 rfl dX5_cellOf_0 ?_
  refine q_if_le X 24 (by decide) dX5_cellOf_1 (fun g1 => ?_) (fun g1 => ?_)
  · rw [if_pos g1] at h
    refine q_lv [1, 2] rfl ?_
    exact w_X5_cellOf_24 X hr hl _ _ _ h
  · rw [if_neg g1] at h
    refine q_iload_n X 1 rfl dX5_cellOf_4 ?_
    refine q_iconst X (5) (by decide) dX5_cellOf_5 ?_
    refine q_icmp_gt X 24 (by decide) dX5_cellOf_6 (fun g2 => ?_) (fun g2 => ?_)
    · rw [if_pos g2] at h
      refine q_lv [1, 2] rfl ?_
      exact w_X5_cellOf_24 X hr hl _ _ _ h
    · rw [if_neg g2] at h
      refine q_aload_n X 0 rfl dX5_cellOf_9 ?_
      obtain ⟨a3, ea3, ma3, ka3, h⟩ := q_atE h
      refine q_getR X 0 ea3 ma3 ka3 rfl tW_X5 (by decide) (by decide) tF_X5_40 rfl dX5_cellOf_10 ?_
      refine q_iload_n X 2 rfl dX5_cellOf_13 ?_
      obtain ⟨a4, ea4, ma4, ka4, h⟩ := q_atE h
      obtain ⟨r5, S6, c7, h⟩ := q_bE h
      refine q_cVI X (As := [.int (p1)]) ea4 ma4 ka4 rfl (by decide) (c_X6_has c7) (q_cwV X tK_X6_has tM_X5_55 tI_X6_has tV_X6_has tN_X6 rfl rfl tD_X6_has ⟨Nat.le_of_ble_eq_true rfl, Nat.le_of_ble_eq_true rfl⟩) rfl rfl (by first | exact Nat.le_of_ble_eq_true rfl | (simp only [List.map, q_catR]; exact Nat.le_of_ble_eq_true rfl)) ⟨Nat.zero_le _, Nat.zero_le _⟩ dX5_cellOf_14 ?_
      refine q_if_eq X 24 (by decide) dX5_cellOf_17 (fun g8 => ?_) (fun g8 => ?_)
      · rw [if_pos g8] at h
        refine q_lv [1, 2] rfl ?_
        exact w_X5_cellOf_24 X hr hl _ _ _ h
      · rw [if_neg g8] at h
        refine q_iconst X (1) (by decide) dX5_cellOf_20 ?_
        refine q_goto X 25 (by decide) dX5_cellOf_21 ?_
        refine q_lv [1, 2] rfl ?_
        exact w_X5_cellOf_25 X hr hl _ _ _ _ h
theorem tD_X5_cellOf : yX5_cellOf.cls ≠ "java/lang/invoke/MethodHandle" ∧ yX5_cellOf.cls ≠ "java/lang/invoke/VarHandle" ∧ (parseMethodDescriptor yX5_cellOf.desc).map (fun d => d.parameters.length) = some 2 := by decide +kernel
theorem c_X5_cellOf {l : Launch} {D : va_G} {cy : Nat → ClassId} {n : Nat} {S Sv : q_S} {rv : Int32} {o : Nat} {p0 : Int32} {p1 : Int32} (h : m_X5_cellOf n S o p0 p1 = some (rv, Sv)) : q_MI l yX5_cellOf (q_ws yX5_cellOf cX5_cellOf 4 ((some .int))) ({ frames := 1, cells := 0, slots := 0, locals := 21 } : Room) D cy [.ref o, .int (p0), .int (p1)] S rv Sv := by
  exact q_MI_of (by decide +kernel) (Nat.le_of_ble_eq_true rfl) (fun p e s m args below meth c A X hr hl => w_X5_cellOf X hr hl h)
/-! TrueOutlines$Shaper.yieldAt(II)I -/
def m_X5_yieldAt_23 (n : Nat) (S : q_S) (s0 : Int32) : Option (Int32 × q_S) := some (s0, S)
set_option maxHeartbeats 4000000 in
set_option maxRecDepth 100000 in
theorem w_X5_yieldAt_23 (X : q_X p s m args c cX5_yieldAt 4 RX5 q_T D cy A) (hr : meth.sig.returnType = (some .int)) (hl : meth.locks = false)  {n : Nat} {Sv : q_S} {rv : Int32}  (S : q_S) (s0 : Int32) (h : m_X5_yieldAt_23 n S s0 = some (rv, Sv)) : q_W p l e ({ frames := 2, cells := 0, slots := 0, locals := 44 } : Room) s m args below meth c (MQ below (va_Qi (fun (r : Int32) (u : q_S) => r = rv ∧ u = Sv) (q_B D cy A) A) args s 0 0 A) A D cy 4 0 0 S 23 [] [.int (s0)] := by
  unfold m_X5_yieldAt_23 at h
  obtain ⟨ev, eS⟩ := q_end h
  exact q_iret X hr hl rfl ev eS dX5_yieldAt_23
def m_X5_yieldAt (n : Nat) (S : q_S) (o : Nat) (p0 : Int32) (p1 : Int32) : Option (Int32 × q_S) := q_at (S) (some o) 6 (fun a1 => q_b (m_X5_cellOf n (S) a1 (p0) (p1)) (fun r2 S3 => (if 0 ≤ r2 then q_at (S3) (some o) 6 (fun a6 => q_at (S3) (q_R (S3) a6 7) 100 (fun a7 => q_if (q_in (r2) (q_N (S3) a7) = true) (m_X5_yieldAt_23 n (S3) (q_I (S3) a7 (r2).toNatClampNeg)))) else m_X5_yieldAt_23 n (S3) ((1000 : Int32)))))
set_option maxHeartbeats 4000000 in
set_option maxRecDepth 100000 in
theorem w_X5_yieldAt (X : q_X p s m args c cX5_yieldAt 4 RX5 q_T D cy A) (hr : meth.sig.returnType = (some .int)) (hl : meth.locks = false)  {n : Nat} {S Sv : q_S} {rv : Int32} {o : Nat} {p0 : Int32} {p1 : Int32} (h : m_X5_yieldAt n S o p0 p1 = some (rv, Sv)) : q_W p l e ({ frames := 2, cells := 0, slots := 0, locals := 44 } : Room) s m args below meth c (MQ below (va_Qi (fun (r : Int32) (u : q_S) => r = rv ∧ u = Sv) (q_B D cy A) A) args s 0 0 A) A D cy 4 0 0 S 0 [(0, va_rf (some o)), (1, .int (p0)), (2, .int (p1))] [] := by
  unfold m_X5_yieldAt at h
  refine q_aload_n X 0 rfl dX5_yieldAt_0 ?_
  refine q_iload_n X 1 rfl dX5_yieldAt_1 ?_
  refine q_iload_n X 2 rfl dX5_yieldAt_2 ?_
  obtain ⟨a1, ea1, ma1, ka1, h⟩ := q_atE h
  obtain ⟨r2, S3, c4, h⟩ := q_bE h
  refine q_cVI X (As := [.int (p0), .int (p1)]) ea1 ma1 ka1 rfl (by decide) (c_X5_cellOf c4) (q_cwV X tK_X5_cellOf tM_X5_153 tI_X5_cellOf tV_X5_cellOf tN_X5 rfl rfl tD_X5_cellOf ⟨Nat.le_of_ble_eq_true rfl, Nat.le_of_ble_eq_true rfl⟩) rfl rfl (by first | exact Nat.le_of_ble_eq_true rfl | (simp only [List.map, q_catR]; exact Nat.le_of_ble_eq_true rfl)) ⟨Nat.zero_le _, Nat.zero_le _⟩ dX5_yieldAt_3 ?_
  refine q_istore_n X 3 [(3, .int (r2)), (0, va_rf (some o)), (1, .int (p0)), (2, .int (p1))] rfl (by decide) (by first | rfl | simp [List.filter, q_catR]) dX5_yieldAt_6 ?_
  refine q_iload_n X 0 rfl dX5_yieldAt_7 ?_
  refine q_if_ge X 17 (by decide) dX5_yieldAt_8 (fun g5 => ?_) (fun g5 => ?_)
  · rw [if_pos g5] at h
    refine q_aload_n X 1 rfl dX5_yieldAt_17 ?_
    obtain ⟨a6, ea6, ma6, ka6, h⟩ := q_atE h
    refine q_getR X 7 ea6 ma6 ka6 rfl tW_X5 (by decide) (by decide) tF_X5_34 rfl dX5_yieldAt_18 ?_
    refine q_iload_n X 0 rfl dX5_yieldAt_21 ?_
    obtain ⟨a7, ea7, ma7, ka7, h⟩ := q_atE h
    obtain ⟨g8, h⟩ := q_ifE h
    refine q_iaload X ea7 ma7 ka7 (q_inE g8) dX5_yieldAt_22 ?_
    refine q_lv [] rfl ?_
    exact w_X5_yieldAt_23 X hr hl _ _ h
  · rw [if_neg g5] at h
    refine q_sipush X (1000) (by decide) dX5_yieldAt_11 ?_
    refine q_goto X 23 (by decide) dX5_yieldAt_14 ?_
    refine q_lv [] rfl ?_
    exact w_X5_yieldAt_23 X hr hl _ _ h
theorem tD_X5_yieldAt : yX5_yieldAt.cls ≠ "java/lang/invoke/MethodHandle" ∧ yX5_yieldAt.cls ≠ "java/lang/invoke/VarHandle" ∧ (parseMethodDescriptor yX5_yieldAt.desc).map (fun d => d.parameters.length) = some 2 := by decide +kernel
theorem c_X5_yieldAt {l : Launch} {D : va_G} {cy : Nat → ClassId} {n : Nat} {S Sv : q_S} {rv : Int32} {o : Nat} {p0 : Int32} {p1 : Int32} (h : m_X5_yieldAt n S o p0 p1 = some (rv, Sv)) : q_MI l yX5_yieldAt (q_ws yX5_yieldAt cX5_yieldAt 4 ((some .int))) ({ frames := 2, cells := 0, slots := 0, locals := 44 } : Room) D cy [.ref o, .int (p0), .int (p1)] S rv Sv := by
  exact q_MI_of (by decide +kernel) (Nat.le_of_ble_eq_true rfl) (fun p e s m args below meth c A X hr hl => w_X5_yieldAt X hr hl h)
/-! TrueOutlines$Shaper.yieldOfParts(ILTrueOutlines$Data;)I -/
def m_X5_yieldOfParts_85 (n : Nat) (S : q_S) (l3 : Int32) : Option (Int32 × q_S) := some (l3, S)
set_option maxHeartbeats 4000000 in
set_option maxRecDepth 100000 in
theorem w_X5_yieldOfParts_85 (X : q_X p s m args c cX5_yieldOfParts 7 RX5 q_T D cy A) (hr : meth.sig.returnType = (some .int)) (hl : meth.locks = false)  {n : Nat} {Sv : q_S} {rv : Int32}  (S : q_S) (l3 : Int32) (h : m_X5_yieldOfParts_85 n S l3 = some (rv, Sv)) : q_W p l e ({ frames := 4, cells := 0, slots := 0, locals := 88 } : Room) s m args below meth c (MQ below (va_Qi (fun (r : Int32) (u : q_S) => r = rv ∧ u = Sv) (q_B D cy A) A) args s 0 0 A) A D cy 7 0 0 S 85 [(3, .int (l3))] [] := by
  unfold m_X5_yieldOfParts_85 at h
  refine q_iload_n X 0 rfl dX5_yieldOfParts_85 ?_
  obtain ⟨ev, eS⟩ := q_end h
  exact q_iret X hr hl rfl ev eS dX5_yieldOfParts_86
def m_X5_yieldOfParts_50 (n : Nat) (k10 : q_S → Option Nat → Int32 → Option Nat → Int32 → Int32 → Int32 → Option (Int32 × q_S)) (S : q_S) (l0 : Option Nat) (l1 : Int32) (l2 : Option Nat) (l3 : Int32) (l5 : Int32) (s0 : Int32) : Option (Int32 × q_S) := q_at (S) (l2) 2 (fun a1 => q_at (S) (l0) 6 (fun a2 => q_b (m_X5_yieldAt n (S) a2 (l1 + (1 : Int32)) (q_I (S) a1 7)) (fun r3 S4 => q_b (m_J9_min_7cf53 n (S4) (s0) (r3)) (fun r6 S7 => q_b (m_J9_min_7cf53 n (S7) (l3) (r6)) (fun r9 S10 => q_at (S10) (l2) 2 (fun a12 => q_b (m_X1_hasMore n (S10) a12) (fun r13 S14 => k10 (S14) (l0) (l1) (l2) (r9) (r13) (l5 + (1)))))))))
set_option maxHeartbeats 4000000 in
set_option maxRecDepth 100000 in
theorem w_X5_yieldOfParts_50 (X : q_X p s m args c cX5_yieldOfParts 7 RX5 q_T D cy A) (hr : meth.sig.returnType = (some .int)) (hl : meth.locks = false)  {n : Nat} {Sv : q_S} {rv : Int32}  {k10 : q_S → Option Nat → Int32 → Option Nat → Int32 → Int32 → Int32 → Option (Int32 × q_S)} (hk10 : ∀ (S : q_S) (z0 : Option Nat) (z1 : Int32) (z2 : Option Nat) (z3 : Int32) (z4 : Int32) (z5 : Int32), k10 S z0 z1 z2 z3 z4 z5 = some (rv, Sv) → q_W p l e ({ frames := 4, cells := 0, slots := 0, locals := 88 } : Room) s m args below meth c (MQ below (va_Qi (fun (r : Int32) (u : q_S) => r = rv ∧ u = Sv) (q_B D cy A) A) args s 0 0 A) A D cy 7 0 0 S 10 [(0, va_rf (z0)), (1, .int (z1)), (2, va_rf (z2)), (3, .int (z3)), (4, .int (z4)), (5, .int (z5))] []) (S : q_S) (l0 : Option Nat) (l1 : Int32) (l2 : Option Nat) (l3 : Int32) (l5 : Int32) (s0 : Int32) (h : m_X5_yieldOfParts_50 n k10 S l0 l1 l2 l3 l5 s0 = some (rv, Sv)) : q_W p l e ({ frames := 4, cells := 0, slots := 0, locals := 88 } : Room) s m args below meth c (MQ below (va_Qi (fun (r : Int32) (u : q_S) => r = rv ∧ u = Sv) (q_B D cy A) A) args s 0 0 A) A D cy 7 0 0 S 50 [(0, va_rf (l0)), (1, .int (l1)), (2, va_rf (l2)), (3, .int (l3)), (5, .int (l5))] [.int (s0)] := by
  unfold m_X5_yieldOfParts_50 at h
  refine q_istore X 6 [(6, .int (s0)), (0, va_rf (l0)), (1, .int (l1)), (2, va_rf (l2)), (3, .int (l3)), (5, .int (l5))] (by decide) (by first | rfl | simp [List.filter, q_catR]) dX5_yieldOfParts_50 ?_
  refine q_iload_n X 4 rfl dX5_yieldOfParts_52 ?_
  refine q_iload X 0 rfl dX5_yieldOfParts_53 ?_
  refine q_aload_n X 1 rfl dX5_yieldOfParts_55 ?_
  refine q_iload_n X 2 rfl dX5_yieldOfParts_56 ?_
  refine q_iconst X (1) (by decide) dX5_yieldOfParts_57 ?_
  refine q_iadd X dX5_yieldOfParts_58 ?_
  refine q_aload_n X 3 rfl dX5_yieldOfParts_59 ?_
  obtain ⟨a1, ea1, ma1, ka1, h⟩ := q_atE h
  refine q_getIN X 7 ea1 ma1 ka1 rfl tW_X1 (by decide) (by decide) "TrueOutlines" tF_X5_109 rfl dX5_yieldOfParts_60 ?_
  obtain ⟨a2, ea2, ma2, ka2, h⟩ := q_atE h
  obtain ⟨r3, S4, c5, h⟩ := q_bE h
  refine q_cVI X (As := [.int (l1 + (1 : Int32)), .int (q_I (S) a1 7)]) ea2 ma2 ka2 rfl (by decide) (c_X5_yieldAt c5) (q_cwV X tK_X5_yieldAt tM_X5_165 tI_X5_yieldAt tV_X5_yieldAt tN_X5 rfl rfl tD_X5_yieldAt ⟨Nat.le_of_ble_eq_true rfl, Nat.le_of_ble_eq_true rfl⟩) rfl rfl (by first | exact Nat.le_of_ble_eq_true rfl | (simp only [List.map, q_catR]; exact Nat.le_of_ble_eq_true rfl)) ⟨Nat.zero_le _, Nat.zero_le _⟩ dX5_yieldOfParts_63 ?_
  obtain ⟨r6, S7, c8, h⟩ := q_bE h
  refine q_cSI X (As := [.int (s0), .int (r3)]) (c_J9_min_7cf53 c8) (q_cwS X tK_J9_min_7cf53 tM_X5_172 tS_J9_min_7cf53 tN_J9 rfl rfl tD_J9_min_7cf53 ⟨Nat.le_of_ble_eq_true rfl, Nat.le_of_ble_eq_true rfl⟩) rfl rfl (by first | exact Nat.le_of_ble_eq_true rfl | (simp only [List.map, q_catR]; exact Nat.le_of_ble_eq_true rfl)) ⟨Nat.zero_le _, Nat.zero_le _⟩ dX5_yieldOfParts_66 ?_
  obtain ⟨r9, S10, c11, h⟩ := q_bE h
  refine q_cSI X (As := [.int (l3), .int (r6)]) (c_J9_min_7cf53 c11) (q_cwS X tK_J9_min_7cf53 tM_X5_172 tS_J9_min_7cf53 tN_J9 rfl rfl tD_J9_min_7cf53 ⟨Nat.le_of_ble_eq_true rfl, Nat.le_of_ble_eq_true rfl⟩) rfl rfl (by first | exact Nat.le_of_ble_eq_true rfl | (simp only [List.map, q_catR]; exact Nat.le_of_ble_eq_true rfl)) ⟨Nat.zero_le _, Nat.zero_le _⟩ dX5_yieldOfParts_69 ?_
  refine q_istore_n X 3 [(3, .int (r9)), (6, .int (s0)), (0, va_rf (l0)), (1, .int (l1)), (2, va_rf (l2)), (5, .int (l5))] rfl (by decide) (by first | rfl | simp [List.filter, q_catR]) dX5_yieldOfParts_72 ?_
  refine q_aload_n X 4 rfl dX5_yieldOfParts_73 ?_
  obtain ⟨a12, ea12, ma12, ka12, h⟩ := q_atE h
  obtain ⟨r13, S14, c15, h⟩ := q_bE h
  refine q_cVI X (As := []) ea12 ma12 ka12 rfl (by decide) (c_X1_hasMore c15) (q_cwV X tK_X1_hasMore tM_X5_106 tI_X1_hasMore tV_X1_hasMore tN_X1 rfl rfl tD_X1_hasMore ⟨Nat.le_of_ble_eq_true rfl, Nat.le_of_ble_eq_true rfl⟩) rfl rfl (by first | exact Nat.le_of_ble_eq_true rfl | (simp only [List.map, q_catR]; exact Nat.le_of_ble_eq_true rfl)) ⟨Nat.zero_le _, Nat.zero_le _⟩ dX5_yieldOfParts_74 ?_
  refine q_istore X 4 [(4, .int (r13)), (3, .int (r9)), (6, .int (s0)), (0, va_rf (l0)), (1, .int (l1)), (2, va_rf (l2)), (5, .int (l5))] (by decide) (by first | rfl | simp [List.filter, q_catR]) dX5_yieldOfParts_77 ?_
  refine q_iinc X 5 6 (l5 + (1)) [(5, .int (l5 + (1))), (4, .int (r13)), (3, .int (r9)), (6, .int (s0)), (0, va_rf (l0)), (1, .int (l1)), (2, va_rf (l2))] rfl (congrArg (fun z => l5 + z) (show Int32.ofInt (1) = (1) by decide)) (by decide) (by first | rfl | simp [List.filter, q_catR]) dX5_yieldOfParts_79 ?_
  refine q_goto X 10 (by decide) dX5_yieldOfParts_82 ?_
  refine q_lv [4, 5, 6, 2, 1, 0] rfl ?_
  exact hk10 _ _ _ _ _ _ _ h
def m_X5_yieldOfParts_10 (n : Nat) : Nat → q_S → Option Nat → Int32 → Option Nat → Int32 → Int32 → Int32 → Option (Int32 × q_S)
  | 0, _, _, _, _, _, _, _ => none
  | k + 1, S, l0, l1, l2, l3, l4, l5 => (if (1600 : Int32) ≤ l5 then m_X5_yieldOfParts_85 n (S) (l3) else (if l4 = 0 then m_X5_yieldOfParts_85 n (S) (l3) else q_at (S) (l2) 2 (fun a3 => q_b (m_X1_nextPart n (S) a3) (fun r4 S5 => (if r4 = 0 then some ((1000 : Int32), S5) else q_at (S5) (l2) 2 (fun a8 => q_b (m_X1_isMoved n (S5) a8) (fun r9 S10 => (if r9 = 0 then m_X5_yieldOfParts_50 n (m_X5_yieldOfParts_10 n k) (S10) (l0) (l1) (l2) (l3) (l5) ((1000 : Int32)) else m_X5_yieldOfParts_50 n (m_X5_yieldOfParts_10 n k) (S10) (l0) (l1) (l2) (l3) (l5) ((2000 : Int32))))))))))
set_option maxHeartbeats 4000000 in
set_option maxRecDepth 100000 in
theorem w_X5_yieldOfParts_10 (X : q_X p s m args c cX5_yieldOfParts 7 RX5 q_T D cy A) (hr : meth.sig.returnType = (some .int)) (hl : meth.locks = false)  {n : Nat} {Sv : q_S} {rv : Int32}  : ∀ (k : Nat) (S : q_S) (l0 : Option Nat) (l1 : Int32) (l2 : Option Nat) (l3 : Int32) (l4 : Int32) (l5 : Int32), m_X5_yieldOfParts_10 n k S l0 l1 l2 l3 l4 l5 = some (rv, Sv) → q_W p l e ({ frames := 4, cells := 0, slots := 0, locals := 88 } : Room) s m args below meth c (MQ below (va_Qi (fun (r : Int32) (u : q_S) => r = rv ∧ u = Sv) (q_B D cy A) A) args s 0 0 A) A D cy 7 0 0 S 10 [(0, va_rf (l0)), (1, .int (l1)), (2, va_rf (l2)), (3, .int (l3)), (4, .int (l4)), (5, .int (l5))] [] := by
  intro k
  induction k with
  | zero => intro S l0 l1 l2 l3 l4 l5 h; rw [m_X5_yieldOfParts_10] at h; cases h
  | succ k ih =>
    intro S l0 l1 l2 l3 l4 l5 h
    rw [m_X5_yieldOfParts_10] at h
    refine q_iload X 5 rfl dX5_yieldOfParts_10 ?_
    refine q_sipush X (1600) (by decide) dX5_yieldOfParts_12 ?_
    refine q_icmp_ge X 85 (by decide) dX5_yieldOfParts_15 (fun g1 => ?_) (fun g1 => ?_)
    · rw [if_pos g1] at h
      refine q_lv [3] rfl ?_
      exact w_X5_yieldOfParts_85 X hr hl _ _ h
    · rw [if_neg g1] at h
      refine q_iload X 4 rfl dX5_yieldOfParts_18 ?_
      refine q_if_eq X 85 (by decide) dX5_yieldOfParts_20 (fun g2 => ?_) (fun g2 => ?_)
      · rw [if_pos g2] at h
        refine q_lv [3] rfl ?_
        exact w_X5_yieldOfParts_85 X hr hl _ _ h
      · rw [if_neg g2] at h
        refine q_aload_n X 2 rfl dX5_yieldOfParts_23 ?_
        obtain ⟨a3, ea3, ma3, ka3, h⟩ := q_atE h
        obtain ⟨r4, S5, c6, h⟩ := q_bE h
        refine q_cVI X (As := []) ea3 ma3 ka3 rfl (by decide) (c_X1_nextPart c6) (q_cwV X tK_X1_nextPart tM_X5_99 tI_X1_nextPart tV_X1_nextPart tN_X1 rfl rfl tD_X1_nextPart ⟨Nat.le_of_ble_eq_true rfl, Nat.le_of_ble_eq_true rfl⟩) rfl rfl (by first | exact Nat.le_of_ble_eq_true rfl | (simp only [List.map, q_catR]; exact Nat.le_of_ble_eq_true rfl)) ⟨Nat.zero_le _, Nat.zero_le _⟩ dX5_yieldOfParts_24 ?_
        refine q_if_ne X 34 (by decide) dX5_yieldOfParts_27 (fun g7 => ?_) (fun g7 => ?_)
        · rw [if_neg g7] at h
          refine q_aload_n X 2 rfl dX5_yieldOfParts_34 ?_
          obtain ⟨a8, ea8, ma8, ka8, h⟩ := q_atE h
          obtain ⟨r9, S10, c11, h⟩ := q_bE h
          refine q_cVI X (As := []) ea8 ma8 ka8 rfl (by decide) (c_X1_isMoved c11) (q_cwV X tK_X1_isMoved tM_X5_129 tI_X1_isMoved tV_X1_isMoved tN_X1 rfl rfl tD_X1_isMoved ⟨Nat.le_of_ble_eq_true rfl, Nat.le_of_ble_eq_true rfl⟩) rfl rfl (by first | exact Nat.le_of_ble_eq_true rfl | (simp only [List.map, q_catR]; exact Nat.le_of_ble_eq_true rfl)) ⟨Nat.zero_le _, Nat.zero_le _⟩ dX5_yieldOfParts_35 ?_
          refine q_if_eq X 47 (by decide) dX5_yieldOfParts_38 (fun g12 => ?_) (fun g12 => ?_)
          · rw [if_pos g12] at h
            refine q_sipush X (1000) (by decide) dX5_yieldOfParts_47 ?_
            refine q_lv [0, 1, 2, 3, 5] rfl ?_
            exact w_X5_yieldOfParts_50 X hr hl ih _ _ _ _ _ _ _ h
          · rw [if_neg g12] at h
            refine q_sipush X (2000) (by decide) dX5_yieldOfParts_41 ?_
            refine q_goto X 50 (by decide) dX5_yieldOfParts_44 ?_
            refine q_lv [0, 1, 2, 3, 5] rfl ?_
            exact w_X5_yieldOfParts_50 X hr hl ih _ _ _ _ _ _ _ h
        · rw [if_pos g7] at h
          refine q_sipush X (1000) (by decide) dX5_yieldOfParts_30 ?_
          obtain ⟨ev, eS⟩ := q_end h
          exact q_iret X hr hl rfl ev eS dX5_yieldOfParts_33
def m_X5_yieldOfParts (n : Nat) (S : q_S) (o : Nat) (p0 : Int32) (p1 : Option Nat) : Option (Int32 × q_S) := m_X5_yieldOfParts_10 n n (S) (some o) (p0) (p1) ((2000 : Int32)) ((1 : Int32)) ((0 : Int32))
set_option maxHeartbeats 4000000 in
set_option maxRecDepth 100000 in
theorem w_X5_yieldOfParts (X : q_X p s m args c cX5_yieldOfParts 7 RX5 q_T D cy A) (hr : meth.sig.returnType = (some .int)) (hl : meth.locks = false)  {n : Nat} {S Sv : q_S} {rv : Int32} {o : Nat} {p0 : Int32} {p1 : Option Nat} (h : m_X5_yieldOfParts n S o p0 p1 = some (rv, Sv)) : q_W p l e ({ frames := 4, cells := 0, slots := 0, locals := 88 } : Room) s m args below meth c (MQ below (va_Qi (fun (r : Int32) (u : q_S) => r = rv ∧ u = Sv) (q_B D cy A) A) args s 0 0 A) A D cy 7 0 0 S 0 [(0, va_rf (some o)), (1, .int (p0)), (2, va_rf (p1))] [] := by
  unfold m_X5_yieldOfParts at h
  refine q_sipush X (2000) (by decide) dX5_yieldOfParts_0 ?_
  refine q_istore_n X 3 [(3, .int ((2000 : Int32))), (0, va_rf (some o)), (1, .int (p0)), (2, va_rf (p1))] rfl (by decide) (by first | rfl | simp [List.filter, q_catR]) dX5_yieldOfParts_3 ?_
  refine q_iconst X (1) (by decide) dX5_yieldOfParts_4 ?_
  refine q_istore X 4 [(4, .int ((1 : Int32))), (3, .int ((2000 : Int32))), (0, va_rf (some o)), (1, .int (p0)), (2, va_rf (p1))] (by decide) (by first | rfl | simp [List.filter, q_catR]) dX5_yieldOfParts_5 ?_
  refine q_iconst X (0) (by decide) dX5_yieldOfParts_7 ?_
  refine q_istore X 5 [(5, .int ((0 : Int32))), (4, .int ((1 : Int32))), (3, .int ((2000 : Int32))), (0, va_rf (some o)), (1, .int (p0)), (2, va_rf (p1))] (by decide) (by first | rfl | simp [List.filter, q_catR]) dX5_yieldOfParts_8 ?_
  refine q_lv [3, 4, 5, 2, 1, 0] rfl ?_
  exact w_X5_yieldOfParts_10 X hr hl n _ _ _ _ _ _ _ h
theorem tD_X5_yieldOfParts : yX5_yieldOfParts.cls ≠ "java/lang/invoke/MethodHandle" ∧ yX5_yieldOfParts.cls ≠ "java/lang/invoke/VarHandle" ∧ (parseMethodDescriptor yX5_yieldOfParts.desc).map (fun d => d.parameters.length) = some 2 := by decide +kernel
theorem c_X5_yieldOfParts {l : Launch} {D : va_G} {cy : Nat → ClassId} {n : Nat} {S Sv : q_S} {rv : Int32} {o : Nat} {p0 : Int32} {p1 : Option Nat} (h : m_X5_yieldOfParts n S o p0 p1 = some (rv, Sv)) : q_MI l yX5_yieldOfParts (q_ws yX5_yieldOfParts cX5_yieldOfParts 7 ((some .int))) ({ frames := 4, cells := 0, slots := 0, locals := 88 } : Room) D cy [.ref o, .int (p0), va_rf (p1)] S rv Sv := by
  cases p1 <;> exact q_MI_of (by decide +kernel) (Nat.le_of_ble_eq_true rfl) (fun p e s m args below meth c A X hr hl => w_X5_yieldOfParts X hr hl h)
/-! TrueOutlines$Points.keep(II)V -/
def m_X3_keep (n : Nat) (S : q_S) (o : Nat) (p0 : Int32) (p1 : Int32) : Option (Unit × q_S) := q_at (S) (some o) 4 (fun a1 => q_b (m_J9_min_7cf53 n (S) (q_I (S) a1 4) (p0)) (fun r2 S3 => q_b (m_J9_max_7cf53 n (S3) ((0 : Int32)) (r2)) (fun r5 S6 => q_at (S6) (some o) 4 (fun a8 => q_b (m_J9_min_7cf53 n (q_sI (S6) a8 4 (r5)) (q_I (q_sI (S6) a8 4 (r5)) a8 5) (p1)) (fun r9 S10 => q_b (m_J9_max_7cf53 n (S10) ((0 : Int32)) (r9)) (fun r12 S13 => q_at (S13) (some o) 4 (fun a15 => some ((), q_sI (S13) a15 5 (r12)))))))))
set_option maxHeartbeats 4000000 in
set_option maxRecDepth 100000 in
theorem w_X3_keep (X : q_X p s m args c cX3_keep 3 RX3 q_T D cy A) (hr : meth.sig.returnType = none) (hl : meth.locks = false)  {n : Nat} {S Sv : q_S} {o : Nat} {p0 : Int32} {p1 : Int32} (h : m_X3_keep n S o p0 p1 = some ((), Sv)) : q_W p l e ({ frames := 1, cells := 0, slots := 0, locals := 21 } : Room) s m args below meth c (MQ below (va_Qv (fun (u : q_S) => u = Sv) (q_B D cy A) A) args s 0 0 A) A D cy 3 0 0 S 0 [(0, va_rf (some o)), (1, .int (p0)), (2, .int (p1))] [] := by
  unfold m_X3_keep at h
  refine q_aload_n X 0 rfl dX3_keep_0 ?_
  refine q_iconst X (0) (by decide) dX3_keep_1 ?_
  refine q_aload_n X 0 rfl dX3_keep_2 ?_
  obtain ⟨a1, ea1, ma1, ka1, h⟩ := q_atE h
  refine q_getI X 4 ea1 ma1 ka1 rfl tW_X3 (by decide) (by decide) tF_X3_24 rfl dX3_keep_3 ?_
  refine q_iload_n X 1 rfl dX3_keep_6 ?_
  obtain ⟨r2, S3, c4, h⟩ := q_bE h
  refine q_cSI X (As := [.int (q_I (S) a1 4), .int (p0)]) (c_J9_min_7cf53 c4) (q_cwS X tK_J9_min_7cf53 tM_X3_35 tS_J9_min_7cf53 tN_J9 rfl rfl tD_J9_min_7cf53 ⟨Nat.le_of_ble_eq_true rfl, Nat.le_of_ble_eq_true rfl⟩) rfl rfl (by first | exact Nat.le_of_ble_eq_true rfl | (simp only [List.map, q_catR]; exact Nat.le_of_ble_eq_true rfl)) ⟨Nat.zero_le _, Nat.zero_le _⟩ dX3_keep_7 ?_
  obtain ⟨r5, S6, c7, h⟩ := q_bE h
  refine q_cSI X (As := [.int ((0 : Int32)), .int (r2)]) (c_J9_max_7cf53 c7) (q_cwS X tK_J9_max_7cf53 tM_X3_41 tS_J9_max_7cf53 tN_J9 rfl rfl tD_J9_max_7cf53 ⟨Nat.le_of_ble_eq_true rfl, Nat.le_of_ble_eq_true rfl⟩) rfl rfl (by first | exact Nat.le_of_ble_eq_true rfl | (simp only [List.map, q_catR]; exact Nat.le_of_ble_eq_true rfl)) ⟨Nat.zero_le _, Nat.zero_le _⟩ dX3_keep_10 ?_
  obtain ⟨a8, ea8, ma8, ka8, h⟩ := q_atE h
  refine q_putI X 4 ea8 ma8 ka8 rfl tW_X3 (by decide) (by decide) tF_X3_24 tyX3 tyX3_ok nmX3 rfl (tyX3_ok 4 (by decide)) rfl rfl rfl dX3_keep_13 ?_
  have ma8 : a8 ∈ q_L (q_sI (S6) a8 4 (r5)) := q_LsI ma8
  have ka8 : q_K (q_sI (S6) a8 4 (r5)) a8 = 4 := q_KsI ka8
  refine q_aload_n X 0 rfl dX3_keep_16 ?_
  refine q_iconst X (0) (by decide) dX3_keep_17 ?_
  refine q_aload_n X 0 rfl dX3_keep_18 ?_
  refine q_getI X 5 ea8 ma8 ka8 rfl tW_X3 (by decide) (by decide) tF_X3_28 rfl dX3_keep_19 ?_
  refine q_iload_n X 2 rfl dX3_keep_22 ?_
  obtain ⟨r9, S10, c11, h⟩ := q_bE h
  refine q_cSI X (As := [.int (q_I (q_sI (S6) a8 4 (r5)) a8 5), .int (p1)]) (c_J9_min_7cf53 c11) (q_cwS X tK_J9_min_7cf53 tM_X3_35 tS_J9_min_7cf53 tN_J9 rfl rfl tD_J9_min_7cf53 ⟨Nat.le_of_ble_eq_true rfl, Nat.le_of_ble_eq_true rfl⟩) rfl rfl (by first | exact Nat.le_of_ble_eq_true rfl | (simp only [List.map, q_catR]; exact Nat.le_of_ble_eq_true rfl)) ⟨Nat.zero_le _, Nat.zero_le _⟩ dX3_keep_23 ?_
  obtain ⟨r12, S13, c14, h⟩ := q_bE h
  refine q_cSI X (As := [.int ((0 : Int32)), .int (r9)]) (c_J9_max_7cf53 c14) (q_cwS X tK_J9_max_7cf53 tM_X3_41 tS_J9_max_7cf53 tN_J9 rfl rfl tD_J9_max_7cf53 ⟨Nat.le_of_ble_eq_true rfl, Nat.le_of_ble_eq_true rfl⟩) rfl rfl (by first | exact Nat.le_of_ble_eq_true rfl | (simp only [List.map, q_catR]; exact Nat.le_of_ble_eq_true rfl)) ⟨Nat.zero_le _, Nat.zero_le _⟩ dX3_keep_26 ?_
  obtain ⟨a15, ea15, ma15, ka15, h⟩ := q_atE h
  refine q_putI X 5 ea15 ma15 ka15 rfl tW_X3 (by decide) (by decide) tF_X3_28 tyX3 tyX3_ok nmX3 rfl (tyX3_ok 5 (by decide)) rfl rfl rfl dX3_keep_29 ?_
  have ma15 : a15 ∈ q_L (q_sI (S13) a15 5 (r12)) := q_LsI ma15
  have ka15 : q_K (q_sI (S13) a15 5 (r12)) a15 = 4 := q_KsI ka15
  obtain ⟨ev, eS⟩ := q_end h
  exact q_vret X hr hl eS dX3_keep_32
theorem tD_X3_keep : yX3_keep.cls ≠ "java/lang/invoke/MethodHandle" ∧ yX3_keep.cls ≠ "java/lang/invoke/VarHandle" ∧ (parseMethodDescriptor yX3_keep.desc).map (fun d => d.parameters.length) = some 2 := by decide +kernel
theorem c_X3_keep {l : Launch} {D : va_G} {cy : Nat → ClassId} {n : Nat} {S Sv : q_S} {o : Nat} {p0 : Int32} {p1 : Int32} (h : m_X3_keep n S o p0 p1 = some ((), Sv)) : q_MV l yX3_keep (q_ws yX3_keep cX3_keep 3 (none)) ({ frames := 1, cells := 0, slots := 0, locals := 21 } : Room) D cy [.ref o, .int (p0), .int (p1)] S Sv := by
  exact q_MV_of (by decide +kernel) (Nat.le_of_ble_eq_true rfl) (fun p e s m args below meth c A X hr hl => w_X3_keep X hr hl h)
/-! TrueOutlines$Data.isPast()Z -/
def m_X1_isPast (n : Nat) (S : q_S) (o : Nat)  : Option (Int32 × q_S) := q_at (S) (some o) 2 (fun a1 => q_if ((q_I (S) a1 2) = 0 ∨ (q_I (S) a1 2) = 1) (some (q_I (S) a1 2, S)))
set_option maxHeartbeats 4000000 in
set_option maxRecDepth 100000 in
theorem w_X1_isPast (X : q_X p s m args c cX1_isPast 1 RX1 q_T D cy A) (hr : meth.sig.returnType = (some .boolean)) (hl : meth.locks = false)  {n : Nat} {S Sv : q_S} {rv : Int32} {o : Nat}  (h : m_X1_isPast n S o = some (rv, Sv)) : q_W p l e ({ frames := 0, cells := 0, slots := 0, locals := 0 } : Room) s m args below meth c (MQ below (va_Qi (fun (r : Int32) (u : q_S) => r = rv ∧ u = Sv) (q_B D cy A) A) args s 0 0 A) A D cy 1 0 0 S 0 [(0, va_rf (some o))] [] := by
  unfold m_X1_isPast at h
  refine q_aload_n X 0 rfl dX1_isPast_0 ?_
  obtain ⟨a1, ea1, ma1, ka1, h⟩ := q_atE h
  refine q_getI X 2 ea1 ma1 ka1 rfl tW_X1 (by decide) (by decide) tF_X1_19 rfl dX1_isPast_1 ?_
  obtain ⟨g2, h⟩ := q_ifE h
  obtain ⟨ev, eS⟩ := q_end h
  exact q_iret X hr hl (q_bool g2) ev eS dX1_isPast_4
theorem tD_X1_isPast : yX1_isPast.cls ≠ "java/lang/invoke/MethodHandle" ∧ yX1_isPast.cls ≠ "java/lang/invoke/VarHandle" ∧ (parseMethodDescriptor yX1_isPast.desc).map (fun d => d.parameters.length) = some 0 := by decide +kernel
theorem c_X1_isPast {l : Launch} {D : va_G} {cy : Nat → ClassId} {n : Nat} {S Sv : q_S} {rv : Int32} {o : Nat}  (h : m_X1_isPast n S o = some (rv, Sv)) : q_MI l yX1_isPast (q_ws yX1_isPast cX1_isPast 1 ((some .boolean))) ({ frames := 0, cells := 0, slots := 0, locals := 0 } : Room) D cy [.ref o] S rv Sv := by
  exact q_MI_of (by decide +kernel) (Nat.le_of_ble_eq_true rfl) (fun p e s m args below meth c A X hr hl => w_X1_isPast X hr hl h)
/-! TrueOutlines$Points.takeAxis(LTrueOutlines$Data;[IIII)V -/
def m_X3_takeAxis_89 (n : Nat) (k6 : q_S → Option Nat → Option Nat → Option Nat → Int32 → Int32 → Int32 → Int32 → Option (Unit × q_S)) (S : q_S) (l0 : Option Nat) (l1 : Option Nat) (l2 : Option Nat) (l4 : Int32) (l5 : Int32) (l6 : Int32) (l7 : Int32) : Option (Unit × q_S) := q_at (S) (l2) 100 (fun a1 => q_if (q_in (l7) (q_N (S) a1) = true) (k6 (q_sI (S) a1 (l7).toNatClampNeg (l6)) (l0) (l1) (l2) (l4) (l5) (l6) (l7 + (1))))
set_option maxHeartbeats 4000000 in
set_option maxRecDepth 100000 in
theorem w_X3_takeAxis_89 (X : q_X p s m args c cX3_takeAxis 10 RX3 q_T D cy A) (hr : meth.sig.returnType = none) (hl : meth.locks = false)  {n : Nat} {Sv : q_S}  {k6 : q_S → Option Nat → Option Nat → Option Nat → Int32 → Int32 → Int32 → Int32 → Option (Unit × q_S)} (hk6 : ∀ (S : q_S) (z0 : Option Nat) (z1 : Option Nat) (z2 : Option Nat) (z3 : Int32) (z4 : Int32) (z5 : Int32) (z6 : Int32), k6 S z0 z1 z2 z3 z4 z5 z6 = some ((), Sv) → q_W p l e ({ frames := 2, cells := 0, slots := 0, locals := 45 } : Room) s m args below meth c (MQ below (va_Qv (fun (u : q_S) => u = Sv) (q_B D cy A) A) args s 0 0 A) A D cy 10 0 0 S 6 [(0, va_rf (z0)), (1, va_rf (z1)), (2, va_rf (z2)), (4, .int (z3)), (5, .int (z4)), (6, .int (z5)), (7, .int (z6))] []) (S : q_S) (l0 : Option Nat) (l1 : Option Nat) (l2 : Option Nat) (l4 : Int32) (l5 : Int32) (l6 : Int32) (l7 : Int32) (h : m_X3_takeAxis_89 n k6 S l0 l1 l2 l4 l5 l6 l7 = some ((), Sv)) : q_W p l e ({ frames := 2, cells := 0, slots := 0, locals := 45 } : Room) s m args below meth c (MQ below (va_Qv (fun (u : q_S) => u = Sv) (q_B D cy A) A) args s 0 0 A) A D cy 10 0 0 S 89 [(0, va_rf (l0)), (1, va_rf (l1)), (2, va_rf (l2)), (4, .int (l4)), (5, .int (l5)), (6, .int (l6)), (7, .int (l7))] [] := by
  unfold m_X3_takeAxis_89 at h
  refine q_aload_n X 2 rfl dX3_takeAxis_89 ?_
  refine q_iload X 6 rfl dX3_takeAxis_90 ?_
  refine q_iload X 5 rfl dX3_takeAxis_92 ?_
  obtain ⟨a1, ea1, ma1, ka1, h⟩ := q_atE h
  obtain ⟨g2, h⟩ := q_ifE h
  refine q_iastore X ea1 ma1 ka1 (q_inE g2) dX3_takeAxis_94 ?_
  have ma1 : a1 ∈ q_L (q_sI (S) a1 (l7).toNatClampNeg (l6)) := q_LsI ma1
  have ka1 : q_K (q_sI (S) a1 (l7).toNatClampNeg (l6)) a1 = 100 := q_KsI ka1
  refine q_iinc X 7 6 (l7 + (1)) [(7, .int (l7 + (1))), (0, va_rf (l0)), (1, va_rf (l1)), (2, va_rf (l2)), (4, .int (l4)), (5, .int (l5)), (6, .int (l6))] rfl (congrArg (fun z => l7 + z) (show Int32.ofInt (1) = (1) by decide)) (by decide) (by first | rfl | simp [List.filter, q_catR]) dX3_takeAxis_95 ?_
  refine q_goto X 6 (by decide) dX3_takeAxis_98 ?_
  refine q_lv [1, 2, 3, 4, 5, 6, 0] rfl ?_
  exact hk6 _ _ _ _ _ _ _ _ h
def m_X3_takeAxis_69 (n : Nat) (k6 : q_S → Option Nat → Option Nat → Option Nat → Int32 → Int32 → Int32 → Int32 → Option (Unit × q_S)) (S : q_S) (l0 : Option Nat) (l1 : Option Nat) (l2 : Option Nat) (l4 : Int32) (l5 : Int32) (l7 : Int32) (s0 : Int32) (s1 : Int32) : Option (Unit × q_S) := m_X3_takeAxis_89 n k6 (S) (l0) (l1) (l2) (l4) (l5) (s1 + s0) (l7)
set_option maxHeartbeats 4000000 in
set_option maxRecDepth 100000 in
theorem w_X3_takeAxis_69 (X : q_X p s m args c cX3_takeAxis 10 RX3 q_T D cy A) (hr : meth.sig.returnType = none) (hl : meth.locks = false)  {n : Nat} {Sv : q_S}  {k6 : q_S → Option Nat → Option Nat → Option Nat → Int32 → Int32 → Int32 → Int32 → Option (Unit × q_S)} (hk6 : ∀ (S : q_S) (z0 : Option Nat) (z1 : Option Nat) (z2 : Option Nat) (z3 : Int32) (z4 : Int32) (z5 : Int32) (z6 : Int32), k6 S z0 z1 z2 z3 z4 z5 z6 = some ((), Sv) → q_W p l e ({ frames := 2, cells := 0, slots := 0, locals := 45 } : Room) s m args below meth c (MQ below (va_Qv (fun (u : q_S) => u = Sv) (q_B D cy A) A) args s 0 0 A) A D cy 10 0 0 S 6 [(0, va_rf (z0)), (1, va_rf (z1)), (2, va_rf (z2)), (4, .int (z3)), (5, .int (z4)), (6, .int (z5)), (7, .int (z6))] []) (S : q_S) (l0 : Option Nat) (l1 : Option Nat) (l2 : Option Nat) (l4 : Int32) (l5 : Int32) (l7 : Int32) (s0 : Int32) (s1 : Int32) (h : m_X3_takeAxis_69 n k6 S l0 l1 l2 l4 l5 l7 s0 s1 = some ((), Sv)) : q_W p l e ({ frames := 2, cells := 0, slots := 0, locals := 45 } : Room) s m args below meth c (MQ below (va_Qv (fun (u : q_S) => u = Sv) (q_B D cy A) A) args s 0 0 A) A D cy 10 0 0 S 69 [(0, va_rf (l0)), (1, va_rf (l1)), (2, va_rf (l2)), (4, .int (l4)), (5, .int (l5)), (7, .int (l7))] [.int (s0), .int (s1)] := by
  unfold m_X3_takeAxis_69 at h
  refine q_iadd X dX3_takeAxis_69 ?_
  refine q_istore X 6 [(6, .int (s1 + s0)), (0, va_rf (l0)), (1, va_rf (l1)), (2, va_rf (l2)), (4, .int (l4)), (5, .int (l5)), (7, .int (l7))] (by decide) (by first | rfl | simp [List.filter, q_catR]) dX3_takeAxis_70 ?_
  refine q_goto X 89 (by decide) dX3_takeAxis_72 ?_
  refine q_lv [1, 2, 3, 4, 5, 0, 6] rfl ?_
  exact w_X3_takeAxis_89 X hr hl hk6 _ _ _ _ _ _ _ _ h
def m_X3_takeAxis_33 (n : Nat) (k6 : q_S → Option Nat → Option Nat → Option Nat → Int32 → Int32 → Int32 → Int32 → Option (Unit × q_S)) (S : q_S) (l0 : Option Nat) (l1 : Option Nat) (l2 : Option Nat) (l4 : Int32) (l5 : Int32) (l6 : Int32) (l7 : Int32) (s0 : Int32) : Option (Unit × q_S) := q_at (S) (l0) 4 (fun a1 => q_at (S) (q_R (S) a1 2) 100 (fun a2 => q_if (q_in (l7) (q_N (S) a2) = true) ((if ((q_I (S) a2 (l7).toNatClampNeg) &&& l4) = 0 then (if s0 = 0 then q_at (S) (l1) 2 (fun a6 => q_b (m_X1_signedTwo n (S) a6) (fun r7 S8 => m_X3_takeAxis_89 n k6 (S8) (l0) (l1) (l2) (l4) (l5) (l6 + r7) (l7))) else m_X3_takeAxis_89 n k6 (S) (l0) (l1) (l2) (l4) (l5) (l6) (l7)) else q_at (S) (l1) 2 (fun a10 => q_b (m_X1_one n (S) a10) (fun r11 S12 => (if s0 = 0 then m_X3_takeAxis_69 n k6 (S12) (l0) (l1) (l2) (l4) (l5) (l7) (-r11) (l6) else m_X3_takeAxis_69 n k6 (S12) (l0) (l1) (l2) (l4) (l5) (l7) (r11) (l6))))))))
set_option maxHeartbeats 4000000 in
set_option maxRecDepth 100000 in
theorem w_X3_takeAxis_33 (X : q_X p s m args c cX3_takeAxis 10 RX3 q_T D cy A) (hr : meth.sig.returnType = none) (hl : meth.locks = false)  {n : Nat} {Sv : q_S}  {k6 : q_S → Option Nat → Option Nat → Option Nat → Int32 → Int32 → Int32 → Int32 → Option (Unit × q_S)} (hk6 : ∀ (S : q_S) (z0 : Option Nat) (z1 : Option Nat) (z2 : Option Nat) (z3 : Int32) (z4 : Int32) (z5 : Int32) (z6 : Int32), k6 S z0 z1 z2 z3 z4 z5 z6 = some ((), Sv) → q_W p l e ({ frames := 2, cells := 0, slots := 0, locals := 45 } : Room) s m args below meth c (MQ below (va_Qv (fun (u : q_S) => u = Sv) (q_B D cy A) A) args s 0 0 A) A D cy 10 0 0 S 6 [(0, va_rf (z0)), (1, va_rf (z1)), (2, va_rf (z2)), (4, .int (z3)), (5, .int (z4)), (6, .int (z5)), (7, .int (z6))] []) (S : q_S) (l0 : Option Nat) (l1 : Option Nat) (l2 : Option Nat) (l4 : Int32) (l5 : Int32) (l6 : Int32) (l7 : Int32) (s0 : Int32) (h : m_X3_takeAxis_33 n k6 S l0 l1 l2 l4 l5 l6 l7 s0 = some ((), Sv)) : q_W p l e ({ frames := 2, cells := 0, slots := 0, locals := 45 } : Room) s m args below meth c (MQ below (va_Qv (fun (u : q_S) => u = Sv) (q_B D cy A) A) args s 0 0 A) A D cy 10 0 0 S 33 [(0, va_rf (l0)), (1, va_rf (l1)), (2, va_rf (l2)), (4, .int (l4)), (5, .int (l5)), (6, .int (l6)), (7, .int (l7))] [.int (s0)] := by
  unfold m_X3_takeAxis_33 at h
  refine q_istore X 8 [(8, .int (s0)), (0, va_rf (l0)), (1, va_rf (l1)), (2, va_rf (l2)), (4, .int (l4)), (5, .int (l5)), (6, .int (l6)), (7, .int (l7))] (by decide) (by first | rfl | simp [List.filter, q_catR]) dX3_takeAxis_33 ?_
  refine q_aload_n X 1 rfl dX3_takeAxis_35 ?_
  obtain ⟨a1, ea1, ma1, ka1, h⟩ := q_atE h
  refine q_getR X 2 ea1 ma1 ka1 rfl tW_X3 (by decide) (by decide) tF_X3_18 rfl dX3_takeAxis_36 ?_
  refine q_iload X 7 rfl dX3_takeAxis_39 ?_
  obtain ⟨a2, ea2, ma2, ka2, h⟩ := q_atE h
  obtain ⟨g3, h⟩ := q_ifE h
  refine q_iaload X ea2 ma2 ka2 (q_inE g3) dX3_takeAxis_41 ?_
  refine q_iload X 4 rfl dX3_takeAxis_42 ?_
  refine q_iand X dX3_takeAxis_44 ?_
  refine q_if_eq X 75 (by decide) dX3_takeAxis_45 (fun g4 => ?_) (fun g4 => ?_)
  · rw [if_pos g4] at h
    refine q_iload X 0 rfl dX3_takeAxis_75 ?_
    refine q_if_ne X 89 (by decide) dX3_takeAxis_77 (fun g5 => ?_) (fun g5 => ?_)
    · rw [if_neg g5] at h
      refine q_lv [1, 2, 3, 4, 5, 6, 7] rfl ?_
      exact w_X3_takeAxis_89 X hr hl hk6 _ _ _ _ _ _ _ _ h
    · rw [if_pos g5] at h
      refine q_iload X 6 rfl dX3_takeAxis_80 ?_
      refine q_aload_n X 2 rfl dX3_takeAxis_82 ?_
      obtain ⟨a6, ea6, ma6, ka6, h⟩ := q_atE h
      obtain ⟨r7, S8, c9, h⟩ := q_bE h
      refine q_cVI X (As := []) ea6 ma6 ka6 rfl (by decide) (c_X1_signedTwo c9) (q_cwV X tK_X1_signedTwo tM_X3_73 tI_X1_signedTwo tV_X1_signedTwo tN_X1 rfl rfl tD_X1_signedTwo ⟨Nat.le_of_ble_eq_true rfl, Nat.le_of_ble_eq_true rfl⟩) rfl rfl (by first | exact Nat.le_of_ble_eq_true rfl | (simp only [List.map, q_catR]; exact Nat.le_of_ble_eq_true rfl)) ⟨Nat.zero_le _, Nat.zero_le _⟩ dX3_takeAxis_83 ?_
      refine q_iadd X dX3_takeAxis_86 ?_
      refine q_istore X 6 [(6, .int (l6 + r7)), (8, .int (s0)), (0, va_rf (l0)), (1, va_rf (l1)), (2, va_rf (l2)), (4, .int (l4)), (5, .int (l5)), (7, .int (l7))] (by decide) (by first | rfl | simp [List.filter, q_catR]) dX3_takeAxis_87 ?_
      refine q_lv [2, 3, 4, 5, 6, 0, 7] rfl ?_
      exact w_X3_takeAxis_89 X hr hl hk6 _ _ _ _ _ _ _ _ h
  · rw [if_neg g4] at h
    refine q_aload_n X 2 rfl dX3_takeAxis_48 ?_
    obtain ⟨a10, ea10, ma10, ka10, h⟩ := q_atE h
    obtain ⟨r11, S12, c13, h⟩ := q_bE h
    refine q_cVI X (As := []) ea10 ma10 ka10 rfl (by decide) (c_X1_one c13) (q_cwV X tK_X1_one tM_X3_70 tI_X1_one tV_X1_one tN_X1 rfl rfl tD_X1_one ⟨Nat.le_of_ble_eq_true rfl, Nat.le_of_ble_eq_true rfl⟩) rfl rfl (by first | exact Nat.le_of_ble_eq_true rfl | (simp only [List.map, q_catR]; exact Nat.le_of_ble_eq_true rfl)) ⟨Nat.zero_le _, Nat.zero_le _⟩ dX3_takeAxis_49 ?_
    refine q_istore X 9 [(9, .int (r11)), (8, .int (s0)), (0, va_rf (l0)), (1, va_rf (l1)), (2, va_rf (l2)), (4, .int (l4)), (5, .int (l5)), (6, .int (l6)), (7, .int (l7))] (by decide) (by first | rfl | simp [List.filter, q_catR]) dX3_takeAxis_52 ?_
    refine q_iload X 7 rfl dX3_takeAxis_54 ?_
    refine q_iload X 1 rfl dX3_takeAxis_56 ?_
    refine q_if_eq X 66 (by decide) dX3_takeAxis_58 (fun g14 => ?_) (fun g14 => ?_)
    · rw [if_pos g14] at h
      refine q_iload X 0 rfl dX3_takeAxis_66 ?_
      refine q_ineg X dX3_takeAxis_68 ?_
      refine q_lv [2, 3, 4, 5, 6, 8] rfl ?_
      exact w_X3_takeAxis_69 X hr hl hk6 _ _ _ _ _ _ _ _ _ h
    · rw [if_neg g14] at h
      refine q_iload X 0 rfl dX3_takeAxis_61 ?_
      refine q_goto X 69 (by decide) dX3_takeAxis_63 ?_
      refine q_lv [2, 3, 4, 5, 6, 8] rfl ?_
      exact w_X3_takeAxis_69 X hr hl hk6 _ _ _ _ _ _ _ _ _ h
def m_X3_takeAxis_6 (n : Nat) : Nat → q_S → Option Nat → Option Nat → Option Nat → Int32 → Int32 → Int32 → Int32 → Option (Unit × q_S)
  | 0, _, _, _, _, _, _, _, _ => none
  | k + 1, S, l0, l1, l2, l4, l5, l6, l7 => q_at (S) (l0) 4 (fun a1 => (if (q_I (S) a1 4) ≤ l7 then some ((), S) else q_at (S) (q_R (S) a1 2) 100 (fun a3 => q_if (q_in (l7) (q_N (S) a3) = true) ((if ((q_I (S) a3 (l7).toNatClampNeg) &&& l5) = 0 then m_X3_takeAxis_33 n (m_X3_takeAxis_6 n k) (S) (l0) (l1) (l2) (l4) (l5) (l6) (l7) ((0 : Int32)) else m_X3_takeAxis_33 n (m_X3_takeAxis_6 n k) (S) (l0) (l1) (l2) (l4) (l5) (l6) (l7) ((1 : Int32)))))))
set_option maxHeartbeats 4000000 in
set_option maxRecDepth 100000 in
theorem w_X3_takeAxis_6 (X : q_X p s m args c cX3_takeAxis 10 RX3 q_T D cy A) (hr : meth.sig.returnType = none) (hl : meth.locks = false)  {n : Nat} {Sv : q_S}  : ∀ (k : Nat) (S : q_S) (l0 : Option Nat) (l1 : Option Nat) (l2 : Option Nat) (l4 : Int32) (l5 : Int32) (l6 : Int32) (l7 : Int32), m_X3_takeAxis_6 n k S l0 l1 l2 l4 l5 l6 l7 = some ((), Sv) → q_W p l e ({ frames := 2, cells := 0, slots := 0, locals := 45 } : Room) s m args below meth c (MQ below (va_Qv (fun (u : q_S) => u = Sv) (q_B D cy A) A) args s 0 0 A) A D cy 10 0 0 S 6 [(0, va_rf (l0)), (1, va_rf (l1)), (2, va_rf (l2)), (4, .int (l4)), (5, .int (l5)), (6, .int (l6)), (7, .int (l7))] [] := by
  intro k
  induction k with
  | zero => intro S l0 l1 l2 l4 l5 l6 l7 h; rw [m_X3_takeAxis_6] at h; cases h
  | succ k ih =>
    intro S l0 l1 l2 l4 l5 l6 l7 h
    rw [m_X3_takeAxis_6] at h
    refine q_iload X 6 rfl dX3_takeAxis_6 ?_
    refine q_aload_n X 0 rfl dX3_takeAxis_8 ?_
    obtain ⟨a1, ea1, ma1, ka1, h⟩ := q_atE h
    refine q_getI X 4 ea1 ma1 ka1 rfl tW_X3 (by decide) (by decide) tF_X3_24 rfl dX3_takeAxis_9 ?_
    refine q_icmp_ge X 101 (by decide) dX3_takeAxis_12 (fun g2 => ?_) (fun g2 => ?_)
    · rw [if_pos g2] at h
      obtain ⟨ev, eS⟩ := q_end h
      exact q_vret X hr hl eS dX3_takeAxis_101
    · rw [if_neg g2] at h
      refine q_aload_n X 0 rfl dX3_takeAxis_15 ?_
      refine q_getR X 2 ea1 ma1 ka1 rfl tW_X3 (by decide) (by decide) tF_X3_18 rfl dX3_takeAxis_16 ?_
      refine q_iload X 6 rfl dX3_takeAxis_19 ?_
      obtain ⟨a3, ea3, ma3, ka3, h⟩ := q_atE h
      obtain ⟨g4, h⟩ := q_ifE h
      refine q_iaload X ea3 ma3 ka3 (q_inE g4) dX3_takeAxis_21 ?_
      refine q_iload X 4 rfl dX3_takeAxis_22 ?_
      refine q_iand X dX3_takeAxis_24 ?_
      refine q_if_eq X 32 (by decide) dX3_takeAxis_25 (fun g5 => ?_) (fun g5 => ?_)
      · rw [if_pos g5] at h
        refine q_iconst X (0) (by decide) dX3_takeAxis_32 ?_
        exact w_X3_takeAxis_33 X hr hl ih _ _ _ _ _ _ _ _ _ h
      · rw [if_neg g5] at h
        refine q_iconst X (1) (by decide) dX3_takeAxis_28 ?_
        refine q_goto X 33 (by decide) dX3_takeAxis_29 ?_
        exact w_X3_takeAxis_33 X hr hl ih _ _ _ _ _ _ _ _ _ h
def m_X3_takeAxis (n : Nat) (S : q_S) (o : Nat) (p0 : Option Nat) (p1 : Option Nat) (p2 : Int32) (p3 : Int32) (p4 : Int32) : Option (Unit × q_S) := m_X3_takeAxis_6 n n (S) (some o) (p0) (p1) (p3) (p4) ((0 : Int32)) (p2)
set_option maxHeartbeats 4000000 in
set_option maxRecDepth 100000 in
theorem w_X3_takeAxis (X : q_X p s m args c cX3_takeAxis 10 RX3 q_T D cy A) (hr : meth.sig.returnType = none) (hl : meth.locks = false)  {n : Nat} {S Sv : q_S} {o : Nat} {p0 : Option Nat} {p1 : Option Nat} {p2 : Int32} {p3 : Int32} {p4 : Int32} (h : m_X3_takeAxis n S o p0 p1 p2 p3 p4 = some ((), Sv)) : q_W p l e ({ frames := 2, cells := 0, slots := 0, locals := 45 } : Room) s m args below meth c (MQ below (va_Qv (fun (u : q_S) => u = Sv) (q_B D cy A) A) args s 0 0 A) A D cy 10 0 0 S 0 [(0, va_rf (some o)), (1, va_rf (p0)), (2, va_rf (p1)), (3, .int (p2)), (4, .int (p3)), (5, .int (p4))] [] := by
  unfold m_X3_takeAxis at h
  refine q_iconst X (0) (by decide) dX3_takeAxis_0 ?_
  refine q_istore X 6 [(6, .int ((0 : Int32))), (0, va_rf (some o)), (1, va_rf (p0)), (2, va_rf (p1)), (3, .int (p2)), (4, .int (p3)), (5, .int (p4))] (by decide) (by first | rfl | simp [List.filter, q_catR]) dX3_takeAxis_1 ?_
  refine q_iload_n X 4 rfl dX3_takeAxis_3 ?_
  refine q_istore X 7 [(7, .int (p2)), (6, .int ((0 : Int32))), (0, va_rf (some o)), (1, va_rf (p0)), (2, va_rf (p1)), (3, .int (p2)), (4, .int (p3)), (5, .int (p4))] (by decide) (by first | rfl | simp [List.filter, q_catR]) dX3_takeAxis_4 ?_
  refine q_lv [2, 3, 4, 6, 7, 1, 0] rfl ?_
  exact w_X3_takeAxis_6 X hr hl n _ _ _ _ _ _ _ _ h
theorem tD_X3_takeAxis : yX3_takeAxis.cls ≠ "java/lang/invoke/MethodHandle" ∧ yX3_takeAxis.cls ≠ "java/lang/invoke/VarHandle" ∧ (parseMethodDescriptor yX3_takeAxis.desc).map (fun d => d.parameters.length) = some 5 := by decide +kernel
theorem c_X3_takeAxis {l : Launch} {D : va_G} {cy : Nat → ClassId} {n : Nat} {S Sv : q_S} {o : Nat} {p0 : Option Nat} {p1 : Option Nat} {p2 : Int32} {p3 : Int32} {p4 : Int32} (h : m_X3_takeAxis n S o p0 p1 p2 p3 p4 = some ((), Sv)) : q_MV l yX3_takeAxis (q_ws yX3_takeAxis cX3_takeAxis 10 (none)) ({ frames := 2, cells := 0, slots := 0, locals := 45 } : Room) D cy [.ref o, va_rf (p0), va_rf (p1), .int (p2), .int (p3), .int (p4)] S Sv := by
  cases p0 <;> cases p1 <;> exact q_MV_of (by decide +kernel) (Nat.le_of_ble_eq_true rfl) (fun p e s m args below meth c A X hr hl => w_X3_takeAxis X hr hl h)
/-! TrueOutlines$Points.takeContours(LTrueOutlines$Data;I)Z -/
def m_X3_takeContours_62 (n : Nat) (S : q_S) : Option (Int32 × q_S) := q_if ((0 : Int32) = 0 ∨ (0 : Int32) = 1) (some ((0 : Int32), S))
set_option maxHeartbeats 4000000 in
set_option maxRecDepth 100000 in
theorem w_X3_takeContours_62 (X : q_X p s m args c cX3_takeContours 6 RX3 q_T D cy A) (hr : meth.sig.returnType = (some .boolean)) (hl : meth.locks = false)  {n : Nat} {Sv : q_S} {rv : Int32}  (S : q_S) (h : m_X3_takeContours_62 n S = some (rv, Sv)) : q_W p l e ({ frames := 2, cells := 0, slots := 0, locals := 45 } : Room) s m args below meth c (MQ below (va_Qi (fun (r : Int32) (u : q_S) => r = rv ∧ u = Sv) (q_B D cy A) A) args s 0 0 A) A D cy 6 0 0 S 62 [] [] := by
  unfold m_X3_takeContours_62 at h
  refine q_iconst X (0) (by decide) dX3_takeContours_62 ?_
  obtain ⟨g1, h⟩ := q_ifE h
  obtain ⟨ev, eS⟩ := q_end h
  exact q_iret X hr hl (q_bool g1) ev eS dX3_takeContours_63
def m_X3_takeContours_46 (n : Nat) (k2 : q_S → Option Nat → Option Nat → Int32 → Int32 → Option (Int32 × q_S)) (S : q_S) (l0 : Option Nat) (l1 : Option Nat) (l2 : Int32) (l3 : Int32) (l4 : Int32) (s0 : Int32) : Option (Int32 × q_S) := (if s0 = 0 then m_X3_takeContours_62 n (S) else q_at (S) (l0) 4 (fun a2 => (if (q_I (S) a2 5) < (120 : Int32) then q_at (S) (q_R (S) a2 3) 100 (fun a4 => q_if (q_in (q_I (S) a2 5) (q_N (S) a4) = true) (q_let (q_sI (q_sI (S) a4 (q_I (S) a2 5).toNatClampNeg (l4)) a2 5 ((q_I (q_sI (S) a4 (q_I (S) a2 5).toNatClampNeg (l4)) a2 5) + (1 : Int32))) (fun S6 => k2 (q_sI (S6) a2 4 (l4 + (1 : Int32))) (l0) (l1) (l2) (l3 + (1))))) else m_X3_takeContours_62 n (S))))
set_option maxHeartbeats 4000000 in
set_option maxRecDepth 100000 in
theorem w_X3_takeContours_46 (X : q_X p s m args c cX3_takeContours 6 RX3 q_T D cy A) (hr : meth.sig.returnType = (some .boolean)) (hl : meth.locks = false)  {n : Nat} {Sv : q_S} {rv : Int32}  {k2 : q_S → Option Nat → Option Nat → Int32 → Int32 → Option (Int32 × q_S)} (hk2 : ∀ (S : q_S) (z0 : Option Nat) (z1 : Option Nat) (z2 : Int32) (z3 : Int32), k2 S z0 z1 z2 z3 = some (rv, Sv) → q_W p l e ({ frames := 2, cells := 0, slots := 0, locals := 45 } : Room) s m args below meth c (MQ below (va_Qi (fun (r : Int32) (u : q_S) => r = rv ∧ u = Sv) (q_B D cy A) A) args s 0 0 A) A D cy 6 0 0 S 2 [(0, va_rf (z0)), (1, va_rf (z1)), (2, .int (z2)), (3, .int (z3))] []) (S : q_S) (l0 : Option Nat) (l1 : Option Nat) (l2 : Int32) (l3 : Int32) (l4 : Int32) (s0 : Int32) (h : m_X3_takeContours_46 n k2 S l0 l1 l2 l3 l4 s0 = some (rv, Sv)) : q_W p l e ({ frames := 2, cells := 0, slots := 0, locals := 45 } : Room) s m args below meth c (MQ below (va_Qi (fun (r : Int32) (u : q_S) => r = rv ∧ u = Sv) (q_B D cy A) A) args s 0 0 A) A D cy 6 0 0 S 46 [(0, va_rf (l0)), (1, va_rf (l1)), (2, .int (l2)), (3, .int (l3)), (4, .int (l4))] [.int (s0)] := by
  unfold m_X3_takeContours_46 at h
  refine q_istore X 5 [(5, .int (s0)), (0, va_rf (l0)), (1, va_rf (l1)), (2, .int (l2)), (3, .int (l3)), (4, .int (l4))] (by decide) (by first | rfl | simp [List.filter, q_catR]) dX3_takeContours_46 ?_
  refine q_iload X 0 rfl dX3_takeContours_48 ?_
  refine q_if_eq X 62 (by decide) dX3_takeContours_50 (fun g1 => ?_) (fun g1 => ?_)
  · rw [if_pos g1] at h
    refine q_lv [] rfl ?_
    exact w_X3_takeContours_62 X hr hl _ h
  · rw [if_neg g1] at h
    refine q_aload_n X 1 rfl dX3_takeContours_53 ?_
    obtain ⟨a2, ea2, ma2, ka2, h⟩ := q_atE h
    refine q_getI X 5 ea2 ma2 ka2 rfl tW_X3 (by decide) (by decide) tF_X3_28 rfl dX3_takeContours_54 ?_
    refine q_bipush X (120) (by decide) dX3_takeContours_57 ?_
    refine q_icmp_lt X 64 (by decide) dX3_takeContours_59 (fun g3 => ?_) (fun g3 => ?_)
    · rw [if_pos g3] at h
      refine q_aload_n X 1 rfl dX3_takeContours_64 ?_
      refine q_getR X 3 ea2 ma2 ka2 rfl tW_X3 (by decide) (by decide) tF_X3_21 rfl dX3_takeContours_65 ?_
      refine q_aload_n X 1 rfl dX3_takeContours_68 ?_
      refine q_getI X 5 ea2 ma2 ka2 rfl tW_X3 (by decide) (by decide) tF_X3_28 rfl dX3_takeContours_69 ?_
      refine q_iload X 5 rfl dX3_takeContours_72 ?_
      obtain ⟨a4, ea4, ma4, ka4, h⟩ := q_atE h
      obtain ⟨g5, h⟩ := q_ifE h
      refine q_iastore X ea4 ma4 ka4 (q_inE g5) dX3_takeContours_74 ?_
      have ma2 : a2 ∈ q_L (q_sI (S) a4 (q_I (S) a2 5).toNatClampNeg (l4)) := q_LsI ma2
      have ka2 : q_K (q_sI (S) a4 (q_I (S) a2 5).toNatClampNeg (l4)) a2 = 4 := q_KsI ka2
      have ma4 : a4 ∈ q_L (q_sI (S) a4 (q_I (S) a2 5).toNatClampNeg (l4)) := q_LsI ma4
      have ka4 : q_K (q_sI (S) a4 (q_I (S) a2 5).toNatClampNeg (l4)) a4 = 100 := q_KsI ka4
      refine q_aload_n X 1 rfl dX3_takeContours_75 ?_
      refine q_dup X (q_catR _) dX3_takeContours_76 ?_
      refine q_getI X 5 ea2 ma2 ka2 rfl tW_X3 (by decide) (by decide) tF_X3_28 rfl dX3_takeContours_77 ?_
      refine q_iconst X (1) (by decide) dX3_takeContours_80 ?_
      refine q_iadd X dX3_takeContours_81 ?_
      refine q_putI X 5 ea2 ma2 ka2 rfl tW_X3 (by decide) (by decide) tF_X3_28 tyX3 tyX3_ok nmX3 rfl (tyX3_ok 5 (by decide)) rfl rfl rfl dX3_takeContours_82 ?_
      have ma2 : a2 ∈ q_L (q_sI (q_sI (S) a4 (q_I (S) a2 5).toNatClampNeg (l4)) a2 5 ((q_I (q_sI (S) a4 (q_I (S) a2 5).toNatClampNeg (l4)) a2 5) + (1 : Int32))) := q_LsI ma2
      have ka2 : q_K (q_sI (q_sI (S) a4 (q_I (S) a2 5).toNatClampNeg (l4)) a2 5 ((q_I (q_sI (S) a4 (q_I (S) a2 5).toNatClampNeg (l4)) a2 5) + (1 : Int32))) a2 = 4 := q_KsI ka2
      have ma4 : a4 ∈ q_L (q_sI (q_sI (S) a4 (q_I (S) a2 5).toNatClampNeg (l4)) a2 5 ((q_I (q_sI (S) a4 (q_I (S) a2 5).toNatClampNeg (l4)) a2 5) + (1 : Int32))) := q_LsI ma4
      have ka4 : q_K (q_sI (q_sI (S) a4 (q_I (S) a2 5).toNatClampNeg (l4)) a2 5 ((q_I (q_sI (S) a4 (q_I (S) a2 5).toNatClampNeg (l4)) a2 5) + (1 : Int32))) a4 = 100 := q_KsI ka4
      obtain ⟨S6, eS6, h⟩ := q_letE h
      refine q_sub eS6 ?_
      have ma2 : a2 ∈ q_L S6 := by rw [eS6]; exact ma2
      have ka2 : q_K S6 a2 = 4 := by rw [eS6]; exact ka2
      have ma4 : a4 ∈ q_L S6 := by rw [eS6]; exact ma4
      have ka4 : q_K S6 a4 = 100 := by rw [eS6]; exact ka4
      refine q_aload_n X 1 rfl dX3_takeContours_85 ?_
      refine q_iload X 5 rfl dX3_takeContours_86 ?_
      refine q_iconst X (1) (by decide) dX3_takeContours_88 ?_
      refine q_iadd X dX3_takeContours_89 ?_
      refine q_putI X 4 ea2 ma2 ka2 rfl tW_X3 (by decide) (by decide) tF_X3_24 tyX3 tyX3_ok nmX3 rfl (tyX3_ok 4 (by decide)) rfl rfl rfl dX3_takeContours_90 ?_
      have ma2 : a2 ∈ q_L (q_sI (S6) a2 4 (l4 + (1 : Int32))) := q_LsI ma2
      have ka2 : q_K (q_sI (S6) a2 4 (l4 + (1 : Int32))) a2 = 4 := q_KsI ka2
      have ma4 : a4 ∈ q_L (q_sI (S6) a2 4 (l4 + (1 : Int32))) := q_LsI ma4
      have ka4 : q_K (q_sI (S6) a2 4 (l4 + (1 : Int32))) a4 = 100 := q_KsI ka4
      refine q_iinc X 3 4 (l3 + (1)) [(3, .int (l3 + (1))), (5, .int (s0)), (0, va_rf (l0)), (1, va_rf (l1)), (2, .int (l2)), (4, .int (l4))] rfl (congrArg (fun z => l3 + z) (show Int32.ofInt (1) = (1) by decide)) (by decide) (by first | rfl | simp [List.filter, q_catR]) dX3_takeContours_93 ?_
      refine q_goto X 2 (by decide) dX3_takeContours_96 ?_
      refine q_lv [2, 3, 4, 0] rfl ?_
      exact hk2 _ _ _ _ _ h
    · rw [if_neg g3] at h
      refine q_lv [] rfl ?_
      exact w_X3_takeContours_62 X hr hl _ h
def m_X3_takeContours_45 (n : Nat) (k2 : q_S → Option Nat → Option Nat → Int32 → Int32 → Option (Int32 × q_S)) (S : q_S) (l0 : Option Nat) (l1 : Option Nat) (l2 : Int32) (l3 : Int32) (l4 : Int32) : Option (Int32 × q_S) := m_X3_takeContours_46 n k2 (S) (l0) (l1) (l2) (l3) (l4) ((0 : Int32))
set_option maxHeartbeats 4000000 in
set_option maxRecDepth 100000 in
theorem w_X3_takeContours_45 (X : q_X p s m args c cX3_takeContours 6 RX3 q_T D cy A) (hr : meth.sig.returnType = (some .boolean)) (hl : meth.locks = false)  {n : Nat} {Sv : q_S} {rv : Int32}  {k2 : q_S → Option Nat → Option Nat → Int32 → Int32 → Option (Int32 × q_S)} (hk2 : ∀ (S : q_S) (z0 : Option Nat) (z1 : Option Nat) (z2 : Int32) (z3 : Int32), k2 S z0 z1 z2 z3 = some (rv, Sv) → q_W p l e ({ frames := 2, cells := 0, slots := 0, locals := 45 } : Room) s m args below meth c (MQ below (va_Qi (fun (r : Int32) (u : q_S) => r = rv ∧ u = Sv) (q_B D cy A) A) args s 0 0 A) A D cy 6 0 0 S 2 [(0, va_rf (z0)), (1, va_rf (z1)), (2, .int (z2)), (3, .int (z3))] []) (S : q_S) (l0 : Option Nat) (l1 : Option Nat) (l2 : Int32) (l3 : Int32) (l4 : Int32) (h : m_X3_takeContours_45 n k2 S l0 l1 l2 l3 l4 = some (rv, Sv)) : q_W p l e ({ frames := 2, cells := 0, slots := 0, locals := 45 } : Room) s m args below meth c (MQ below (va_Qi (fun (r : Int32) (u : q_S) => r = rv ∧ u = Sv) (q_B D cy A) A) args s 0 0 A) A D cy 6 0 0 S 45 [(0, va_rf (l0)), (1, va_rf (l1)), (2, .int (l2)), (3, .int (l3)), (4, .int (l4))] [] := by
  unfold m_X3_takeContours_45 at h
  refine q_iconst X (0) (by decide) dX3_takeContours_45 ?_
  exact w_X3_takeContours_46 X hr hl hk2 _ _ _ _ _ _ _ h
def m_X3_takeContours_2 (n : Nat) : Nat → q_S → Option Nat → Option Nat → Int32 → Int32 → Option (Int32 × q_S)
  | 0, _, _, _, _, _ => none
  | k + 1, S, l0, l1, l2, l3 => q_at (S) (l1) 2 (fun a1 => (if (q_I (S) a1 5) ≤ l3 then q_if ((1 : Int32) = 0 ∨ (1 : Int32) = 1) (some ((1 : Int32), S)) else q_b (m_X1_two n (S) a1) (fun r4 S5 => q_at (S5) (l1) 2 (fun a7 => q_b (m_X1_isPast n (S5) a7) (fun r8 S9 => (if r8 = 0 then q_at (S9) (l0) 4 (fun a12 => (if (l2 + r4) < (q_I (S9) a12 4) then m_X3_takeContours_45 n (m_X3_takeContours_2 n k) (S9) (l0) (l1) (l2) (l3) (l2 + r4) else (if (120 : Int32) ≤ (l2 + r4) then m_X3_takeContours_45 n (m_X3_takeContours_2 n k) (S9) (l0) (l1) (l2) (l3) (l2 + r4) else m_X3_takeContours_46 n (m_X3_takeContours_2 n k) (S9) (l0) (l1) (l2) (l3) (l2 + r4) ((1 : Int32))))) else m_X3_takeContours_45 n (m_X3_takeContours_2 n k) (S9) (l0) (l1) (l2) (l3) (l2 + r4)))))))
set_option maxHeartbeats 4000000 in
set_option maxRecDepth 100000 in
theorem w_X3_takeContours_2 (X : q_X p s m args c cX3_takeContours 6 RX3 q_T D cy A) (hr : meth.sig.returnType = (some .boolean)) (hl : meth.locks = false)  {n : Nat} {Sv : q_S} {rv : Int32}  : ∀ (k : Nat) (S : q_S) (l0 : Option Nat) (l1 : Option Nat) (l2 : Int32) (l3 : Int32), m_X3_takeContours_2 n k S l0 l1 l2 l3 = some (rv, Sv) → q_W p l e ({ frames := 2, cells := 0, slots := 0, locals := 45 } : Room) s m args below meth c (MQ below (va_Qi (fun (r : Int32) (u : q_S) => r = rv ∧ u = Sv) (q_B D cy A) A) args s 0 0 A) A D cy 6 0 0 S 2 [(0, va_rf (l0)), (1, va_rf (l1)), (2, .int (l2)), (3, .int (l3))] [] := by
  intro k
  induction k with
  | zero => intro S l0 l1 l2 l3 h; rw [m_X3_takeContours_2] at h; cases h
  | succ k ih =>
    intro S l0 l1 l2 l3 h
    rw [m_X3_takeContours_2] at h
    refine q_iload_n X 3 rfl dX3_takeContours_2 ?_
    refine q_aload_n X 1 rfl dX3_takeContours_3 ?_
    obtain ⟨a1, ea1, ma1, ka1, h⟩ := q_atE h
    refine q_getIN X 5 ea1 ma1 ka1 rfl tW_X1 (by decide) (by decide) "TrueOutlines" tF_X3_69 rfl dX3_takeContours_4 ?_
    refine q_icmp_ge X 99 (by decide) dX3_takeContours_7 (fun g2 => ?_) (fun g2 => ?_)
    · rw [if_pos g2] at h
      refine q_iconst X (1) (by decide) dX3_takeContours_99 ?_
      obtain ⟨g3, h⟩ := q_ifE h
      obtain ⟨ev, eS⟩ := q_end h
      exact q_iret X hr hl (q_bool g3) ev eS dX3_takeContours_100
    · rw [if_neg g2] at h
      refine q_iload_n X 2 rfl dX3_takeContours_10 ?_
      refine q_aload_n X 1 rfl dX3_takeContours_11 ?_
      obtain ⟨r4, S5, c6, h⟩ := q_bE h
      refine q_cVI X (As := []) ea1 ma1 ka1 rfl (by decide) (c_X1_two c6) (q_cwV X tK_X1_two tM_X3_48 tI_X1_two tV_X1_two tN_X1 rfl rfl tD_X1_two ⟨Nat.le_of_ble_eq_true rfl, Nat.le_of_ble_eq_true rfl⟩) rfl rfl (by first | exact Nat.le_of_ble_eq_true rfl | (simp only [List.map, q_catR]; exact Nat.le_of_ble_eq_true rfl)) ⟨Nat.zero_le _, Nat.zero_le _⟩ dX3_takeContours_12 ?_
      refine q_iadd X dX3_takeContours_15 ?_
      refine q_istore X 4 [(4, .int (l2 + r4)), (0, va_rf (l0)), (1, va_rf (l1)), (2, .int (l2)), (3, .int (l3))] (by decide) (by first | rfl | simp [List.filter, q_catR]) dX3_takeContours_16 ?_
      refine q_aload_n X 2 rfl dX3_takeContours_18 ?_
      obtain ⟨a7, ea7, ma7, ka7, h⟩ := q_atE h
      obtain ⟨r8, S9, c10, h⟩ := q_bE h
      refine q_cVI X (As := []) ea7 ma7 ka7 rfl (by decide) (c_X1_isPast c10) (q_cwV X tK_X1_isPast tM_X3_65 tI_X1_isPast tV_X1_isPast tN_X1 rfl rfl tD_X1_isPast ⟨Nat.le_of_ble_eq_true rfl, Nat.le_of_ble_eq_true rfl⟩) rfl rfl (by first | exact Nat.le_of_ble_eq_true rfl | (simp only [List.map, q_catR]; exact Nat.le_of_ble_eq_true rfl)) ⟨Nat.zero_le _, Nat.zero_le _⟩ dX3_takeContours_19 ?_
      refine q_if_ne X 45 (by decide) dX3_takeContours_22 (fun g11 => ?_) (fun g11 => ?_)
      · rw [if_neg g11] at h
        refine q_lv [1, 2, 3, 4, 0] rfl ?_
        exact w_X3_takeContours_45 X hr hl ih _ _ _ _ _ _ h
      · rw [if_pos g11] at h
        refine q_iload X 0 rfl dX3_takeContours_25 ?_
        refine q_aload_n X 1 rfl dX3_takeContours_27 ?_
        obtain ⟨a12, ea12, ma12, ka12, h⟩ := q_atE h
        refine q_getI X 4 ea12 ma12 ka12 rfl tW_X3 (by decide) (by decide) tF_X3_24 rfl dX3_takeContours_28 ?_
        refine q_icmp_lt X 45 (by decide) dX3_takeContours_31 (fun g13 => ?_) (fun g13 => ?_)
        · rw [if_pos g13] at h
          refine q_lv [1, 2, 3, 4, 0] rfl ?_
          exact w_X3_takeContours_45 X hr hl ih _ _ _ _ _ _ h
        · rw [if_neg g13] at h
          refine q_iload X 0 rfl dX3_takeContours_34 ?_
          refine q_bipush X (120) (by decide) dX3_takeContours_36 ?_
          refine q_icmp_ge X 45 (by decide) dX3_takeContours_38 (fun g14 => ?_) (fun g14 => ?_)
          · rw [if_pos g14] at h
            refine q_lv [1, 2, 3, 4, 0] rfl ?_
            exact w_X3_takeContours_45 X hr hl ih _ _ _ _ _ _ h
          · rw [if_neg g14] at h
            refine q_iconst X (1) (by decide) dX3_takeContours_41 ?_
            refine q_goto X 46 (by decide) dX3_takeContours_42 ?_
            refine q_lv [1, 2, 3, 4, 0] rfl ?_
            exact w_X3_takeContours_46 X hr hl ih _ _ _ _ _ _ _ h
def m_X3_takeContours (n : Nat) (S : q_S) (o : Nat) (p0 : Option Nat) (p1 : Int32) : Option (Int32 × q_S) := m_X3_takeContours_2 n n (S) (some o) (p0) (p1) ((0 : Int32))
set_option maxHeartbeats 4000000 in
set_option maxRecDepth 100000 in
theorem w_X3_takeContours (X : q_X p s m args c cX3_takeContours 6 RX3 q_T D cy A) (hr : meth.sig.returnType = (some .boolean)) (hl : meth.locks = false)  {n : Nat} {S Sv : q_S} {rv : Int32} {o : Nat} {p0 : Option Nat} {p1 : Int32} (h : m_X3_takeContours n S o p0 p1 = some (rv, Sv)) : q_W p l e ({ frames := 2, cells := 0, slots := 0, locals := 45 } : Room) s m args below meth c (MQ below (va_Qi (fun (r : Int32) (u : q_S) => r = rv ∧ u = Sv) (q_B D cy A) A) args s 0 0 A) A D cy 6 0 0 S 0 [(0, va_rf (some o)), (1, va_rf (p0)), (2, .int (p1))] [] := by
  unfold m_X3_takeContours at h
  refine q_iconst X (0) (by decide) dX3_takeContours_0 ?_
  refine q_istore_n X 3 [(3, .int ((0 : Int32))), (0, va_rf (some o)), (1, va_rf (p0)), (2, .int (p1))] rfl (by decide) (by first | rfl | simp [List.filter, q_catR]) dX3_takeContours_1 ?_
  refine q_lv [1, 2, 3, 0] rfl ?_
  exact w_X3_takeContours_2 X hr hl n _ _ _ _ _ h
theorem tD_X3_takeContours : yX3_takeContours.cls ≠ "java/lang/invoke/MethodHandle" ∧ yX3_takeContours.cls ≠ "java/lang/invoke/VarHandle" ∧ (parseMethodDescriptor yX3_takeContours.desc).map (fun d => d.parameters.length) = some 2 := by decide +kernel
theorem c_X3_takeContours {l : Launch} {D : va_G} {cy : Nat → ClassId} {n : Nat} {S Sv : q_S} {rv : Int32} {o : Nat} {p0 : Option Nat} {p1 : Int32} (h : m_X3_takeContours n S o p0 p1 = some (rv, Sv)) : q_MI l yX3_takeContours (q_ws yX3_takeContours cX3_takeContours 6 ((some .boolean))) ({ frames := 2, cells := 0, slots := 0, locals := 45 } : Room) D cy [.ref o, va_rf (p0), .int (p1)] S rv Sv := by
  cases p0 <;> exact q_MI_of (by decide +kernel) (Nat.le_of_ble_eq_true rfl) (fun p e s m args below meth c A X hr hl => w_X3_takeContours X hr hl h)
/-! TrueOutlines$Points.takeFlags(LTrueOutlines$Data;I)Z -/
def m_X3_takeFlags_81 (n : Nat) (S : q_S) (s0 : Int32) : Option (Int32 × q_S) := q_if (s0 = 0 ∨ s0 = 1) (some (s0, S))
set_option maxHeartbeats 4000000 in
set_option maxRecDepth 100000 in
theorem w_X3_takeFlags_81 (X : q_X p s m args c cX3_takeFlags 6 RX3 q_T D cy A) (hr : meth.sig.returnType = (some .boolean)) (hl : meth.locks = false)  {n : Nat} {Sv : q_S} {rv : Int32}  (S : q_S) (s0 : Int32) (h : m_X3_takeFlags_81 n S s0 = some (rv, Sv)) : q_W p l e ({ frames := 2, cells := 0, slots := 0, locals := 44 } : Room) s m args below meth c (MQ below (va_Qi (fun (r : Int32) (u : q_S) => r = rv ∧ u = Sv) (q_B D cy A) A) args s 0 0 A) A D cy 6 0 0 S 81 [] [.int (s0)] := by
  unfold m_X3_takeFlags_81 at h
  obtain ⟨g1, h⟩ := q_ifE h
  obtain ⟨ev, eS⟩ := q_end h
  exact q_iret X hr hl (q_bool g1) ev eS dX3_takeFlags_81
def m_X3_takeFlags_80 (n : Nat) (S : q_S) : Option (Int32 × q_S) := m_X3_takeFlags_81 n (S) ((0 : Int32))
set_option maxHeartbeats 4000000 in
set_option maxRecDepth 100000 in
theorem w_X3_takeFlags_80 (X : q_X p s m args c cX3_takeFlags 6 RX3 q_T D cy A) (hr : meth.sig.returnType = (some .boolean)) (hl : meth.locks = false)  {n : Nat} {Sv : q_S} {rv : Int32}  (S : q_S) (h : m_X3_takeFlags_80 n S = some (rv, Sv)) : q_W p l e ({ frames := 2, cells := 0, slots := 0, locals := 44 } : Room) s m args below meth c (MQ below (va_Qi (fun (r : Int32) (u : q_S) => r = rv ∧ u = Sv) (q_B D cy A) A) args s 0 0 A) A D cy 6 0 0 S 80 [] [] := by
  unfold m_X3_takeFlags_80 at h
  refine q_iconst X (0) (by decide) dX3_takeFlags_80 ?_
  exact w_X3_takeFlags_81 X hr hl _ _ h
def m_X3_takeFlags_50 (n : Nat) (k8 : q_S → Option Nat → Option Nat → Int32 → Int32 → Int32 → Option (Int32 × q_S)) (S : q_S) (l0 : Option Nat) (l1 : Option Nat) (l3 : Int32) (l4 : Int32) (l5 : Int32) : Option (Int32 × q_S) := q_at (S) (l0) 4 (fun a1 => q_at (S) (q_R (S) a1 2) 100 (fun a2 => q_if (q_in (l5) (q_N (S) a2) = true) (k8 (q_sI (S) a2 (l5).toNatClampNeg (l4)) (l0) (l1) (l3) (l4) (l5 + (1)))))
set_option maxHeartbeats 4000000 in
set_option maxRecDepth 100000 in
theorem w_X3_takeFlags_50 (X : q_X p s m args c cX3_takeFlags 6 RX3 q_T D cy A) (hr : meth.sig.returnType = (some .boolean)) (hl : meth.locks = false)  {n : Nat} {Sv : q_S} {rv : Int32}  {k8 : q_S → Option Nat → Option Nat → Int32 → Int32 → Int32 → Option (Int32 × q_S)} (hk8 : ∀ (S : q_S) (z0 : Option Nat) (z1 : Option Nat) (z2 : Int32) (z3 : Int32) (z4 : Int32), k8 S z0 z1 z2 z3 z4 = some (rv, Sv) → q_W p l e ({ frames := 2, cells := 0, slots := 0, locals := 44 } : Room) s m args below meth c (MQ below (va_Qi (fun (r : Int32) (u : q_S) => r = rv ∧ u = Sv) (q_B D cy A) A) args s 0 0 A) A D cy 6 0 0 S 8 [(0, va_rf (z0)), (1, va_rf (z1)), (3, .int (z2)), (4, .int (z3)), (5, .int (z4))] []) (S : q_S) (l0 : Option Nat) (l1 : Option Nat) (l3 : Int32) (l4 : Int32) (l5 : Int32) (h : m_X3_takeFlags_50 n k8 S l0 l1 l3 l4 l5 = some (rv, Sv)) : q_W p l e ({ frames := 2, cells := 0, slots := 0, locals := 44 } : Room) s m args below meth c (MQ below (va_Qi (fun (r : Int32) (u : q_S) => r = rv ∧ u = Sv) (q_B D cy A) A) args s 0 0 A) A D cy 6 0 0 S 50 [(0, va_rf (l0)), (1, va_rf (l1)), (3, .int (l3)), (4, .int (l4)), (5, .int (l5))] [] := by
  unfold m_X3_takeFlags_50 at h
  refine q_aload_n X 0 rfl dX3_takeFlags_50 ?_
  obtain ⟨a1, ea1, ma1, ka1, h⟩ := q_atE h
  refine q_getR X 2 ea1 ma1 ka1 rfl tW_X3 (by decide) (by decide) tF_X3_18 rfl dX3_takeFlags_51 ?_
  refine q_iload X 4 rfl dX3_takeFlags_54 ?_
  refine q_iload X 3 rfl dX3_takeFlags_56 ?_
  obtain ⟨a2, ea2, ma2, ka2, h⟩ := q_atE h
  obtain ⟨g3, h⟩ := q_ifE h
  refine q_iastore X ea2 ma2 ka2 (q_inE g3) dX3_takeFlags_58 ?_
  have ma1 : a1 ∈ q_L (q_sI (S) a2 (l5).toNatClampNeg (l4)) := q_LsI ma1
  have ka1 : q_K (q_sI (S) a2 (l5).toNatClampNeg (l4)) a1 = 4 := q_KsI ka1
  have ma2 : a2 ∈ q_L (q_sI (S) a2 (l5).toNatClampNeg (l4)) := q_LsI ma2
  have ka2 : q_K (q_sI (S) a2 (l5).toNatClampNeg (l4)) a2 = 100 := q_KsI ka2
  refine q_iinc X 5 4 (l5 + (1)) [(5, .int (l5 + (1))), (0, va_rf (l0)), (1, va_rf (l1)), (3, .int (l3)), (4, .int (l4))] rfl (congrArg (fun z => l5 + z) (show Int32.ofInt (1) = (1) by decide)) (by decide) (by first | rfl | simp [List.filter, q_catR]) dX3_takeFlags_59 ?_
  refine q_goto X 8 (by decide) dX3_takeFlags_62 ?_
  refine q_lv [1, 2, 3, 4, 0] rfl ?_
  exact hk8 _ _ _ _ _ _ h
def m_X3_takeFlags_49 (n : Nat) (k8 : q_S → Option Nat → Option Nat → Int32 → Int32 → Int32 → Option (Int32 × q_S)) (S : q_S) (l0 : Option Nat) (l1 : Option Nat) (l4 : Int32) (l5 : Int32) (s0 : Int32) : Option (Int32 × q_S) := m_X3_takeFlags_50 n k8 (S) (l0) (l1) (s0) (l4) (l5)
set_option maxHeartbeats 4000000 in
set_option maxRecDepth 100000 in
theorem w_X3_takeFlags_49 (X : q_X p s m args c cX3_takeFlags 6 RX3 q_T D cy A) (hr : meth.sig.returnType = (some .boolean)) (hl : meth.locks = false)  {n : Nat} {Sv : q_S} {rv : Int32}  {k8 : q_S → Option Nat → Option Nat → Int32 → Int32 → Int32 → Option (Int32 × q_S)} (hk8 : ∀ (S : q_S) (z0 : Option Nat) (z1 : Option Nat) (z2 : Int32) (z3 : Int32) (z4 : Int32), k8 S z0 z1 z2 z3 z4 = some (rv, Sv) → q_W p l e ({ frames := 2, cells := 0, slots := 0, locals := 44 } : Room) s m args below meth c (MQ below (va_Qi (fun (r : Int32) (u : q_S) => r = rv ∧ u = Sv) (q_B D cy A) A) args s 0 0 A) A D cy 6 0 0 S 8 [(0, va_rf (z0)), (1, va_rf (z1)), (3, .int (z2)), (4, .int (z3)), (5, .int (z4))] []) (S : q_S) (l0 : Option Nat) (l1 : Option Nat) (l4 : Int32) (l5 : Int32) (s0 : Int32) (h : m_X3_takeFlags_49 n k8 S l0 l1 l4 l5 s0 = some (rv, Sv)) : q_W p l e ({ frames := 2, cells := 0, slots := 0, locals := 44 } : Room) s m args below meth c (MQ below (va_Qi (fun (r : Int32) (u : q_S) => r = rv ∧ u = Sv) (q_B D cy A) A) args s 0 0 A) A D cy 6 0 0 S 49 [(0, va_rf (l0)), (1, va_rf (l1)), (4, .int (l4)), (5, .int (l5))] [.int (s0)] := by
  unfold m_X3_takeFlags_49 at h
  refine q_istore_n X 3 [(3, .int (s0)), (0, va_rf (l0)), (1, va_rf (l1)), (4, .int (l4)), (5, .int (l5))] rfl (by decide) (by first | rfl | simp [List.filter, q_catR]) dX3_takeFlags_49 ?_
  refine q_lv [1, 2, 0, 3, 4] rfl ?_
  exact w_X3_takeFlags_50 X hr hl hk8 _ _ _ _ _ _ h
def m_X3_takeFlags_8 (n : Nat) : Nat → q_S → Option Nat → Option Nat → Int32 → Int32 → Int32 → Option (Int32 × q_S)
  | 0, _, _, _, _, _, _ => none
  | k + 1, S, l0, l1, l3, l4, l5 => q_at (S) (l0) 4 (fun a1 => (if (q_I (S) a1 4) ≤ l5 then (if l3 = 0 then q_at (S) (l1) 2 (fun a4 => q_b (m_X1_isPast n (S) a4) (fun r5 S6 => (if r5 = 0 then m_X3_takeFlags_81 n (S6) ((1 : Int32)) else m_X3_takeFlags_80 n (S6)))) else m_X3_takeFlags_80 n (S)) else (if l3 ≤ 0 then q_at (S) (l1) 2 (fun a10 => q_b (m_X1_one n (S) a10) (fun r11 S12 => (if (r11 &&& (8 : Int32)) = 0 then m_X3_takeFlags_49 n (m_X3_takeFlags_8 n k) (S12) (l0) (l1) (r11) (l5) ((0 : Int32)) else q_at (S12) (l1) 2 (fun a15 => q_b (m_X1_one n (S12) a15) (fun r16 S17 => m_X3_takeFlags_49 n (m_X3_takeFlags_8 n k) (S17) (l0) (l1) (r11) (l5) (r16)))))) else m_X3_takeFlags_50 n (m_X3_takeFlags_8 n k) (S) (l0) (l1) (l3 + (-1)) (l4) (l5))))
set_option maxHeartbeats 4000000 in
set_option maxRecDepth 100000 in
theorem w_X3_takeFlags_8 (X : q_X p s m args c cX3_takeFlags 6 RX3 q_T D cy A) (hr : meth.sig.returnType = (some .boolean)) (hl : meth.locks = false)  {n : Nat} {Sv : q_S} {rv : Int32}  : ∀ (k : Nat) (S : q_S) (l0 : Option Nat) (l1 : Option Nat) (l3 : Int32) (l4 : Int32) (l5 : Int32), m_X3_takeFlags_8 n k S l0 l1 l3 l4 l5 = some (rv, Sv) → q_W p l e ({ frames := 2, cells := 0, slots := 0, locals := 44 } : Room) s m args below meth c (MQ below (va_Qi (fun (r : Int32) (u : q_S) => r = rv ∧ u = Sv) (q_B D cy A) A) args s 0 0 A) A D cy 6 0 0 S 8 [(0, va_rf (l0)), (1, va_rf (l1)), (3, .int (l3)), (4, .int (l4)), (5, .int (l5))] [] := by
  intro k
  induction k with
  | zero => intro S l0 l1 l3 l4 l5 h; rw [m_X3_takeFlags_8] at h; cases h
  | succ k ih =>
    intro S l0 l1 l3 l4 l5 h
    rw [m_X3_takeFlags_8] at h
    refine q_iload X 4 rfl dX3_takeFlags_8 ?_
    refine q_aload_n X 0 rfl dX3_takeFlags_10 ?_
    obtain ⟨a1, ea1, ma1, ka1, h⟩ := q_atE h
    refine q_getI X 4 ea1 ma1 ka1 rfl tW_X3 (by decide) (by decide) tF_X3_24 rfl dX3_takeFlags_11 ?_
    refine q_icmp_ge X 65 (by decide) dX3_takeFlags_14 (fun g2 => ?_) (fun g2 => ?_)
    · rw [if_pos g2] at h
      refine q_iload_n X 2 rfl dX3_takeFlags_65 ?_
      refine q_if_ne X 80 (by decide) dX3_takeFlags_66 (fun g3 => ?_) (fun g3 => ?_)
      · rw [if_neg g3] at h
        refine q_lv [] rfl ?_
        exact w_X3_takeFlags_80 X hr hl _ h
      · rw [if_pos g3] at h
        refine q_aload_n X 1 rfl dX3_takeFlags_69 ?_
        obtain ⟨a4, ea4, ma4, ka4, h⟩ := q_atE h
        obtain ⟨r5, S6, c7, h⟩ := q_bE h
        refine q_cVI X (As := []) ea4 ma4 ka4 rfl (by decide) (c_X1_isPast c7) (q_cwV X tK_X1_isPast tM_X3_65 tI_X1_isPast tV_X1_isPast tN_X1 rfl rfl tD_X1_isPast ⟨Nat.le_of_ble_eq_true rfl, Nat.le_of_ble_eq_true rfl⟩) rfl rfl (by first | exact Nat.le_of_ble_eq_true rfl | (simp only [List.map, q_catR]; exact Nat.le_of_ble_eq_true rfl)) ⟨Nat.zero_le _, Nat.zero_le _⟩ dX3_takeFlags_70 ?_
        refine q_if_ne X 80 (by decide) dX3_takeFlags_73 (fun g8 => ?_) (fun g8 => ?_)
        · rw [if_neg g8] at h
          refine q_lv [] rfl ?_
          exact w_X3_takeFlags_80 X hr hl _ h
        · rw [if_pos g8] at h
          refine q_iconst X (1) (by decide) dX3_takeFlags_76 ?_
          refine q_goto X 81 (by decide) dX3_takeFlags_77 ?_
          refine q_lv [] rfl ?_
          exact w_X3_takeFlags_81 X hr hl _ _ h
    · rw [if_neg g2] at h
      refine q_iload_n X 2 rfl dX3_takeFlags_17 ?_
      refine q_if_le X 27 (by decide) dX3_takeFlags_18 (fun g9 => ?_) (fun g9 => ?_)
      · rw [if_pos g9] at h
        refine q_aload_n X 1 rfl dX3_takeFlags_27 ?_
        obtain ⟨a10, ea10, ma10, ka10, h⟩ := q_atE h
        obtain ⟨r11, S12, c13, h⟩ := q_bE h
        refine q_cVI X (As := []) ea10 ma10 ka10 rfl (by decide) (c_X1_one c13) (q_cwV X tK_X1_one tM_X3_70 tI_X1_one tV_X1_one tN_X1 rfl rfl tD_X1_one ⟨Nat.le_of_ble_eq_true rfl, Nat.le_of_ble_eq_true rfl⟩) rfl rfl (by first | exact Nat.le_of_ble_eq_true rfl | (simp only [List.map, q_catR]; exact Nat.le_of_ble_eq_true rfl)) ⟨Nat.zero_le _, Nat.zero_le _⟩ dX3_takeFlags_28 ?_
        refine q_istore X 4 [(4, .int (r11)), (0, va_rf (l0)), (1, va_rf (l1)), (3, .int (l3)), (5, .int (l5))] (by decide) (by first | rfl | simp [List.filter, q_catR]) dX3_takeFlags_31 ?_
        refine q_iload X 0 rfl dX3_takeFlags_33 ?_
        refine q_bipush X (8) (by decide) dX3_takeFlags_35 ?_
        refine q_iand X dX3_takeFlags_37 ?_
        refine q_if_eq X 48 (by decide) dX3_takeFlags_38 (fun g14 => ?_) (fun g14 => ?_)
        · rw [if_pos g14] at h
          refine q_iconst X (0) (by decide) dX3_takeFlags_48 ?_
          refine q_lv [1, 2, 0, 4] rfl ?_
          exact w_X3_takeFlags_49 X hr hl ih _ _ _ _ _ _ h
        · rw [if_neg g14] at h
          refine q_aload_n X 2 rfl dX3_takeFlags_41 ?_
          obtain ⟨a15, ea15, ma15, ka15, h⟩ := q_atE h
          obtain ⟨r16, S17, c18, h⟩ := q_bE h
          refine q_cVI X (As := []) ea15 ma15 ka15 rfl (by decide) (c_X1_one c18) (q_cwV X tK_X1_one tM_X3_70 tI_X1_one tV_X1_one tN_X1 rfl rfl tD_X1_one ⟨Nat.le_of_ble_eq_true rfl, Nat.le_of_ble_eq_true rfl⟩) rfl rfl (by first | exact Nat.le_of_ble_eq_true rfl | (simp only [List.map, q_catR]; exact Nat.le_of_ble_eq_true rfl)) ⟨Nat.zero_le _, Nat.zero_le _⟩ dX3_takeFlags_42 ?_
          refine q_goto X 49 (by decide) dX3_takeFlags_45 ?_
          refine q_lv [1, 2, 0, 4] rfl ?_
          exact w_X3_takeFlags_49 X hr hl ih _ _ _ _ _ _ h
      · rw [if_neg g9] at h
        refine q_iinc X 3 2 (l3 + (-1)) [(3, .int (l3 + (-1))), (0, va_rf (l0)), (1, va_rf (l1)), (4, .int (l4)), (5, .int (l5))] rfl (congrArg (fun z => l3 + z) (show Int32.ofInt (-1) = (-1) by decide)) (by decide) (by first | rfl | simp [List.filter, q_catR]) dX3_takeFlags_21 ?_
        refine q_goto X 50 (by decide) dX3_takeFlags_24 ?_
        refine q_lv [1, 2, 0, 3, 4] rfl ?_
        exact w_X3_takeFlags_50 X hr hl ih _ _ _ _ _ _ h
def m_X3_takeFlags (n : Nat) (S : q_S) (o : Nat) (p0 : Option Nat) (p1 : Int32) : Option (Int32 × q_S) := m_X3_takeFlags_8 n n (S) (some o) (p0) ((0 : Int32)) ((0 : Int32)) (p1)
set_option maxHeartbeats 4000000 in
set_option maxRecDepth 100000 in
theorem w_X3_takeFlags (X : q_X p s m args c cX3_takeFlags 6 RX3 q_T D cy A) (hr : meth.sig.returnType = (some .boolean)) (hl : meth.locks = false)  {n : Nat} {S Sv : q_S} {rv : Int32} {o : Nat} {p0 : Option Nat} {p1 : Int32} (h : m_X3_takeFlags n S o p0 p1 = some (rv, Sv)) : q_W p l e ({ frames := 2, cells := 0, slots := 0, locals := 44 } : Room) s m args below meth c (MQ below (va_Qi (fun (r : Int32) (u : q_S) => r = rv ∧ u = Sv) (q_B D cy A) A) args s 0 0 A) A D cy 6 0 0 S 0 [(0, va_rf (some o)), (1, va_rf (p0)), (2, .int (p1))] [] := by
  unfold m_X3_takeFlags at h
  refine q_iconst X (0) (by decide) dX3_takeFlags_0 ?_
  refine q_istore_n X 3 [(3, .int ((0 : Int32))), (0, va_rf (some o)), (1, va_rf (p0)), (2, .int (p1))] rfl (by decide) (by first | rfl | simp [List.filter, q_catR]) dX3_takeFlags_1 ?_
  refine q_iconst X (0) (by decide) dX3_takeFlags_2 ?_
  refine q_istore X 4 [(4, .int ((0 : Int32))), (3, .int ((0 : Int32))), (0, va_rf (some o)), (1, va_rf (p0)), (2, .int (p1))] (by decide) (by first | rfl | simp [List.filter, q_catR]) dX3_takeFlags_3 ?_
  refine q_iload_n X 4 rfl dX3_takeFlags_5 ?_
  refine q_istore X 5 [(5, .int (p1)), (4, .int ((0 : Int32))), (3, .int ((0 : Int32))), (0, va_rf (some o)), (1, va_rf (p0)), (2, .int (p1))] (by decide) (by first | rfl | simp [List.filter, q_catR]) dX3_takeFlags_6 ?_
  refine q_lv [3, 4, 2, 1, 0] rfl ?_
  exact w_X3_takeFlags_8 X hr hl n _ _ _ _ _ _ h
theorem tD_X3_takeFlags : yX3_takeFlags.cls ≠ "java/lang/invoke/MethodHandle" ∧ yX3_takeFlags.cls ≠ "java/lang/invoke/VarHandle" ∧ (parseMethodDescriptor yX3_takeFlags.desc).map (fun d => d.parameters.length) = some 2 := by decide +kernel
theorem c_X3_takeFlags {l : Launch} {D : va_G} {cy : Nat → ClassId} {n : Nat} {S Sv : q_S} {rv : Int32} {o : Nat} {p0 : Option Nat} {p1 : Int32} (h : m_X3_takeFlags n S o p0 p1 = some (rv, Sv)) : q_MI l yX3_takeFlags (q_ws yX3_takeFlags cX3_takeFlags 6 ((some .boolean))) ({ frames := 2, cells := 0, slots := 0, locals := 44 } : Room) D cy [.ref o, va_rf (p0), .int (p1)] S rv Sv := by
  cases p0 <;> exact q_MI_of (by decide +kernel) (Nat.le_of_ble_eq_true rfl) (fun p e s m args below meth c A X hr hl => w_X3_takeFlags X hr hl h)
/-! TrueOutlines$Points.take(LTrueOutlines$Data;)Z -/
def m_X3_take_73 (n : Nat) (S : q_S) (s0 : Int32) : Option (Int32 × q_S) := q_if (s0 = 0 ∨ s0 = 1) (some (s0, S))
set_option maxHeartbeats 4000000 in
set_option maxRecDepth 100000 in
theorem w_X3_take_73 (X : q_X p s m args c cX3_take 3 RX3 q_T D cy A) (hr : meth.sig.returnType = (some .boolean)) (hl : meth.locks = false)  {n : Nat} {Sv : q_S} {rv : Int32}  (S : q_S) (s0 : Int32) (h : m_X3_take_73 n S s0 = some (rv, Sv)) : q_W p l e ({ frames := 3, cells := 0, slots := 0, locals := 74 } : Room) s m args below meth c (MQ below (va_Qi (fun (r : Int32) (u : q_S) => r = rv ∧ u = Sv) (q_B D cy A) A) args s 0 0 A) A D cy 3 0 0 S 73 [] [.int (s0)] := by
  unfold m_X3_take_73 at h
  obtain ⟨g1, h⟩ := q_ifE h
  obtain ⟨ev, eS⟩ := q_end h
  exact q_iret X hr hl (q_bool g1) ev eS dX3_take_73
def m_X3_take (n : Nat) (S : q_S) (o : Nat) (p0 : Option Nat) : Option (Int32 × q_S) := q_at (S) (some o) 4 (fun a1 => q_b (m_X3_takeContours n (S) a1 (p0) (q_I (S) a1 4)) (fun r2 S3 => (if r2 = 0 then q_if ((0 : Int32) = 0 ∨ (0 : Int32) = 1) (some ((0 : Int32), S3)) else q_at (S3) (p0) 2 (fun a6 => q_b (m_X1_two n (S3) a6) (fun r7 S8 => q_at (S8) (p0) 2 (fun a10 => q_b (m_X1_skip n (S8) a10 (r7)) (fun _ S11 => q_at (S11) (some o) 4 (fun a14 => q_b (m_X3_takeFlags n (S11) a14 (p0) (q_I (S) a1 4)) (fun r15 S16 => (if r15 = 0 then q_if ((0 : Int32) = 0 ∨ (0 : Int32) = 1) (some ((0 : Int32), S16)) else q_at (S16) (some o) 4 (fun a19 => q_b (m_X3_takeAxis n (S16) a19 (p0) (q_R (S16) a19 0) (q_I (S) a1 4) ((2 : Int32)) ((16 : Int32))) (fun _ S20 => q_at (S20) (some o) 4 (fun a23 => q_b (m_X3_takeAxis n (S20) a23 (p0) (q_R (S20) a23 1) (q_I (S) a1 4) ((4 : Int32)) ((32 : Int32))) (fun _ S24 => q_at (S24) (p0) 2 (fun a27 => q_b (m_X1_isPast n (S24) a27) (fun r28 S29 => (if r28 = 0 then m_X3_take_73 n (S29) ((1 : Int32)) else m_X3_take_73 n (S29) ((0 : Int32)))))))))))))))))))
set_option maxHeartbeats 4000000 in
set_option maxRecDepth 100000 in
theorem w_X3_take (X : q_X p s m args c cX3_take 3 RX3 q_T D cy A) (hr : meth.sig.returnType = (some .boolean)) (hl : meth.locks = false)  {n : Nat} {S Sv : q_S} {rv : Int32} {o : Nat} {p0 : Option Nat} (h : m_X3_take n S o p0 = some (rv, Sv)) : q_W p l e ({ frames := 3, cells := 0, slots := 0, locals := 74 } : Room) s m args below meth c (MQ below (va_Qi (fun (r : Int32) (u : q_S) => r = rv ∧ u = Sv) (q_B D cy A) A) args s 0 0 A) A D cy 3 0 0 S 0 [(0, va_rf (some o)), (1, va_rf (p0))] [] := by
  unfold m_X3_take at h
  refine q_aload_n X 0 rfl dX3_take_0 ?_
  obtain ⟨a1, ea1, ma1, ka1, h⟩ := q_atE h
  refine q_getI X 4 ea1 ma1 ka1 rfl tW_X3 (by decide) (by decide) tF_X3_24 rfl dX3_take_1 ?_
  refine q_istore_n X 2 [(2, .int (q_I (S) a1 4)), (0, va_rf (some o)), (1, va_rf (p0))] rfl (by decide) (by first | rfl | simp [List.filter, q_catR]) dX3_take_4 ?_
  refine q_aload_n X 1 rfl dX3_take_5 ?_
  refine q_aload_n X 2 rfl dX3_take_6 ?_
  refine q_iload_n X 0 rfl dX3_take_7 ?_
  obtain ⟨r2, S3, c4, h⟩ := q_bE h
  refine q_cVI X (As := [va_rf (p0), .int (q_I (S) a1 4)]) ea1 ma1 ka1 rfl (by decide) (c_X3_takeContours c4) (q_cwV X tK_X3_takeContours tM_X3_44 tI_X3_takeContours tV_X3_takeContours tN_X3 rfl rfl tD_X3_takeContours ⟨Nat.le_of_ble_eq_true rfl, Nat.le_of_ble_eq_true rfl⟩) rfl rfl (by first | exact Nat.le_of_ble_eq_true rfl | (simp only [List.map, q_catR]; exact Nat.le_of_ble_eq_true rfl)) ⟨Nat.zero_le _, Nat.zero_le _⟩ dX3_take_8 ?_
  refine q_if_ne X 16 (by decide) dX3_take_11 (fun g5 => ?_) (fun g5 => ?_)
  · rw [if_neg g5] at h
    refine q_aload_n X 2 rfl dX3_take_16 ?_
    refine q_aload_n X 2 rfl dX3_take_17 ?_
    obtain ⟨a6, ea6, ma6, ka6, h⟩ := q_atE h
    obtain ⟨r7, S8, c9, h⟩ := q_bE h
    refine q_cVI X (As := []) ea6 ma6 ka6 rfl (by decide) (c_X1_two c9) (q_cwV X tK_X1_two tM_X3_48 tI_X1_two tV_X1_two tN_X1 rfl rfl tD_X1_two ⟨Nat.le_of_ble_eq_true rfl, Nat.le_of_ble_eq_true rfl⟩) rfl rfl (by first | exact Nat.le_of_ble_eq_true rfl | (simp only [List.map, q_catR]; exact Nat.le_of_ble_eq_true rfl)) ⟨Nat.zero_le _, Nat.zero_le _⟩ dX3_take_18 ?_
    obtain ⟨a10, ea10, ma10, ka10, h⟩ := q_atE h
    obtain ⟨u13, S11, c12, h⟩ := q_bE h
    refine q_cVV X (As := [.int (r7)]) ea10 ma10 ka10 rfl (by decide) (c_X1_skip c12) (q_cwV X tK_X1_skip tM_X3_54 tI_X1_skip tV_X1_skip tN_X1 rfl rfl tD_X1_skip ⟨Nat.le_of_ble_eq_true rfl, Nat.le_of_ble_eq_true rfl⟩) rfl rfl (by first | exact Nat.le_of_ble_eq_true rfl | (simp only [List.map, q_catR]; exact Nat.le_of_ble_eq_true rfl)) ⟨Nat.zero_le _, Nat.zero_le _⟩ dX3_take_21 ?_
    refine q_aload_n X 1 rfl dX3_take_24 ?_
    refine q_aload_n X 2 rfl dX3_take_25 ?_
    refine q_iload_n X 0 rfl dX3_take_26 ?_
    obtain ⟨a14, ea14, ma14, ka14, h⟩ := q_atE h
    obtain ⟨r15, S16, c17, h⟩ := q_bE h
    refine q_cVI X (As := [va_rf (p0), .int (q_I (S) a1 4)]) ea14 ma14 ka14 rfl (by decide) (c_X3_takeFlags c17) (q_cwV X tK_X3_takeFlags tM_X3_58 tI_X3_takeFlags tV_X3_takeFlags tN_X3 rfl rfl tD_X3_takeFlags ⟨Nat.le_of_ble_eq_true rfl, Nat.le_of_ble_eq_true rfl⟩) rfl rfl (by first | exact Nat.le_of_ble_eq_true rfl | (simp only [List.map, q_catR]; exact Nat.le_of_ble_eq_true rfl)) ⟨Nat.zero_le _, Nat.zero_le _⟩ dX3_take_27 ?_
    refine q_if_ne X 35 (by decide) dX3_take_30 (fun g18 => ?_) (fun g18 => ?_)
    · rw [if_neg g18] at h
      refine q_aload_n X 1 rfl dX3_take_35 ?_
      refine q_aload_n X 2 rfl dX3_take_36 ?_
      refine q_aload_n X 1 rfl dX3_take_37 ?_
      obtain ⟨a19, ea19, ma19, ka19, h⟩ := q_atE h
      refine q_getR X 0 ea19 ma19 ka19 rfl tW_X3 (by decide) (by decide) tF_X3_9 rfl dX3_take_38 ?_
      refine q_iload_n X 0 rfl dX3_take_41 ?_
      refine q_iconst X (2) (by decide) dX3_take_42 ?_
      refine q_bipush X (16) (by decide) dX3_take_43 ?_
      obtain ⟨u22, S20, c21, h⟩ := q_bE h
      refine q_cVV X (As := [va_rf (p0), va_rf (q_R (S16) a19 0), .int (q_I (S) a1 4), .int ((2 : Int32)), .int ((16 : Int32))]) ea19 ma19 ka19 rfl (by decide) (c_X3_takeAxis c21) (q_cwV X tK_X3_takeAxis tM_X3_61 tI_X3_takeAxis tV_X3_takeAxis tN_X3 rfl rfl tD_X3_takeAxis ⟨Nat.le_of_ble_eq_true rfl, Nat.le_of_ble_eq_true rfl⟩) rfl rfl (by first | exact Nat.le_of_ble_eq_true rfl | (simp only [List.map, q_catR]; exact Nat.le_of_ble_eq_true rfl)) ⟨Nat.zero_le _, Nat.zero_le _⟩ dX3_take_45 ?_
      refine q_aload_n X 1 rfl dX3_take_48 ?_
      refine q_aload_n X 2 rfl dX3_take_49 ?_
      refine q_aload_n X 1 rfl dX3_take_50 ?_
      obtain ⟨a23, ea23, ma23, ka23, h⟩ := q_atE h
      refine q_getR X 1 ea23 ma23 ka23 rfl tW_X3 (by decide) (by decide) tF_X3_15 rfl dX3_take_51 ?_
      refine q_iload_n X 0 rfl dX3_take_54 ?_
      refine q_iconst X (4) (by decide) dX3_take_55 ?_
      refine q_bipush X (32) (by decide) dX3_take_56 ?_
      obtain ⟨u26, S24, c25, h⟩ := q_bE h
      refine q_cVV X (As := [va_rf (p0), va_rf (q_R (S20) a23 1), .int (q_I (S) a1 4), .int ((4 : Int32)), .int ((32 : Int32))]) ea23 ma23 ka23 rfl (by decide) (c_X3_takeAxis c25) (q_cwV X tK_X3_takeAxis tM_X3_61 tI_X3_takeAxis tV_X3_takeAxis tN_X3 rfl rfl tD_X3_takeAxis ⟨Nat.le_of_ble_eq_true rfl, Nat.le_of_ble_eq_true rfl⟩) rfl rfl (by first | exact Nat.le_of_ble_eq_true rfl | (simp only [List.map, q_catR]; exact Nat.le_of_ble_eq_true rfl)) ⟨Nat.zero_le _, Nat.zero_le _⟩ dX3_take_58 ?_
      refine q_aload_n X 2 rfl dX3_take_61 ?_
      obtain ⟨a27, ea27, ma27, ka27, h⟩ := q_atE h
      obtain ⟨r28, S29, c30, h⟩ := q_bE h
      refine q_cVI X (As := []) ea27 ma27 ka27 rfl (by decide) (c_X1_isPast c30) (q_cwV X tK_X1_isPast tM_X3_65 tI_X1_isPast tV_X1_isPast tN_X1 rfl rfl tD_X1_isPast ⟨Nat.le_of_ble_eq_true rfl, Nat.le_of_ble_eq_true rfl⟩) rfl rfl (by first | exact Nat.le_of_ble_eq_true rfl | (simp only [List.map, q_catR]; exact Nat.le_of_ble_eq_true rfl)) ⟨Nat.zero_le _, Nat.zero_le _⟩ dX3_take_62 ?_
      refine q_if_ne X 72 (by decide) dX3_take_65 (fun g31 => ?_) (fun g31 => ?_)
      · rw [if_neg g31] at h
        refine q_iconst X (0) (by decide) dX3_take_72 ?_
        refine q_lv [] rfl ?_
        exact w_X3_take_73 X hr hl _ _ h
      · rw [if_pos g31] at h
        refine q_iconst X (1) (by decide) dX3_take_68 ?_
        refine q_goto X 73 (by decide) dX3_take_69 ?_
        refine q_lv [] rfl ?_
        exact w_X3_take_73 X hr hl _ _ h
    · rw [if_pos g18] at h
      refine q_iconst X (0) (by decide) dX3_take_33 ?_
      obtain ⟨g32, h⟩ := q_ifE h
      obtain ⟨ev, eS⟩ := q_end h
      exact q_iret X hr hl (q_bool g32) ev eS dX3_take_34
  · rw [if_pos g5] at h
    refine q_iconst X (0) (by decide) dX3_take_14 ?_
    obtain ⟨g33, h⟩ := q_ifE h
    obtain ⟨ev, eS⟩ := q_end h
    exact q_iret X hr hl (q_bool g33) ev eS dX3_take_15
theorem tD_X3_take : yX3_take.cls ≠ "java/lang/invoke/MethodHandle" ∧ yX3_take.cls ≠ "java/lang/invoke/VarHandle" ∧ (parseMethodDescriptor yX3_take.desc).map (fun d => d.parameters.length) = some 1 := by decide +kernel
theorem c_X3_take {l : Launch} {D : va_G} {cy : Nat → ClassId} {n : Nat} {S Sv : q_S} {rv : Int32} {o : Nat} {p0 : Option Nat} (h : m_X3_take n S o p0 = some (rv, Sv)) : q_MI l yX3_take (q_ws yX3_take cX3_take 3 ((some .boolean))) ({ frames := 3, cells := 0, slots := 0, locals := 74 } : Room) D cy [.ref o, va_rf (p0)] S rv Sv := by
  cases p0 <;> exact q_MI_of (by decide +kernel) (Nat.le_of_ble_eq_true rfl) (fun p e s m args below meth c A X hr hl => w_X3_take X hr hl h)
/-! TrueOutlines$Shaper.yieldOfSimple(LTrueOutlines$Data;)I -/
def m_X5_yieldOfSimple_47 (n : Nat) (S : q_S) (s0 : Int32) : Option (Int32 × q_S) := some (s0, S)
set_option maxHeartbeats 4000000 in
set_option maxRecDepth 100000 in
theorem w_X5_yieldOfSimple_47 (X : q_X p s m args c cX5_yieldOfSimple 2 RX5 q_T D cy A) (hr : meth.sig.returnType = (some .int)) (hl : meth.locks = false)  {n : Nat} {Sv : q_S} {rv : Int32}  (S : q_S) (s0 : Int32) (h : m_X5_yieldOfSimple_47 n S s0 = some (rv, Sv)) : q_W p l e ({ frames := 4, cells := 0, slots := 0, locals := 96 } : Room) s m args below meth c (MQ below (va_Qi (fun (r : Int32) (u : q_S) => r = rv ∧ u = Sv) (q_B D cy A) A) args s 0 0 A) A D cy 2 0 0 S 47 [] [.int (s0)] := by
  unfold m_X5_yieldOfSimple_47 at h
  obtain ⟨ev, eS⟩ := q_end h
  exact q_iret X hr hl rfl ev eS dX5_yieldOfSimple_47
def m_X5_yieldOfSimple (n : Nat) (S : q_S) (o : Nat) (p0 : Option Nat) : Option (Int32 × q_S) := q_at (S) (some o) 6 (fun a1 => q_at (S) (q_R (S) a1 3) 4 (fun a2 => q_b (m_X3_keep n (S) a2 ((0 : Int32)) ((0 : Int32))) (fun _ S3 => q_at (S3) (some o) 6 (fun a6 => q_at (S3) (q_R (S3) a6 3) 4 (fun a7 => q_b (m_X3_take n (S3) a7 (p0)) (fun r8 S9 => (if r8 = 0 then some ((1000 : Int32), S9) else q_at (S9) (some o) 6 (fun a12 => q_at (S9) (q_R (S9) a12 3) 4 (fun a13 => q_b (m_X3_size n (S9) a13) (fun r14 S15 => (if r14 = 0 then m_X5_yieldOfSimple_47 n (S15) ((2000 : Int32)) else q_at (S15) (some o) 6 (fun a18 => q_at (S15) (q_R (S15) a18 3) 4 (fun a19 => q_b (m_X3_size n (S15) a19) (fun r20 S21 => m_X5_yieldOfSimple_47 n (S21) (r20)))))))))))))))
set_option maxHeartbeats 4000000 in
set_option maxRecDepth 100000 in
theorem w_X5_yieldOfSimple (X : q_X p s m args c cX5_yieldOfSimple 2 RX5 q_T D cy A) (hr : meth.sig.returnType = (some .int)) (hl : meth.locks = false)  {n : Nat} {S Sv : q_S} {rv : Int32} {o : Nat} {p0 : Option Nat} (h : m_X5_yieldOfSimple n S o p0 = some (rv, Sv)) : q_W p l e ({ frames := 4, cells := 0, slots := 0, locals := 96 } : Room) s m args below meth c (MQ below (va_Qi (fun (r : Int32) (u : q_S) => r = rv ∧ u = Sv) (q_B D cy A) A) args s 0 0 A) A D cy 2 0 0 S 0 [(0, va_rf (some o)), (1, va_rf (p0))] [] := by
  unfold m_X5_yieldOfSimple at h
  refine q_aload_n X 0 rfl dX5_yieldOfSimple_0 ?_
  obtain ⟨a1, ea1, ma1, ka1, h⟩ := q_atE h
  refine q_getR X 3 ea1 ma1 ka1 rfl tW_X5 (by decide) (by decide) tF_X5_18 rfl dX5_yieldOfSimple_1 ?_
  refine q_iconst X (0) (by decide) dX5_yieldOfSimple_4 ?_
  refine q_iconst X (0) (by decide) dX5_yieldOfSimple_5 ?_
  obtain ⟨a2, ea2, ma2, ka2, h⟩ := q_atE h
  obtain ⟨u5, S3, c4, h⟩ := q_bE h
  refine q_cVV X (As := [.int ((0 : Int32)), .int ((0 : Int32))]) ea2 ma2 ka2 rfl (by decide) (c_X3_keep c4) (q_cwV X tK_X3_keep tM_X5_51 tI_X3_keep tV_X3_keep tN_X3 rfl rfl tD_X3_keep ⟨Nat.le_of_ble_eq_true rfl, Nat.le_of_ble_eq_true rfl⟩) rfl rfl (by first | exact Nat.le_of_ble_eq_true rfl | (simp only [List.map, q_catR]; exact Nat.le_of_ble_eq_true rfl)) ⟨Nat.zero_le _, Nat.zero_le _⟩ dX5_yieldOfSimple_6 ?_
  refine q_aload_n X 0 rfl dX5_yieldOfSimple_9 ?_
  obtain ⟨a6, ea6, ma6, ka6, h⟩ := q_atE h
  refine q_getR X 3 ea6 ma6 ka6 rfl tW_X5 (by decide) (by decide) tF_X5_18 rfl dX5_yieldOfSimple_10 ?_
  refine q_aload_n X 1 rfl dX5_yieldOfSimple_13 ?_
  obtain ⟨a7, ea7, ma7, ka7, h⟩ := q_atE h
  obtain ⟨r8, S9, c10, h⟩ := q_bE h
  refine q_cVI X (As := [va_rf (p0)]) ea7 ma7 ka7 rfl (by decide) (c_X3_take c10) (q_cwV X tK_X3_take tM_X5_90 tI_X3_take tV_X3_take tN_X3 rfl rfl tD_X3_take ⟨Nat.le_of_ble_eq_true rfl, Nat.le_of_ble_eq_true rfl⟩) rfl rfl (by first | exact Nat.le_of_ble_eq_true rfl | (simp only [List.map, q_catR]; exact Nat.le_of_ble_eq_true rfl)) ⟨Nat.zero_le _, Nat.zero_le _⟩ dX5_yieldOfSimple_14 ?_
  refine q_if_ne X 24 (by decide) dX5_yieldOfSimple_17 (fun g11 => ?_) (fun g11 => ?_)
  · rw [if_neg g11] at h
    refine q_aload_n X 0 rfl dX5_yieldOfSimple_24 ?_
    obtain ⟨a12, ea12, ma12, ka12, h⟩ := q_atE h
    refine q_getR X 3 ea12 ma12 ka12 rfl tW_X5 (by decide) (by decide) tF_X5_18 rfl dX5_yieldOfSimple_25 ?_
    obtain ⟨a13, ea13, ma13, ka13, h⟩ := q_atE h
    obtain ⟨r14, S15, c16, h⟩ := q_bE h
    refine q_cVI X (As := []) ea13 ma13 ka13 rfl (by decide) (c_X3_size c16) (q_cwV X tK_X3_size tM_X5_76 tI_X3_size tV_X3_size tN_X3 rfl rfl tD_X3_size ⟨Nat.le_of_ble_eq_true rfl, Nat.le_of_ble_eq_true rfl⟩) rfl rfl (by first | exact Nat.le_of_ble_eq_true rfl | (simp only [List.map, q_catR]; exact Nat.le_of_ble_eq_true rfl)) ⟨Nat.zero_le _, Nat.zero_le _⟩ dX5_yieldOfSimple_28 ?_
    refine q_if_ne X 40 (by decide) dX5_yieldOfSimple_31 (fun g17 => ?_) (fun g17 => ?_)
    · rw [if_neg g17] at h
      refine q_aload_n X 0 rfl dX5_yieldOfSimple_40 ?_
      obtain ⟨a18, ea18, ma18, ka18, h⟩ := q_atE h
      refine q_getR X 3 ea18 ma18 ka18 rfl tW_X5 (by decide) (by decide) tF_X5_18 rfl dX5_yieldOfSimple_41 ?_
      obtain ⟨a19, ea19, ma19, ka19, h⟩ := q_atE h
      obtain ⟨r20, S21, c22, h⟩ := q_bE h
      refine q_cVI X (As := []) ea19 ma19 ka19 rfl (by decide) (c_X3_size c22) (q_cwV X tK_X3_size tM_X5_76 tI_X3_size tV_X3_size tN_X3 rfl rfl tD_X3_size ⟨Nat.le_of_ble_eq_true rfl, Nat.le_of_ble_eq_true rfl⟩) rfl rfl (by first | exact Nat.le_of_ble_eq_true rfl | (simp only [List.map, q_catR]; exact Nat.le_of_ble_eq_true rfl)) ⟨Nat.zero_le _, Nat.zero_le _⟩ dX5_yieldOfSimple_44 ?_
      refine q_lv [] rfl ?_
      exact w_X5_yieldOfSimple_47 X hr hl _ _ h
    · rw [if_pos g17] at h
      refine q_sipush X (2000) (by decide) dX5_yieldOfSimple_34 ?_
      refine q_goto X 47 (by decide) dX5_yieldOfSimple_37 ?_
      refine q_lv [] rfl ?_
      exact w_X5_yieldOfSimple_47 X hr hl _ _ h
  · rw [if_pos g11] at h
    refine q_sipush X (1000) (by decide) dX5_yieldOfSimple_20 ?_
    obtain ⟨ev, eS⟩ := q_end h
    exact q_iret X hr hl rfl ev eS dX5_yieldOfSimple_23
theorem tD_X5_yieldOfSimple : yX5_yieldOfSimple.cls ≠ "java/lang/invoke/MethodHandle" ∧ yX5_yieldOfSimple.cls ≠ "java/lang/invoke/VarHandle" ∧ (parseMethodDescriptor yX5_yieldOfSimple.desc).map (fun d => d.parameters.length) = some 1 := by decide +kernel
theorem c_X5_yieldOfSimple {l : Launch} {D : va_G} {cy : Nat → ClassId} {n : Nat} {S Sv : q_S} {rv : Int32} {o : Nat} {p0 : Option Nat} (h : m_X5_yieldOfSimple n S o p0 = some (rv, Sv)) : q_MI l yX5_yieldOfSimple (q_ws yX5_yieldOfSimple cX5_yieldOfSimple 2 ((some .int))) ({ frames := 4, cells := 0, slots := 0, locals := 96 } : Room) D cy [.ref o, va_rf (p0)] S rv Sv := by
  cases p0 <;> exact q_MI_of (by decide +kernel) (Nat.le_of_ble_eq_true rfl) (fun p e s m args below meth c A X hr hl => w_X5_yieldOfSimple X hr hl h)
end MM
