section MM
variable {p : Program} {l : Launch} {e : Env} {s : State} {m : MethodId} {args : Array Value} {below : List Frame} {meth : Method} {c : Code} {A : Nat → Prop} {D : va_G} {cy : Nat → ClassId}
/-! TrueOutlines$Shaper.yieldOf(II)I -/
def m_X5_yieldOf_62 (n : Nat) (S : q_S) (s0 : Int32) : Option (Int32 × q_S) := some (s0, S)
set_option maxHeartbeats 4000000 in
set_option maxRecDepth 100000 in
theorem w_X5_yieldOf_62 (X : q_X p s m args c cX5_yieldOf 4 RX5 q_T D cy A) (hr : meth.sig.returnType = (some .int)) (hl : meth.locks = false)  {n : Nat} {Sv : q_S} {rv : Int32}  (S : q_S) (s0 : Int32) (h : m_X5_yieldOf_62 n S s0 = some (rv, Sv)) : q_W p l e ({ frames := 5, cells := 0, slots := 0, locals := 117 } : Room) s m args below meth c (MQ below (va_Qi (fun (r : Int32) (u : q_S) => r = rv ∧ u = Sv) (q_B D cy A) A) args s 0 0 A) A D cy 4 0 0 S 62 [] [.int (s0)] := by
  unfold m_X5_yieldOf_62 at h
  obtain ⟨ev, eS⟩ := q_end h
  exact q_iret X hr hl rfl ev eS dX5_yieldOf_62
def m_X5_yieldOf (n : Nat) (S : q_S) (o : Nat) (p0 : Int32) (p1 : Int32) : Option (Int32 × q_S) := q_at (S) (some o) 6 (fun a1 => q_at (S) (q_R (S) a1 4) 103 (fun a2 => q_if (q_in (p0) (q_N (S) a2) = true) (q_at (S) (q_R (S) a1 0) 7 (fun a4 => q_b (m_X6_open n (S) a4 (p1) (q_R (S) a2 (p0).toNatClampNeg)) (fun _ S5 => q_at (S5) (q_R (S) a2 (p0).toNatClampNeg) 2 (fun a8 => q_b (m_X1_isEmpty n (S5) a8) (fun r9 S10 => (if r9 = 0 then q_at (S10) (q_R (S) a2 (p0).toNatClampNeg) 2 (fun a13 => q_b (m_X1_hasParts n (S10) a13) (fun r14 S15 => (if r14 = 0 then (if (5 : Int32) ≤ p0 then q_at (S15) (some o) 6 (fun a19 => q_b (m_X5_yieldOfSimple n (S15) a19 (q_R (S) a2 (p0).toNatClampNeg)) (fun r20 S21 => m_X5_yieldOf_62 n (S21) (r20))) else q_at (S15) (some o) 6 (fun a23 => q_b (m_X5_yieldAt n (S15) a23 (p0 + (1 : Int32)) (p1)) (fun r24 S25 => m_X5_yieldOf_62 n (S25) (r24)))) else q_at (S15) (some o) 6 (fun a27 => q_b (m_X5_yieldOfParts n (S15) a27 (p0) (q_R (S) a2 (p0).toNatClampNeg)) (fun r28 S29 => some (r28, S29)))))) else some ((2000 : Int32), S10)))))))))
set_option maxHeartbeats 4000000 in
set_option maxRecDepth 100000 in
theorem w_X5_yieldOf (X : q_X p s m args c cX5_yieldOf 4 RX5 q_T D cy A) (hr : meth.sig.returnType = (some .int)) (hl : meth.locks = false)  {n : Nat} {S Sv : q_S} {rv : Int32} {o : Nat} {p0 : Int32} {p1 : Int32} (h : m_X5_yieldOf n S o p0 p1 = some (rv, Sv)) : q_W p l e ({ frames := 5, cells := 0, slots := 0, locals := 117 } : Room) s m args below meth c (MQ below (va_Qi (fun (r : Int32) (u : q_S) => r = rv ∧ u = Sv) (q_B D cy A) A) args s 0 0 A) A D cy 4 0 0 S 0 [(0, va_rf (some o)), (1, .int (p0)), (2, .int (p1))] [] := by
  unfold m_X5_yieldOf at h
  refine q_aload_n X 0 rfl dX5_yieldOf_0 ?_
  obtain ⟨a1, ea1, ma1, ka1, h⟩ := q_atE h
  refine q_getR X 4 ea1 ma1 ka1 rfl tW_X5 (by decide) (by decide) tF_X5_23 rfl dX5_yieldOf_1 ?_
  refine q_iload_n X 1 rfl dX5_yieldOf_4 ?_
  obtain ⟨a2, ea2, ma2, ka2, h⟩ := q_atE h
  obtain ⟨g3, h⟩ := q_ifE h
  refine q_daload X ea2 ma2 ka2 (q_inE g3) dX5_yieldOf_5 ?_
  refine q_astore_n X 3 [(3, va_rf (q_R (S) a2 (p0).toNatClampNeg)), (0, va_rf (some o)), (1, .int (p0)), (2, .int (p1))] rfl (by decide) (by first | rfl | simp [List.filter, q_catR]) dX5_yieldOf_6 ?_
  refine q_aload_n X 1 rfl dX5_yieldOf_7 ?_
  refine q_getR X 0 ea1 ma1 ka1 rfl tW_X5 (by decide) (by decide) tF_X5_40 rfl dX5_yieldOf_8 ?_
  refine q_iload_n X 3 rfl dX5_yieldOf_11 ?_
  refine q_aload_n X 0 rfl dX5_yieldOf_12 ?_
  obtain ⟨a4, ea4, ma4, ka4, h⟩ := q_atE h
  obtain ⟨u7, S5, c6, h⟩ := q_bE h
  refine q_cVV X (As := [.int (p1), va_rf (q_R (S) a2 (p0).toNatClampNeg)]) ea4 ma4 ka4 rfl (by decide) (c_X6_open c6) (q_cwV X tK_X6_open tM_X5_64 tI_X6_open tV_X6_open tN_X6 rfl rfl tD_X6_open ⟨Nat.le_of_ble_eq_true rfl, Nat.le_of_ble_eq_true rfl⟩) rfl rfl (by first | exact Nat.le_of_ble_eq_true rfl | (simp only [List.map, q_catR]; exact Nat.le_of_ble_eq_true rfl)) ⟨Nat.zero_le _, Nat.zero_le _⟩ dX5_yieldOf_13 ?_
  refine q_aload_n X 0 rfl dX5_yieldOf_16 ?_
  obtain ⟨a8, ea8, ma8, ka8, h⟩ := q_atE h
  obtain ⟨r9, S10, c11, h⟩ := q_bE h
  refine q_cVI X (As := []) ea8 ma8 ka8 rfl (by decide) (c_X1_isEmpty c11) (q_cwV X tK_X1_isEmpty tM_X5_68 tI_X1_isEmpty tV_X1_isEmpty tN_X1 rfl rfl tD_X1_isEmpty ⟨Nat.le_of_ble_eq_true rfl, Nat.le_of_ble_eq_true rfl⟩) rfl rfl (by first | exact Nat.le_of_ble_eq_true rfl | (simp only [List.map, q_catR]; exact Nat.le_of_ble_eq_true rfl)) ⟨Nat.zero_le _, Nat.zero_le _⟩ dX5_yieldOf_17 ?_
  refine q_if_eq X 27 (by decide) dX5_yieldOf_20 (fun g12 => ?_) (fun g12 => ?_)
  · rw [if_pos g12] at h
    refine q_aload_n X 0 rfl dX5_yieldOf_27 ?_
    obtain ⟨a13, ea13, ma13, ka13, h⟩ := q_atE h
    obtain ⟨r14, S15, c16, h⟩ := q_bE h
    refine q_cVI X (As := []) ea13 ma13 ka13 rfl (by decide) (c_X1_hasParts c16) (q_cwV X tK_X1_hasParts tM_X5_83 tI_X1_hasParts tV_X1_hasParts tN_X1 rfl rfl tD_X1_hasParts ⟨Nat.le_of_ble_eq_true rfl, Nat.le_of_ble_eq_true rfl⟩) rfl rfl (by first | exact Nat.le_of_ble_eq_true rfl | (simp only [List.map, q_catR]; exact Nat.le_of_ble_eq_true rfl)) ⟨Nat.zero_le _, Nat.zero_le _⟩ dX5_yieldOf_28 ?_
    refine q_if_eq X 41 (by decide) dX5_yieldOf_31 (fun g17 => ?_) (fun g17 => ?_)
    · rw [if_pos g17] at h
      refine q_iload_n X 2 rfl dX5_yieldOf_41 ?_
      refine q_iconst X (5) (by decide) dX5_yieldOf_42 ?_
      refine q_icmp_ge X 57 (by decide) dX5_yieldOf_43 (fun g18 => ?_) (fun g18 => ?_)
      · rw [if_pos g18] at h
        refine q_aload_n X 1 rfl dX5_yieldOf_57 ?_
        refine q_aload_n X 0 rfl dX5_yieldOf_58 ?_
        obtain ⟨a19, ea19, ma19, ka19, h⟩ := q_atE h
        obtain ⟨r20, S21, c22, h⟩ := q_bE h
        refine q_cVI X (As := [va_rf (q_R (S) a2 (p0).toNatClampNeg)]) ea19 ma19 ka19 rfl (by decide) (c_X5_yieldOfSimple c22) (q_cwV X tK_X5_yieldOfSimple tM_X5_168 tI_X5_yieldOfSimple tV_X5_yieldOfSimple tN_X5 rfl rfl tD_X5_yieldOfSimple ⟨Nat.le_of_ble_eq_true rfl, Nat.le_of_ble_eq_true rfl⟩) rfl rfl (by first | exact Nat.le_of_ble_eq_true rfl | (simp only [List.map, q_catR]; exact Nat.le_of_ble_eq_true rfl)) ⟨Nat.zero_le _, Nat.zero_le _⟩ dX5_yieldOf_59 ?_
        refine q_lv [] rfl ?_
        exact w_X5_yieldOf_62 X hr hl _ _ h
      · rw [if_neg g18] at h
        refine q_aload_n X 1 rfl dX5_yieldOf_46 ?_
        refine q_iload_n X 2 rfl dX5_yieldOf_47 ?_
        refine q_iconst X (1) (by decide) dX5_yieldOf_48 ?_
        refine q_iadd X dX5_yieldOf_49 ?_
        refine q_iload_n X 3 rfl dX5_yieldOf_50 ?_
        obtain ⟨a23, ea23, ma23, ka23, h⟩ := q_atE h
        obtain ⟨r24, S25, c26, h⟩ := q_bE h
        refine q_cVI X (As := [.int (p0 + (1 : Int32)), .int (p1)]) ea23 ma23 ka23 rfl (by decide) (c_X5_yieldAt c26) (q_cwV X tK_X5_yieldAt tM_X5_165 tI_X5_yieldAt tV_X5_yieldAt tN_X5 rfl rfl tD_X5_yieldAt ⟨Nat.le_of_ble_eq_true rfl, Nat.le_of_ble_eq_true rfl⟩) rfl rfl (by first | exact Nat.le_of_ble_eq_true rfl | (simp only [List.map, q_catR]; exact Nat.le_of_ble_eq_true rfl)) ⟨Nat.zero_le _, Nat.zero_le _⟩ dX5_yieldOf_51 ?_
        refine q_goto X 62 (by decide) dX5_yieldOf_54 ?_
        refine q_lv [] rfl ?_
        exact w_X5_yieldOf_62 X hr hl _ _ h
    · rw [if_neg g17] at h
      refine q_aload_n X 1 rfl dX5_yieldOf_34 ?_
      refine q_iload_n X 2 rfl dX5_yieldOf_35 ?_
      refine q_aload_n X 0 rfl dX5_yieldOf_36 ?_
      obtain ⟨a27, ea27, ma27, ka27, h⟩ := q_atE h
      obtain ⟨r28, S29, c30, h⟩ := q_bE h
      refine q_cVI X (As := [.int (p0), va_rf (q_R (S) a2 (p0).toNatClampNeg)]) ea27 ma27 ka27 rfl (by decide) (c_X5_yieldOfParts c30) (q_cwV X tK_X5_yieldOfParts tM_X5_161 tI_X5_yieldOfParts tV_X5_yieldOfParts tN_X5 rfl rfl tD_X5_yieldOfParts ⟨Nat.le_of_ble_eq_true rfl, Nat.le_of_ble_eq_true rfl⟩) rfl rfl (by first | exact Nat.le_of_ble_eq_true rfl | (simp only [List.map, q_catR]; exact Nat.le_of_ble_eq_true rfl)) ⟨Nat.zero_le _, Nat.zero_le _⟩ dX5_yieldOf_37 ?_
      obtain ⟨ev, eS⟩ := q_end h
      exact q_iret X hr hl rfl ev eS dX5_yieldOf_40
  · rw [if_neg g12] at h
    refine q_sipush X (2000) (by decide) dX5_yieldOf_23 ?_
    obtain ⟨ev, eS⟩ := q_end h
    exact q_iret X hr hl rfl ev eS dX5_yieldOf_26
theorem tD_X5_yieldOf : yX5_yieldOf.cls ≠ "java/lang/invoke/MethodHandle" ∧ yX5_yieldOf.cls ≠ "java/lang/invoke/VarHandle" ∧ (parseMethodDescriptor yX5_yieldOf.desc).map (fun d => d.parameters.length) = some 2 := by decide +kernel
theorem c_X5_yieldOf {l : Launch} {D : va_G} {cy : Nat → ClassId} {n : Nat} {S Sv : q_S} {rv : Int32} {o : Nat} {p0 : Int32} {p1 : Int32} (h : m_X5_yieldOf n S o p0 p1 = some (rv, Sv)) : q_MI l yX5_yieldOf (q_ws yX5_yieldOf cX5_yieldOf 4 ((some .int))) ({ frames := 5, cells := 0, slots := 0, locals := 117 } : Room) D cy [.ref o, .int (p0), .int (p1)] S rv Sv := by
  exact q_MI_of (by decide +kernel) (Nat.le_of_ble_eq_true rfl) (fun p e s m args below meth c A X hr hl => w_X5_yieldOf X hr hl h)
/-! TrueOutlines$Shaper.survey()V -/
def m_X5_survey_42 (n : Nat) (k2 : q_S → Option Nat → Int32 → Option (Unit × q_S)) (k8 : q_S → Option Nat → Int32 → Int32 → Option (Unit × q_S)) (S : q_S) (l0 : Option Nat) (l1 : Int32) (l2 : Int32) : Option (Unit × q_S) := k8 (S) (l0) (l1) (l2 + (1))
set_option maxHeartbeats 4000000 in
set_option maxRecDepth 100000 in
theorem w_X5_survey_42 (X : q_X p s m args c cX5_survey 4 RX5 q_T D cy A) (hr : meth.sig.returnType = none) (hl : meth.locks = false)  {n : Nat} {Sv : q_S}  {k2 : q_S → Option Nat → Int32 → Option (Unit × q_S)} {k8 : q_S → Option Nat → Int32 → Int32 → Option (Unit × q_S)} (hk2 : ∀ (S : q_S) (z0 : Option Nat) (z1 : Int32), k2 S z0 z1 = some ((), Sv) → q_W p l e ({ frames := 6, cells := 0, slots := 0, locals := 140 } : Room) s m args below meth c (MQ below (va_Qv (fun (u : q_S) => u = Sv) (q_B D cy A) A) args s 0 0 A) A D cy 4 0 0 S 2 [(0, va_rf (z0)), (1, .int (z1))] []) (hk8 : ∀ (S : q_S) (z0 : Option Nat) (z1 : Int32) (z2 : Int32), k8 S z0 z1 z2 = some ((), Sv) → q_W p l e ({ frames := 6, cells := 0, slots := 0, locals := 140 } : Room) s m args below meth c (MQ below (va_Qv (fun (u : q_S) => u = Sv) (q_B D cy A) A) args s 0 0 A) A D cy 4 0 0 S 8 [(0, va_rf (z0)), (1, .int (z1)), (2, .int (z2))] []) (S : q_S) (l0 : Option Nat) (l1 : Int32) (l2 : Int32) (h : m_X5_survey_42 n k2 k8 S l0 l1 l2 = some ((), Sv)) : q_W p l e ({ frames := 6, cells := 0, slots := 0, locals := 140 } : Room) s m args below meth c (MQ below (va_Qv (fun (u : q_S) => u = Sv) (q_B D cy A) A) args s 0 0 A) A D cy 4 0 0 S 42 [(0, va_rf (l0)), (1, .int (l1)), (2, .int (l2))] [] := by
  unfold m_X5_survey_42 at h
  refine q_iinc X 2 2 (l2 + (1)) [(2, .int (l2 + (1))), (0, va_rf (l0)), (1, .int (l1))] rfl (congrArg (fun z => l2 + z) (show Int32.ofInt (1) = (1) by decide)) (by decide) (by first | rfl | simp [List.filter, q_catR]) dX5_survey_42 ?_
  refine q_goto X 8 (by decide) dX5_survey_45 ?_
  refine q_lv [1, 2, 0] rfl ?_
  exact hk8 _ _ _ _ h
def m_X5_survey_8 (n : Nat) (k2 : q_S → Option Nat → Int32 → Option (Unit × q_S)) : Nat → q_S → Option Nat → Int32 → Int32 → Option (Unit × q_S)
  | 0, _, _, _, _ => none
  | k + 1, S, l0, l1, l2 => q_at (S) (l0) 6 (fun a1 => q_at (S) (q_R (S) a1 0) 7 (fun a2 => q_b (m_X6_size n (S) a2) (fun r3 S4 => (if r3 ≤ l2 then k2 (S4) (l0) (l1 + (-1)) else q_at (S4) (l0) 6 (fun a7 => q_b (m_X5_cellOf n (S4) a7 (l1) (l2)) (fun r8 S9 => (if r8 < 0 then m_X5_survey_42 n k2 (m_X5_survey_8 n k2 k) (S9) (l0) (l1) (l2) else q_at (S9) (l0) 6 (fun a12 => q_b (m_X5_yieldOf n (S9) a12 (l1) (l2)) (fun r13 S14 => q_at (S14) (q_R (S9) a12 7) 100 (fun a16 => q_if (q_in (r8) (q_N (S14) a16) = true) (m_X5_survey_42 n k2 (m_X5_survey_8 n k2 k) (q_sI (S14) a16 (r8).toNatClampNeg (r13)) (l0) (l1) (l2))))))))))))
set_option maxHeartbeats 4000000 in
set_option maxRecDepth 100000 in
theorem w_X5_survey_8 (X : q_X p s m args c cX5_survey 4 RX5 q_T D cy A) (hr : meth.sig.returnType = none) (hl : meth.locks = false)  {n : Nat} {Sv : q_S}  {k2 : q_S → Option Nat → Int32 → Option (Unit × q_S)} (hk2 : ∀ (S : q_S) (z0 : Option Nat) (z1 : Int32), k2 S z0 z1 = some ((), Sv) → q_W p l e ({ frames := 6, cells := 0, slots := 0, locals := 140 } : Room) s m args below meth c (MQ below (va_Qv (fun (u : q_S) => u = Sv) (q_B D cy A) A) args s 0 0 A) A D cy 4 0 0 S 2 [(0, va_rf (z0)), (1, .int (z1))] []) : ∀ (k : Nat) (S : q_S) (l0 : Option Nat) (l1 : Int32) (l2 : Int32), m_X5_survey_8 n k2 k S l0 l1 l2 = some ((), Sv) → q_W p l e ({ frames := 6, cells := 0, slots := 0, locals := 140 } : Room) s m args below meth c (MQ below (va_Qv (fun (u : q_S) => u = Sv) (q_B D cy A) A) args s 0 0 A) A D cy 4 0 0 S 8 [(0, va_rf (l0)), (1, .int (l1)), (2, .int (l2))] [] := by
  intro k
  induction k with
  | zero => intro S l0 l1 l2 h; rw [m_X5_survey_8] at h; cases h
  | succ k ih =>
    intro S l0 l1 l2 h
    rw [m_X5_survey_8] at h
    refine q_iload_n X 2 rfl dX5_survey_8 ?_
    refine q_aload_n X 0 rfl dX5_survey_9 ?_
    obtain ⟨a1, ea1, ma1, ka1, h⟩ := q_atE h
    refine q_getR X 0 ea1 ma1 ka1 rfl tW_X5 (by decide) (by decide) tF_X5_40 rfl dX5_survey_10 ?_
    obtain ⟨a2, ea2, ma2, ka2, h⟩ := q_atE h
    obtain ⟨r3, S4, c5, h⟩ := q_bE h
    refine q_cVI X (As := []) ea2 ma2 ka2 rfl (by decide) (c_X6_size c5) (q_cwV X tK_X6_size tM_X5_157 tI_X6_size tV_X6_size tN_X6 rfl rfl tD_X6_size ⟨Nat.le_of_ble_eq_true rfl, Nat.le_of_ble_eq_true rfl⟩) rfl rfl (by first | exact Nat.le_of_ble_eq_true rfl | (simp only [List.map, q_catR]; exact Nat.le_of_ble_eq_true rfl)) ⟨Nat.zero_le _, Nat.zero_le _⟩ dX5_survey_13 ?_
    refine q_icmp_ge X 48 (by decide) dX5_survey_16 (fun g6 => ?_) (fun g6 => ?_)
    · rw [if_pos g6] at h
      refine q_iinc X 1 1 (l1 + (-1)) [(1, .int (l1 + (-1))), (0, va_rf (l0)), (2, .int (l2))] rfl (congrArg (fun z => l1 + z) (show Int32.ofInt (-1) = (-1) by decide)) (by decide) (by first | rfl | simp [List.filter, q_catR]) dX5_survey_48 ?_
      refine q_goto X 2 (by decide) dX5_survey_51 ?_
      refine q_lv [1, 0] rfl ?_
      exact hk2 _ _ _ h
    · rw [if_neg g6] at h
      refine q_aload_n X 0 rfl dX5_survey_19 ?_
      refine q_iload_n X 1 rfl dX5_survey_20 ?_
      refine q_iload_n X 2 rfl dX5_survey_21 ?_
      obtain ⟨a7, ea7, ma7, ka7, h⟩ := q_atE h
      obtain ⟨r8, S9, c10, h⟩ := q_bE h
      refine q_cVI X (As := [.int (l1), .int (l2)]) ea7 ma7 ka7 rfl (by decide) (c_X5_cellOf c10) (q_cwV X tK_X5_cellOf tM_X5_153 tI_X5_cellOf tV_X5_cellOf tN_X5 rfl rfl tD_X5_cellOf ⟨Nat.le_of_ble_eq_true rfl, Nat.le_of_ble_eq_true rfl⟩) rfl rfl (by first | exact Nat.le_of_ble_eq_true rfl | (simp only [List.map, q_catR]; exact Nat.le_of_ble_eq_true rfl)) ⟨Nat.zero_le _, Nat.zero_le _⟩ dX5_survey_22 ?_
      refine q_istore_n X 3 [(3, .int (r8)), (0, va_rf (l0)), (1, .int (l1)), (2, .int (l2))] rfl (by decide) (by first | rfl | simp [List.filter, q_catR]) dX5_survey_25 ?_
      refine q_iload_n X 0 rfl dX5_survey_26 ?_
      refine q_if_lt X 42 (by decide) dX5_survey_27 (fun g11 => ?_) (fun g11 => ?_)
      · rw [if_pos g11] at h
        refine q_lv [1, 2, 3] rfl ?_
        exact w_X5_survey_42 X hr hl hk2 ih _ _ _ _ h
      · rw [if_neg g11] at h
        refine q_aload_n X 1 rfl dX5_survey_30 ?_
        obtain ⟨a12, ea12, ma12, ka12, h⟩ := q_atE h
        refine q_getR X 7 ea12 ma12 ka12 rfl tW_X5 (by decide) (by decide) tF_X5_34 rfl dX5_survey_31 ?_
        refine q_iload_n X 0 rfl dX5_survey_34 ?_
        refine q_aload_n X 1 rfl dX5_survey_35 ?_
        refine q_iload_n X 2 rfl dX5_survey_36 ?_
        refine q_iload_n X 3 rfl dX5_survey_37 ?_
        obtain ⟨r13, S14, c15, h⟩ := q_bE h
        refine q_cVI X (As := [.int (l1), .int (l2)]) ea12 ma12 ka12 rfl (by decide) (c_X5_yieldOf c15) (q_cwV X tK_X5_yieldOf tM_X5_158 tI_X5_yieldOf tV_X5_yieldOf tN_X5 rfl rfl tD_X5_yieldOf ⟨Nat.le_of_ble_eq_true rfl, Nat.le_of_ble_eq_true rfl⟩) rfl rfl (by first | exact Nat.le_of_ble_eq_true rfl | (simp only [List.map, q_catR]; exact Nat.le_of_ble_eq_true rfl)) ⟨Nat.zero_le _, Nat.zero_le _⟩ dX5_survey_38 ?_
        obtain ⟨a16, ea16, ma16, ka16, h⟩ := q_atE h
        obtain ⟨g17, h⟩ := q_ifE h
        refine q_iastore X ea16 ma16 ka16 (q_inE g17) dX5_survey_41 ?_
        have ma16 : a16 ∈ q_L (q_sI (S14) a16 (r8).toNatClampNeg (r13)) := q_LsI ma16
        have ka16 : q_K (q_sI (S14) a16 (r8).toNatClampNeg (r13)) a16 = 100 := q_KsI ka16
        refine q_lv [1, 2, 3] rfl ?_
        exact w_X5_survey_42 X hr hl hk2 ih _ _ _ _ h
def m_X5_survey_2 (n : Nat) : Nat → q_S → Option Nat → Int32 → Option (Unit × q_S)
  | 0, _, _, _ => none
  | k + 1, S, l0, l1 => (if l1 ≤ 0 then some ((), S) else m_X5_survey_8 n (m_X5_survey_2 n k) n (S) (l0) (l1) ((0 : Int32)))
set_option maxHeartbeats 4000000 in
set_option maxRecDepth 100000 in
theorem w_X5_survey_2 (X : q_X p s m args c cX5_survey 4 RX5 q_T D cy A) (hr : meth.sig.returnType = none) (hl : meth.locks = false)  {n : Nat} {Sv : q_S}  : ∀ (k : Nat) (S : q_S) (l0 : Option Nat) (l1 : Int32), m_X5_survey_2 n k S l0 l1 = some ((), Sv) → q_W p l e ({ frames := 6, cells := 0, slots := 0, locals := 140 } : Room) s m args below meth c (MQ below (va_Qv (fun (u : q_S) => u = Sv) (q_B D cy A) A) args s 0 0 A) A D cy 4 0 0 S 2 [(0, va_rf (l0)), (1, .int (l1))] [] := by
  intro k
  induction k with
  | zero => intro S l0 l1 h; rw [m_X5_survey_2] at h; cases h
  | succ k ih =>
    intro S l0 l1 h
    rw [m_X5_survey_2] at h
    refine q_iload_n X 1 rfl dX5_survey_2 ?_
    refine q_if_le X 54 (by decide) dX5_survey_3 (fun g1 => ?_) (fun g1 => ?_)
    · rw [if_pos g1] at h
      obtain ⟨ev, eS⟩ := q_end h
      exact q_vret X hr hl eS dX5_survey_54
    · rw [if_neg g1] at h
      refine q_iconst X (0) (by decide) dX5_survey_6 ?_
      refine q_istore_n X 2 [(2, .int ((0 : Int32))), (0, va_rf (l0)), (1, .int (l1))] rfl (by decide) (by first | rfl | simp [List.filter, q_catR]) dX5_survey_7 ?_
      refine q_lv [1, 2, 0] rfl ?_
      exact w_X5_survey_8 X hr hl ih n _ _ _ _ h
def m_X5_survey (n : Nat) (S : q_S) (o : Nat)  : Option (Unit × q_S) := m_X5_survey_2 n n (S) (some o) ((5 : Int32))
set_option maxHeartbeats 4000000 in
set_option maxRecDepth 100000 in
theorem w_X5_survey (X : q_X p s m args c cX5_survey 4 RX5 q_T D cy A) (hr : meth.sig.returnType = none) (hl : meth.locks = false)  {n : Nat} {S Sv : q_S} {o : Nat}  (h : m_X5_survey n S o = some ((), Sv)) : q_W p l e ({ frames := 6, cells := 0, slots := 0, locals := 140 } : Room) s m args below meth c (MQ below (va_Qv (fun (u : q_S) => u = Sv) (q_B D cy A) A) args s 0 0 A) A D cy 4 0 0 S 0 [(0, va_rf (some o))] [] := by
  unfold m_X5_survey at h
  refine q_iconst X (5) (by decide) dX5_survey_0 ?_
  refine q_istore_n X 1 [(1, .int ((5 : Int32))), (0, va_rf (some o))] rfl (by decide) (by first | rfl | simp [List.filter, q_catR]) dX5_survey_1 ?_
  refine q_lv [1, 0] rfl ?_
  exact w_X5_survey_2 X hr hl n _ _ _ h
theorem tD_X5_survey : yX5_survey.cls ≠ "java/lang/invoke/MethodHandle" ∧ yX5_survey.cls ≠ "java/lang/invoke/VarHandle" ∧ (parseMethodDescriptor yX5_survey.desc).map (fun d => d.parameters.length) = some 0 := by decide +kernel
theorem c_X5_survey {l : Launch} {D : va_G} {cy : Nat → ClassId} {n : Nat} {S Sv : q_S} {o : Nat}  (h : m_X5_survey n S o = some ((), Sv)) : q_MV l yX5_survey (q_ws yX5_survey cX5_survey 4 (none)) ({ frames := 6, cells := 0, slots := 0, locals := 140 } : Room) D cy [.ref o] S Sv := by
  exact q_MV_of (by decide +kernel) (Nat.le_of_ble_eq_true rfl) (fun p e s m args below meth c A X hr hl => w_X5_survey X hr hl h)
/-! TrueOutlines$Signs.load()V -/
def m_X6_load_112 (n : Nat) : Nat → q_S → Option Nat → Int32 → Option (Unit × q_S)
  | 0, _, _, _ => none
  | k + 1, S, l0, l2 => (if (200 : Int32) ≤ l2 then some ((), S) else q_at (S) (l0) 7 (fun a2 => q_at (S) (q_R (S) a2 2) 102 (fun a3 => q_if (q_in (l2) (q_N (S) a3) = true) (m_X6_load_112 n k (q_sI (S) a3 (l2).toNatClampNeg (vp_nar .boolean ((0 : Int32)))) (l0) (l2 + (1))))))
set_option maxHeartbeats 4000000 in
set_option maxRecDepth 100000 in
theorem w_X6_load_112 (X : q_X p s m args c cX6_load 3 RX6 q_T D cy A) (hr : meth.sig.returnType = none) (hl : meth.locks = false)  {n : Nat} {Sv : q_S}  : ∀ (k : Nat) (S : q_S) (l0 : Option Nat) (l2 : Int32), m_X6_load_112 n k S l0 l2 = some ((), Sv) → q_W p l e ({ frames := 3, cells := 0, slots := 0, locals := 64 } : Room) s m args below meth c (MQ below (va_Qv (fun (u : q_S) => u = Sv) (q_B D cy A) A) args s 0 0 A) A D cy 3 0 0 S 112 [(0, va_rf (l0)), (2, .int (l2))] [] := by
  intro k
  induction k with
  | zero => intro S l0 l2 h; rw [m_X6_load_112] at h; cases h
  | succ k ih =>
    intro S l0 l2 h
    rw [m_X6_load_112] at h
    refine q_iload_n X 1 rfl dX6_load_112 ?_
    refine q_sipush X (200) (by decide) dX6_load_113 ?_
    refine q_icmp_ge X 132 (by decide) dX6_load_116 (fun g1 => ?_) (fun g1 => ?_)
    · rw [if_pos g1] at h
      obtain ⟨ev, eS⟩ := q_end h
      exact q_vret X hr hl eS dX6_load_132
    · rw [if_neg g1] at h
      refine q_aload_n X 0 rfl dX6_load_119 ?_
      obtain ⟨a2, ea2, ma2, ka2, h⟩ := q_atE h
      refine q_getR X 2 ea2 ma2 ka2 rfl tW_X6 (by decide) (by decide) tF_X6_9 rfl dX6_load_120 ?_
      refine q_iload_n X 1 rfl dX6_load_123 ?_
      refine q_iconst X (0) (by decide) dX6_load_124 ?_
      obtain ⟨a3, ea3, ma3, ka3, h⟩ := q_atE h
      obtain ⟨g4, h⟩ := q_ifE h
      refine q_zastore X ea3 ma3 ka3 (q_inE g4) dX6_load_125 ?_
      have ma2 : a2 ∈ q_L (q_sI (S) a3 (l2).toNatClampNeg (vp_nar .boolean ((0 : Int32)))) := q_LsI ma2
      have ka2 : q_K (q_sI (S) a3 (l2).toNatClampNeg (vp_nar .boolean ((0 : Int32)))) a2 = 7 := q_KsI ka2
      have ma3 : a3 ∈ q_L (q_sI (S) a3 (l2).toNatClampNeg (vp_nar .boolean ((0 : Int32)))) := q_LsI ma3
      have ka3 : q_K (q_sI (S) a3 (l2).toNatClampNeg (vp_nar .boolean ((0 : Int32)))) a3 = 102 := q_KsI ka3
      refine q_iinc X 2 1 (l2 + (1)) [(2, .int (l2 + (1))), (0, va_rf (l0))] rfl (congrArg (fun z => l2 + z) (show Int32.ofInt (1) = (1) by decide)) (by decide) (by first | rfl | simp [List.filter, q_catR]) dX6_load_126 ?_
      refine q_goto X 112 (by decide) dX6_load_129 ?_
      refine q_lv [1, 0] rfl ?_
      exact ih _ _ _ h
def m_X6_load_74 (n : Nat) (S : q_S) (l0 : Option Nat) (s0 : Int32) (s1 : Option Nat) : Option (Unit × q_S) := q_at (S) (s1) 7 (fun a1 => q_if (s0 = 0 ∨ s0 = 1) (q_at (q_sI (S) a1 7 (s0)) (l0) 7 (fun a3 => q_at (q_sI (S) a1 7 (s0)) (q_R (q_sI (S) a1 7 (s0)) a3 0) 9 (fun a4 => q_b (m_X8_first n (q_sI (S) a1 7 (s0)) a4 ((1819239265 : Int64))) (fun r5 S6 => q_at (S6) (l0) 7 (fun a8 => q_at (q_sR (S6) a8 8 (some r5)) (q_R (q_sR (S6) a8 8 (some r5)) a8 0) 9 (fun a9 => q_b (m_X8_first n (q_sR (S6) a8 8 (some r5)) a9 ((1735162214 : Int64))) (fun r10 S11 => q_at (S11) (l0) 7 (fun a13 => m_X6_load_112 n n (q_sI (q_sR (S11) a13 9 (some r10)) a13 4 ((0 : Int32))) (l0) ((0 : Int32)))))))))))
set_option maxHeartbeats 4000000 in
set_option maxRecDepth 100000 in
theorem w_X6_load_74 (X : q_X p s m args c cX6_load 3 RX6 q_T D cy A) (hr : meth.sig.returnType = none) (hl : meth.locks = false)  {n : Nat} {Sv : q_S}  (S : q_S) (l0 : Option Nat) (s0 : Int32) (s1 : Option Nat) (h : m_X6_load_74 n S l0 s0 s1 = some ((), Sv)) : q_W p l e ({ frames := 3, cells := 0, slots := 0, locals := 64 } : Room) s m args below meth c (MQ below (va_Qv (fun (u : q_S) => u = Sv) (q_B D cy A) A) args s 0 0 A) A D cy 3 0 0 S 74 [(0, va_rf (l0))] [.int (s0), va_rf (s1)] := by
  unfold m_X6_load_74 at h
  obtain ⟨a1, ea1, ma1, ka1, h⟩ := q_atE h
  obtain ⟨g2, h⟩ := q_ifE h
  refine q_putI X 7 ea1 ma1 ka1 rfl tW_X6 (by decide) (by decide) tF_X6_79 tyX6 tyX6_ok nmX6 rfl (tyX6_ok 7 (by decide)) (q_bool g2) (q_boolF g2) rfl dX6_load_74 ?_
  have ma1 : a1 ∈ q_L (q_sI (S) a1 7 (s0)) := q_LsI ma1
  have ka1 : q_K (q_sI (S) a1 7 (s0)) a1 = 7 := q_KsI ka1
  refine q_aload_n X 0 rfl dX6_load_77 ?_
  refine q_aload_n X 0 rfl dX6_load_78 ?_
  obtain ⟨a3, ea3, ma3, ka3, h⟩ := q_atE h
  refine q_getR X 0 ea3 ma3 ka3 rfl tW_X6 (by decide) (by decide) tF_X6_19 rfl dX6_load_79 ?_
  refine q_ldc2_w X (1819239265) tC_X6_82 dX6_load_82 ?_
  obtain ⟨a4, ea4, ma4, ka4, h⟩ := q_atE h
  obtain ⟨r5, S6, c7, h⟩ := q_bE h
  refine q_cVR X (As := [.long ((1819239265 : Int64))]) ea4 ma4 ka4 rfl (by decide) (c_X8_first c7) (q_cwV X tK_X8_first tM_X6_46 tI_X8_first tV_X8_first tN_X8 rfl rfl tD_X8_first ⟨Nat.le_of_ble_eq_true rfl, Nat.le_of_ble_eq_true rfl⟩) rfl rfl (by first | exact Nat.le_of_ble_eq_true rfl | (simp only [List.map, q_catR]; exact Nat.le_of_ble_eq_true rfl)) ⟨Nat.zero_le _, Nat.zero_le _⟩ dX6_load_85 ?_
  obtain ⟨a8, ea8, ma8, ka8, h⟩ := q_atE h
  refine q_putR X 8 ea8 ma8 ka8 rfl tW_X6 (by decide) (by decide) tF_X6_38 tyX6 tyX6_ok nmX6 rfl (tyX6_ok 8 (by decide)) (q_nR _ _) (q_fR _ _) rfl dX6_load_88 ?_
  have ma8 : a8 ∈ q_L (q_sR (S6) a8 8 (some r5)) := q_LsR ma8
  have ka8 : q_K (q_sR (S6) a8 8 (some r5)) a8 = 7 := q_KsR ka8
  refine q_aload_n X 0 rfl dX6_load_91 ?_
  refine q_aload_n X 0 rfl dX6_load_92 ?_
  refine q_getR X 0 ea8 ma8 ka8 rfl tW_X6 (by decide) (by decide) tF_X6_19 rfl dX6_load_93 ?_
  refine q_ldc2_w X (1735162214) tC_X6_84 dX6_load_96 ?_
  obtain ⟨a9, ea9, ma9, ka9, h⟩ := q_atE h
  obtain ⟨r10, S11, c12, h⟩ := q_bE h
  refine q_cVR X (As := [.long ((1735162214 : Int64))]) ea9 ma9 ka9 rfl (by decide) (c_X8_first c12) (q_cwV X tK_X8_first tM_X6_46 tI_X8_first tV_X8_first tN_X8 rfl rfl tD_X8_first ⟨Nat.le_of_ble_eq_true rfl, Nat.le_of_ble_eq_true rfl⟩) rfl rfl (by first | exact Nat.le_of_ble_eq_true rfl | (simp only [List.map, q_catR]; exact Nat.le_of_ble_eq_true rfl)) ⟨Nat.zero_le _, Nat.zero_le _⟩ dX6_load_99 ?_
  obtain ⟨a13, ea13, ma13, ka13, h⟩ := q_atE h
  refine q_putR X 9 ea13 ma13 ka13 rfl tW_X6 (by decide) (by decide) tF_X6_41 tyX6 tyX6_ok nmX6 rfl (tyX6_ok 9 (by decide)) (q_nR _ _) (q_fR _ _) rfl dX6_load_102 ?_
  have ma13 : a13 ∈ q_L (q_sR (S11) a13 9 (some r10)) := q_LsR ma13
  have ka13 : q_K (q_sR (S11) a13 9 (some r10)) a13 = 7 := q_KsR ka13
  refine q_aload_n X 0 rfl dX6_load_105 ?_
  refine q_iconst X (0) (by decide) dX6_load_106 ?_
  refine q_putI X 4 ea13 ma13 ka13 rfl tW_X6 (by decide) (by decide) tF_X6_86 tyX6 tyX6_ok nmX6 rfl (tyX6_ok 4 (by decide)) rfl rfl rfl dX6_load_107 ?_
  have ma13 : a13 ∈ q_L (q_sI (q_sR (S11) a13 9 (some r10)) a13 4 ((0 : Int32))) := q_LsI ma13
  have ka13 : q_K (q_sI (q_sR (S11) a13 9 (some r10)) a13 4 ((0 : Int32))) a13 = 7 := q_KsI ka13
  refine q_iconst X (0) (by decide) dX6_load_110 ?_
  refine q_istore_n X 2 [(2, .int ((0 : Int32))), (0, va_rf (l0))] rfl (by decide) (by first | rfl | simp [List.filter, q_catR]) dX6_load_111 ?_
  refine q_lv [1, 0] rfl ?_
  exact w_X6_load_112 X hr hl n _ _ _ h
def m_X6_load_45 (n : Nat) (S : q_S) (l0 : Option Nat) (s0 : Int32) (s1 : Option Nat) : Option (Unit × q_S) := q_at (S) (s1) 7 (fun a1 => q_if (s0 = 0 ∨ s0 = 1) (q_at (q_sI (S) a1 6 (s0)) (l0) 7 (fun a3 => q_at (q_sI (S) a1 6 (s0)) (q_R (q_sI (S) a1 6 (s0)) a3 0) 9 (fun a4 => q_b (m_X8_first n (q_sI (S) a1 6 (s0)) a4 ((1751474532 : Int64))) (fun r5 S6 => q_at (S6) (some r5) 8 (fun a8 => q_b (m_X7_two n (S6) a8 ((50 : Int64))) (fun r9 S10 => (if r9 = (1 : Int32) then m_X6_load_74 n (S10) (l0) ((1 : Int32)) (l0) else m_X6_load_74 n (S10) (l0) ((0 : Int32)) (l0)))))))))
set_option maxHeartbeats 4000000 in
set_option maxRecDepth 100000 in
theorem w_X6_load_45 (X : q_X p s m args c cX6_load 3 RX6 q_T D cy A) (hr : meth.sig.returnType = none) (hl : meth.locks = false)  {n : Nat} {Sv : q_S}  (S : q_S) (l0 : Option Nat) (s0 : Int32) (s1 : Option Nat) (h : m_X6_load_45 n S l0 s0 s1 = some ((), Sv)) : q_W p l e ({ frames := 3, cells := 0, slots := 0, locals := 64 } : Room) s m args below meth c (MQ below (va_Qv (fun (u : q_S) => u = Sv) (q_B D cy A) A) args s 0 0 A) A D cy 3 0 0 S 45 [(0, va_rf (l0))] [.int (s0), va_rf (s1)] := by
  unfold m_X6_load_45 at h
  obtain ⟨a1, ea1, ma1, ka1, h⟩ := q_atE h
  obtain ⟨g2, h⟩ := q_ifE h
  refine q_putI X 6 ea1 ma1 ka1 rfl tW_X6 (by decide) (by decide) tF_X6_71 tyX6 tyX6_ok nmX6 rfl (tyX6_ok 6 (by decide)) (q_bool g2) (q_boolF g2) rfl dX6_load_45 ?_
  have ma1 : a1 ∈ q_L (q_sI (S) a1 6 (s0)) := q_LsI ma1
  have ka1 : q_K (q_sI (S) a1 6 (s0)) a1 = 7 := q_KsI ka1
  refine q_aload_n X 0 rfl dX6_load_48 ?_
  refine q_aload_n X 0 rfl dX6_load_49 ?_
  obtain ⟨a3, ea3, ma3, ka3, h⟩ := q_atE h
  refine q_getR X 0 ea3 ma3 ka3 rfl tW_X6 (by decide) (by decide) tF_X6_19 rfl dX6_load_50 ?_
  refine q_ldc2_w X (1751474532) tC_X6_75 dX6_load_53 ?_
  obtain ⟨a4, ea4, ma4, ka4, h⟩ := q_atE h
  obtain ⟨r5, S6, c7, h⟩ := q_bE h
  refine q_cVR X (As := [.long ((1751474532 : Int64))]) ea4 ma4 ka4 rfl (by decide) (c_X8_first c7) (q_cwV X tK_X8_first tM_X6_46 tI_X8_first tV_X8_first tN_X8 rfl rfl tD_X8_first ⟨Nat.le_of_ble_eq_true rfl, Nat.le_of_ble_eq_true rfl⟩) rfl rfl (by first | exact Nat.le_of_ble_eq_true rfl | (simp only [List.map, q_catR]; exact Nat.le_of_ble_eq_true rfl)) ⟨Nat.zero_le _, Nat.zero_le _⟩ dX6_load_56 ?_
  refine q_ldc2_w X (50) tC_X6_77 dX6_load_59 ?_
  obtain ⟨a8, ea8, ma8, ka8, h⟩ := q_atE h
  obtain ⟨r9, S10, c11, h⟩ := q_bE h
  refine q_cVI X (As := [.long ((50 : Int64))]) ea8 ma8 ka8 rfl (by decide) (c_X7_two c11) (q_cwV X tK_X7_two tM_X6_52 tI_X7_two tV_X7_two tN_X7 rfl rfl tD_X7_two ⟨Nat.le_of_ble_eq_true rfl, Nat.le_of_ble_eq_true rfl⟩) rfl rfl (by first | exact Nat.le_of_ble_eq_true rfl | (simp only [List.map, q_catR]; exact Nat.le_of_ble_eq_true rfl)) ⟨Nat.zero_le _, Nat.zero_le _⟩ dX6_load_62 ?_
  refine q_iconst X (1) (by decide) dX6_load_65 ?_
  refine q_icmp_ne X 73 (by decide) dX6_load_66 (fun g12 => ?_) (fun g12 => ?_)
  · rw [if_neg g12] at h
    refine q_iconst X (0) (by decide) dX6_load_73 ?_
    exact w_X6_load_74 X hr hl _ _ _ _ h
  · rw [if_pos g12] at h
    refine q_iconst X (1) (by decide) dX6_load_69 ?_
    refine q_goto X 74 (by decide) dX6_load_70 ?_
    exact w_X6_load_74 X hr hl _ _ _ _ h
def m_X6_load (n : Nat) (S : q_S) (o : Nat)  : Option (Unit × q_S) := q_at (S) (some o) 7 (fun a1 => q_at (S) (q_R (S) a1 0) 9 (fun a2 => q_b (m_X8_first n (S) a2 ((1835104368 : Int64))) (fun r3 S4 => q_at (S4) (some r3) 8 (fun a6 => q_b (m_X7_two n (S4) a6 ((4 : Int64))) (fun r7 S8 => q_b (m_J9_min_7cf53 n (S8) ((200 : Int32)) (r7)) (fun r10 S11 => q_b (m_J9_max_7cf53 n (S11) ((0 : Int32)) (r10)) (fun r13 S14 => q_at (S14) (some o) 7 (fun a16 => (if r7 ≤ (200 : Int32) then m_X6_load_45 n (q_sI (S14) a16 5 (r13)) (some o) ((0 : Int32)) (some o) else m_X6_load_45 n (q_sI (S14) a16 5 (r13)) (some o) ((1 : Int32)) (some o))))))))))
set_option maxHeartbeats 4000000 in
set_option maxRecDepth 100000 in
theorem w_X6_load (X : q_X p s m args c cX6_load 3 RX6 q_T D cy A) (hr : meth.sig.returnType = none) (hl : meth.locks = false)  {n : Nat} {S Sv : q_S} {o : Nat}  (h : m_X6_load n S o = some ((), Sv)) : q_W p l e ({ frames := 3, cells := 0, slots := 0, locals := 64 } : Room) s m args below meth c (MQ below (va_Qv (fun (u : q_S) => u = Sv) (q_B D cy A) A) args s 0 0 A) A D cy 3 0 0 S 0 [(0, va_rf (some o))] [] := by
  unfold m_X6_load at h
  refine q_aload_n X 0 rfl dX6_load_0 ?_
  obtain ⟨a1, ea1, ma1, ka1, h⟩ := q_atE h
  refine q_getR X 0 ea1 ma1 ka1 rfl tW_X6 (by decide) (by decide) tF_X6_19 rfl dX6_load_1 ?_
  refine q_ldc2_w X (1835104368) tC_X6_44 dX6_load_4 ?_
  obtain ⟨a2, ea2, ma2, ka2, h⟩ := q_atE h
  obtain ⟨r3, S4, c5, h⟩ := q_bE h
  refine q_cVR X (As := [.long ((1835104368 : Int64))]) ea2 ma2 ka2 rfl (by decide) (c_X8_first c5) (q_cwV X tK_X8_first tM_X6_46 tI_X8_first tV_X8_first tN_X8 rfl rfl tD_X8_first ⟨Nat.le_of_ble_eq_true rfl, Nat.le_of_ble_eq_true rfl⟩) rfl rfl (by first | exact Nat.le_of_ble_eq_true rfl | (simp only [List.map, q_catR]; exact Nat.le_of_ble_eq_true rfl)) ⟨Nat.zero_le _, Nat.zero_le _⟩ dX6_load_7 ?_
  refine q_ldc2_w X (4) tC_X6_50 dX6_load_10 ?_
  obtain ⟨a6, ea6, ma6, ka6, h⟩ := q_atE h
  obtain ⟨r7, S8, c9, h⟩ := q_bE h
  refine q_cVI X (As := [.long ((4 : Int64))]) ea6 ma6 ka6 rfl (by decide) (c_X7_two c9) (q_cwV X tK_X7_two tM_X6_52 tI_X7_two tV_X7_two tN_X7 rfl rfl tD_X7_two ⟨Nat.le_of_ble_eq_true rfl, Nat.le_of_ble_eq_true rfl⟩) rfl rfl (by first | exact Nat.le_of_ble_eq_true rfl | (simp only [List.map, q_catR]; exact Nat.le_of_ble_eq_true rfl)) ⟨Nat.zero_le _, Nat.zero_le _⟩ dX6_load_13 ?_
  refine q_istore_n X 1 [(1, .int (r7)), (0, va_rf (some o))] rfl (by decide) (by first | rfl | simp [List.filter, q_catR]) dX6_load_16 ?_
  refine q_aload_n X 1 rfl dX6_load_17 ?_
  refine q_iconst X (0) (by decide) dX6_load_18 ?_
  refine q_sipush X (200) (by decide) dX6_load_19 ?_
  refine q_iload_n X 0 rfl dX6_load_22 ?_
  obtain ⟨r10, S11, c12, h⟩ := q_bE h
  refine q_cSI X (As := [.int ((200 : Int32)), .int (r7)]) (c_J9_min_7cf53 c12) (q_cwS X tK_J9_min_7cf53 tM_X6_58 tS_J9_min_7cf53 tN_J9 rfl rfl tD_J9_min_7cf53 ⟨Nat.le_of_ble_eq_true rfl, Nat.le_of_ble_eq_true rfl⟩) rfl rfl (by first | exact Nat.le_of_ble_eq_true rfl | (simp only [List.map, q_catR]; exact Nat.le_of_ble_eq_true rfl)) ⟨Nat.zero_le _, Nat.zero_le _⟩ dX6_load_23 ?_
  obtain ⟨r13, S14, c15, h⟩ := q_bE h
  refine q_cSI X (As := [.int ((0 : Int32)), .int (r10)]) (c_J9_max_7cf53 c15) (q_cwS X tK_J9_max_7cf53 tM_X6_64 tS_J9_max_7cf53 tN_J9 rfl rfl tD_J9_max_7cf53 ⟨Nat.le_of_ble_eq_true rfl, Nat.le_of_ble_eq_true rfl⟩) rfl rfl (by first | exact Nat.le_of_ble_eq_true rfl | (simp only [List.map, q_catR]; exact Nat.le_of_ble_eq_true rfl)) ⟨Nat.zero_le _, Nat.zero_le _⟩ dX6_load_26 ?_
  obtain ⟨a16, ea16, ma16, ka16, h⟩ := q_atE h
  refine q_putI X 5 ea16 ma16 ka16 rfl tW_X6 (by decide) (by decide) tF_X6_67 tyX6 tyX6_ok nmX6 rfl (tyX6_ok 5 (by decide)) rfl rfl rfl dX6_load_29 ?_
  have ma16 : a16 ∈ q_L (q_sI (S14) a16 5 (r13)) := q_LsI ma16
  have ka16 : q_K (q_sI (S14) a16 5 (r13)) a16 = 7 := q_KsI ka16
  refine q_aload_n X 1 rfl dX6_load_32 ?_
  refine q_iload_n X 0 rfl dX6_load_33 ?_
  refine q_sipush X (200) (by decide) dX6_load_34 ?_
  refine q_icmp_le X 44 (by decide) dX6_load_37 (fun g17 => ?_) (fun g17 => ?_)
  · rw [if_pos g17] at h
    refine q_iconst X (0) (by decide) dX6_load_44 ?_
    refine q_lv [1] rfl ?_
    exact w_X6_load_45 X hr hl _ _ _ _ h
  · rw [if_neg g17] at h
    refine q_iconst X (1) (by decide) dX6_load_40 ?_
    refine q_goto X 45 (by decide) dX6_load_41 ?_
    refine q_lv [1] rfl ?_
    exact w_X6_load_45 X hr hl _ _ _ _ h
theorem tD_X6_load : yX6_load.cls ≠ "java/lang/invoke/MethodHandle" ∧ yX6_load.cls ≠ "java/lang/invoke/VarHandle" ∧ (parseMethodDescriptor yX6_load.desc).map (fun d => d.parameters.length) = some 0 := by decide +kernel
theorem c_X6_load {l : Launch} {D : va_G} {cy : Nat → ClassId} {n : Nat} {S Sv : q_S} {o : Nat}  (h : m_X6_load n S o = some ((), Sv)) : q_MV l yX6_load (q_ws yX6_load cX6_load 3 (none)) ({ frames := 3, cells := 0, slots := 0, locals := 64 } : Room) D cy [.ref o] S Sv := by
  exact q_MV_of (by decide +kernel) (Nat.le_of_ble_eq_true rfl) (fun p e s m args below meth c A X hr hl => w_X6_load X hr hl h)
/-! TrueOutlines$Tables.loadEntry(I)Z -/
def m_X8_loadEntry_75 (n : Nat) (S : q_S) : Option (Int32 × q_S) := q_if ((0 : Int32) = 0 ∨ (0 : Int32) = 1) (some ((0 : Int32), S))
set_option maxHeartbeats 4000000 in
set_option maxRecDepth 100000 in
theorem w_X8_loadEntry_75 (X : q_X p s m args c cX8_loadEntry 9 RX8 q_T D cy A) (hr : meth.sig.returnType = (some .boolean)) (hl : meth.locks = false)  {n : Nat} {Sv : q_S} {rv : Int32}  (S : q_S) (h : m_X8_loadEntry_75 n S = some (rv, Sv)) : q_W p l e ({ frames := 1, cells := 0, slots := 0, locals := 27 } : Room) s m args below meth c (MQ below (va_Qi (fun (r : Int32) (u : q_S) => r = rv ∧ u = Sv) (q_B D cy A) A) args s 0 0 A) A D cy 9 0 0 S 75 [] [] := by
  unfold m_X8_loadEntry_75 at h
  refine q_iconst X (0) (by decide) dX8_loadEntry_75 ?_
  obtain ⟨g1, h⟩ := q_ifE h
  obtain ⟨ev, eS⟩ := q_end h
  exact q_iret X hr hl (q_bool g1) ev eS dX8_loadEntry_76
def m_X8_loadEntry (n : Nat) (S : q_S) (o : Nat) (p0 : Int32) : Option (Int32 × q_S) := q_at (S) (some o) 9 (fun a1 => q_at (S) (q_R (S) a1 0) 5 (fun a2 => q_b (m_X4_size n (S) a2) (fun r3 S4 => q_at (S4) (some o) 9 (fun a6 => q_at (S4) (q_R (S4) a6 0) 5 (fun a7 => q_b (m_X4_four n (S4) a7 ((((12 : Int32) + ((16 : Int32) * p0)) + (8 : Int32)).toInt64) (r3.toInt64)) (fun r8 S9 => q_at (S9) (some o) 9 (fun a11 => q_at (S9) (q_R (S9) a11 0) 5 (fun a12 => q_b (m_X4_four n (S9) a12 ((((12 : Int32) + ((16 : Int32) * p0)) + (12 : Int32)).toInt64) (r3.toInt64)) (fun r13 S14 => (if (lg_cmp (r8) ((-1 : Int64))) = 0 then m_X8_loadEntry_75 n (S14) else (if (lg_cmp (r13) ((-1 : Int64))) = 0 then m_X8_loadEntry_75 n (S14) else (if (lg_cmp ((r8 + r13)) ((r3.toInt64))) ≤ 0 then q_at (S14) (some o) 9 (fun a19 => q_at (S14) (q_R (S14) a19 1) 104 (fun a20 => q_if (q_in (p0) (q_N (S14) a20) = true) (q_at (S14) (q_R (S14) a19 0) 5 (fun a22 => q_b (m_X4_four n (S14) a22 (((12 : Int32) + ((16 : Int32) * p0)).toInt64) (r3.toInt64)) (fun r23 S24 => q_at (S24) (some o) 9 (fun a26 => q_at (S24) (q_R (S24) a26 0) 5 (fun a27 => q_b (m_X4_four n (S24) a27 ((((12 : Int32) + ((16 : Int32) * p0)) + (4 : Int32)).toInt64) (r3.toInt64)) (fun r28 S29 => q_at (S29) (q_R (S14) a20 (p0).toNatClampNeg) 8 (fun a31 => q_b (m_X7_set n (S29) a31 (r23) (r28) (r8.toInt32) (r13.toInt32)) (fun _ S32 => q_if ((1 : Int32) = 0 ∨ (1 : Int32) = 1) (some ((1 : Int32), S32)))))))))))) else m_X8_loadEntry_75 n (S14)))))))))))))
set_option maxHeartbeats 4000000 in
set_option maxRecDepth 100000 in
theorem w_X8_loadEntry (X : q_X p s m args c cX8_loadEntry 9 RX8 q_T D cy A) (hr : meth.sig.returnType = (some .boolean)) (hl : meth.locks = false)  {n : Nat} {S Sv : q_S} {rv : Int32} {o : Nat} {p0 : Int32} (h : m_X8_loadEntry n S o p0 = some (rv, Sv)) : q_W p l e ({ frames := 1, cells := 0, slots := 0, locals := 27 } : Room) s m args below meth c (MQ below (va_Qi (fun (r : Int32) (u : q_S) => r = rv ∧ u = Sv) (q_B D cy A) A) args s 0 0 A) A D cy 9 0 0 S 0 [(0, va_rf (some o)), (1, .int (p0))] [] := by
  unfold m_X8_loadEntry at h
  refine q_bipush X (12) (by decide) dX8_loadEntry_0 ?_
  refine q_bipush X (16) (by decide) dX8_loadEntry_2 ?_
  refine q_iload_n X 1 rfl dX8_loadEntry_4 ?_
  refine q_imul X dX8_loadEntry_5 ?_
  refine q_iadd X dX8_loadEntry_6 ?_
  refine q_istore_n X 2 [(2, .int ((12 : Int32) + ((16 : Int32) * p0))), (0, va_rf (some o)), (1, .int (p0))] rfl (by decide) (by first | rfl | simp [List.filter, q_catR]) dX8_loadEntry_7 ?_
  refine q_aload_n X 1 rfl dX8_loadEntry_8 ?_
  obtain ⟨a1, ea1, ma1, ka1, h⟩ := q_atE h
  refine q_getR X 0 ea1 ma1 ka1 rfl tW_X8 (by decide) (by decide) tF_X8_17 rfl dX8_loadEntry_9 ?_
  obtain ⟨a2, ea2, ma2, ka2, h⟩ := q_atE h
  obtain ⟨r3, S4, c5, h⟩ := q_bE h
  refine q_cVI X (As := []) ea2 ma2 ka2 rfl (by decide) (c_X4_size c5) (q_cwV X tK_X4_size tM_X8_54 tI_X4_size tV_X4_size tN_X4 rfl rfl tD_X4_size ⟨Nat.le_of_ble_eq_true rfl, Nat.le_of_ble_eq_true rfl⟩) rfl rfl (by first | exact Nat.le_of_ble_eq_true rfl | (simp only [List.map, q_catR]; exact Nat.le_of_ble_eq_true rfl)) ⟨Nat.zero_le _, Nat.zero_le _⟩ dX8_loadEntry_12 ?_
  refine q_i2l X dX8_loadEntry_15 ?_
  refine q_lstore_n X 3 [(3, .long (r3.toInt64)), (2, .int ((12 : Int32) + ((16 : Int32) * p0))), (0, va_rf (some o)), (1, .int (p0))] rfl (by decide) (by first | rfl | simp [List.filter, q_catR]) dX8_loadEntry_16 ?_
  refine q_aload_n X 2 rfl dX8_loadEntry_17 ?_
  obtain ⟨a6, ea6, ma6, ka6, h⟩ := q_atE h
  refine q_getR X 0 ea6 ma6 ka6 rfl tW_X8 (by decide) (by decide) tF_X8_17 rfl dX8_loadEntry_18 ?_
  refine q_iload_n X 1 rfl dX8_loadEntry_21 ?_
  refine q_bipush X (8) (by decide) dX8_loadEntry_22 ?_
  refine q_iadd X dX8_loadEntry_24 ?_
  refine q_i2l X dX8_loadEntry_25 ?_
  refine q_lload_n X 0 rfl dX8_loadEntry_26 ?_
  obtain ⟨a7, ea7, ma7, ka7, h⟩ := q_atE h
  obtain ⟨r8, S9, c10, h⟩ := q_bE h
  refine q_cVJ X (As := [.long ((((12 : Int32) + ((16 : Int32) * p0)) + (8 : Int32)).toInt64), .long (r3.toInt64)]) ea7 ma7 ka7 rfl (by decide) (c_X4_four c10) (q_cwV X tK_X4_four tM_X8_76 tI_X4_four tV_X4_four tN_X4 rfl rfl tD_X4_four ⟨Nat.le_of_ble_eq_true rfl, Nat.le_of_ble_eq_true rfl⟩) rfl rfl (by first | exact Nat.le_of_ble_eq_true rfl | (simp only [List.map, q_catR]; exact Nat.le_of_ble_eq_true rfl)) ⟨Nat.zero_le _, Nat.zero_le _⟩ dX8_loadEntry_27 ?_
  refine q_lstore X 5 [(5, .long (r8)), (3, .long (r3.toInt64)), (2, .int ((12 : Int32) + ((16 : Int32) * p0))), (0, va_rf (some o)), (1, .int (p0))] (by decide) (by first | rfl | simp [List.filter, q_catR]) dX8_loadEntry_30 ?_
  refine q_aload_n X 3 rfl dX8_loadEntry_32 ?_
  obtain ⟨a11, ea11, ma11, ka11, h⟩ := q_atE h
  refine q_getR X 0 ea11 ma11 ka11 rfl tW_X8 (by decide) (by decide) tF_X8_17 rfl dX8_loadEntry_33 ?_
  refine q_iload_n X 2 rfl dX8_loadEntry_36 ?_
  refine q_bipush X (12) (by decide) dX8_loadEntry_37 ?_
  refine q_iadd X dX8_loadEntry_39 ?_
  refine q_i2l X dX8_loadEntry_40 ?_
  refine q_lload_n X 1 rfl dX8_loadEntry_41 ?_
  obtain ⟨a12, ea12, ma12, ka12, h⟩ := q_atE h
  obtain ⟨r13, S14, c15, h⟩ := q_bE h
  refine q_cVJ X (As := [.long ((((12 : Int32) + ((16 : Int32) * p0)) + (12 : Int32)).toInt64), .long (r3.toInt64)]) ea12 ma12 ka12 rfl (by decide) (c_X4_four c15) (q_cwV X tK_X4_four tM_X8_76 tI_X4_four tV_X4_four tN_X4 rfl rfl tD_X4_four ⟨Nat.le_of_ble_eq_true rfl, Nat.le_of_ble_eq_true rfl⟩) rfl rfl (by first | exact Nat.le_of_ble_eq_true rfl | (simp only [List.map, q_catR]; exact Nat.le_of_ble_eq_true rfl)) ⟨Nat.zero_le _, Nat.zero_le _⟩ dX8_loadEntry_42 ?_
  refine q_lstore X 7 [(7, .long (r13)), (5, .long (r8)), (3, .long (r3.toInt64)), (2, .int ((12 : Int32) + ((16 : Int32) * p0))), (0, va_rf (some o)), (1, .int (p0))] (by decide) (by first | rfl | simp [List.filter, q_catR]) dX8_loadEntry_45 ?_
  refine q_lload X 1 rfl dX8_loadEntry_47 ?_
  refine q_ldc2_w X (-1) tC_X8_80 dX8_loadEntry_49 ?_
  refine q_lcmp X dX8_loadEntry_52 ?_
  refine q_if_eq X 75 (by decide) dX8_loadEntry_53 (fun g16 => ?_) (fun g16 => ?_)
  · rw [if_pos g16] at h
    refine q_lv [] rfl ?_
    exact w_X8_loadEntry_75 X hr hl _ h
  · rw [if_neg g16] at h
    refine q_lload X 0 rfl dX8_loadEntry_56 ?_
    refine q_ldc2_w X (-1) tC_X8_80 dX8_loadEntry_58 ?_
    refine q_lcmp X dX8_loadEntry_61 ?_
    refine q_if_eq X 75 (by decide) dX8_loadEntry_62 (fun g17 => ?_) (fun g17 => ?_)
    · rw [if_pos g17] at h
      refine q_lv [] rfl ?_
      exact w_X8_loadEntry_75 X hr hl _ h
    · rw [if_neg g17] at h
      refine q_lload X 1 rfl dX8_loadEntry_65 ?_
      refine q_lload X 0 rfl dX8_loadEntry_67 ?_
      refine q_ladd X dX8_loadEntry_69 ?_
      refine q_lload_n X 2 rfl dX8_loadEntry_70 ?_
      refine q_lcmp X dX8_loadEntry_71 ?_
      refine q_if_le X 77 (by decide) dX8_loadEntry_72 (fun g18 => ?_) (fun g18 => ?_)
      · rw [if_pos g18] at h
        refine q_aload_n X 4 rfl dX8_loadEntry_77 ?_
        obtain ⟨a19, ea19, ma19, ka19, h⟩ := q_atE h
        refine q_getR X 1 ea19 ma19 ka19 rfl tW_X8 (by decide) (by decide) tF_X8_11 rfl dX8_loadEntry_78 ?_
        refine q_iload_n X 5 rfl dX8_loadEntry_81 ?_
        obtain ⟨a20, ea20, ma20, ka20, h⟩ := q_atE h
        obtain ⟨g21, h⟩ := q_ifE h
        refine q_taload X ea20 ma20 ka20 (q_inE g21) dX8_loadEntry_82 ?_
        refine q_aload_n X 4 rfl dX8_loadEntry_83 ?_
        refine q_getR X 0 ea19 ma19 ka19 rfl tW_X8 (by decide) (by decide) tF_X8_17 rfl dX8_loadEntry_84 ?_
        refine q_iload_n X 3 rfl dX8_loadEntry_87 ?_
        refine q_i2l X dX8_loadEntry_88 ?_
        refine q_lload_n X 2 rfl dX8_loadEntry_89 ?_
        obtain ⟨a22, ea22, ma22, ka22, h⟩ := q_atE h
        obtain ⟨r23, S24, c25, h⟩ := q_bE h
        refine q_cVJ X (As := [.long (((12 : Int32) + ((16 : Int32) * p0)).toInt64), .long (r3.toInt64)]) ea22 ma22 ka22 rfl (by decide) (c_X4_four c25) (q_cwV X tK_X4_four tM_X8_76 tI_X4_four tV_X4_four tN_X4 rfl rfl tD_X4_four ⟨Nat.le_of_ble_eq_true rfl, Nat.le_of_ble_eq_true rfl⟩) rfl rfl (by first | exact Nat.le_of_ble_eq_true rfl | (simp only [List.map, q_catR]; exact Nat.le_of_ble_eq_true rfl)) ⟨Nat.zero_le _, Nat.zero_le _⟩ dX8_loadEntry_90 ?_
        refine q_aload_n X 4 rfl dX8_loadEntry_93 ?_
        obtain ⟨a26, ea26, ma26, ka26, h⟩ := q_atE h
        refine q_getR X 0 ea26 ma26 ka26 rfl tW_X8 (by decide) (by decide) tF_X8_17 rfl dX8_loadEntry_94 ?_
        refine q_iload_n X 3 rfl dX8_loadEntry_97 ?_
        refine q_iconst X (4) (by decide) dX8_loadEntry_98 ?_
        refine q_iadd X dX8_loadEntry_99 ?_
        refine q_i2l X dX8_loadEntry_100 ?_
        refine q_lload_n X 2 rfl dX8_loadEntry_101 ?_
        obtain ⟨a27, ea27, ma27, ka27, h⟩ := q_atE h
        obtain ⟨r28, S29, c30, h⟩ := q_bE h
        refine q_cVJ X (As := [.long ((((12 : Int32) + ((16 : Int32) * p0)) + (4 : Int32)).toInt64), .long (r3.toInt64)]) ea27 ma27 ka27 rfl (by decide) (c_X4_four c30) (q_cwV X tK_X4_four tM_X8_76 tI_X4_four tV_X4_four tN_X4 rfl rfl tD_X4_four ⟨Nat.le_of_ble_eq_true rfl, Nat.le_of_ble_eq_true rfl⟩) rfl rfl (by first | exact Nat.le_of_ble_eq_true rfl | (simp only [List.map, q_catR]; exact Nat.le_of_ble_eq_true rfl)) ⟨Nat.zero_le _, Nat.zero_le _⟩ dX8_loadEntry_102 ?_
        refine q_lload X 1 rfl dX8_loadEntry_105 ?_
        refine q_l2i X dX8_loadEntry_107 ?_
        refine q_lload X 0 rfl dX8_loadEntry_108 ?_
        refine q_l2i X dX8_loadEntry_110 ?_
        obtain ⟨a31, ea31, ma31, ka31, h⟩ := q_atE h
        obtain ⟨u34, S32, c33, h⟩ := q_bE h
        refine q_cVV X (As := [.long (r23), .long (r28), .int (r8.toInt32), .int (r13.toInt32)]) ea31 ma31 ka31 rfl (by decide) (c_X7_set c33) (q_cwV X tK_X7_set tM_X8_82 tI_X7_set tV_X7_set tN_X7 rfl rfl tD_X7_set ⟨Nat.le_of_ble_eq_true rfl, Nat.le_of_ble_eq_true rfl⟩) rfl rfl (by first | exact Nat.le_of_ble_eq_true rfl | (simp only [List.map, q_catR]; exact Nat.le_of_ble_eq_true rfl)) ⟨Nat.zero_le _, Nat.zero_le _⟩ dX8_loadEntry_111 ?_
        refine q_iconst X (1) (by decide) dX8_loadEntry_114 ?_
        obtain ⟨g35, h⟩ := q_ifE h
        obtain ⟨ev, eS⟩ := q_end h
        exact q_iret X hr hl (q_bool g35) ev eS dX8_loadEntry_115
      · rw [if_neg g18] at h
        refine q_lv [] rfl ?_
        exact w_X8_loadEntry_75 X hr hl _ h
theorem tD_X8_loadEntry : yX8_loadEntry.cls ≠ "java/lang/invoke/MethodHandle" ∧ yX8_loadEntry.cls ≠ "java/lang/invoke/VarHandle" ∧ (parseMethodDescriptor yX8_loadEntry.desc).map (fun d => d.parameters.length) = some 1 := by decide +kernel
theorem c_X8_loadEntry {l : Launch} {D : va_G} {cy : Nat → ClassId} {n : Nat} {S Sv : q_S} {rv : Int32} {o : Nat} {p0 : Int32} (h : m_X8_loadEntry n S o p0 = some (rv, Sv)) : q_MI l yX8_loadEntry (q_ws yX8_loadEntry cX8_loadEntry 9 ((some .boolean))) ({ frames := 1, cells := 0, slots := 0, locals := 27 } : Room) D cy [.ref o, .int (p0)] S rv Sv := by
  exact q_MI_of (by decide +kernel) (Nat.le_of_ble_eq_true rfl) (fun p e s m args below meth c A X hr hl => w_X8_loadEntry X hr hl h)
/-! TrueOutlines$Tables.load()I -/
def m_X8_load_40 (n : Nat) : Nat → q_S → Option Nat → Int32 → Int32 → Option (Int32 × q_S)
  | 0, _, _, _, _ => none
  | k + 1, S, l0, l1, l2 => (if l1 ≤ l2 then q_at (S) (l0) 9 (fun a2 => some (q_I (q_sI (S) a2 3 (l1)) a2 3, q_sI (S) a2 3 (l1))) else q_at (S) (l0) 9 (fun a3 => q_b (m_X8_loadEntry n (S) a3 (l2)) (fun r4 S5 => (if r4 = 0 then some ((-1 : Int32) - l2, S5) else m_X8_load_40 n k (S5) (l0) (l1) (l2 + (1))))))
set_option maxHeartbeats 4000000 in
set_option maxRecDepth 100000 in
theorem w_X8_load_40 (X : q_X p s m args c cX8_load 3 RX8 q_T D cy A) (hr : meth.sig.returnType = (some .int)) (hl : meth.locks = false)  {n : Nat} {Sv : q_S} {rv : Int32}  : ∀ (k : Nat) (S : q_S) (l0 : Option Nat) (l1 : Int32) (l2 : Int32), m_X8_load_40 n k S l0 l1 l2 = some (rv, Sv) → q_W p l e ({ frames := 2, cells := 0, slots := 0, locals := 55 } : Room) s m args below meth c (MQ below (va_Qi (fun (r : Int32) (u : q_S) => r = rv ∧ u = Sv) (q_B D cy A) A) args s 0 0 A) A D cy 3 0 0 S 40 [(0, va_rf (l0)), (1, .int (l1)), (2, .int (l2))] [] := by
  intro k
  induction k with
  | zero => intro S l0 l1 l2 h; rw [m_X8_load_40] at h; cases h
  | succ k ih =>
    intro S l0 l1 l2 h
    rw [m_X8_load_40] at h
    refine q_iload_n X 2 rfl dX8_load_40 ?_
    refine q_iload_n X 1 rfl dX8_load_41 ?_
    refine q_icmp_ge X 63 (by decide) dX8_load_42 (fun g1 => ?_) (fun g1 => ?_)
    · rw [if_pos g1] at h
      refine q_aload_n X 0 rfl dX8_load_63 ?_
      refine q_iload_n X 1 rfl dX8_load_64 ?_
      obtain ⟨a2, ea2, ma2, ka2, h⟩ := q_atE h
      refine q_putI X 3 ea2 ma2 ka2 rfl tW_X8 (by decide) (by decide) tF_X8_28 tyX8 tyX8_ok nmX8 rfl (tyX8_ok 3 (by decide)) rfl rfl rfl dX8_load_65 ?_
      have ma2 : a2 ∈ q_L (q_sI (S) a2 3 (l1)) := q_LsI ma2
      have ka2 : q_K (q_sI (S) a2 3 (l1)) a2 = 9 := q_KsI ka2
      refine q_aload_n X 0 rfl dX8_load_68 ?_
      refine q_getI X 3 ea2 ma2 ka2 rfl tW_X8 (by decide) (by decide) tF_X8_28 rfl dX8_load_69 ?_
      obtain ⟨ev, eS⟩ := q_end h
      exact q_iret X hr hl rfl ev eS dX8_load_72
    · rw [if_neg g1] at h
      refine q_aload_n X 0 rfl dX8_load_45 ?_
      refine q_iload_n X 2 rfl dX8_load_46 ?_
      obtain ⟨a3, ea3, ma3, ka3, h⟩ := q_atE h
      obtain ⟨r4, S5, c6, h⟩ := q_bE h
      refine q_cVI X (As := [.int (l2)]) ea3 ma3 ka3 rfl (by decide) (c_X8_loadEntry c6) (q_cwV X tK_X8_loadEntry tM_X8_73 tI_X8_loadEntry tV_X8_loadEntry tN_X8 rfl rfl tD_X8_loadEntry ⟨Nat.le_of_ble_eq_true rfl, Nat.le_of_ble_eq_true rfl⟩) rfl rfl (by first | exact Nat.le_of_ble_eq_true rfl | (simp only [List.map, q_catR]; exact Nat.le_of_ble_eq_true rfl)) ⟨Nat.zero_le _, Nat.zero_le _⟩ dX8_load_47 ?_
      refine q_if_ne X 57 (by decide) dX8_load_50 (fun g7 => ?_) (fun g7 => ?_)
      · rw [if_neg g7] at h
        refine q_iinc X 2 2 (l2 + (1)) [(2, .int (l2 + (1))), (0, va_rf (l0)), (1, .int (l1))] rfl (congrArg (fun z => l2 + z) (show Int32.ofInt (1) = (1) by decide)) (by decide) (by first | rfl | simp [List.filter, q_catR]) dX8_load_57 ?_
        refine q_goto X 40 (by decide) dX8_load_60 ?_
        refine q_lv [1, 2, 0] rfl ?_
        exact ih _ _ _ _ h
      · rw [if_pos g7] at h
        refine q_iconst X (-1) (by decide) dX8_load_53 ?_
        refine q_iload_n X 2 rfl dX8_load_54 ?_
        refine q_isub X dX8_load_55 ?_
        obtain ⟨ev, eS⟩ := q_end h
        exact q_iret X hr hl rfl ev eS dX8_load_56
def m_X8_load (n : Nat) (S : q_S) (o : Nat)  : Option (Int32 × q_S) := q_at (S) (some o) 9 (fun a1 => q_at (q_sI (S) a1 3 ((0 : Int32))) (q_R (q_sI (S) a1 3 ((0 : Int32))) a1 0) 5 (fun a2 => q_b (m_X4_size n (q_sI (S) a1 3 ((0 : Int32))) a2) (fun r3 S4 => (if (12 : Int32) ≤ r3 then q_at (S4) (some o) 9 (fun a7 => q_at (S4) (q_R (S4) a7 0) 5 (fun a8 => q_b (m_X4_two n (S4) a8 ((4 : Int64)) ((12 : Int64))) (fun r9 S10 => q_b (m_J9_min_7cf53 n (S10) (r9) ((24 : Int32))) (fun r12 S13 => m_X8_load_40 n n (S13) (some o) (r12) ((0 : Int32)))))) else some ((-1 : Int32), S4)))))
set_option maxHeartbeats 4000000 in
set_option maxRecDepth 100000 in
theorem w_X8_load (X : q_X p s m args c cX8_load 3 RX8 q_T D cy A) (hr : meth.sig.returnType = (some .int)) (hl : meth.locks = false)  {n : Nat} {S Sv : q_S} {rv : Int32} {o : Nat}  (h : m_X8_load n S o = some (rv, Sv)) : q_W p l e ({ frames := 2, cells := 0, slots := 0, locals := 55 } : Room) s m args below meth c (MQ below (va_Qi (fun (r : Int32) (u : q_S) => r = rv ∧ u = Sv) (q_B D cy A) A) args s 0 0 A) A D cy 3 0 0 S 0 [(0, va_rf (some o))] [] := by
  unfold m_X8_load at h
  refine q_aload_n X 0 rfl dX8_load_0 ?_
  refine q_iconst X (0) (by decide) dX8_load_1 ?_
  obtain ⟨a1, ea1, ma1, ka1, h⟩ := q_atE h
  refine q_putI X 3 ea1 ma1 ka1 rfl tW_X8 (by decide) (by decide) tF_X8_28 tyX8 tyX8_ok nmX8 rfl (tyX8_ok 3 (by decide)) rfl rfl rfl dX8_load_2 ?_
  have ma1 : a1 ∈ q_L (q_sI (S) a1 3 ((0 : Int32))) := q_LsI ma1
  have ka1 : q_K (q_sI (S) a1 3 ((0 : Int32))) a1 = 9 := q_KsI ka1
  refine q_aload_n X 0 rfl dX8_load_5 ?_
  refine q_getR X 0 ea1 ma1 ka1 rfl tW_X8 (by decide) (by decide) tF_X8_17 rfl dX8_load_6 ?_
  obtain ⟨a2, ea2, ma2, ka2, h⟩ := q_atE h
  obtain ⟨r3, S4, c5, h⟩ := q_bE h
  refine q_cVI X (As := []) ea2 ma2 ka2 rfl (by decide) (c_X4_size c5) (q_cwV X tK_X4_size tM_X8_54 tI_X4_size tV_X4_size tN_X4 rfl rfl tD_X4_size ⟨Nat.le_of_ble_eq_true rfl, Nat.le_of_ble_eq_true rfl⟩) rfl rfl (by first | exact Nat.le_of_ble_eq_true rfl | (simp only [List.map, q_catR]; exact Nat.le_of_ble_eq_true rfl)) ⟨Nat.zero_le _, Nat.zero_le _⟩ dX8_load_9 ?_
  refine q_bipush X (12) (by decide) dX8_load_12 ?_
  refine q_icmp_ge X 19 (by decide) dX8_load_14 (fun g6 => ?_) (fun g6 => ?_)
  · rw [if_pos g6] at h
    refine q_aload_n X 0 rfl dX8_load_19 ?_
    obtain ⟨a7, ea7, ma7, ka7, h⟩ := q_atE h
    refine q_getR X 0 ea7 ma7 ka7 rfl tW_X8 (by decide) (by decide) tF_X8_17 rfl dX8_load_20 ?_
    refine q_ldc2_w X (4) tC_X8_59 dX8_load_23 ?_
    refine q_ldc2_w X (12) tC_X8_61 dX8_load_26 ?_
    obtain ⟨a8, ea8, ma8, ka8, h⟩ := q_atE h
    obtain ⟨r9, S10, c11, h⟩ := q_bE h
    refine q_cVI X (As := [.long ((4 : Int64)), .long ((12 : Int64))]) ea8 ma8 ka8 rfl (by decide) (c_X4_two c11) (q_cwV X tK_X4_two tM_X8_63 tI_X4_two tV_X4_two tN_X4 rfl rfl tD_X4_two ⟨Nat.le_of_ble_eq_true rfl, Nat.le_of_ble_eq_true rfl⟩) rfl rfl (by first | exact Nat.le_of_ble_eq_true rfl | (simp only [List.map, q_catR]; exact Nat.le_of_ble_eq_true rfl)) ⟨Nat.zero_le _, Nat.zero_le _⟩ dX8_load_29 ?_
    refine q_bipush X (24) (by decide) dX8_load_32 ?_
    obtain ⟨r12, S13, c14, h⟩ := q_bE h
    refine q_cSI X (As := [.int (r9), .int ((24 : Int32))]) (c_J9_min_7cf53 c14) (q_cwS X tK_J9_min_7cf53 tM_X8_67 tS_J9_min_7cf53 tN_J9 rfl rfl tD_J9_min_7cf53 ⟨Nat.le_of_ble_eq_true rfl, Nat.le_of_ble_eq_true rfl⟩) rfl rfl (by first | exact Nat.le_of_ble_eq_true rfl | (simp only [List.map, q_catR]; exact Nat.le_of_ble_eq_true rfl)) ⟨Nat.zero_le _, Nat.zero_le _⟩ dX8_load_34 ?_
    refine q_istore_n X 1 [(1, .int (r12)), (0, va_rf (some o))] rfl (by decide) (by first | rfl | simp [List.filter, q_catR]) dX8_load_37 ?_
    refine q_iconst X (0) (by decide) dX8_load_38 ?_
    refine q_istore_n X 2 [(2, .int ((0 : Int32))), (1, .int (r12)), (0, va_rf (some o))] rfl (by decide) (by first | rfl | simp [List.filter, q_catR]) dX8_load_39 ?_
    refine q_lv [2, 1, 0] rfl ?_
    exact w_X8_load_40 X hr hl n _ _ _ _ h
  · rw [if_neg g6] at h
    refine q_iconst X (-1) (by decide) dX8_load_17 ?_
    obtain ⟨ev, eS⟩ := q_end h
    exact q_iret X hr hl rfl ev eS dX8_load_18
theorem tD_X8_load : yX8_load.cls ≠ "java/lang/invoke/MethodHandle" ∧ yX8_load.cls ≠ "java/lang/invoke/VarHandle" ∧ (parseMethodDescriptor yX8_load.desc).map (fun d => d.parameters.length) = some 0 := by decide +kernel
theorem c_X8_load {l : Launch} {D : va_G} {cy : Nat → ClassId} {n : Nat} {S Sv : q_S} {rv : Int32} {o : Nat}  (h : m_X8_load n S o = some (rv, Sv)) : q_MI l yX8_load (q_ws yX8_load cX8_load 3 ((some .int))) ({ frames := 2, cells := 0, slots := 0, locals := 55 } : Room) D cy [.ref o] S rv Sv := by
  exact q_MI_of (by decide +kernel) (Nat.le_of_ble_eq_true rfl) (fun p e s m args below meth c A X hr hl => w_X8_load X hr hl h)
/-! TrueOutlines$Tables.totalOf(I)J -/
def m_X8_totalOf_21 (n : Nat) (S : q_S) (s0 : Int32) (s1 : Option Nat) : Option (Int64 × q_S) := q_at (S) (s1) 8 (fun a1 => q_b (m_X7_total n (S) a1 (s0)) (fun r2 S3 => some (r2, S3)))
set_option maxHeartbeats 4000000 in
set_option maxRecDepth 100000 in
theorem w_X8_totalOf_21 (X : q_X p s m args c cX8_totalOf 2 RX8 q_T D cy A) (hr : meth.sig.returnType = (some .long)) (hl : meth.locks = false)  {n : Nat} {Sv : q_S} {rv : Int64}  (S : q_S) (s0 : Int32) (s1 : Option Nat) (h : m_X8_totalOf_21 n S s0 s1 = some (rv, Sv)) : q_W p l e ({ frames := 3, cells := 0, slots := 0, locals := 71 } : Room) s m args below meth c (MQ below (va_Ql (fun (r : Int64) (u : q_S) => r = rv ∧ u = Sv) (q_B D cy A) A) args s 0 0 A) A D cy 2 0 0 S 21 [] [.int (s0), va_rf (s1)] := by
  unfold m_X8_totalOf_21 at h
  obtain ⟨a1, ea1, ma1, ka1, h⟩ := q_atE h
  obtain ⟨r2, S3, c4, h⟩ := q_bE h
  refine q_cVJ X (As := [.int (s0)]) ea1 ma1 ka1 rfl (by decide) (c_X7_total c4) (q_cwV X tK_X7_total tM_X8_50 tI_X7_total tV_X7_total tN_X7 rfl rfl tD_X7_total ⟨Nat.le_of_ble_eq_true rfl, Nat.le_of_ble_eq_true rfl⟩) rfl rfl (by first | exact Nat.le_of_ble_eq_true rfl | (simp only [List.map, q_catR]; exact Nat.le_of_ble_eq_true rfl)) ⟨Nat.zero_le _, Nat.zero_le _⟩ dX8_totalOf_21 ?_
  obtain ⟨ev, eS⟩ := q_end h
  exact q_lret X hr hl ev eS dX8_totalOf_24
def m_X8_totalOf (n : Nat) (S : q_S) (o : Nat) (p0 : Int32) : Option (Int64 × q_S) := q_at (S) (some o) 9 (fun a1 => q_b (m_X8_get n (S) a1 (p0)) (fun r2 S3 => q_at (S3) (some o) 9 (fun a5 => q_b (m_X8_indexOf n (S3) a5 ((1751474532 : Int64))) (fun r6 S7 => (if p0 = r6 then m_X8_totalOf_21 n (S7) ((1 : Int32)) (some r2) else m_X8_totalOf_21 n (S7) ((0 : Int32)) (some r2))))))
set_option maxHeartbeats 4000000 in
set_option maxRecDepth 100000 in
theorem w_X8_totalOf (X : q_X p s m args c cX8_totalOf 2 RX8 q_T D cy A) (hr : meth.sig.returnType = (some .long)) (hl : meth.locks = false)  {n : Nat} {S Sv : q_S} {rv : Int64} {o : Nat} {p0 : Int32} (h : m_X8_totalOf n S o p0 = some (rv, Sv)) : q_W p l e ({ frames := 3, cells := 0, slots := 0, locals := 71 } : Room) s m args below meth c (MQ below (va_Ql (fun (r : Int64) (u : q_S) => r = rv ∧ u = Sv) (q_B D cy A) A) args s 0 0 A) A D cy 2 0 0 S 0 [(0, va_rf (some o)), (1, .int (p0))] [] := by
  unfold m_X8_totalOf at h
  refine q_aload_n X 0 rfl dX8_totalOf_0 ?_
  refine q_iload_n X 1 rfl dX8_totalOf_1 ?_
  obtain ⟨a1, ea1, ma1, ka1, h⟩ := q_atE h
  obtain ⟨r2, S3, c4, h⟩ := q_bE h
  refine q_cVR X (As := [.int (p0)]) ea1 ma1 ka1 rfl (by decide) (c_X8_get c4) (q_cwV X tK_X8_get tM_X8_44 tI_X8_get tV_X8_get tN_X8 rfl rfl tD_X8_get ⟨Nat.le_of_ble_eq_true rfl, Nat.le_of_ble_eq_true rfl⟩) rfl rfl (by first | exact Nat.le_of_ble_eq_true rfl | (simp only [List.map, q_catR]; exact Nat.le_of_ble_eq_true rfl)) ⟨Nat.zero_le _, Nat.zero_le _⟩ dX8_totalOf_2 ?_
  refine q_iload_n X 1 rfl dX8_totalOf_5 ?_
  refine q_aload_n X 0 rfl dX8_totalOf_6 ?_
  refine q_ldc2_w X (1751474532) tC_X8_48 dX8_totalOf_7 ?_
  obtain ⟨a5, ea5, ma5, ka5, h⟩ := q_atE h
  obtain ⟨r6, S7, c8, h⟩ := q_bE h
  refine q_cVI X (As := [.long ((1751474532 : Int64))]) ea5 ma5 ka5 rfl (by decide) (c_X8_indexOf c8) (q_cwV X tK_X8_indexOf tM_X8_40 tI_X8_indexOf tV_X8_indexOf tN_X8 rfl rfl tD_X8_indexOf ⟨Nat.le_of_ble_eq_true rfl, Nat.le_of_ble_eq_true rfl⟩) rfl rfl (by first | exact Nat.le_of_ble_eq_true rfl | (simp only [List.map, q_catR]; exact Nat.le_of_ble_eq_true rfl)) ⟨Nat.zero_le _, Nat.zero_le _⟩ dX8_totalOf_10 ?_
  refine q_icmp_ne X 20 (by decide) dX8_totalOf_13 (fun g9 => ?_) (fun g9 => ?_)
  · rw [if_neg g9] at h
    refine q_iconst X (0) (by decide) dX8_totalOf_20 ?_
    refine q_lv [] rfl ?_
    exact w_X8_totalOf_21 X hr hl _ _ _ h
  · rw [if_pos g9] at h
    refine q_iconst X (1) (by decide) dX8_totalOf_16 ?_
    refine q_goto X 21 (by decide) dX8_totalOf_17 ?_
    refine q_lv [] rfl ?_
    exact w_X8_totalOf_21 X hr hl _ _ _ h
theorem tD_X8_totalOf : yX8_totalOf.cls ≠ "java/lang/invoke/MethodHandle" ∧ yX8_totalOf.cls ≠ "java/lang/invoke/VarHandle" ∧ (parseMethodDescriptor yX8_totalOf.desc).map (fun d => d.parameters.length) = some 1 := by decide +kernel
theorem c_X8_totalOf {l : Launch} {D : va_G} {cy : Nat → ClassId} {n : Nat} {S Sv : q_S} {rv : Int64} {o : Nat} {p0 : Int32} (h : m_X8_totalOf n S o p0 = some (rv, Sv)) : q_MJ l yX8_totalOf (q_ws yX8_totalOf cX8_totalOf 2 ((some .long))) ({ frames := 3, cells := 0, slots := 0, locals := 71 } : Room) D cy [.ref o, .int (p0)] S rv Sv := by
  exact q_MJ_of (by decide +kernel) (Nat.le_of_ble_eq_true rfl) (fun p e s m args below meth c A X hr hl => w_X8_totalOf X hr hl h)
/-! TrueOutlines$Telling.isFull()Z -/
def m_X9_isFull_14 (n : Nat) (S : q_S) (s0 : Int32) : Option (Int32 × q_S) := q_if (s0 = 0 ∨ s0 = 1) (some (s0, S))
set_option maxHeartbeats 4000000 in
set_option maxRecDepth 100000 in
theorem w_X9_isFull_14 (X : q_X p s m args c cX9_isFull 1 RX9 q_T D cy A) (hr : meth.sig.returnType = (some .boolean)) (hl : meth.locks = false)  {n : Nat} {Sv : q_S} {rv : Int32}  (S : q_S) (s0 : Int32) (h : m_X9_isFull_14 n S s0 = some (rv, Sv)) : q_W p l e ({ frames := 0, cells := 0, slots := 0, locals := 0 } : Room) s m args below meth c (MQ below (va_Qi (fun (r : Int32) (u : q_S) => r = rv ∧ u = Sv) (q_B D cy A) A) args s 0 0 A) A D cy 1 0 0 S 14 [] [.int (s0)] := by
  unfold m_X9_isFull_14 at h
  obtain ⟨g1, h⟩ := q_ifE h
  obtain ⟨ev, eS⟩ := q_end h
  exact q_iret X hr hl (q_bool g1) ev eS dX9_isFull_14
def m_X9_isFull (n : Nat) (S : q_S) (o : Nat)  : Option (Int32 × q_S) := q_at (S) (some o) 10 (fun a1 => (if (q_I (S) a1 2) < (100 : Int32) then m_X9_isFull_14 n (S) ((0 : Int32)) else m_X9_isFull_14 n (S) ((1 : Int32))))
set_option maxHeartbeats 4000000 in
set_option maxRecDepth 100000 in
theorem w_X9_isFull (X : q_X p s m args c cX9_isFull 1 RX9 q_T D cy A) (hr : meth.sig.returnType = (some .boolean)) (hl : meth.locks = false)  {n : Nat} {S Sv : q_S} {rv : Int32} {o : Nat}  (h : m_X9_isFull n S o = some (rv, Sv)) : q_W p l e ({ frames := 0, cells := 0, slots := 0, locals := 0 } : Room) s m args below meth c (MQ below (va_Qi (fun (r : Int32) (u : q_S) => r = rv ∧ u = Sv) (q_B D cy A) A) args s 0 0 A) A D cy 1 0 0 S 0 [(0, va_rf (some o))] [] := by
  unfold m_X9_isFull at h
  refine q_aload_n X 0 rfl dX9_isFull_0 ?_
  obtain ⟨a1, ea1, ma1, ka1, h⟩ := q_atE h
  refine q_getI X 2 ea1 ma1 ka1 rfl tW_X9 (by decide) (by decide) tF_X9_18 rfl dX9_isFull_1 ?_
  refine q_bipush X (100) (by decide) dX9_isFull_4 ?_
  refine q_icmp_lt X 13 (by decide) dX9_isFull_6 (fun g2 => ?_) (fun g2 => ?_)
  · rw [if_pos g2] at h
    refine q_iconst X (0) (by decide) dX9_isFull_13 ?_
    refine q_lv [] rfl ?_
    exact w_X9_isFull_14 X hr hl _ _ h
  · rw [if_neg g2] at h
    refine q_iconst X (1) (by decide) dX9_isFull_9 ?_
    refine q_goto X 14 (by decide) dX9_isFull_10 ?_
    refine q_lv [] rfl ?_
    exact w_X9_isFull_14 X hr hl _ _ h
theorem tD_X9_isFull : yX9_isFull.cls ≠ "java/lang/invoke/MethodHandle" ∧ yX9_isFull.cls ≠ "java/lang/invoke/VarHandle" ∧ (parseMethodDescriptor yX9_isFull.desc).map (fun d => d.parameters.length) = some 0 := by decide +kernel
theorem c_X9_isFull {l : Launch} {D : va_G} {cy : Nat → ClassId} {n : Nat} {S Sv : q_S} {rv : Int32} {o : Nat}  (h : m_X9_isFull n S o = some (rv, Sv)) : q_MI l yX9_isFull (q_ws yX9_isFull cX9_isFull 1 ((some .boolean))) ({ frames := 0, cells := 0, slots := 0, locals := 0 } : Room) D cy [.ref o] S rv Sv := by
  exact q_MI_of (by decide +kernel) (Nat.le_of_ble_eq_true rfl) (fun p e s m args below meth c A X hr hl => w_X9_isFull X hr hl h)
/-! TrueOutlines$Telling.tell(II)V -/
def m_X9_tell_37 (n : Nat) (S : q_S) : Option (Unit × q_S) := some ((), S)
set_option maxHeartbeats 4000000 in
set_option maxRecDepth 100000 in
theorem w_X9_tell_37 (X : q_X p s m args c cX9_tell 3 RX9 q_T D cy A) (hr : meth.sig.returnType = none) (hl : meth.locks = false)  {n : Nat} {Sv : q_S}  (S : q_S) (h : m_X9_tell_37 n S = some ((), Sv)) : q_W p l e ({ frames := 1, cells := 0, slots := 0, locals := 20 } : Room) s m args below meth c (MQ below (va_Qv (fun (u : q_S) => u = Sv) (q_B D cy A) A) args s 0 0 A) A D cy 3 0 0 S 37 [] [] := by
  unfold m_X9_tell_37 at h
  obtain ⟨ev, eS⟩ := q_end h
  exact q_vret X hr hl eS dX9_tell_37
def m_X9_tell (n : Nat) (S : q_S) (o : Nat) (p0 : Int32) (p1 : Int32) : Option (Unit × q_S) := q_at (S) (some o) 10 (fun a1 => q_b (m_X9_isFull n (S) a1) (fun r2 S3 => (if r2 = 0 then q_at (S3) (some o) 10 (fun a6 => q_at (S3) (q_R (S3) a6 0) 100 (fun a7 => q_if (q_in (q_I (S3) a6 2) (q_N (S3) a7) = true) (q_at (q_sI (S3) a7 (q_I (S3) a6 2).toNatClampNeg (p0)) (q_R (q_sI (S3) a7 (q_I (S3) a6 2).toNatClampNeg (p0)) a6 1) 100 (fun a9 => q_if (q_in (q_I (q_sI (S3) a7 (q_I (S3) a6 2).toNatClampNeg (p0)) a6 2) (q_N (q_sI (S3) a7 (q_I (S3) a6 2).toNatClampNeg (p0)) a9) = true) (q_let (q_sI (q_sI (S3) a7 (q_I (S3) a6 2).toNatClampNeg (p0)) a9 (q_I (q_sI (S3) a7 (q_I (S3) a6 2).toNatClampNeg (p0)) a6 2).toNatClampNeg (p1)) (fun S11 => m_X9_tell_37 n (q_sI (S11) a6 2 ((q_I (S11) a6 2) + (1 : Int32))))))))) else m_X9_tell_37 n (S3))))
set_option maxHeartbeats 4000000 in
set_option maxRecDepth 100000 in
theorem w_X9_tell (X : q_X p s m args c cX9_tell 3 RX9 q_T D cy A) (hr : meth.sig.returnType = none) (hl : meth.locks = false)  {n : Nat} {S Sv : q_S} {o : Nat} {p0 : Int32} {p1 : Int32} (h : m_X9_tell n S o p0 p1 = some ((), Sv)) : q_W p l e ({ frames := 1, cells := 0, slots := 0, locals := 20 } : Room) s m args below meth c (MQ below (va_Qv (fun (u : q_S) => u = Sv) (q_B D cy A) A) args s 0 0 A) A D cy 3 0 0 S 0 [(0, va_rf (some o)), (1, .int (p0)), (2, .int (p1))] [] := by
  unfold m_X9_tell at h
  refine q_aload_n X 0 rfl dX9_tell_0 ?_
  obtain ⟨a1, ea1, ma1, ka1, h⟩ := q_atE h
  obtain ⟨r2, S3, c4, h⟩ := q_bE h
  refine q_cVI X (As := []) ea1 ma1 ka1 rfl (by decide) (c_X9_isFull c4) (q_cwV X tK_X9_isFull tM_X9_22 tI_X9_isFull tV_X9_isFull tN_X9 rfl rfl tD_X9_isFull ⟨Nat.le_of_ble_eq_true rfl, Nat.le_of_ble_eq_true rfl⟩) rfl rfl (by first | exact Nat.le_of_ble_eq_true rfl | (simp only [List.map, q_catR]; exact Nat.le_of_ble_eq_true rfl)) ⟨Nat.zero_le _, Nat.zero_le _⟩ dX9_tell_1 ?_
  refine q_if_ne X 37 (by decide) dX9_tell_4 (fun g5 => ?_) (fun g5 => ?_)
  · rw [if_neg g5] at h
    refine q_lv [] rfl ?_
    exact w_X9_tell_37 X hr hl _ h
  · rw [if_pos g5] at h
    refine q_aload_n X 0 rfl dX9_tell_7 ?_
    obtain ⟨a6, ea6, ma6, ka6, h⟩ := q_atE h
    refine q_getR X 0 ea6 ma6 ka6 rfl tW_X9 (by decide) (by decide) tF_X9_9 rfl dX9_tell_8 ?_
    refine q_aload_n X 0 rfl dX9_tell_11 ?_
    refine q_getI X 2 ea6 ma6 ka6 rfl tW_X9 (by decide) (by decide) tF_X9_18 rfl dX9_tell_12 ?_
    refine q_iload_n X 1 rfl dX9_tell_15 ?_
    obtain ⟨a7, ea7, ma7, ka7, h⟩ := q_atE h
    obtain ⟨g8, h⟩ := q_ifE h
    refine q_iastore X ea7 ma7 ka7 (q_inE g8) dX9_tell_16 ?_
    have ma6 : a6 ∈ q_L (q_sI (S3) a7 (q_I (S3) a6 2).toNatClampNeg (p0)) := q_LsI ma6
    have ka6 : q_K (q_sI (S3) a7 (q_I (S3) a6 2).toNatClampNeg (p0)) a6 = 10 := q_KsI ka6
    have ma7 : a7 ∈ q_L (q_sI (S3) a7 (q_I (S3) a6 2).toNatClampNeg (p0)) := q_LsI ma7
    have ka7 : q_K (q_sI (S3) a7 (q_I (S3) a6 2).toNatClampNeg (p0)) a7 = 100 := q_KsI ka7
    refine q_aload_n X 0 rfl dX9_tell_17 ?_
    refine q_getR X 1 ea6 ma6 ka6 rfl tW_X9 (by decide) (by decide) tF_X9_15 rfl dX9_tell_18 ?_
    refine q_aload_n X 0 rfl dX9_tell_21 ?_
    refine q_getI X 2 ea6 ma6 ka6 rfl tW_X9 (by decide) (by decide) tF_X9_18 rfl dX9_tell_22 ?_
    refine q_iload_n X 2 rfl dX9_tell_25 ?_
    obtain ⟨a9, ea9, ma9, ka9, h⟩ := q_atE h
    obtain ⟨g10, h⟩ := q_ifE h
    refine q_iastore X ea9 ma9 ka9 (q_inE g10) dX9_tell_26 ?_
    have ma6 : a6 ∈ q_L (q_sI (q_sI (S3) a7 (q_I (S3) a6 2).toNatClampNeg (p0)) a9 (q_I (q_sI (S3) a7 (q_I (S3) a6 2).toNatClampNeg (p0)) a6 2).toNatClampNeg (p1)) := q_LsI ma6
    have ka6 : q_K (q_sI (q_sI (S3) a7 (q_I (S3) a6 2).toNatClampNeg (p0)) a9 (q_I (q_sI (S3) a7 (q_I (S3) a6 2).toNatClampNeg (p0)) a6 2).toNatClampNeg (p1)) a6 = 10 := q_KsI ka6
    have ma7 : a7 ∈ q_L (q_sI (q_sI (S3) a7 (q_I (S3) a6 2).toNatClampNeg (p0)) a9 (q_I (q_sI (S3) a7 (q_I (S3) a6 2).toNatClampNeg (p0)) a6 2).toNatClampNeg (p1)) := q_LsI ma7
    have ka7 : q_K (q_sI (q_sI (S3) a7 (q_I (S3) a6 2).toNatClampNeg (p0)) a9 (q_I (q_sI (S3) a7 (q_I (S3) a6 2).toNatClampNeg (p0)) a6 2).toNatClampNeg (p1)) a7 = 100 := q_KsI ka7
    have ma9 : a9 ∈ q_L (q_sI (q_sI (S3) a7 (q_I (S3) a6 2).toNatClampNeg (p0)) a9 (q_I (q_sI (S3) a7 (q_I (S3) a6 2).toNatClampNeg (p0)) a6 2).toNatClampNeg (p1)) := q_LsI ma9
    have ka9 : q_K (q_sI (q_sI (S3) a7 (q_I (S3) a6 2).toNatClampNeg (p0)) a9 (q_I (q_sI (S3) a7 (q_I (S3) a6 2).toNatClampNeg (p0)) a6 2).toNatClampNeg (p1)) a9 = 100 := q_KsI ka9
    obtain ⟨S11, eS11, h⟩ := q_letE h
    refine q_sub eS11 ?_
    have ma6 : a6 ∈ q_L S11 := by rw [eS11]; exact ma6
    have ka6 : q_K S11 a6 = 10 := by rw [eS11]; exact ka6
    have ma7 : a7 ∈ q_L S11 := by rw [eS11]; exact ma7
    have ka7 : q_K S11 a7 = 100 := by rw [eS11]; exact ka7
    have ma9 : a9 ∈ q_L S11 := by rw [eS11]; exact ma9
    have ka9 : q_K S11 a9 = 100 := by rw [eS11]; exact ka9
    refine q_aload_n X 0 rfl dX9_tell_27 ?_
    refine q_dup X (q_catR _) dX9_tell_28 ?_
    refine q_getI X 2 ea6 ma6 ka6 rfl tW_X9 (by decide) (by decide) tF_X9_18 rfl dX9_tell_29 ?_
    refine q_iconst X (1) (by decide) dX9_tell_32 ?_
    refine q_iadd X dX9_tell_33 ?_
    refine q_putI X 2 ea6 ma6 ka6 rfl tW_X9 (by decide) (by decide) tF_X9_18 tyX9 tyX9_ok nmX9 rfl (tyX9_ok 2 (by decide)) rfl rfl rfl dX9_tell_34 ?_
    have ma6 : a6 ∈ q_L (q_sI (S11) a6 2 ((q_I (S11) a6 2) + (1 : Int32))) := q_LsI ma6
    have ka6 : q_K (q_sI (S11) a6 2 ((q_I (S11) a6 2) + (1 : Int32))) a6 = 10 := q_KsI ka6
    have ma7 : a7 ∈ q_L (q_sI (S11) a6 2 ((q_I (S11) a6 2) + (1 : Int32))) := q_LsI ma7
    have ka7 : q_K (q_sI (S11) a6 2 ((q_I (S11) a6 2) + (1 : Int32))) a7 = 100 := q_KsI ka7
    have ma9 : a9 ∈ q_L (q_sI (S11) a6 2 ((q_I (S11) a6 2) + (1 : Int32))) := q_LsI ma9
    have ka9 : q_K (q_sI (S11) a6 2 ((q_I (S11) a6 2) + (1 : Int32))) a9 = 100 := q_KsI ka9
    refine q_lv [] rfl ?_
    exact w_X9_tell_37 X hr hl _ h
theorem tD_X9_tell : yX9_tell.cls ≠ "java/lang/invoke/MethodHandle" ∧ yX9_tell.cls ≠ "java/lang/invoke/VarHandle" ∧ (parseMethodDescriptor yX9_tell.desc).map (fun d => d.parameters.length) = some 2 := by decide +kernel
theorem c_X9_tell {l : Launch} {D : va_G} {cy : Nat → ClassId} {n : Nat} {S Sv : q_S} {o : Nat} {p0 : Int32} {p1 : Int32} (h : m_X9_tell n S o p0 p1 = some ((), Sv)) : q_MV l yX9_tell (q_ws yX9_tell cX9_tell 3 (none)) ({ frames := 1, cells := 0, slots := 0, locals := 20 } : Room) D cy [.ref o, .int (p0), .int (p1)] S Sv := by
  exact q_MV_of (by decide +kernel) (Nat.le_of_ble_eq_true rfl) (fun p e s m args below meth c A X hr hl => w_X9_tell X hr hl h)
/-! TrueOutlines$Tables.tellWrongSums(LTrueOutlines$Telling;)V -/
def m_X8_tellWrongSums_34 (n : Nat) (k2 : q_S → Option Nat → Option Nat → Int32 → Option (Unit × q_S)) (S : q_S) (l0 : Option Nat) (l1 : Option Nat) (l2 : Int32) : Option (Unit × q_S) := k2 (S) (l0) (l1) (l2 + (1))
set_option maxHeartbeats 4000000 in
set_option maxRecDepth 100000 in
theorem w_X8_tellWrongSums_34 (X : q_X p s m args c cX8_tellWrongSums 3 RX8 q_T D cy A) (hr : meth.sig.returnType = none) (hl : meth.locks = false)  {n : Nat} {Sv : q_S}  {k2 : q_S → Option Nat → Option Nat → Int32 → Option (Unit × q_S)} (hk2 : ∀ (S : q_S) (z0 : Option Nat) (z1 : Option Nat) (z2 : Int32), k2 S z0 z1 z2 = some ((), Sv) → q_W p l e ({ frames := 4, cells := 0, slots := 0, locals := 92 } : Room) s m args below meth c (MQ below (va_Qv (fun (u : q_S) => u = Sv) (q_B D cy A) A) args s 0 0 A) A D cy 3 0 0 S 2 [(0, va_rf (z0)), (1, va_rf (z1)), (2, .int (z2))] []) (S : q_S) (l0 : Option Nat) (l1 : Option Nat) (l2 : Int32) (h : m_X8_tellWrongSums_34 n k2 S l0 l1 l2 = some ((), Sv)) : q_W p l e ({ frames := 4, cells := 0, slots := 0, locals := 92 } : Room) s m args below meth c (MQ below (va_Qv (fun (u : q_S) => u = Sv) (q_B D cy A) A) args s 0 0 A) A D cy 3 0 0 S 34 [(0, va_rf (l0)), (1, va_rf (l1)), (2, .int (l2))] [] := by
  unfold m_X8_tellWrongSums_34 at h
  refine q_iinc X 2 2 (l2 + (1)) [(2, .int (l2 + (1))), (0, va_rf (l0)), (1, va_rf (l1))] rfl (congrArg (fun z => l2 + z) (show Int32.ofInt (1) = (1) by decide)) (by decide) (by first | rfl | simp [List.filter, q_catR]) dX8_tellWrongSums_34 ?_
  refine q_goto X 2 (by decide) dX8_tellWrongSums_37 ?_
  refine q_lv [1, 2, 0] rfl ?_
  exact hk2 _ _ _ _ h
def m_X8_tellWrongSums_2 (n : Nat) : Nat → q_S → Option Nat → Option Nat → Int32 → Option (Unit × q_S)
  | 0, _, _, _, _ => none
  | k + 1, S, l0, l1, l2 => q_at (S) (l0) 9 (fun a1 => (if (q_I (S) a1 3) ≤ l2 then some ((), S) else q_b (m_X8_totalOf n (S) a1 (l2)) (fun r3 S4 => q_at (S4) (l0) 9 (fun a6 => q_at (S4) (q_R (S4) a6 1) 104 (fun a7 => q_if (q_in (l2) (q_N (S4) a7) = true) (q_at (S4) (q_R (S4) a7 (l2).toNatClampNeg) 8 (fun a9 => (if (lg_cmp (r3) ((q_J (S4) a9 2))) = 0 then m_X8_tellWrongSums_34 n (m_X8_tellWrongSums_2 n k) (S4) (l0) (l1) (l2) else q_at (S4) (l1) 10 (fun a11 => q_b (m_X9_tell n (S4) a11 ((2 : Int32)) (l2)) (fun _ S12 => m_X8_tellWrongSums_34 n (m_X8_tellWrongSums_2 n k) (S12) (l0) (l1) (l2)))))))))))
set_option maxHeartbeats 4000000 in
set_option maxRecDepth 100000 in
theorem w_X8_tellWrongSums_2 (X : q_X p s m args c cX8_tellWrongSums 3 RX8 q_T D cy A) (hr : meth.sig.returnType = none) (hl : meth.locks = false)  {n : Nat} {Sv : q_S}  : ∀ (k : Nat) (S : q_S) (l0 : Option Nat) (l1 : Option Nat) (l2 : Int32), m_X8_tellWrongSums_2 n k S l0 l1 l2 = some ((), Sv) → q_W p l e ({ frames := 4, cells := 0, slots := 0, locals := 92 } : Room) s m args below meth c (MQ below (va_Qv (fun (u : q_S) => u = Sv) (q_B D cy A) A) args s 0 0 A) A D cy 3 0 0 S 2 [(0, va_rf (l0)), (1, va_rf (l1)), (2, .int (l2))] [] := by
  intro k
  induction k with
  | zero => intro S l0 l1 l2 h; rw [m_X8_tellWrongSums_2] at h; cases h
  | succ k ih =>
    intro S l0 l1 l2 h
    rw [m_X8_tellWrongSums_2] at h
    refine q_iload_n X 2 rfl dX8_tellWrongSums_2 ?_
    refine q_aload_n X 0 rfl dX8_tellWrongSums_3 ?_
    obtain ⟨a1, ea1, ma1, ka1, h⟩ := q_atE h
    refine q_getI X 3 ea1 ma1 ka1 rfl tW_X8 (by decide) (by decide) tF_X8_28 rfl dX8_tellWrongSums_4 ?_
    refine q_icmp_ge X 40 (by decide) dX8_tellWrongSums_7 (fun g2 => ?_) (fun g2 => ?_)
    · rw [if_pos g2] at h
      obtain ⟨ev, eS⟩ := q_end h
      exact q_vret X hr hl eS dX8_tellWrongSums_40
    · rw [if_neg g2] at h
      refine q_aload_n X 0 rfl dX8_tellWrongSums_10 ?_
      refine q_iload_n X 2 rfl dX8_tellWrongSums_11 ?_
      obtain ⟨r3, S4, c5, h⟩ := q_bE h
      refine q_cVJ X (As := [.int (l2)]) ea1 ma1 ka1 rfl (by decide) (c_X8_totalOf c5) (q_cwV X tK_X8_totalOf tM_X8_86 tI_X8_totalOf tV_X8_totalOf tN_X8 rfl rfl tD_X8_totalOf ⟨Nat.le_of_ble_eq_true rfl, Nat.le_of_ble_eq_true rfl⟩) rfl rfl (by first | exact Nat.le_of_ble_eq_true rfl | (simp only [List.map, q_catR]; exact Nat.le_of_ble_eq_true rfl)) ⟨Nat.zero_le _, Nat.zero_le _⟩ dX8_tellWrongSums_12 ?_
      refine q_aload_n X 0 rfl dX8_tellWrongSums_15 ?_
      obtain ⟨a6, ea6, ma6, ka6, h⟩ := q_atE h
      refine q_getR X 1 ea6 ma6 ka6 rfl tW_X8 (by decide) (by decide) tF_X8_11 rfl dX8_tellWrongSums_16 ?_
      refine q_iload_n X 2 rfl dX8_tellWrongSums_19 ?_
      obtain ⟨a7, ea7, ma7, ka7, h⟩ := q_atE h
      obtain ⟨g8, h⟩ := q_ifE h
      refine q_taload X ea7 ma7 ka7 (q_inE g8) dX8_tellWrongSums_20 ?_
      obtain ⟨a9, ea9, ma9, ka9, h⟩ := q_atE h
      refine q_getJN X 2 ea9 ma9 ka9 rfl tW_X7 (by decide) (by decide) "TrueOutlines" tF_X8_90 rfl dX8_tellWrongSums_21 ?_
      refine q_lcmp X dX8_tellWrongSums_24 ?_
      refine q_if_eq X 34 (by decide) dX8_tellWrongSums_25 (fun g10 => ?_) (fun g10 => ?_)
      · rw [if_pos g10] at h
        exact w_X8_tellWrongSums_34 X hr hl ih _ _ _ _ h
      · rw [if_neg g10] at h
        refine q_aload_n X 1 rfl dX8_tellWrongSums_28 ?_
        refine q_iconst X (2) (by decide) dX8_tellWrongSums_29 ?_
        refine q_iload_n X 2 rfl dX8_tellWrongSums_30 ?_
        obtain ⟨a11, ea11, ma11, ka11, h⟩ := q_atE h
        obtain ⟨u14, S12, c13, h⟩ := q_bE h
        refine q_cVV X (As := [.int ((2 : Int32)), .int (l2)]) ea11 ma11 ka11 rfl (by decide) (c_X9_tell c13) (q_cwV X tK_X9_tell tM_X8_93 tI_X9_tell tV_X9_tell tN_X9 rfl rfl tD_X9_tell ⟨Nat.le_of_ble_eq_true rfl, Nat.le_of_ble_eq_true rfl⟩) rfl rfl (by first | exact Nat.le_of_ble_eq_true rfl | (simp only [List.map, q_catR]; exact Nat.le_of_ble_eq_true rfl)) ⟨Nat.zero_le _, Nat.zero_le _⟩ dX8_tellWrongSums_31 ?_
        exact w_X8_tellWrongSums_34 X hr hl ih _ _ _ _ h
def m_X8_tellWrongSums (n : Nat) (S : q_S) (o : Nat) (p0 : Option Nat) : Option (Unit × q_S) := m_X8_tellWrongSums_2 n n (S) (some o) (p0) ((0 : Int32))
set_option maxHeartbeats 4000000 in
set_option maxRecDepth 100000 in
theorem w_X8_tellWrongSums (X : q_X p s m args c cX8_tellWrongSums 3 RX8 q_T D cy A) (hr : meth.sig.returnType = none) (hl : meth.locks = false)  {n : Nat} {S Sv : q_S} {o : Nat} {p0 : Option Nat} (h : m_X8_tellWrongSums n S o p0 = some ((), Sv)) : q_W p l e ({ frames := 4, cells := 0, slots := 0, locals := 92 } : Room) s m args below meth c (MQ below (va_Qv (fun (u : q_S) => u = Sv) (q_B D cy A) A) args s 0 0 A) A D cy 3 0 0 S 0 [(0, va_rf (some o)), (1, va_rf (p0))] [] := by
  unfold m_X8_tellWrongSums at h
  refine q_iconst X (0) (by decide) dX8_tellWrongSums_0 ?_
  refine q_istore_n X 2 [(2, .int ((0 : Int32))), (0, va_rf (some o)), (1, va_rf (p0))] rfl (by decide) (by first | rfl | simp [List.filter, q_catR]) dX8_tellWrongSums_1 ?_
  refine q_lv [1, 2, 0] rfl ?_
  exact w_X8_tellWrongSums_2 X hr hl n _ _ _ _ h
theorem tD_X8_tellWrongSums : yX8_tellWrongSums.cls ≠ "java/lang/invoke/MethodHandle" ∧ yX8_tellWrongSums.cls ≠ "java/lang/invoke/VarHandle" ∧ (parseMethodDescriptor yX8_tellWrongSums.desc).map (fun d => d.parameters.length) = some 1 := by decide +kernel
theorem c_X8_tellWrongSums {l : Launch} {D : va_G} {cy : Nat → ClassId} {n : Nat} {S Sv : q_S} {o : Nat} {p0 : Option Nat} (h : m_X8_tellWrongSums n S o p0 = some ((), Sv)) : q_MV l yX8_tellWrongSums (q_ws yX8_tellWrongSums cX8_tellWrongSums 3 (none)) ({ frames := 4, cells := 0, slots := 0, locals := 92 } : Room) D cy [.ref o, va_rf (p0)] S Sv := by
  cases p0 <;> exact q_MV_of (by decide +kernel) (Nat.le_of_ble_eq_true rfl) (fun p e s m args below meth c A X hr hl => w_X8_tellWrongSums X hr hl h)
/-! TrueOutlines$Telling.clear()V -/
def m_X9_clear (n : Nat) (S : q_S) (o : Nat)  : Option (Unit × q_S) := q_at (S) (some o) 10 (fun a1 => some ((), q_sI (S) a1 2 ((0 : Int32))))
set_option maxHeartbeats 4000000 in
set_option maxRecDepth 100000 in
theorem w_X9_clear (X : q_X p s m args c cX9_clear 1 RX9 q_T D cy A) (hr : meth.sig.returnType = none) (hl : meth.locks = false)  {n : Nat} {S Sv : q_S} {o : Nat}  (h : m_X9_clear n S o = some ((), Sv)) : q_W p l e ({ frames := 0, cells := 0, slots := 0, locals := 0 } : Room) s m args below meth c (MQ below (va_Qv (fun (u : q_S) => u = Sv) (q_B D cy A) A) args s 0 0 A) A D cy 1 0 0 S 0 [(0, va_rf (some o))] [] := by
  unfold m_X9_clear at h
  refine q_aload_n X 0 rfl dX9_clear_0 ?_
  refine q_iconst X (0) (by decide) dX9_clear_1 ?_
  obtain ⟨a1, ea1, ma1, ka1, h⟩ := q_atE h
  refine q_putI X 2 ea1 ma1 ka1 rfl tW_X9 (by decide) (by decide) tF_X9_18 tyX9 tyX9_ok nmX9 rfl (tyX9_ok 2 (by decide)) rfl rfl rfl dX9_clear_2 ?_
  have ma1 : a1 ∈ q_L (q_sI (S) a1 2 ((0 : Int32))) := q_LsI ma1
  have ka1 : q_K (q_sI (S) a1 2 ((0 : Int32))) a1 = 10 := q_KsI ka1
  obtain ⟨ev, eS⟩ := q_end h
  exact q_vret X hr hl eS dX9_clear_5
theorem tD_X9_clear : yX9_clear.cls ≠ "java/lang/invoke/MethodHandle" ∧ yX9_clear.cls ≠ "java/lang/invoke/VarHandle" ∧ (parseMethodDescriptor yX9_clear.desc).map (fun d => d.parameters.length) = some 0 := by decide +kernel
theorem c_X9_clear {l : Launch} {D : va_G} {cy : Nat → ClassId} {n : Nat} {S Sv : q_S} {o : Nat}  (h : m_X9_clear n S o = some ((), Sv)) : q_MV l yX9_clear (q_ws yX9_clear cX9_clear 1 (none)) ({ frames := 0, cells := 0, slots := 0, locals := 0 } : Room) D cy [.ref o] S Sv := by
  exact q_MV_of (by decide +kernel) (Nat.le_of_ble_eq_true rfl) (fun p e s m args below meth c A X hr hl => w_X9_clear X hr hl h)
/-! TrueOutlines.read()I -/
def m_X11_read (n : Nat) (S : q_S) (o : Nat)  : Option (Int32 × q_S) := q_at (S) (some o) 12 (fun a1 => q_at (S) (q_R (S) a1 1) 10 (fun a2 => q_b (m_X9_clear n (S) a2) (fun _ S3 => q_at (S3) (some o) 12 (fun a6 => q_at (S3) (q_R (S3) a6 2) 9 (fun a7 => q_b (m_X8_load n (S3) a7) (fun r8 S9 => q_at (S9) (some o) 12 (fun a11 => q_at (S9) (q_R (S9) a11 2) 9 (fun a12 => q_b (m_X8_tellWrongSums n (S9) a12 (q_R (S9) a11 1)) (fun _ S13 => q_at (S13) (some o) 12 (fun a16 => q_at (S13) (q_R (S13) a16 3) 7 (fun a17 => q_b (m_X6_load n (S13) a17) (fun _ S18 => q_at (S18) (some o) 12 (fun a21 => q_at (S18) (q_R (S18) a21 5) 6 (fun a22 => q_b (m_X5_survey n (S18) a22) (fun _ S23 => some (r8, S23))))))))))))))))
set_option maxHeartbeats 4000000 in
set_option maxRecDepth 100000 in
theorem w_X11_read (X : q_X p s m args c cX11_read 2 RX11 q_T D cy A) (hr : meth.sig.returnType = (some .int)) (hl : meth.locks = false)  {n : Nat} {S Sv : q_S} {rv : Int32} {o : Nat}  (h : m_X11_read n S o = some (rv, Sv)) : q_W p l e ({ frames := 7, cells := 0, slots := 0, locals := 163 } : Room) s m args below meth c (MQ below (va_Qi (fun (r : Int32) (u : q_S) => r = rv ∧ u = Sv) (q_B D cy A) A) args s 0 0 A) A D cy 2 0 0 S 0 [(0, va_rf (some o))] [] := by
  unfold m_X11_read at h
  refine q_aload_n X 0 rfl dX11_read_0 ?_
  obtain ⟨a1, ea1, ma1, ka1, h⟩ := q_atE h
  refine q_getR X 1 ea1 ma1 ka1 rfl tW_X11 (by decide) (by decide) tF_X11_21 rfl dX11_read_1 ?_
  obtain ⟨a2, ea2, ma2, ka2, h⟩ := q_atE h
  obtain ⟨u5, S3, c4, h⟩ := q_bE h
  refine q_cVV X (As := []) ea2 ma2 ka2 rfl (by decide) (c_X9_clear c4) (q_cwV X tK_X9_clear tM_X11_85 tI_X9_clear tV_X9_clear tN_X9 rfl rfl tD_X9_clear ⟨Nat.le_of_ble_eq_true rfl, Nat.le_of_ble_eq_true rfl⟩) rfl rfl (by first | exact Nat.le_of_ble_eq_true rfl | (simp only [List.map, q_catR]; exact Nat.le_of_ble_eq_true rfl)) ⟨Nat.zero_le _, Nat.zero_le _⟩ dX11_read_4 ?_
  refine q_aload_n X 0 rfl dX11_read_7 ?_
  obtain ⟨a6, ea6, ma6, ka6, h⟩ := q_atE h
  refine q_getR X 2 ea6 ma6 ka6 rfl tW_X11 (by decide) (by decide) tF_X11_30 rfl dX11_read_8 ?_
  obtain ⟨a7, ea7, ma7, ka7, h⟩ := q_atE h
  obtain ⟨r8, S9, c10, h⟩ := q_bE h
  refine q_cVI X (As := []) ea7 ma7 ka7 rfl (by decide) (c_X8_load c10) (q_cwV X tK_X8_load tM_X11_88 tI_X8_load tV_X8_load tN_X8 rfl rfl tD_X8_load ⟨Nat.le_of_ble_eq_true rfl, Nat.le_of_ble_eq_true rfl⟩) rfl rfl (by first | exact Nat.le_of_ble_eq_true rfl | (simp only [List.map, q_catR]; exact Nat.le_of_ble_eq_true rfl)) ⟨Nat.zero_le _, Nat.zero_le _⟩ dX11_read_11 ?_
  refine q_istore_n X 1 [(1, .int (r8)), (0, va_rf (some o))] rfl (by decide) (by first | rfl | simp [List.filter, q_catR]) dX11_read_14 ?_
  refine q_aload_n X 1 rfl dX11_read_15 ?_
  obtain ⟨a11, ea11, ma11, ka11, h⟩ := q_atE h
  refine q_getR X 2 ea11 ma11 ka11 rfl tW_X11 (by decide) (by decide) tF_X11_30 rfl dX11_read_16 ?_
  refine q_aload_n X 1 rfl dX11_read_19 ?_
  refine q_getR X 1 ea11 ma11 ka11 rfl tW_X11 (by decide) (by decide) tF_X11_21 rfl dX11_read_20 ?_
  obtain ⟨a12, ea12, ma12, ka12, h⟩ := q_atE h
  obtain ⟨u15, S13, c14, h⟩ := q_bE h
  refine q_cVV X (As := [va_rf (q_R (S9) a11 1)]) ea12 ma12 ka12 rfl (by decide) (c_X8_tellWrongSums c14) (q_cwV X tK_X8_tellWrongSums tM_X11_91 tI_X8_tellWrongSums tV_X8_tellWrongSums tN_X8 rfl rfl tD_X8_tellWrongSums ⟨Nat.le_of_ble_eq_true rfl, Nat.le_of_ble_eq_true rfl⟩) rfl rfl (by first | exact Nat.le_of_ble_eq_true rfl | (simp only [List.map, q_catR]; exact Nat.le_of_ble_eq_true rfl)) ⟨Nat.zero_le _, Nat.zero_le _⟩ dX11_read_23 ?_
  refine q_aload_n X 1 rfl dX11_read_26 ?_
  obtain ⟨a16, ea16, ma16, ka16, h⟩ := q_atE h
  refine q_getR X 3 ea16 ma16 ka16 rfl tW_X11 (by decide) (by decide) tF_X11_39 rfl dX11_read_27 ?_
  obtain ⟨a17, ea17, ma17, ka17, h⟩ := q_atE h
  obtain ⟨u20, S18, c19, h⟩ := q_bE h
  refine q_cVV X (As := []) ea17 ma17 ka17 rfl (by decide) (c_X6_load c19) (q_cwV X tK_X6_load tM_X11_95 tI_X6_load tV_X6_load tN_X6 rfl rfl tD_X6_load ⟨Nat.le_of_ble_eq_true rfl, Nat.le_of_ble_eq_true rfl⟩) rfl rfl (by first | exact Nat.le_of_ble_eq_true rfl | (simp only [List.map, q_catR]; exact Nat.le_of_ble_eq_true rfl)) ⟨Nat.zero_le _, Nat.zero_le _⟩ dX11_read_30 ?_
  refine q_aload_n X 1 rfl dX11_read_33 ?_
  obtain ⟨a21, ea21, ma21, ka21, h⟩ := q_atE h
  refine q_getR X 5 ea21 ma21 ka21 rfl tW_X11 (by decide) (by decide) tF_X11_57 rfl dX11_read_34 ?_
  obtain ⟨a22, ea22, ma22, ka22, h⟩ := q_atE h
  obtain ⟨u25, S23, c24, h⟩ := q_bE h
  refine q_cVV X (As := []) ea22 ma22 ka22 rfl (by decide) (c_X5_survey c24) (q_cwV X tK_X5_survey tM_X11_97 tI_X5_survey tV_X5_survey tN_X5 rfl rfl tD_X5_survey ⟨Nat.le_of_ble_eq_true rfl, Nat.le_of_ble_eq_true rfl⟩) rfl rfl (by first | exact Nat.le_of_ble_eq_true rfl | (simp only [List.map, q_catR]; exact Nat.le_of_ble_eq_true rfl)) ⟨Nat.zero_le _, Nat.zero_le _⟩ dX11_read_37 ?_
  refine q_iload_n X 0 rfl dX11_read_40 ?_
  obtain ⟨ev, eS⟩ := q_end h
  exact q_iret X hr hl rfl ev eS dX11_read_41
theorem tD_X11_read : yX11_read.cls ≠ "java/lang/invoke/MethodHandle" ∧ yX11_read.cls ≠ "java/lang/invoke/VarHandle" ∧ (parseMethodDescriptor yX11_read.desc).map (fun d => d.parameters.length) = some 0 := by decide +kernel
theorem c_X11_read {l : Launch} {D : va_G} {cy : Nat → ClassId} {n : Nat} {S Sv : q_S} {rv : Int32} {o : Nat}  (h : m_X11_read n S o = some (rv, Sv)) : q_MI l yX11_read (q_ws yX11_read cX11_read 2 ((some .int))) ({ frames := 7, cells := 0, slots := 0, locals := 163 } : Room) D cy [.ref o] S rv Sv := by
  exact q_MI_of (by decide +kernel) (Nat.le_of_ble_eq_true rfl) (fun p e s m args below meth c A X hr hl => w_X11_read X hr hl h)
/-! TrueOutlines$Pieces.size()I -/
def m_X2_size (n : Nat) (S : q_S) (o : Nat)  : Option (Int32 × q_S) := q_at (S) (some o) 3 (fun a1 => some (q_I (S) a1 1, S))
set_option maxHeartbeats 4000000 in
set_option maxRecDepth 100000 in
theorem w_X2_size (X : q_X p s m args c cX2_size 1 RX2 q_T D cy A) (hr : meth.sig.returnType = (some .int)) (hl : meth.locks = false)  {n : Nat} {S Sv : q_S} {rv : Int32} {o : Nat}  (h : m_X2_size n S o = some (rv, Sv)) : q_W p l e ({ frames := 0, cells := 0, slots := 0, locals := 0 } : Room) s m args below meth c (MQ below (va_Qi (fun (r : Int32) (u : q_S) => r = rv ∧ u = Sv) (q_B D cy A) A) args s 0 0 A) A D cy 1 0 0 S 0 [(0, va_rf (some o))] [] := by
  unfold m_X2_size at h
  refine q_aload_n X 0 rfl dX2_size_0 ?_
  obtain ⟨a1, ea1, ma1, ka1, h⟩ := q_atE h
  refine q_getI X 1 ea1 ma1 ka1 rfl tW_X2 (by decide) (by decide) tF_X2_15 rfl dX2_size_1 ?_
  obtain ⟨ev, eS⟩ := q_end h
  exact q_iret X hr hl rfl ev eS dX2_size_4
theorem tD_X2_size : yX2_size.cls ≠ "java/lang/invoke/MethodHandle" ∧ yX2_size.cls ≠ "java/lang/invoke/VarHandle" ∧ (parseMethodDescriptor yX2_size.desc).map (fun d => d.parameters.length) = some 0 := by decide +kernel
theorem c_X2_size {l : Launch} {D : va_G} {cy : Nat → ClassId} {n : Nat} {S Sv : q_S} {rv : Int32} {o : Nat}  (h : m_X2_size n S o = some (rv, Sv)) : q_MI l yX2_size (q_ws yX2_size cX2_size 1 ((some .int))) ({ frames := 0, cells := 0, slots := 0, locals := 0 } : Room) D cy [.ref o] S rv Sv := by
  exact q_MI_of (by decide +kernel) (Nat.le_of_ble_eq_true rfl) (fun p e s m args below meth c A X hr hl => w_X2_size X hr hl h)
/-! TrueOutlines$Points.has(I)Z -/
def m_X3_has_17 (n : Nat) (S : q_S) (s0 : Int32) : Option (Int32 × q_S) := q_if (s0 = 0 ∨ s0 = 1) (some (s0, S))
set_option maxHeartbeats 4000000 in
set_option maxRecDepth 100000 in
theorem w_X3_has_17 (X : q_X p s m args c cX3_has 2 RX3 q_T D cy A) (hr : meth.sig.returnType = (some .boolean)) (hl : meth.locks = false)  {n : Nat} {Sv : q_S} {rv : Int32}  (S : q_S) (s0 : Int32) (h : m_X3_has_17 n S s0 = some (rv, Sv)) : q_W p l e ({ frames := 0, cells := 0, slots := 0, locals := 0 } : Room) s m args below meth c (MQ below (va_Qi (fun (r : Int32) (u : q_S) => r = rv ∧ u = Sv) (q_B D cy A) A) args s 0 0 A) A D cy 2 0 0 S 17 [] [.int (s0)] := by
  unfold m_X3_has_17 at h
  obtain ⟨g1, h⟩ := q_ifE h
  obtain ⟨ev, eS⟩ := q_end h
  exact q_iret X hr hl (q_bool g1) ev eS dX3_has_17
def m_X3_has_16 (n : Nat) (S : q_S) : Option (Int32 × q_S) := m_X3_has_17 n (S) ((0 : Int32))
set_option maxHeartbeats 4000000 in
set_option maxRecDepth 100000 in
theorem w_X3_has_16 (X : q_X p s m args c cX3_has 2 RX3 q_T D cy A) (hr : meth.sig.returnType = (some .boolean)) (hl : meth.locks = false)  {n : Nat} {Sv : q_S} {rv : Int32}  (S : q_S) (h : m_X3_has_16 n S = some (rv, Sv)) : q_W p l e ({ frames := 0, cells := 0, slots := 0, locals := 0 } : Room) s m args below meth c (MQ below (va_Qi (fun (r : Int32) (u : q_S) => r = rv ∧ u = Sv) (q_B D cy A) A) args s 0 0 A) A D cy 2 0 0 S 16 [] [] := by
  unfold m_X3_has_16 at h
  refine q_iconst X (0) (by decide) dX3_has_16 ?_
  exact w_X3_has_17 X hr hl _ _ h
def m_X3_has (n : Nat) (S : q_S) (o : Nat) (p0 : Int32) : Option (Int32 × q_S) := (if p0 < 0 then m_X3_has_16 n (S) else q_at (S) (some o) 4 (fun a2 => (if (q_I (S) a2 4) ≤ p0 then m_X3_has_16 n (S) else m_X3_has_17 n (S) ((1 : Int32)))))
set_option maxHeartbeats 4000000 in
set_option maxRecDepth 100000 in
theorem w_X3_has (X : q_X p s m args c cX3_has 2 RX3 q_T D cy A) (hr : meth.sig.returnType = (some .boolean)) (hl : meth.locks = false)  {n : Nat} {S Sv : q_S} {rv : Int32} {o : Nat} {p0 : Int32} (h : m_X3_has n S o p0 = some (rv, Sv)) : q_W p l e ({ frames := 0, cells := 0, slots := 0, locals := 0 } : Room) s m args below meth c (MQ below (va_Qi (fun (r : Int32) (u : q_S) => r = rv ∧ u = Sv) (q_B D cy A) A) args s 0 0 A) A D cy 2 0 0 S 0 [(0, va_rf (some o)), (1, .int (p0))] [] := by
  unfold m_X3_has at h
  refine q_iload_n X 1 rfl dX3_has_0 ?_
  refine q_if_lt X 16 (by decide) dX3_has_1 (fun g1 => ?_) (fun g1 => ?_)
  · rw [if_pos g1] at h
    refine q_lv [] rfl ?_
    exact w_X3_has_16 X hr hl _ h
  · rw [if_neg g1] at h
    refine q_iload_n X 1 rfl dX3_has_4 ?_
    refine q_aload_n X 0 rfl dX3_has_5 ?_
    obtain ⟨a2, ea2, ma2, ka2, h⟩ := q_atE h
    refine q_getI X 4 ea2 ma2 ka2 rfl tW_X3 (by decide) (by decide) tF_X3_24 rfl dX3_has_6 ?_
    refine q_icmp_ge X 16 (by decide) dX3_has_9 (fun g3 => ?_) (fun g3 => ?_)
    · rw [if_pos g3] at h
      refine q_lv [] rfl ?_
      exact w_X3_has_16 X hr hl _ h
    · rw [if_neg g3] at h
      refine q_iconst X (1) (by decide) dX3_has_12 ?_
      refine q_goto X 17 (by decide) dX3_has_13 ?_
      refine q_lv [] rfl ?_
      exact w_X3_has_17 X hr hl _ _ h
theorem tD_X3_has : yX3_has.cls ≠ "java/lang/invoke/MethodHandle" ∧ yX3_has.cls ≠ "java/lang/invoke/VarHandle" ∧ (parseMethodDescriptor yX3_has.desc).map (fun d => d.parameters.length) = some 1 := by decide +kernel
theorem c_X3_has {l : Launch} {D : va_G} {cy : Nat → ClassId} {n : Nat} {S Sv : q_S} {rv : Int32} {o : Nat} {p0 : Int32} (h : m_X3_has n S o p0 = some (rv, Sv)) : q_MI l yX3_has (q_ws yX3_has cX3_has 2 ((some .boolean))) ({ frames := 0, cells := 0, slots := 0, locals := 0 } : Room) D cy [.ref o, .int (p0)] S rv Sv := by
  exact q_MI_of (by decide +kernel) (Nat.le_of_ble_eq_true rfl) (fun p e s m args below meth c A X hr hl => w_X3_has X hr hl h)
/-! TrueOutlines$Points.isOn(I)Z -/
def m_X3_isOn_24 (n : Nat) (S : q_S) (s0 : Int32) : Option (Int32 × q_S) := q_if (s0 = 0 ∨ s0 = 1) (some (s0, S))
set_option maxHeartbeats 4000000 in
set_option maxRecDepth 100000 in
theorem w_X3_isOn_24 (X : q_X p s m args c cX3_isOn 2 RX3 q_T D cy A) (hr : meth.sig.returnType = (some .boolean)) (hl : meth.locks = false)  {n : Nat} {Sv : q_S} {rv : Int32}  (S : q_S) (s0 : Int32) (h : m_X3_isOn_24 n S s0 = some (rv, Sv)) : q_W p l e ({ frames := 1, cells := 0, slots := 0, locals := 21 } : Room) s m args below meth c (MQ below (va_Qi (fun (r : Int32) (u : q_S) => r = rv ∧ u = Sv) (q_B D cy A) A) args s 0 0 A) A D cy 2 0 0 S 24 [] [.int (s0)] := by
  unfold m_X3_isOn_24 at h
  obtain ⟨g1, h⟩ := q_ifE h
  obtain ⟨ev, eS⟩ := q_end h
  exact q_iret X hr hl (q_bool g1) ev eS dX3_isOn_24
def m_X3_isOn_23 (n : Nat) (S : q_S) : Option (Int32 × q_S) := m_X3_isOn_24 n (S) ((0 : Int32))
set_option maxHeartbeats 4000000 in
set_option maxRecDepth 100000 in
theorem w_X3_isOn_23 (X : q_X p s m args c cX3_isOn 2 RX3 q_T D cy A) (hr : meth.sig.returnType = (some .boolean)) (hl : meth.locks = false)  {n : Nat} {Sv : q_S} {rv : Int32}  (S : q_S) (h : m_X3_isOn_23 n S = some (rv, Sv)) : q_W p l e ({ frames := 1, cells := 0, slots := 0, locals := 21 } : Room) s m args below meth c (MQ below (va_Qi (fun (r : Int32) (u : q_S) => r = rv ∧ u = Sv) (q_B D cy A) A) args s 0 0 A) A D cy 2 0 0 S 23 [] [] := by
  unfold m_X3_isOn_23 at h
  refine q_iconst X (0) (by decide) dX3_isOn_23 ?_
  exact w_X3_isOn_24 X hr hl _ _ h
def m_X3_isOn (n : Nat) (S : q_S) (o : Nat) (p0 : Int32) : Option (Int32 × q_S) := q_at (S) (some o) 4 (fun a1 => q_b (m_X3_has n (S) a1 (p0)) (fun r2 S3 => (if r2 = 0 then m_X3_isOn_23 n (S3) else q_at (S3) (some o) 4 (fun a6 => q_at (S3) (q_R (S3) a6 2) 100 (fun a7 => q_if (q_in (p0) (q_N (S3) a7) = true) ((if ((q_I (S3) a7 (p0).toNatClampNeg) &&& (1 : Int32)) = 0 then m_X3_isOn_23 n (S3) else m_X3_isOn_24 n (S3) ((1 : Int32)))))))))
set_option maxHeartbeats 4000000 in
set_option maxRecDepth 100000 in
theorem w_X3_isOn (X : q_X p s m args c cX3_isOn 2 RX3 q_T D cy A) (hr : meth.sig.returnType = (some .boolean)) (hl : meth.locks = false)  {n : Nat} {S Sv : q_S} {rv : Int32} {o : Nat} {p0 : Int32} (h : m_X3_isOn n S o p0 = some (rv, Sv)) : q_W p l e ({ frames := 1, cells := 0, slots := 0, locals := 21 } : Room) s m args below meth c (MQ below (va_Qi (fun (r : Int32) (u : q_S) => r = rv ∧ u = Sv) (q_B D cy A) A) args s 0 0 A) A D cy 2 0 0 S 0 [(0, va_rf (some o)), (1, .int (p0))] [] := by
  unfold m_X3_isOn at h
  refine q_aload_n X 0 rfl dX3_isOn_0 ?_
  refine q_iload_n X 1 rfl dX3_isOn_1 ?_
  obtain ⟨a1, ea1, ma1, ka1, h⟩ := q_atE h
  obtain ⟨r2, S3, c4, h⟩ := q_bE h
  refine q_cVI X (As := [.int (p0)]) ea1 ma1 ka1 rfl (by decide) (c_X3_has c4) (q_cwV X tK_X3_has tM_X3_31 tI_X3_has tV_X3_has tN_X3 rfl rfl tD_X3_has ⟨Nat.le_of_ble_eq_true rfl, Nat.le_of_ble_eq_true rfl⟩) rfl rfl (by first | exact Nat.le_of_ble_eq_true rfl | (simp only [List.map, q_catR]; exact Nat.le_of_ble_eq_true rfl)) ⟨Nat.zero_le _, Nat.zero_le _⟩ dX3_isOn_2 ?_
  refine q_if_eq X 23 (by decide) dX3_isOn_5 (fun g5 => ?_) (fun g5 => ?_)
  · rw [if_pos g5] at h
    refine q_lv [] rfl ?_
    exact w_X3_isOn_23 X hr hl _ h
  · rw [if_neg g5] at h
    refine q_aload_n X 0 rfl dX3_isOn_8 ?_
    obtain ⟨a6, ea6, ma6, ka6, h⟩ := q_atE h
    refine q_getR X 2 ea6 ma6 ka6 rfl tW_X3 (by decide) (by decide) tF_X3_18 rfl dX3_isOn_9 ?_
    refine q_iload_n X 1 rfl dX3_isOn_12 ?_
    obtain ⟨a7, ea7, ma7, ka7, h⟩ := q_atE h
    obtain ⟨g8, h⟩ := q_ifE h
    refine q_iaload X ea7 ma7 ka7 (q_inE g8) dX3_isOn_13 ?_
    refine q_iconst X (1) (by decide) dX3_isOn_14 ?_
    refine q_iand X dX3_isOn_15 ?_
    refine q_if_eq X 23 (by decide) dX3_isOn_16 (fun g9 => ?_) (fun g9 => ?_)
    · rw [if_pos g9] at h
      refine q_lv [] rfl ?_
      exact w_X3_isOn_23 X hr hl _ h
    · rw [if_neg g9] at h
      refine q_iconst X (1) (by decide) dX3_isOn_19 ?_
      refine q_goto X 24 (by decide) dX3_isOn_20 ?_
      refine q_lv [] rfl ?_
      exact w_X3_isOn_24 X hr hl _ _ h
theorem tD_X3_isOn : yX3_isOn.cls ≠ "java/lang/invoke/MethodHandle" ∧ yX3_isOn.cls ≠ "java/lang/invoke/VarHandle" ∧ (parseMethodDescriptor yX3_isOn.desc).map (fun d => d.parameters.length) = some 1 := by decide +kernel
theorem c_X3_isOn {l : Launch} {D : va_G} {cy : Nat → ClassId} {n : Nat} {S Sv : q_S} {rv : Int32} {o : Nat} {p0 : Int32} (h : m_X3_isOn n S o p0 = some (rv, Sv)) : q_MI l yX3_isOn (q_ws yX3_isOn cX3_isOn 2 ((some .boolean))) ({ frames := 1, cells := 0, slots := 0, locals := 21 } : Room) D cy [.ref o, .int (p0)] S rv Sv := by
  exact q_MI_of (by decide +kernel) (Nat.le_of_ble_eq_true rfl) (fun p e s m args below meth c A X hr hl => w_X3_isOn X hr hl h)
/-! TrueOutlines$Pieces.firstOn(LTrueOutlines$Points;II)I -/
def m_X2_firstOn_2 (n : Nat) : Nat → q_S → Option Nat → Int32 → Int32 → Int32 → Option (Int32 × q_S)
  | 0, _, _, _, _, _ => none
  | k + 1, S, l0, l1, l2, l3 => (if l2 < l3 then some (l1, S) else q_at (S) (l0) 4 (fun a2 => q_b (m_X3_isOn n (S) a2 (l3)) (fun r3 S4 => (if r3 = 0 then m_X2_firstOn_2 n k (S4) (l0) (l1) (l2) (l3 + (1)) else some (l3, S4)))))
set_option maxHeartbeats 4000000 in
set_option maxRecDepth 100000 in
theorem w_X2_firstOn_2 (X : q_X p s m args c cX2_firstOn 4 RX2 q_T D cy A) (hr : meth.sig.returnType = (some .int)) (hl : meth.locks = false)  {n : Nat} {Sv : q_S} {rv : Int32}  : ∀ (k : Nat) (S : q_S) (l0 : Option Nat) (l1 : Int32) (l2 : Int32) (l3 : Int32), m_X2_firstOn_2 n k S l0 l1 l2 l3 = some (rv, Sv) → q_W p l e ({ frames := 2, cells := 0, slots := 0, locals := 42 } : Room) s m args below meth c (MQ below (va_Qi (fun (r : Int32) (u : q_S) => r = rv ∧ u = Sv) (q_B D cy A) A) args s 0 0 A) A D cy 4 0 0 S 2 [(0, va_rf (l0)), (1, .int (l1)), (2, .int (l2)), (3, .int (l3))] [] := by
  intro k
  induction k with
  | zero => intro S l0 l1 l2 l3 h; rw [m_X2_firstOn_2] at h; cases h
  | succ k ih =>
    intro S l0 l1 l2 l3 h
    rw [m_X2_firstOn_2] at h
    refine q_iload_n X 3 rfl dX2_firstOn_2 ?_
    refine q_iload_n X 2 rfl dX2_firstOn_3 ?_
    refine q_icmp_gt X 23 (by decide) dX2_firstOn_4 (fun g1 => ?_) (fun g1 => ?_)
    · rw [if_pos g1] at h
      refine q_iload_n X 1 rfl dX2_firstOn_23 ?_
      obtain ⟨ev, eS⟩ := q_end h
      exact q_iret X hr hl rfl ev eS dX2_firstOn_24
    · rw [if_neg g1] at h
      refine q_aload_n X 0 rfl dX2_firstOn_7 ?_
      refine q_iload_n X 3 rfl dX2_firstOn_8 ?_
      obtain ⟨a2, ea2, ma2, ka2, h⟩ := q_atE h
      obtain ⟨r3, S4, c5, h⟩ := q_bE h
      refine q_cVI X (As := [.int (l3)]) ea2 ma2 ka2 rfl (by decide) (c_X3_isOn c5) (q_cwV X tK_X3_isOn tM_X2_56 tI_X3_isOn tV_X3_isOn tN_X3 rfl rfl tD_X3_isOn ⟨Nat.le_of_ble_eq_true rfl, Nat.le_of_ble_eq_true rfl⟩) rfl rfl (by first | exact Nat.le_of_ble_eq_true rfl | (simp only [List.map, q_catR]; exact Nat.le_of_ble_eq_true rfl)) ⟨Nat.zero_le _, Nat.zero_le _⟩ dX2_firstOn_9 ?_
      refine q_if_eq X 17 (by decide) dX2_firstOn_12 (fun g6 => ?_) (fun g6 => ?_)
      · rw [if_pos g6] at h
        refine q_iinc X 3 3 (l3 + (1)) [(3, .int (l3 + (1))), (0, va_rf (l0)), (1, .int (l1)), (2, .int (l2))] rfl (congrArg (fun z => l3 + z) (show Int32.ofInt (1) = (1) by decide)) (by decide) (by first | rfl | simp [List.filter, q_catR]) dX2_firstOn_17 ?_
        refine q_goto X 2 (by decide) dX2_firstOn_20 ?_
        refine q_lv [1, 2, 3, 0] rfl ?_
        exact ih _ _ _ _ _ h
      · rw [if_neg g6] at h
        refine q_iload_n X 3 rfl dX2_firstOn_15 ?_
        obtain ⟨ev, eS⟩ := q_end h
        exact q_iret X hr hl rfl ev eS dX2_firstOn_16
def m_X2_firstOn (n : Nat) (S : q_S) (p0 : Option Nat) (p1 : Int32) (p2 : Int32) : Option (Int32 × q_S) := m_X2_firstOn_2 n n (S) (p0) (p1) (p2) (p1)
set_option maxHeartbeats 4000000 in
set_option maxRecDepth 100000 in
theorem w_X2_firstOn (X : q_X p s m args c cX2_firstOn 4 RX2 q_T D cy A) (hr : meth.sig.returnType = (some .int)) (hl : meth.locks = false)  {n : Nat} {S Sv : q_S} {rv : Int32} {p0 : Option Nat} {p1 : Int32} {p2 : Int32} (h : m_X2_firstOn n S p0 p1 p2 = some (rv, Sv)) : q_W p l e ({ frames := 2, cells := 0, slots := 0, locals := 42 } : Room) s m args below meth c (MQ below (va_Qi (fun (r : Int32) (u : q_S) => r = rv ∧ u = Sv) (q_B D cy A) A) args s 0 0 A) A D cy 4 0 0 S 0 [(0, va_rf (p0)), (1, .int (p1)), (2, .int (p2))] [] := by
  unfold m_X2_firstOn at h
  refine q_iload_n X 1 rfl dX2_firstOn_0 ?_
  refine q_istore_n X 3 [(3, .int (p1)), (0, va_rf (p0)), (1, .int (p1)), (2, .int (p2))] rfl (by decide) (by first | rfl | simp [List.filter, q_catR]) dX2_firstOn_1 ?_
  refine q_lv [1, 2, 3, 0] rfl ?_
  exact w_X2_firstOn_2 X hr hl n _ _ _ _ _ h
theorem tD_X2_firstOn : yX2_firstOn.cls ≠ "java/lang/invoke/MethodHandle" ∧ yX2_firstOn.cls ≠ "java/lang/invoke/VarHandle" ∧ (parseMethodDescriptor yX2_firstOn.desc).map (fun d => d.parameters.length) = some 3 := by decide +kernel
theorem c_X2_firstOn {l : Launch} {D : va_G} {cy : Nat → ClassId} {n : Nat} {S Sv : q_S} {rv : Int32} {p0 : Option Nat} {p1 : Int32} {p2 : Int32} (h : m_X2_firstOn n S p0 p1 p2 = some (rv, Sv)) : q_MI l yX2_firstOn (q_ws yX2_firstOn cX2_firstOn 4 ((some .int))) ({ frames := 2, cells := 0, slots := 0, locals := 42 } : Room) D cy [va_rf (p0), .int (p1), .int (p2)] S rv Sv := by
  cases p0 <;> exact q_MI_of (by decide +kernel) (Nat.le_of_ble_eq_true rfl) (fun p e s m args below meth c A X hr hl => w_X2_firstOn X hr hl h)
/-! TrueOutlines$Pieces.put(IIIIII)V -/
def m_X2_put (n : Nat) (S : q_S) (o : Nat) (p0 : Int32) (p1 : Int32) (p2 : Int32) (p3 : Int32) (p4 : Int32) (p5 : Int32) : Option (Unit × q_S) := q_at (S) (some o) 3 (fun a1 => q_at (S) (q_R (S) a1 0) 100 (fun a2 => (if (((8 : Int32) * (q_I (S) a1 1)) + (8 : Int32)) ≤ (nI (q_N (S) a2)) then q_if (q_in ((8 : Int32) * (q_I (S) a1 1)) (q_N (S) a2) = true) (q_at (q_sI (S) a2 ((8 : Int32) * (q_I (S) a1 1)).toNatClampNeg (p0)) (q_R (q_sI (S) a2 ((8 : Int32) * (q_I (S) a1 1)).toNatClampNeg (p0)) a1 0) 100 (fun a5 => q_if (q_in (((8 : Int32) * (q_I (S) a1 1)) + (1 : Int32)) (q_N (q_sI (S) a2 ((8 : Int32) * (q_I (S) a1 1)).toNatClampNeg (p0)) a5) = true) (q_let (q_sI (q_sI (S) a2 ((8 : Int32) * (q_I (S) a1 1)).toNatClampNeg (p0)) a5 (((8 : Int32) * (q_I (S) a1 1)) + (1 : Int32)).toNatClampNeg (p1)) (fun S7 => q_at (S7) (q_R (S7) a1 0) 100 (fun a8 => q_if (q_in (((8 : Int32) * (q_I (S) a1 1)) + (2 : Int32)) (q_N (S7) a8) = true) (q_at (q_sI (S7) a8 (((8 : Int32) * (q_I (S) a1 1)) + (2 : Int32)).toNatClampNeg (q_I (S7) a1 2)) (q_R (q_sI (S7) a8 (((8 : Int32) * (q_I (S) a1 1)) + (2 : Int32)).toNatClampNeg (q_I (S7) a1 2)) a1 0) 100 (fun a10 => q_if (q_in (((8 : Int32) * (q_I (S) a1 1)) + (3 : Int32)) (q_N (q_sI (S7) a8 (((8 : Int32) * (q_I (S) a1 1)) + (2 : Int32)).toNatClampNeg (q_I (S7) a1 2)) a10) = true) (q_let (q_sI (q_sI (S7) a8 (((8 : Int32) * (q_I (S) a1 1)) + (2 : Int32)).toNatClampNeg (q_I (S7) a1 2)) a10 (((8 : Int32) * (q_I (S) a1 1)) + (3 : Int32)).toNatClampNeg (q_I (q_sI (S7) a8 (((8 : Int32) * (q_I (S) a1 1)) + (2 : Int32)).toNatClampNeg (q_I (S7) a1 2)) a1 3)) (fun S12 => q_at (S12) (q_R (S12) a1 0) 100 (fun a13 => q_if (q_in (((8 : Int32) * (q_I (S) a1 1)) + (4 : Int32)) (q_N (S12) a13) = true) (q_at (q_sI (S12) a13 (((8 : Int32) * (q_I (S) a1 1)) + (4 : Int32)).toNatClampNeg (p2)) (q_R (q_sI (S12) a13 (((8 : Int32) * (q_I (S) a1 1)) + (4 : Int32)).toNatClampNeg (p2)) a1 0) 100 (fun a15 => q_if (q_in (((8 : Int32) * (q_I (S) a1 1)) + (5 : Int32)) (q_N (q_sI (S12) a13 (((8 : Int32) * (q_I (S) a1 1)) + (4 : Int32)).toNatClampNeg (p2)) a15) = true) (q_let (q_sI (q_sI (S12) a13 (((8 : Int32) * (q_I (S) a1 1)) + (4 : Int32)).toNatClampNeg (p2)) a15 (((8 : Int32) * (q_I (S) a1 1)) + (5 : Int32)).toNatClampNeg (p3)) (fun S17 => q_at (S17) (q_R (S17) a1 0) 100 (fun a18 => q_if (q_in (((8 : Int32) * (q_I (S) a1 1)) + (6 : Int32)) (q_N (S17) a18) = true) (q_at (q_sI (S17) a18 (((8 : Int32) * (q_I (S) a1 1)) + (6 : Int32)).toNatClampNeg (p4)) (q_R (q_sI (S17) a18 (((8 : Int32) * (q_I (S) a1 1)) + (6 : Int32)).toNatClampNeg (p4)) a1 0) 100 (fun a20 => q_if (q_in (((8 : Int32) * (q_I (S) a1 1)) + (7 : Int32)) (q_N (q_sI (S17) a18 (((8 : Int32) * (q_I (S) a1 1)) + (6 : Int32)).toNatClampNeg (p4)) a20) = true) (q_let (q_sI (q_sI (S17) a18 (((8 : Int32) * (q_I (S) a1 1)) + (6 : Int32)).toNatClampNeg (p4)) a20 (((8 : Int32) * (q_I (S) a1 1)) + (7 : Int32)).toNatClampNeg (p5)) (fun S22 => q_let (q_sI (q_sI (S22) a1 1 ((q_I (S22) a1 1) + (1 : Int32))) a1 2 (p4)) (fun S23 => some ((), q_sI (S23) a1 3 (p5)))))))))))))))))))))) else some ((), S))))
set_option maxHeartbeats 4000000 in
set_option maxRecDepth 100000 in
theorem w_X2_put (X : q_X p s m args c cX2_put 8 RX2 q_T D cy A) (hr : meth.sig.returnType = none) (hl : meth.locks = false)  {n : Nat} {S Sv : q_S} {o : Nat} {p0 : Int32} {p1 : Int32} {p2 : Int32} {p3 : Int32} {p4 : Int32} {p5 : Int32} (h : m_X2_put n S o p0 p1 p2 p3 p4 p5 = some ((), Sv)) : q_W p l e ({ frames := 0, cells := 0, slots := 0, locals := 0 } : Room) s m args below meth c (MQ below (va_Qv (fun (u : q_S) => u = Sv) (q_B D cy A) A) args s 0 0 A) A D cy 8 0 0 S 0 [(0, va_rf (some o)), (1, .int (p0)), (2, .int (p1)), (3, .int (p2)), (4, .int (p3)), (5, .int (p4)), (6, .int (p5))] [] := by
  unfold m_X2_put at h
  refine q_bipush X (8) (by decide) dX2_put_0 ?_
  refine q_aload_n X 0 rfl dX2_put_2 ?_
  obtain ⟨a1, ea1, ma1, ka1, h⟩ := q_atE h
  refine q_getI X 1 ea1 ma1 ka1 rfl tW_X2 (by decide) (by decide) tF_X2_15 rfl dX2_put_3 ?_
  refine q_imul X dX2_put_6 ?_
  refine q_istore X 7 [(7, .int ((8 : Int32) * (q_I (S) a1 1))), (0, va_rf (some o)), (1, .int (p0)), (2, .int (p1)), (3, .int (p2)), (4, .int (p3)), (5, .int (p4)), (6, .int (p5))] (by decide) (by first | rfl | simp [List.filter, q_catR]) dX2_put_7 ?_
  refine q_iload X 0 rfl dX2_put_9 ?_
  refine q_bipush X (8) (by decide) dX2_put_11 ?_
  refine q_iadd X dX2_put_13 ?_
  refine q_aload_n X 1 rfl dX2_put_14 ?_
  refine q_getR X 0 ea1 ma1 ka1 rfl tW_X2 (by decide) (by decide) tF_X2_9 rfl dX2_put_15 ?_
  obtain ⟨a2, ea2, ma2, ka2, h⟩ := q_atE h
  refine q_alen100 X ea2 ma2 ka2 dX2_put_18 ?_
  refine q_icmp_le X 23 (by decide) dX2_put_19 (fun g3 => ?_) (fun g3 => ?_)
  · rw [if_pos g3] at h
    refine q_aload_n X 1 rfl dX2_put_23 ?_
    refine q_getR X 0 ea1 ma1 ka1 rfl tW_X2 (by decide) (by decide) tF_X2_9 rfl dX2_put_24 ?_
    refine q_iload X 0 rfl dX2_put_27 ?_
    refine q_iload_n X 2 rfl dX2_put_29 ?_
    obtain ⟨g4, h⟩ := q_ifE h
    refine q_iastore X ea2 ma2 ka2 (q_inE g4) dX2_put_30 ?_
    have ma1 : a1 ∈ q_L (q_sI (S) a2 ((8 : Int32) * (q_I (S) a1 1)).toNatClampNeg (p0)) := q_LsI ma1
    have ka1 : q_K (q_sI (S) a2 ((8 : Int32) * (q_I (S) a1 1)).toNatClampNeg (p0)) a1 = 3 := q_KsI ka1
    have ma2 : a2 ∈ q_L (q_sI (S) a2 ((8 : Int32) * (q_I (S) a1 1)).toNatClampNeg (p0)) := q_LsI ma2
    have ka2 : q_K (q_sI (S) a2 ((8 : Int32) * (q_I (S) a1 1)).toNatClampNeg (p0)) a2 = 100 := q_KsI ka2
    refine q_aload_n X 1 rfl dX2_put_31 ?_
    refine q_getR X 0 ea1 ma1 ka1 rfl tW_X2 (by decide) (by decide) tF_X2_9 rfl dX2_put_32 ?_
    refine q_iload X 0 rfl dX2_put_35 ?_
    refine q_iconst X (1) (by decide) dX2_put_37 ?_
    refine q_iadd X dX2_put_38 ?_
    refine q_iload_n X 3 rfl dX2_put_39 ?_
    obtain ⟨a5, ea5, ma5, ka5, h⟩ := q_atE h
    obtain ⟨g6, h⟩ := q_ifE h
    refine q_iastore X ea5 ma5 ka5 (q_inE g6) dX2_put_40 ?_
    have ma1 : a1 ∈ q_L (q_sI (q_sI (S) a2 ((8 : Int32) * (q_I (S) a1 1)).toNatClampNeg (p0)) a5 (((8 : Int32) * (q_I (S) a1 1)) + (1 : Int32)).toNatClampNeg (p1)) := q_LsI ma1
    have ka1 : q_K (q_sI (q_sI (S) a2 ((8 : Int32) * (q_I (S) a1 1)).toNatClampNeg (p0)) a5 (((8 : Int32) * (q_I (S) a1 1)) + (1 : Int32)).toNatClampNeg (p1)) a1 = 3 := q_KsI ka1
    have ma2 : a2 ∈ q_L (q_sI (q_sI (S) a2 ((8 : Int32) * (q_I (S) a1 1)).toNatClampNeg (p0)) a5 (((8 : Int32) * (q_I (S) a1 1)) + (1 : Int32)).toNatClampNeg (p1)) := q_LsI ma2
    have ka2 : q_K (q_sI (q_sI (S) a2 ((8 : Int32) * (q_I (S) a1 1)).toNatClampNeg (p0)) a5 (((8 : Int32) * (q_I (S) a1 1)) + (1 : Int32)).toNatClampNeg (p1)) a2 = 100 := q_KsI ka2
    have ma5 : a5 ∈ q_L (q_sI (q_sI (S) a2 ((8 : Int32) * (q_I (S) a1 1)).toNatClampNeg (p0)) a5 (((8 : Int32) * (q_I (S) a1 1)) + (1 : Int32)).toNatClampNeg (p1)) := q_LsI ma5
    have ka5 : q_K (q_sI (q_sI (S) a2 ((8 : Int32) * (q_I (S) a1 1)).toNatClampNeg (p0)) a5 (((8 : Int32) * (q_I (S) a1 1)) + (1 : Int32)).toNatClampNeg (p1)) a5 = 100 := q_KsI ka5
    obtain ⟨S7, eS7, h⟩ := q_letE h
    refine q_sub eS7 ?_
    have ma1 : a1 ∈ q_L S7 := by rw [eS7]; exact ma1
    have ka1 : q_K S7 a1 = 3 := by rw [eS7]; exact ka1
    have ma2 : a2 ∈ q_L S7 := by rw [eS7]; exact ma2
    have ka2 : q_K S7 a2 = 100 := by rw [eS7]; exact ka2
    have ma5 : a5 ∈ q_L S7 := by rw [eS7]; exact ma5
    have ka5 : q_K S7 a5 = 100 := by rw [eS7]; exact ka5
    refine q_aload_n X 1 rfl dX2_put_41 ?_
    refine q_getR X 0 ea1 ma1 ka1 rfl tW_X2 (by decide) (by decide) tF_X2_9 rfl dX2_put_42 ?_
    refine q_iload X 0 rfl dX2_put_45 ?_
    refine q_iconst X (2) (by decide) dX2_put_47 ?_
    refine q_iadd X dX2_put_48 ?_
    refine q_aload_n X 1 rfl dX2_put_49 ?_
    refine q_getI X 2 ea1 ma1 ka1 rfl tW_X2 (by decide) (by decide) tF_X2_40 rfl dX2_put_50 ?_
    obtain ⟨a8, ea8, ma8, ka8, h⟩ := q_atE h
    obtain ⟨g9, h⟩ := q_ifE h
    refine q_iastore X ea8 ma8 ka8 (q_inE g9) dX2_put_53 ?_
    have ma1 : a1 ∈ q_L (q_sI (S7) a8 (((8 : Int32) * (q_I (S) a1 1)) + (2 : Int32)).toNatClampNeg (q_I (S7) a1 2)) := q_LsI ma1
    have ka1 : q_K (q_sI (S7) a8 (((8 : Int32) * (q_I (S) a1 1)) + (2 : Int32)).toNatClampNeg (q_I (S7) a1 2)) a1 = 3 := q_KsI ka1
    have ma2 : a2 ∈ q_L (q_sI (S7) a8 (((8 : Int32) * (q_I (S) a1 1)) + (2 : Int32)).toNatClampNeg (q_I (S7) a1 2)) := q_LsI ma2
    have ka2 : q_K (q_sI (S7) a8 (((8 : Int32) * (q_I (S) a1 1)) + (2 : Int32)).toNatClampNeg (q_I (S7) a1 2)) a2 = 100 := q_KsI ka2
    have ma5 : a5 ∈ q_L (q_sI (S7) a8 (((8 : Int32) * (q_I (S) a1 1)) + (2 : Int32)).toNatClampNeg (q_I (S7) a1 2)) := q_LsI ma5
    have ka5 : q_K (q_sI (S7) a8 (((8 : Int32) * (q_I (S) a1 1)) + (2 : Int32)).toNatClampNeg (q_I (S7) a1 2)) a5 = 100 := q_KsI ka5
    have ma8 : a8 ∈ q_L (q_sI (S7) a8 (((8 : Int32) * (q_I (S) a1 1)) + (2 : Int32)).toNatClampNeg (q_I (S7) a1 2)) := q_LsI ma8
    have ka8 : q_K (q_sI (S7) a8 (((8 : Int32) * (q_I (S) a1 1)) + (2 : Int32)).toNatClampNeg (q_I (S7) a1 2)) a8 = 100 := q_KsI ka8
    refine q_aload_n X 1 rfl dX2_put_54 ?_
    refine q_getR X 0 ea1 ma1 ka1 rfl tW_X2 (by decide) (by decide) tF_X2_9 rfl dX2_put_55 ?_
    refine q_iload X 0 rfl dX2_put_58 ?_
    refine q_iconst X (3) (by decide) dX2_put_60 ?_
    refine q_iadd X dX2_put_61 ?_
    refine q_aload_n X 1 rfl dX2_put_62 ?_
    refine q_getI X 3 ea1 ma1 ka1 rfl tW_X2 (by decide) (by decide) tF_X2_46 rfl dX2_put_63 ?_
    obtain ⟨a10, ea10, ma10, ka10, h⟩ := q_atE h
    obtain ⟨g11, h⟩ := q_ifE h
    refine q_iastore X ea10 ma10 ka10 (q_inE g11) dX2_put_66 ?_
    have ma1 : a1 ∈ q_L (q_sI (q_sI (S7) a8 (((8 : Int32) * (q_I (S) a1 1)) + (2 : Int32)).toNatClampNeg (q_I (S7) a1 2)) a10 (((8 : Int32) * (q_I (S) a1 1)) + (3 : Int32)).toNatClampNeg (q_I (q_sI (S7) a8 (((8 : Int32) * (q_I (S) a1 1)) + (2 : Int32)).toNatClampNeg (q_I (S7) a1 2)) a1 3)) := q_LsI ma1
    have ka1 : q_K (q_sI (q_sI (S7) a8 (((8 : Int32) * (q_I (S) a1 1)) + (2 : Int32)).toNatClampNeg (q_I (S7) a1 2)) a10 (((8 : Int32) * (q_I (S) a1 1)) + (3 : Int32)).toNatClampNeg (q_I (q_sI (S7) a8 (((8 : Int32) * (q_I (S) a1 1)) + (2 : Int32)).toNatClampNeg (q_I (S7) a1 2)) a1 3)) a1 = 3 := q_KsI ka1
    have ma2 : a2 ∈ q_L (q_sI (q_sI (S7) a8 (((8 : Int32) * (q_I (S) a1 1)) + (2 : Int32)).toNatClampNeg (q_I (S7) a1 2)) a10 (((8 : Int32) * (q_I (S) a1 1)) + (3 : Int32)).toNatClampNeg (q_I (q_sI (S7) a8 (((8 : Int32) * (q_I (S) a1 1)) + (2 : Int32)).toNatClampNeg (q_I (S7) a1 2)) a1 3)) := q_LsI ma2
    have ka2 : q_K (q_sI (q_sI (S7) a8 (((8 : Int32) * (q_I (S) a1 1)) + (2 : Int32)).toNatClampNeg (q_I (S7) a1 2)) a10 (((8 : Int32) * (q_I (S) a1 1)) + (3 : Int32)).toNatClampNeg (q_I (q_sI (S7) a8 (((8 : Int32) * (q_I (S) a1 1)) + (2 : Int32)).toNatClampNeg (q_I (S7) a1 2)) a1 3)) a2 = 100 := q_KsI ka2
    have ma5 : a5 ∈ q_L (q_sI (q_sI (S7) a8 (((8 : Int32) * (q_I (S) a1 1)) + (2 : Int32)).toNatClampNeg (q_I (S7) a1 2)) a10 (((8 : Int32) * (q_I (S) a1 1)) + (3 : Int32)).toNatClampNeg (q_I (q_sI (S7) a8 (((8 : Int32) * (q_I (S) a1 1)) + (2 : Int32)).toNatClampNeg (q_I (S7) a1 2)) a1 3)) := q_LsI ma5
    have ka5 : q_K (q_sI (q_sI (S7) a8 (((8 : Int32) * (q_I (S) a1 1)) + (2 : Int32)).toNatClampNeg (q_I (S7) a1 2)) a10 (((8 : Int32) * (q_I (S) a1 1)) + (3 : Int32)).toNatClampNeg (q_I (q_sI (S7) a8 (((8 : Int32) * (q_I (S) a1 1)) + (2 : Int32)).toNatClampNeg (q_I (S7) a1 2)) a1 3)) a5 = 100 := q_KsI ka5
    have ma8 : a8 ∈ q_L (q_sI (q_sI (S7) a8 (((8 : Int32) * (q_I (S) a1 1)) + (2 : Int32)).toNatClampNeg (q_I (S7) a1 2)) a10 (((8 : Int32) * (q_I (S) a1 1)) + (3 : Int32)).toNatClampNeg (q_I (q_sI (S7) a8 (((8 : Int32) * (q_I (S) a1 1)) + (2 : Int32)).toNatClampNeg (q_I (S7) a1 2)) a1 3)) := q_LsI ma8
    have ka8 : q_K (q_sI (q_sI (S7) a8 (((8 : Int32) * (q_I (S) a1 1)) + (2 : Int32)).toNatClampNeg (q_I (S7) a1 2)) a10 (((8 : Int32) * (q_I (S) a1 1)) + (3 : Int32)).toNatClampNeg (q_I (q_sI (S7) a8 (((8 : Int32) * (q_I (S) a1 1)) + (2 : Int32)).toNatClampNeg (q_I (S7) a1 2)) a1 3)) a8 = 100 := q_KsI ka8
    have ma10 : a10 ∈ q_L (q_sI (q_sI (S7) a8 (((8 : Int32) * (q_I (S) a1 1)) + (2 : Int32)).toNatClampNeg (q_I (S7) a1 2)) a10 (((8 : Int32) * (q_I (S) a1 1)) + (3 : Int32)).toNatClampNeg (q_I (q_sI (S7) a8 (((8 : Int32) * (q_I (S) a1 1)) + (2 : Int32)).toNatClampNeg (q_I (S7) a1 2)) a1 3)) := q_LsI ma10
    have ka10 : q_K (q_sI (q_sI (S7) a8 (((8 : Int32) * (q_I (S) a1 1)) + (2 : Int32)).toNatClampNeg (q_I (S7) a1 2)) a10 (((8 : Int32) * (q_I (S) a1 1)) + (3 : Int32)).toNatClampNeg (q_I (q_sI (S7) a8 (((8 : Int32) * (q_I (S) a1 1)) + (2 : Int32)).toNatClampNeg (q_I (S7) a1 2)) a1 3)) a10 = 100 := q_KsI ka10
    obtain ⟨S12, eS12, h⟩ := q_letE h
    refine q_sub eS12 ?_
    have ma1 : a1 ∈ q_L S12 := by rw [eS12]; exact ma1
    have ka1 : q_K S12 a1 = 3 := by rw [eS12]; exact ka1
    have ma2 : a2 ∈ q_L S12 := by rw [eS12]; exact ma2
    have ka2 : q_K S12 a2 = 100 := by rw [eS12]; exact ka2
    have ma5 : a5 ∈ q_L S12 := by rw [eS12]; exact ma5
    have ka5 : q_K S12 a5 = 100 := by rw [eS12]; exact ka5
    have ma8 : a8 ∈ q_L S12 := by rw [eS12]; exact ma8
    have ka8 : q_K S12 a8 = 100 := by rw [eS12]; exact ka8
    have ma10 : a10 ∈ q_L S12 := by rw [eS12]; exact ma10
    have ka10 : q_K S12 a10 = 100 := by rw [eS12]; exact ka10
    refine q_aload_n X 1 rfl dX2_put_67 ?_
    refine q_getR X 0 ea1 ma1 ka1 rfl tW_X2 (by decide) (by decide) tF_X2_9 rfl dX2_put_68 ?_
    refine q_iload X 0 rfl dX2_put_71 ?_
    refine q_iconst X (4) (by decide) dX2_put_73 ?_
    refine q_iadd X dX2_put_74 ?_
    refine q_iload_n X 4 rfl dX2_put_75 ?_
    obtain ⟨a13, ea13, ma13, ka13, h⟩ := q_atE h
    obtain ⟨g14, h⟩ := q_ifE h
    refine q_iastore X ea13 ma13 ka13 (q_inE g14) dX2_put_76 ?_
    have ma1 : a1 ∈ q_L (q_sI (S12) a13 (((8 : Int32) * (q_I (S) a1 1)) + (4 : Int32)).toNatClampNeg (p2)) := q_LsI ma1
    have ka1 : q_K (q_sI (S12) a13 (((8 : Int32) * (q_I (S) a1 1)) + (4 : Int32)).toNatClampNeg (p2)) a1 = 3 := q_KsI ka1
    have ma2 : a2 ∈ q_L (q_sI (S12) a13 (((8 : Int32) * (q_I (S) a1 1)) + (4 : Int32)).toNatClampNeg (p2)) := q_LsI ma2
    have ka2 : q_K (q_sI (S12) a13 (((8 : Int32) * (q_I (S) a1 1)) + (4 : Int32)).toNatClampNeg (p2)) a2 = 100 := q_KsI ka2
    have ma5 : a5 ∈ q_L (q_sI (S12) a13 (((8 : Int32) * (q_I (S) a1 1)) + (4 : Int32)).toNatClampNeg (p2)) := q_LsI ma5
    have ka5 : q_K (q_sI (S12) a13 (((8 : Int32) * (q_I (S) a1 1)) + (4 : Int32)).toNatClampNeg (p2)) a5 = 100 := q_KsI ka5
    have ma8 : a8 ∈ q_L (q_sI (S12) a13 (((8 : Int32) * (q_I (S) a1 1)) + (4 : Int32)).toNatClampNeg (p2)) := q_LsI ma8
    have ka8 : q_K (q_sI (S12) a13 (((8 : Int32) * (q_I (S) a1 1)) + (4 : Int32)).toNatClampNeg (p2)) a8 = 100 := q_KsI ka8
    have ma10 : a10 ∈ q_L (q_sI (S12) a13 (((8 : Int32) * (q_I (S) a1 1)) + (4 : Int32)).toNatClampNeg (p2)) := q_LsI ma10
    have ka10 : q_K (q_sI (S12) a13 (((8 : Int32) * (q_I (S) a1 1)) + (4 : Int32)).toNatClampNeg (p2)) a10 = 100 := q_KsI ka10
    have ma13 : a13 ∈ q_L (q_sI (S12) a13 (((8 : Int32) * (q_I (S) a1 1)) + (4 : Int32)).toNatClampNeg (p2)) := q_LsI ma13
    have ka13 : q_K (q_sI (S12) a13 (((8 : Int32) * (q_I (S) a1 1)) + (4 : Int32)).toNatClampNeg (p2)) a13 = 100 := q_KsI ka13
    refine q_aload_n X 1 rfl dX2_put_77 ?_
    refine q_getR X 0 ea1 ma1 ka1 rfl tW_X2 (by decide) (by decide) tF_X2_9 rfl dX2_put_78 ?_
    refine q_iload X 0 rfl dX2_put_81 ?_
    refine q_iconst X (5) (by decide) dX2_put_83 ?_
    refine q_iadd X dX2_put_84 ?_
    refine q_iload X 5 rfl dX2_put_85 ?_
    obtain ⟨a15, ea15, ma15, ka15, h⟩ := q_atE h
    obtain ⟨g16, h⟩ := q_ifE h
    refine q_iastore X ea15 ma15 ka15 (q_inE g16) dX2_put_87 ?_
    have ma1 : a1 ∈ q_L (q_sI (q_sI (S12) a13 (((8 : Int32) * (q_I (S) a1 1)) + (4 : Int32)).toNatClampNeg (p2)) a15 (((8 : Int32) * (q_I (S) a1 1)) + (5 : Int32)).toNatClampNeg (p3)) := q_LsI ma1
    have ka1 : q_K (q_sI (q_sI (S12) a13 (((8 : Int32) * (q_I (S) a1 1)) + (4 : Int32)).toNatClampNeg (p2)) a15 (((8 : Int32) * (q_I (S) a1 1)) + (5 : Int32)).toNatClampNeg (p3)) a1 = 3 := q_KsI ka1
    have ma2 : a2 ∈ q_L (q_sI (q_sI (S12) a13 (((8 : Int32) * (q_I (S) a1 1)) + (4 : Int32)).toNatClampNeg (p2)) a15 (((8 : Int32) * (q_I (S) a1 1)) + (5 : Int32)).toNatClampNeg (p3)) := q_LsI ma2
    have ka2 : q_K (q_sI (q_sI (S12) a13 (((8 : Int32) * (q_I (S) a1 1)) + (4 : Int32)).toNatClampNeg (p2)) a15 (((8 : Int32) * (q_I (S) a1 1)) + (5 : Int32)).toNatClampNeg (p3)) a2 = 100 := q_KsI ka2
    have ma5 : a5 ∈ q_L (q_sI (q_sI (S12) a13 (((8 : Int32) * (q_I (S) a1 1)) + (4 : Int32)).toNatClampNeg (p2)) a15 (((8 : Int32) * (q_I (S) a1 1)) + (5 : Int32)).toNatClampNeg (p3)) := q_LsI ma5
    have ka5 : q_K (q_sI (q_sI (S12) a13 (((8 : Int32) * (q_I (S) a1 1)) + (4 : Int32)).toNatClampNeg (p2)) a15 (((8 : Int32) * (q_I (S) a1 1)) + (5 : Int32)).toNatClampNeg (p3)) a5 = 100 := q_KsI ka5
    have ma8 : a8 ∈ q_L (q_sI (q_sI (S12) a13 (((8 : Int32) * (q_I (S) a1 1)) + (4 : Int32)).toNatClampNeg (p2)) a15 (((8 : Int32) * (q_I (S) a1 1)) + (5 : Int32)).toNatClampNeg (p3)) := q_LsI ma8
    have ka8 : q_K (q_sI (q_sI (S12) a13 (((8 : Int32) * (q_I (S) a1 1)) + (4 : Int32)).toNatClampNeg (p2)) a15 (((8 : Int32) * (q_I (S) a1 1)) + (5 : Int32)).toNatClampNeg (p3)) a8 = 100 := q_KsI ka8
    have ma10 : a10 ∈ q_L (q_sI (q_sI (S12) a13 (((8 : Int32) * (q_I (S) a1 1)) + (4 : Int32)).toNatClampNeg (p2)) a15 (((8 : Int32) * (q_I (S) a1 1)) + (5 : Int32)).toNatClampNeg (p3)) := q_LsI ma10
    have ka10 : q_K (q_sI (q_sI (S12) a13 (((8 : Int32) * (q_I (S) a1 1)) + (4 : Int32)).toNatClampNeg (p2)) a15 (((8 : Int32) * (q_I (S) a1 1)) + (5 : Int32)).toNatClampNeg (p3)) a10 = 100 := q_KsI ka10
    have ma13 : a13 ∈ q_L (q_sI (q_sI (S12) a13 (((8 : Int32) * (q_I (S) a1 1)) + (4 : Int32)).toNatClampNeg (p2)) a15 (((8 : Int32) * (q_I (S) a1 1)) + (5 : Int32)).toNatClampNeg (p3)) := q_LsI ma13
    have ka13 : q_K (q_sI (q_sI (S12) a13 (((8 : Int32) * (q_I (S) a1 1)) + (4 : Int32)).toNatClampNeg (p2)) a15 (((8 : Int32) * (q_I (S) a1 1)) + (5 : Int32)).toNatClampNeg (p3)) a13 = 100 := q_KsI ka13
    have ma15 : a15 ∈ q_L (q_sI (q_sI (S12) a13 (((8 : Int32) * (q_I (S) a1 1)) + (4 : Int32)).toNatClampNeg (p2)) a15 (((8 : Int32) * (q_I (S) a1 1)) + (5 : Int32)).toNatClampNeg (p3)) := q_LsI ma15
    have ka15 : q_K (q_sI (q_sI (S12) a13 (((8 : Int32) * (q_I (S) a1 1)) + (4 : Int32)).toNatClampNeg (p2)) a15 (((8 : Int32) * (q_I (S) a1 1)) + (5 : Int32)).toNatClampNeg (p3)) a15 = 100 := q_KsI ka15
    obtain ⟨S17, eS17, h⟩ := q_letE h
    refine q_sub eS17 ?_
    have ma1 : a1 ∈ q_L S17 := by rw [eS17]; exact ma1
    have ka1 : q_K S17 a1 = 3 := by rw [eS17]; exact ka1
    have ma2 : a2 ∈ q_L S17 := by rw [eS17]; exact ma2
    have ka2 : q_K S17 a2 = 100 := by rw [eS17]; exact ka2
    have ma5 : a5 ∈ q_L S17 := by rw [eS17]; exact ma5
    have ka5 : q_K S17 a5 = 100 := by rw [eS17]; exact ka5
    have ma8 : a8 ∈ q_L S17 := by rw [eS17]; exact ma8
    have ka8 : q_K S17 a8 = 100 := by rw [eS17]; exact ka8
    have ma10 : a10 ∈ q_L S17 := by rw [eS17]; exact ma10
    have ka10 : q_K S17 a10 = 100 := by rw [eS17]; exact ka10
    have ma13 : a13 ∈ q_L S17 := by rw [eS17]; exact ma13
    have ka13 : q_K S17 a13 = 100 := by rw [eS17]; exact ka13
    have ma15 : a15 ∈ q_L S17 := by rw [eS17]; exact ma15
    have ka15 : q_K S17 a15 = 100 := by rw [eS17]; exact ka15
    refine q_aload_n X 1 rfl dX2_put_88 ?_
    refine q_getR X 0 ea1 ma1 ka1 rfl tW_X2 (by decide) (by decide) tF_X2_9 rfl dX2_put_89 ?_
    refine q_iload X 0 rfl dX2_put_92 ?_
    refine q_bipush X (6) (by decide) dX2_put_94 ?_
    refine q_iadd X dX2_put_96 ?_
    refine q_iload X 6 rfl dX2_put_97 ?_
    obtain ⟨a18, ea18, ma18, ka18, h⟩ := q_atE h
    obtain ⟨g19, h⟩ := q_ifE h
    refine q_iastore X ea18 ma18 ka18 (q_inE g19) dX2_put_99 ?_
    have ma1 : a1 ∈ q_L (q_sI (S17) a18 (((8 : Int32) * (q_I (S) a1 1)) + (6 : Int32)).toNatClampNeg (p4)) := q_LsI ma1
    have ka1 : q_K (q_sI (S17) a18 (((8 : Int32) * (q_I (S) a1 1)) + (6 : Int32)).toNatClampNeg (p4)) a1 = 3 := q_KsI ka1
    have ma2 : a2 ∈ q_L (q_sI (S17) a18 (((8 : Int32) * (q_I (S) a1 1)) + (6 : Int32)).toNatClampNeg (p4)) := q_LsI ma2
    have ka2 : q_K (q_sI (S17) a18 (((8 : Int32) * (q_I (S) a1 1)) + (6 : Int32)).toNatClampNeg (p4)) a2 = 100 := q_KsI ka2
    have ma5 : a5 ∈ q_L (q_sI (S17) a18 (((8 : Int32) * (q_I (S) a1 1)) + (6 : Int32)).toNatClampNeg (p4)) := q_LsI ma5
    have ka5 : q_K (q_sI (S17) a18 (((8 : Int32) * (q_I (S) a1 1)) + (6 : Int32)).toNatClampNeg (p4)) a5 = 100 := q_KsI ka5
    have ma8 : a8 ∈ q_L (q_sI (S17) a18 (((8 : Int32) * (q_I (S) a1 1)) + (6 : Int32)).toNatClampNeg (p4)) := q_LsI ma8
    have ka8 : q_K (q_sI (S17) a18 (((8 : Int32) * (q_I (S) a1 1)) + (6 : Int32)).toNatClampNeg (p4)) a8 = 100 := q_KsI ka8
    have ma10 : a10 ∈ q_L (q_sI (S17) a18 (((8 : Int32) * (q_I (S) a1 1)) + (6 : Int32)).toNatClampNeg (p4)) := q_LsI ma10
    have ka10 : q_K (q_sI (S17) a18 (((8 : Int32) * (q_I (S) a1 1)) + (6 : Int32)).toNatClampNeg (p4)) a10 = 100 := q_KsI ka10
    have ma13 : a13 ∈ q_L (q_sI (S17) a18 (((8 : Int32) * (q_I (S) a1 1)) + (6 : Int32)).toNatClampNeg (p4)) := q_LsI ma13
    have ka13 : q_K (q_sI (S17) a18 (((8 : Int32) * (q_I (S) a1 1)) + (6 : Int32)).toNatClampNeg (p4)) a13 = 100 := q_KsI ka13
    have ma15 : a15 ∈ q_L (q_sI (S17) a18 (((8 : Int32) * (q_I (S) a1 1)) + (6 : Int32)).toNatClampNeg (p4)) := q_LsI ma15
    have ka15 : q_K (q_sI (S17) a18 (((8 : Int32) * (q_I (S) a1 1)) + (6 : Int32)).toNatClampNeg (p4)) a15 = 100 := q_KsI ka15
    have ma18 : a18 ∈ q_L (q_sI (S17) a18 (((8 : Int32) * (q_I (S) a1 1)) + (6 : Int32)).toNatClampNeg (p4)) := q_LsI ma18
    have ka18 : q_K (q_sI (S17) a18 (((8 : Int32) * (q_I (S) a1 1)) + (6 : Int32)).toNatClampNeg (p4)) a18 = 100 := q_KsI ka18
    refine q_aload_n X 1 rfl dX2_put_100 ?_
    refine q_getR X 0 ea1 ma1 ka1 rfl tW_X2 (by decide) (by decide) tF_X2_9 rfl dX2_put_101 ?_
    refine q_iload X 0 rfl dX2_put_104 ?_
    refine q_bipush X (7) (by decide) dX2_put_106 ?_
    refine q_iadd X dX2_put_108 ?_
    refine q_iload X 7 rfl dX2_put_109 ?_
    obtain ⟨a20, ea20, ma20, ka20, h⟩ := q_atE h
    obtain ⟨g21, h⟩ := q_ifE h
    refine q_iastore X ea20 ma20 ka20 (q_inE g21) dX2_put_111 ?_
    have ma1 : a1 ∈ q_L (q_sI (q_sI (S17) a18 (((8 : Int32) * (q_I (S) a1 1)) + (6 : Int32)).toNatClampNeg (p4)) a20 (((8 : Int32) * (q_I (S) a1 1)) + (7 : Int32)).toNatClampNeg (p5)) := q_LsI ma1
    have ka1 : q_K (q_sI (q_sI (S17) a18 (((8 : Int32) * (q_I (S) a1 1)) + (6 : Int32)).toNatClampNeg (p4)) a20 (((8 : Int32) * (q_I (S) a1 1)) + (7 : Int32)).toNatClampNeg (p5)) a1 = 3 := q_KsI ka1
    have ma2 : a2 ∈ q_L (q_sI (q_sI (S17) a18 (((8 : Int32) * (q_I (S) a1 1)) + (6 : Int32)).toNatClampNeg (p4)) a20 (((8 : Int32) * (q_I (S) a1 1)) + (7 : Int32)).toNatClampNeg (p5)) := q_LsI ma2
    have ka2 : q_K (q_sI (q_sI (S17) a18 (((8 : Int32) * (q_I (S) a1 1)) + (6 : Int32)).toNatClampNeg (p4)) a20 (((8 : Int32) * (q_I (S) a1 1)) + (7 : Int32)).toNatClampNeg (p5)) a2 = 100 := q_KsI ka2
    have ma5 : a5 ∈ q_L (q_sI (q_sI (S17) a18 (((8 : Int32) * (q_I (S) a1 1)) + (6 : Int32)).toNatClampNeg (p4)) a20 (((8 : Int32) * (q_I (S) a1 1)) + (7 : Int32)).toNatClampNeg (p5)) := q_LsI ma5
    have ka5 : q_K (q_sI (q_sI (S17) a18 (((8 : Int32) * (q_I (S) a1 1)) + (6 : Int32)).toNatClampNeg (p4)) a20 (((8 : Int32) * (q_I (S) a1 1)) + (7 : Int32)).toNatClampNeg (p5)) a5 = 100 := q_KsI ka5
    have ma8 : a8 ∈ q_L (q_sI (q_sI (S17) a18 (((8 : Int32) * (q_I (S) a1 1)) + (6 : Int32)).toNatClampNeg (p4)) a20 (((8 : Int32) * (q_I (S) a1 1)) + (7 : Int32)).toNatClampNeg (p5)) := q_LsI ma8
    have ka8 : q_K (q_sI (q_sI (S17) a18 (((8 : Int32) * (q_I (S) a1 1)) + (6 : Int32)).toNatClampNeg (p4)) a20 (((8 : Int32) * (q_I (S) a1 1)) + (7 : Int32)).toNatClampNeg (p5)) a8 = 100 := q_KsI ka8
    have ma10 : a10 ∈ q_L (q_sI (q_sI (S17) a18 (((8 : Int32) * (q_I (S) a1 1)) + (6 : Int32)).toNatClampNeg (p4)) a20 (((8 : Int32) * (q_I (S) a1 1)) + (7 : Int32)).toNatClampNeg (p5)) := q_LsI ma10
    have ka10 : q_K (q_sI (q_sI (S17) a18 (((8 : Int32) * (q_I (S) a1 1)) + (6 : Int32)).toNatClampNeg (p4)) a20 (((8 : Int32) * (q_I (S) a1 1)) + (7 : Int32)).toNatClampNeg (p5)) a10 = 100 := q_KsI ka10
    have ma13 : a13 ∈ q_L (q_sI (q_sI (S17) a18 (((8 : Int32) * (q_I (S) a1 1)) + (6 : Int32)).toNatClampNeg (p4)) a20 (((8 : Int32) * (q_I (S) a1 1)) + (7 : Int32)).toNatClampNeg (p5)) := q_LsI ma13
    have ka13 : q_K (q_sI (q_sI (S17) a18 (((8 : Int32) * (q_I (S) a1 1)) + (6 : Int32)).toNatClampNeg (p4)) a20 (((8 : Int32) * (q_I (S) a1 1)) + (7 : Int32)).toNatClampNeg (p5)) a13 = 100 := q_KsI ka13
    have ma15 : a15 ∈ q_L (q_sI (q_sI (S17) a18 (((8 : Int32) * (q_I (S) a1 1)) + (6 : Int32)).toNatClampNeg (p4)) a20 (((8 : Int32) * (q_I (S) a1 1)) + (7 : Int32)).toNatClampNeg (p5)) := q_LsI ma15
    have ka15 : q_K (q_sI (q_sI (S17) a18 (((8 : Int32) * (q_I (S) a1 1)) + (6 : Int32)).toNatClampNeg (p4)) a20 (((8 : Int32) * (q_I (S) a1 1)) + (7 : Int32)).toNatClampNeg (p5)) a15 = 100 := q_KsI ka15
    have ma18 : a18 ∈ q_L (q_sI (q_sI (S17) a18 (((8 : Int32) * (q_I (S) a1 1)) + (6 : Int32)).toNatClampNeg (p4)) a20 (((8 : Int32) * (q_I (S) a1 1)) + (7 : Int32)).toNatClampNeg (p5)) := q_LsI ma18
    have ka18 : q_K (q_sI (q_sI (S17) a18 (((8 : Int32) * (q_I (S) a1 1)) + (6 : Int32)).toNatClampNeg (p4)) a20 (((8 : Int32) * (q_I (S) a1 1)) + (7 : Int32)).toNatClampNeg (p5)) a18 = 100 := q_KsI ka18
    have ma20 : a20 ∈ q_L (q_sI (q_sI (S17) a18 (((8 : Int32) * (q_I (S) a1 1)) + (6 : Int32)).toNatClampNeg (p4)) a20 (((8 : Int32) * (q_I (S) a1 1)) + (7 : Int32)).toNatClampNeg (p5)) := q_LsI ma20
    have ka20 : q_K (q_sI (q_sI (S17) a18 (((8 : Int32) * (q_I (S) a1 1)) + (6 : Int32)).toNatClampNeg (p4)) a20 (((8 : Int32) * (q_I (S) a1 1)) + (7 : Int32)).toNatClampNeg (p5)) a20 = 100 := q_KsI ka20
    obtain ⟨S22, eS22, h⟩ := q_letE h
    refine q_sub eS22 ?_
    have ma1 : a1 ∈ q_L S22 := by rw [eS22]; exact ma1
    have ka1 : q_K S22 a1 = 3 := by rw [eS22]; exact ka1
    have ma2 : a2 ∈ q_L S22 := by rw [eS22]; exact ma2
    have ka2 : q_K S22 a2 = 100 := by rw [eS22]; exact ka2
    have ma5 : a5 ∈ q_L S22 := by rw [eS22]; exact ma5
    have ka5 : q_K S22 a5 = 100 := by rw [eS22]; exact ka5
    have ma8 : a8 ∈ q_L S22 := by rw [eS22]; exact ma8
    have ka8 : q_K S22 a8 = 100 := by rw [eS22]; exact ka8
    have ma10 : a10 ∈ q_L S22 := by rw [eS22]; exact ma10
    have ka10 : q_K S22 a10 = 100 := by rw [eS22]; exact ka10
    have ma13 : a13 ∈ q_L S22 := by rw [eS22]; exact ma13
    have ka13 : q_K S22 a13 = 100 := by rw [eS22]; exact ka13
    have ma15 : a15 ∈ q_L S22 := by rw [eS22]; exact ma15
    have ka15 : q_K S22 a15 = 100 := by rw [eS22]; exact ka15
    have ma18 : a18 ∈ q_L S22 := by rw [eS22]; exact ma18
    have ka18 : q_K S22 a18 = 100 := by rw [eS22]; exact ka18
    have ma20 : a20 ∈ q_L S22 := by rw [eS22]; exact ma20
    have ka20 : q_K S22 a20 = 100 := by rw [eS22]; exact ka20
    refine q_aload_n X 1 rfl dX2_put_112 ?_
    refine q_dup X (q_catR _) dX2_put_113 ?_
    refine q_getI X 1 ea1 ma1 ka1 rfl tW_X2 (by decide) (by decide) tF_X2_15 rfl dX2_put_114 ?_
    refine q_iconst X (1) (by decide) dX2_put_117 ?_
    refine q_iadd X dX2_put_118 ?_
    refine q_putI X 1 ea1 ma1 ka1 rfl tW_X2 (by decide) (by decide) tF_X2_15 tyX2 tyX2_ok nmX2 rfl (tyX2_ok 1 (by decide)) rfl rfl rfl dX2_put_119 ?_
    have ma1 : a1 ∈ q_L (q_sI (S22) a1 1 ((q_I (S22) a1 1) + (1 : Int32))) := q_LsI ma1
    have ka1 : q_K (q_sI (S22) a1 1 ((q_I (S22) a1 1) + (1 : Int32))) a1 = 3 := q_KsI ka1
    have ma2 : a2 ∈ q_L (q_sI (S22) a1 1 ((q_I (S22) a1 1) + (1 : Int32))) := q_LsI ma2
    have ka2 : q_K (q_sI (S22) a1 1 ((q_I (S22) a1 1) + (1 : Int32))) a2 = 100 := q_KsI ka2
    have ma5 : a5 ∈ q_L (q_sI (S22) a1 1 ((q_I (S22) a1 1) + (1 : Int32))) := q_LsI ma5
    have ka5 : q_K (q_sI (S22) a1 1 ((q_I (S22) a1 1) + (1 : Int32))) a5 = 100 := q_KsI ka5
    have ma8 : a8 ∈ q_L (q_sI (S22) a1 1 ((q_I (S22) a1 1) + (1 : Int32))) := q_LsI ma8
    have ka8 : q_K (q_sI (S22) a1 1 ((q_I (S22) a1 1) + (1 : Int32))) a8 = 100 := q_KsI ka8
    have ma10 : a10 ∈ q_L (q_sI (S22) a1 1 ((q_I (S22) a1 1) + (1 : Int32))) := q_LsI ma10
    have ka10 : q_K (q_sI (S22) a1 1 ((q_I (S22) a1 1) + (1 : Int32))) a10 = 100 := q_KsI ka10
    have ma13 : a13 ∈ q_L (q_sI (S22) a1 1 ((q_I (S22) a1 1) + (1 : Int32))) := q_LsI ma13
    have ka13 : q_K (q_sI (S22) a1 1 ((q_I (S22) a1 1) + (1 : Int32))) a13 = 100 := q_KsI ka13
    have ma15 : a15 ∈ q_L (q_sI (S22) a1 1 ((q_I (S22) a1 1) + (1 : Int32))) := q_LsI ma15
    have ka15 : q_K (q_sI (S22) a1 1 ((q_I (S22) a1 1) + (1 : Int32))) a15 = 100 := q_KsI ka15
    have ma18 : a18 ∈ q_L (q_sI (S22) a1 1 ((q_I (S22) a1 1) + (1 : Int32))) := q_LsI ma18
    have ka18 : q_K (q_sI (S22) a1 1 ((q_I (S22) a1 1) + (1 : Int32))) a18 = 100 := q_KsI ka18
    have ma20 : a20 ∈ q_L (q_sI (S22) a1 1 ((q_I (S22) a1 1) + (1 : Int32))) := q_LsI ma20
    have ka20 : q_K (q_sI (S22) a1 1 ((q_I (S22) a1 1) + (1 : Int32))) a20 = 100 := q_KsI ka20
    refine q_aload_n X 1 rfl dX2_put_122 ?_
    refine q_iload X 6 rfl dX2_put_123 ?_
    refine q_putI X 2 ea1 ma1 ka1 rfl tW_X2 (by decide) (by decide) tF_X2_40 tyX2 tyX2_ok nmX2 rfl (tyX2_ok 2 (by decide)) rfl rfl rfl dX2_put_125 ?_
    have ma1 : a1 ∈ q_L (q_sI (q_sI (S22) a1 1 ((q_I (S22) a1 1) + (1 : Int32))) a1 2 (p4)) := q_LsI ma1
    have ka1 : q_K (q_sI (q_sI (S22) a1 1 ((q_I (S22) a1 1) + (1 : Int32))) a1 2 (p4)) a1 = 3 := q_KsI ka1
    have ma2 : a2 ∈ q_L (q_sI (q_sI (S22) a1 1 ((q_I (S22) a1 1) + (1 : Int32))) a1 2 (p4)) := q_LsI ma2
    have ka2 : q_K (q_sI (q_sI (S22) a1 1 ((q_I (S22) a1 1) + (1 : Int32))) a1 2 (p4)) a2 = 100 := q_KsI ka2
    have ma5 : a5 ∈ q_L (q_sI (q_sI (S22) a1 1 ((q_I (S22) a1 1) + (1 : Int32))) a1 2 (p4)) := q_LsI ma5
    have ka5 : q_K (q_sI (q_sI (S22) a1 1 ((q_I (S22) a1 1) + (1 : Int32))) a1 2 (p4)) a5 = 100 := q_KsI ka5
    have ma8 : a8 ∈ q_L (q_sI (q_sI (S22) a1 1 ((q_I (S22) a1 1) + (1 : Int32))) a1 2 (p4)) := q_LsI ma8
    have ka8 : q_K (q_sI (q_sI (S22) a1 1 ((q_I (S22) a1 1) + (1 : Int32))) a1 2 (p4)) a8 = 100 := q_KsI ka8
    have ma10 : a10 ∈ q_L (q_sI (q_sI (S22) a1 1 ((q_I (S22) a1 1) + (1 : Int32))) a1 2 (p4)) := q_LsI ma10
    have ka10 : q_K (q_sI (q_sI (S22) a1 1 ((q_I (S22) a1 1) + (1 : Int32))) a1 2 (p4)) a10 = 100 := q_KsI ka10
    have ma13 : a13 ∈ q_L (q_sI (q_sI (S22) a1 1 ((q_I (S22) a1 1) + (1 : Int32))) a1 2 (p4)) := q_LsI ma13
    have ka13 : q_K (q_sI (q_sI (S22) a1 1 ((q_I (S22) a1 1) + (1 : Int32))) a1 2 (p4)) a13 = 100 := q_KsI ka13
    have ma15 : a15 ∈ q_L (q_sI (q_sI (S22) a1 1 ((q_I (S22) a1 1) + (1 : Int32))) a1 2 (p4)) := q_LsI ma15
    have ka15 : q_K (q_sI (q_sI (S22) a1 1 ((q_I (S22) a1 1) + (1 : Int32))) a1 2 (p4)) a15 = 100 := q_KsI ka15
    have ma18 : a18 ∈ q_L (q_sI (q_sI (S22) a1 1 ((q_I (S22) a1 1) + (1 : Int32))) a1 2 (p4)) := q_LsI ma18
    have ka18 : q_K (q_sI (q_sI (S22) a1 1 ((q_I (S22) a1 1) + (1 : Int32))) a1 2 (p4)) a18 = 100 := q_KsI ka18
    have ma20 : a20 ∈ q_L (q_sI (q_sI (S22) a1 1 ((q_I (S22) a1 1) + (1 : Int32))) a1 2 (p4)) := q_LsI ma20
    have ka20 : q_K (q_sI (q_sI (S22) a1 1 ((q_I (S22) a1 1) + (1 : Int32))) a1 2 (p4)) a20 = 100 := q_KsI ka20
    obtain ⟨S23, eS23, h⟩ := q_letE h
    refine q_sub eS23 ?_
    have ma1 : a1 ∈ q_L S23 := by rw [eS23]; exact ma1
    have ka1 : q_K S23 a1 = 3 := by rw [eS23]; exact ka1
    have ma2 : a2 ∈ q_L S23 := by rw [eS23]; exact ma2
    have ka2 : q_K S23 a2 = 100 := by rw [eS23]; exact ka2
    have ma5 : a5 ∈ q_L S23 := by rw [eS23]; exact ma5
    have ka5 : q_K S23 a5 = 100 := by rw [eS23]; exact ka5
    have ma8 : a8 ∈ q_L S23 := by rw [eS23]; exact ma8
    have ka8 : q_K S23 a8 = 100 := by rw [eS23]; exact ka8
    have ma10 : a10 ∈ q_L S23 := by rw [eS23]; exact ma10
    have ka10 : q_K S23 a10 = 100 := by rw [eS23]; exact ka10
    have ma13 : a13 ∈ q_L S23 := by rw [eS23]; exact ma13
    have ka13 : q_K S23 a13 = 100 := by rw [eS23]; exact ka13
    have ma15 : a15 ∈ q_L S23 := by rw [eS23]; exact ma15
    have ka15 : q_K S23 a15 = 100 := by rw [eS23]; exact ka15
    have ma18 : a18 ∈ q_L S23 := by rw [eS23]; exact ma18
    have ka18 : q_K S23 a18 = 100 := by rw [eS23]; exact ka18
    have ma20 : a20 ∈ q_L S23 := by rw [eS23]; exact ma20
    have ka20 : q_K S23 a20 = 100 := by rw [eS23]; exact ka20
    refine q_aload_n X 1 rfl dX2_put_128 ?_
    refine q_iload X 7 rfl dX2_put_129 ?_
    refine q_putI X 3 ea1 ma1 ka1 rfl tW_X2 (by decide) (by decide) tF_X2_46 tyX2 tyX2_ok nmX2 rfl (tyX2_ok 3 (by decide)) rfl rfl rfl dX2_put_131 ?_
    have ma1 : a1 ∈ q_L (q_sI (S23) a1 3 (p5)) := q_LsI ma1
    have ka1 : q_K (q_sI (S23) a1 3 (p5)) a1 = 3 := q_KsI ka1
    have ma2 : a2 ∈ q_L (q_sI (S23) a1 3 (p5)) := q_LsI ma2
    have ka2 : q_K (q_sI (S23) a1 3 (p5)) a2 = 100 := q_KsI ka2
    have ma5 : a5 ∈ q_L (q_sI (S23) a1 3 (p5)) := q_LsI ma5
    have ka5 : q_K (q_sI (S23) a1 3 (p5)) a5 = 100 := q_KsI ka5
    have ma8 : a8 ∈ q_L (q_sI (S23) a1 3 (p5)) := q_LsI ma8
    have ka8 : q_K (q_sI (S23) a1 3 (p5)) a8 = 100 := q_KsI ka8
    have ma10 : a10 ∈ q_L (q_sI (S23) a1 3 (p5)) := q_LsI ma10
    have ka10 : q_K (q_sI (S23) a1 3 (p5)) a10 = 100 := q_KsI ka10
    have ma13 : a13 ∈ q_L (q_sI (S23) a1 3 (p5)) := q_LsI ma13
    have ka13 : q_K (q_sI (S23) a1 3 (p5)) a13 = 100 := q_KsI ka13
    have ma15 : a15 ∈ q_L (q_sI (S23) a1 3 (p5)) := q_LsI ma15
    have ka15 : q_K (q_sI (S23) a1 3 (p5)) a15 = 100 := q_KsI ka15
    have ma18 : a18 ∈ q_L (q_sI (S23) a1 3 (p5)) := q_LsI ma18
    have ka18 : q_K (q_sI (S23) a1 3 (p5)) a18 = 100 := q_KsI ka18
    have ma20 : a20 ∈ q_L (q_sI (S23) a1 3 (p5)) := q_LsI ma20
    have ka20 : q_K (q_sI (S23) a1 3 (p5)) a20 = 100 := q_KsI ka20
    obtain ⟨ev, eS⟩ := q_end h
    exact q_vret X hr hl eS dX2_put_134
  · rw [if_neg g3] at h
    obtain ⟨ev, eS⟩ := q_end h
    exact q_vret X hr hl eS dX2_put_22
theorem tD_X2_put : yX2_put.cls ≠ "java/lang/invoke/MethodHandle" ∧ yX2_put.cls ≠ "java/lang/invoke/VarHandle" ∧ (parseMethodDescriptor yX2_put.desc).map (fun d => d.parameters.length) = some 6 := by decide +kernel
theorem c_X2_put {l : Launch} {D : va_G} {cy : Nat → ClassId} {n : Nat} {S Sv : q_S} {o : Nat} {p0 : Int32} {p1 : Int32} {p2 : Int32} {p3 : Int32} {p4 : Int32} {p5 : Int32} (h : m_X2_put n S o p0 p1 p2 p3 p4 p5 = some ((), Sv)) : q_MV l yX2_put (q_ws yX2_put cX2_put 8 (none)) ({ frames := 0, cells := 0, slots := 0, locals := 0 } : Room) D cy [.ref o, .int (p0), .int (p1), .int (p2), .int (p3), .int (p4), .int (p5)] S Sv := by
  exact q_MV_of (by decide +kernel) (Nat.le_of_ble_eq_true rfl) (fun p e s m args below meth c A X hr hl => w_X2_put X hr hl h)
end MM
