section MM
variable {p : Program} {l : Launch} {e : Env} {s : State} {m : MethodId} {args : Array Value} {below : List Frame} {meth : Method} {c : Code} {A : Nat → Prop} {D : va_G} {cy : Nat → ClassId}
/-! TrueOutlines$Codes.findBy(II)J -/
def m_X0_findBy_66 (n : Nat) (S : q_S) (s0 : Int64) : Option (Int64 × q_S) := some (s0, S)
set_option maxHeartbeats 4000000 in
set_option maxRecDepth 100000 in
theorem w_X0_findBy_66 (X : q_X p s m args c cX0_findBy 3 RX0 q_T D cy A) (hr : meth.sig.returnType = (some .long)) (hl : meth.locks = false)  {n : Nat} {Sv : q_S} {rv : Int64}  (S : q_S) (s0 : Int64) (h : m_X0_findBy_66 n S s0 = some (rv, Sv)) : q_W p l e ({ frames := 5, cells := 0, slots := 0, locals := 121 } : Room) s m args below meth c (MQ below (va_Ql (fun (r : Int64) (u : q_S) => r = rv ∧ u = Sv) (q_B D cy A) A) args s 0 0 A) A D cy 3 0 0 S 66 [] [.long (s0)] := by
  unfold m_X0_findBy_66 at h
  obtain ⟨ev, eS⟩ := q_end h
  exact q_lret X hr hl ev eS dX0_findBy_66
def m_X0_findBy (n : Nat) (S : q_S) (o : Nat) (p0 : Int32) (p1 : Int32) : Option (Int64 × q_S) := (if p0 = 0 then (if (256 : Int32) ≤ p1 then m_X0_findBy_66 n (S) ((0 : Int64)) else q_at (S) (some o) 1 (fun a3 => q_at (S) (q_R (S) a3 1) 8 (fun a4 => q_b (m_X7_one n (S) a4 (((q_J (S) a3 2) + (6 : Int64)) + (p1.toInt64))) (fun r5 S6 => m_X0_findBy_66 n (S6) (r5.toInt64))))) else (if p0 = 4 then q_at (S) (some o) 1 (fun a8 => q_b (m_X0_findInSegments n (S) a8 (p1)) (fun r9 S10 => some (r9.toInt64, S10))) else (if p0 = 6 then q_at (S) (some o) 1 (fun a12 => q_b (m_X0_findInRow n (S) a12 (p1)) (fun r13 S14 => some (r13.toInt64, S14))) else q_at (S) (some o) 1 (fun a16 => q_b (m_X0_findInGroups n (S) a16 (p1)) (fun r17 S18 => some (r17, S18))))))
set_option maxHeartbeats 4000000 in
set_option maxRecDepth 100000 in
theorem w_X0_findBy (X : q_X p s m args c cX0_findBy 3 RX0 q_T D cy A) (hr : meth.sig.returnType = (some .long)) (hl : meth.locks = false)  {n : Nat} {S Sv : q_S} {rv : Int64} {o : Nat} {p0 : Int32} {p1 : Int32} (h : m_X0_findBy n S o p0 p1 = some (rv, Sv)) : q_W p l e ({ frames := 5, cells := 0, slots := 0, locals := 121 } : Room) s m args below meth c (MQ below (va_Ql (fun (r : Int64) (u : q_S) => r = rv ∧ u = Sv) (q_B D cy A) A) args s 0 0 A) A D cy 3 0 0 S 0 [(0, va_rf (some o)), (1, .int (p0)), (2, .int (p1))] [] := by
  unfold m_X0_findBy at h
  refine q_iload_n X 1 rfl dX0_findBy_0 ?_
  by_cases g1_0 : p0 = 0
  · rw [if_pos g1_0] at h
    refine q_lookup X 36 (by decide) (off := 35) (by rw [g1_0]; decide) (by decide) dX0_findBy_1 ?_
    refine q_iload_n X 2 rfl dX0_findBy_36 ?_
    refine q_sipush X (256) (by decide) dX0_findBy_37 ?_
    refine q_icmp_ge X 65 (by decide) dX0_findBy_40 (fun g2 => ?_) (fun g2 => ?_)
    · rw [if_pos g2] at h
      refine q_lconst X (0) (by decide) dX0_findBy_65 ?_
      refine q_lv [] rfl ?_
      exact w_X0_findBy_66 X hr hl _ _ h
    · rw [if_neg g2] at h
      refine q_aload_n X 0 rfl dX0_findBy_43 ?_
      obtain ⟨a3, ea3, ma3, ka3, h⟩ := q_atE h
      refine q_getR X 1 ea3 ma3 ka3 rfl tW_X0 (by decide) (by decide) tF_X0_21 rfl dX0_findBy_44 ?_
      refine q_aload_n X 0 rfl dX0_findBy_47 ?_
      refine q_getJ X 2 ea3 ma3 ka3 rfl tW_X0 (by decide) (by decide) tF_X0_46 rfl dX0_findBy_48 ?_
      refine q_ldc2_w X (6) tC_X0_57 dX0_findBy_51 ?_
      refine q_ladd X dX0_findBy_54 ?_
      refine q_iload_n X 2 rfl dX0_findBy_55 ?_
      refine q_i2l X dX0_findBy_56 ?_
      refine q_ladd X dX0_findBy_57 ?_
      obtain ⟨a4, ea4, ma4, ka4, h⟩ := q_atE h
      obtain ⟨r5, S6, c7, h⟩ := q_bE h
      refine q_cVI X (As := [.long (((q_J (S) a3 2) + (6 : Int64)) + (p1.toInt64))]) ea4 ma4 ka4 rfl (by decide) (c_X7_one c7) (q_cwV X tK_X7_one tM_X0_59 tI_X7_one tV_X7_one tN_X7 rfl rfl tD_X7_one ⟨Nat.le_of_ble_eq_true rfl, Nat.le_of_ble_eq_true rfl⟩) rfl rfl (by first | exact Nat.le_of_ble_eq_true rfl | (simp only [List.map, q_catR]; exact Nat.le_of_ble_eq_true rfl)) ⟨Nat.zero_le _, Nat.zero_le _⟩ dX0_findBy_58 ?_
      refine q_i2l X dX0_findBy_61 ?_
      refine q_goto X 66 (by decide) dX0_findBy_62 ?_
      refine q_lv [] rfl ?_
      exact w_X0_findBy_66 X hr hl _ _ h
  rw [if_neg g1_0] at h
  by_cases g1_1 : p0 = 4
  · rw [if_pos g1_1] at h
    refine q_lookup X 67 (by decide) (off := 66) (by rw [g1_1]; decide) (by decide) dX0_findBy_1 ?_
    refine q_aload_n X 0 rfl dX0_findBy_67 ?_
    refine q_iload_n X 2 rfl dX0_findBy_68 ?_
    obtain ⟨a8, ea8, ma8, ka8, h⟩ := q_atE h
    obtain ⟨r9, S10, c11, h⟩ := q_bE h
    refine q_cVI X (As := [.int (p1)]) ea8 ma8 ka8 rfl (by decide) (c_X0_findInSegments c11) (q_cwV X tK_X0_findInSegments tM_X0_62 tI_X0_findInSegments tV_X0_findInSegments tN_X0 rfl rfl tD_X0_findInSegments ⟨Nat.le_of_ble_eq_true rfl, Nat.le_of_ble_eq_true rfl⟩) rfl rfl (by first | exact Nat.le_of_ble_eq_true rfl | (simp only [List.map, q_catR]; exact Nat.le_of_ble_eq_true rfl)) ⟨Nat.zero_le _, Nat.zero_le _⟩ dX0_findBy_69 ?_
    refine q_i2l X dX0_findBy_72 ?_
    obtain ⟨ev, eS⟩ := q_end h
    exact q_lret X hr hl ev eS dX0_findBy_73
  rw [if_neg g1_1] at h
  by_cases g1_2 : p0 = 6
  · rw [if_pos g1_2] at h
    refine q_lookup X 74 (by decide) (off := 73) (by rw [g1_2]; decide) (by decide) dX0_findBy_1 ?_
    refine q_aload_n X 0 rfl dX0_findBy_74 ?_
    refine q_iload_n X 2 rfl dX0_findBy_75 ?_
    obtain ⟨a12, ea12, ma12, ka12, h⟩ := q_atE h
    obtain ⟨r13, S14, c15, h⟩ := q_bE h
    refine q_cVI X (As := [.int (p1)]) ea12 ma12 ka12 rfl (by decide) (c_X0_findInRow c15) (q_cwV X tK_X0_findInRow tM_X0_66 tI_X0_findInRow tV_X0_findInRow tN_X0 rfl rfl tD_X0_findInRow ⟨Nat.le_of_ble_eq_true rfl, Nat.le_of_ble_eq_true rfl⟩) rfl rfl (by first | exact Nat.le_of_ble_eq_true rfl | (simp only [List.map, q_catR]; exact Nat.le_of_ble_eq_true rfl)) ⟨Nat.zero_le _, Nat.zero_le _⟩ dX0_findBy_76 ?_
    refine q_i2l X dX0_findBy_79 ?_
    obtain ⟨ev, eS⟩ := q_end h
    exact q_lret X hr hl ev eS dX0_findBy_80
  rw [if_neg g1_2] at h
  refine q_lookup X 81 (by decide) (off := 80) (by have u0 : ¬ (0 : Int) = (p0).toInt := fun e => g1_0 (Int32.toInt_inj.mp (e.symm.trans (by decide))); have u1 : ¬ (4 : Int) = (p0).toInt := fun e => g1_1 (Int32.toInt_inj.mp (e.symm.trans (by decide))); have u2 : ¬ (6 : Int) = (p0).toInt := fun e => g1_2 (Int32.toInt_inj.mp (e.symm.trans (by decide))); simp [Op.lookupswitch.offset, u0, u1, u2]) (by decide) dX0_findBy_1 ?_
  refine q_aload_n X 0 rfl dX0_findBy_81 ?_
  refine q_iload_n X 2 rfl dX0_findBy_82 ?_
  obtain ⟨a16, ea16, ma16, ka16, h⟩ := q_atE h
  obtain ⟨r17, S18, c19, h⟩ := q_bE h
  refine q_cVJ X (As := [.int (p1)]) ea16 ma16 ka16 rfl (by decide) (c_X0_findInGroups c19) (q_cwV X tK_X0_findInGroups tM_X0_69 tI_X0_findInGroups tV_X0_findInGroups tN_X0 rfl rfl tD_X0_findInGroups ⟨Nat.le_of_ble_eq_true rfl, Nat.le_of_ble_eq_true rfl⟩) rfl rfl (by first | exact Nat.le_of_ble_eq_true rfl | (simp only [List.map, q_catR]; exact Nat.le_of_ble_eq_true rfl)) ⟨Nat.zero_le _, Nat.zero_le _⟩ dX0_findBy_83 ?_
  obtain ⟨ev, eS⟩ := q_end h
  exact q_lret X hr hl ev eS dX0_findBy_86
theorem tD_X0_findBy : yX0_findBy.cls ≠ "java/lang/invoke/MethodHandle" ∧ yX0_findBy.cls ≠ "java/lang/invoke/VarHandle" ∧ (parseMethodDescriptor yX0_findBy.desc).map (fun d => d.parameters.length) = some 2 := by decide +kernel
theorem c_X0_findBy {l : Launch} {D : va_G} {cy : Nat → ClassId} {n : Nat} {S Sv : q_S} {rv : Int64} {o : Nat} {p0 : Int32} {p1 : Int32} (h : m_X0_findBy n S o p0 p1 = some (rv, Sv)) : q_MJ l yX0_findBy (q_ws yX0_findBy cX0_findBy 3 ((some .long))) ({ frames := 5, cells := 0, slots := 0, locals := 121 } : Room) D cy [.ref o, .int (p0), .int (p1)] S rv Sv := by
  exact q_MJ_of (by decide +kernel) (Nat.le_of_ble_eq_true rfl) (fun p e s m args below meth c A X hr hl => w_X0_findBy X hr hl h)
/-! TrueOutlines$Tables.has(I)Z -/
def m_X8_has_17 (n : Nat) (S : q_S) (s0 : Int32) : Option (Int32 × q_S) := q_if (s0 = 0 ∨ s0 = 1) (some (s0, S))
set_option maxHeartbeats 4000000 in
set_option maxRecDepth 100000 in
theorem w_X8_has_17 (X : q_X p s m args c cX8_has 2 RX8 q_T D cy A) (hr : meth.sig.returnType = (some .boolean)) (hl : meth.locks = false)  {n : Nat} {Sv : q_S} {rv : Int32}  (S : q_S) (s0 : Int32) (h : m_X8_has_17 n S s0 = some (rv, Sv)) : q_W p l e ({ frames := 0, cells := 0, slots := 0, locals := 0 } : Room) s m args below meth c (MQ below (va_Qi (fun (r : Int32) (u : q_S) => r = rv ∧ u = Sv) (q_B D cy A) A) args s 0 0 A) A D cy 2 0 0 S 17 [] [.int (s0)] := by
  unfold m_X8_has_17 at h
  obtain ⟨g1, h⟩ := q_ifE h
  obtain ⟨ev, eS⟩ := q_end h
  exact q_iret X hr hl (q_bool g1) ev eS dX8_has_17
def m_X8_has_16 (n : Nat) (S : q_S) : Option (Int32 × q_S) := m_X8_has_17 n (S) ((0 : Int32))
set_option maxHeartbeats 4000000 in
set_option maxRecDepth 100000 in
theorem w_X8_has_16 (X : q_X p s m args c cX8_has 2 RX8 q_T D cy A) (hr : meth.sig.returnType = (some .boolean)) (hl : meth.locks = false)  {n : Nat} {Sv : q_S} {rv : Int32}  (S : q_S) (h : m_X8_has_16 n S = some (rv, Sv)) : q_W p l e ({ frames := 0, cells := 0, slots := 0, locals := 0 } : Room) s m args below meth c (MQ below (va_Qi (fun (r : Int32) (u : q_S) => r = rv ∧ u = Sv) (q_B D cy A) A) args s 0 0 A) A D cy 2 0 0 S 16 [] [] := by
  unfold m_X8_has_16 at h
  refine q_iconst X (0) (by decide) dX8_has_16 ?_
  exact w_X8_has_17 X hr hl _ _ h
def m_X8_has (n : Nat) (S : q_S) (o : Nat) (p0 : Int32) : Option (Int32 × q_S) := (if p0 < 0 then m_X8_has_16 n (S) else q_at (S) (some o) 9 (fun a2 => (if (q_I (S) a2 3) ≤ p0 then m_X8_has_16 n (S) else m_X8_has_17 n (S) ((1 : Int32)))))
set_option maxHeartbeats 4000000 in
set_option maxRecDepth 100000 in
theorem w_X8_has (X : q_X p s m args c cX8_has 2 RX8 q_T D cy A) (hr : meth.sig.returnType = (some .boolean)) (hl : meth.locks = false)  {n : Nat} {S Sv : q_S} {rv : Int32} {o : Nat} {p0 : Int32} (h : m_X8_has n S o p0 = some (rv, Sv)) : q_W p l e ({ frames := 0, cells := 0, slots := 0, locals := 0 } : Room) s m args below meth c (MQ below (va_Qi (fun (r : Int32) (u : q_S) => r = rv ∧ u = Sv) (q_B D cy A) A) args s 0 0 A) A D cy 2 0 0 S 0 [(0, va_rf (some o)), (1, .int (p0))] [] := by
  unfold m_X8_has at h
  refine q_iload_n X 1 rfl dX8_has_0 ?_
  refine q_if_lt X 16 (by decide) dX8_has_1 (fun g1 => ?_) (fun g1 => ?_)
  · rw [if_pos g1] at h
    refine q_lv [] rfl ?_
    exact w_X8_has_16 X hr hl _ h
  · rw [if_neg g1] at h
    refine q_iload_n X 1 rfl dX8_has_4 ?_
    refine q_aload_n X 0 rfl dX8_has_5 ?_
    obtain ⟨a2, ea2, ma2, ka2, h⟩ := q_atE h
    refine q_getI X 3 ea2 ma2 ka2 rfl tW_X8 (by decide) (by decide) tF_X8_28 rfl dX8_has_6 ?_
    refine q_icmp_ge X 16 (by decide) dX8_has_9 (fun g3 => ?_) (fun g3 => ?_)
    · rw [if_pos g3] at h
      refine q_lv [] rfl ?_
      exact w_X8_has_16 X hr hl _ h
    · rw [if_neg g3] at h
      refine q_iconst X (1) (by decide) dX8_has_12 ?_
      refine q_goto X 17 (by decide) dX8_has_13 ?_
      refine q_lv [] rfl ?_
      exact w_X8_has_17 X hr hl _ _ h
theorem tD_X8_has : yX8_has.cls ≠ "java/lang/invoke/MethodHandle" ∧ yX8_has.cls ≠ "java/lang/invoke/VarHandle" ∧ (parseMethodDescriptor yX8_has.desc).map (fun d => d.parameters.length) = some 1 := by decide +kernel
theorem c_X8_has {l : Launch} {D : va_G} {cy : Nat → ClassId} {n : Nat} {S Sv : q_S} {rv : Int32} {o : Nat} {p0 : Int32} (h : m_X8_has n S o p0 = some (rv, Sv)) : q_MI l yX8_has (q_ws yX8_has cX8_has 2 ((some .boolean))) ({ frames := 0, cells := 0, slots := 0, locals := 0 } : Room) D cy [.ref o, .int (p0)] S rv Sv := by
  exact q_MI_of (by decide +kernel) (Nat.le_of_ble_eq_true rfl) (fun p e s m args below meth c A X hr hl => w_X8_has X hr hl h)
/-! TrueOutlines$Tables.get(I)LTrueOutlines$Table; -/
def m_X8_get_21 (n : Nat) (S : q_S) (s0 : Option Nat) : Option (Nat × q_S) := q_at (S) (s0) 8 (fun a1 => some (a1, S))
set_option maxHeartbeats 4000000 in
set_option maxRecDepth 100000 in
theorem w_X8_get_21 (X : q_X p s m args c cX8_get 2 RX8 q_T D cy A) (hr : meth.sig.returnType = (Option.some (Jvm.ClassFile.FieldType.object "TrueOutlines$Table"))) (hl : meth.locks = false)  {n : Nat} {Sv : q_S} {rv : Nat}  (S : q_S) (s0 : Option Nat) (h : m_X8_get_21 n S s0 = some (rv, Sv)) : q_W p l e ({ frames := 1, cells := 0, slots := 0, locals := 21 } : Room) s m args below meth c (MQ below (va_Qr (fun (u : q_S) => u = Sv) (fun (u : q_S) (a : Nat) (t : State) => a = rv ∧ q_B D cy A u t) A) args s 0 0 A) A D cy 2 0 0 S 21 [] [va_rf (s0)] := by
  unfold m_X8_get_21 at h
  obtain ⟨a1, ea1, ma1, ka1, h⟩ := q_atE h
  obtain ⟨ev, eS⟩ := q_end h
  subst ev
  exact q_aret X hr hl ea1 eS dX8_get_21
def m_X8_get (n : Nat) (S : q_S) (o : Nat) (p0 : Int32) : Option (Nat × q_S) := q_at (S) (some o) 9 (fun a1 => q_b (m_X8_has n (S) a1 (p0)) (fun r2 S3 => (if r2 = 0 then q_at (S3) (some o) 9 (fun a6 => m_X8_get_21 n (S3) (q_R (S3) a6 2)) else q_at (S3) (some o) 9 (fun a7 => q_at (S3) (q_R (S3) a7 1) 104 (fun a8 => q_if (q_in (p0) (q_N (S3) a8) = true) (m_X8_get_21 n (S3) (q_R (S3) a8 (p0).toNatClampNeg)))))))
set_option maxHeartbeats 4000000 in
set_option maxRecDepth 100000 in
theorem w_X8_get (X : q_X p s m args c cX8_get 2 RX8 q_T D cy A) (hr : meth.sig.returnType = (Option.some (Jvm.ClassFile.FieldType.object "TrueOutlines$Table"))) (hl : meth.locks = false)  {n : Nat} {S Sv : q_S} {rv : Nat} {o : Nat} {p0 : Int32} (h : m_X8_get n S o p0 = some (rv, Sv)) : q_W p l e ({ frames := 1, cells := 0, slots := 0, locals := 21 } : Room) s m args below meth c (MQ below (va_Qr (fun (u : q_S) => u = Sv) (fun (u : q_S) (a : Nat) (t : State) => a = rv ∧ q_B D cy A u t) A) args s 0 0 A) A D cy 2 0 0 S 0 [(0, va_rf (some o)), (1, .int (p0))] [] := by
  unfold m_X8_get at h
  refine q_aload_n X 0 rfl dX8_get_0 ?_
  refine q_iload_n X 1 rfl dX8_get_1 ?_
  obtain ⟨a1, ea1, ma1, ka1, h⟩ := q_atE h
  obtain ⟨r2, S3, c4, h⟩ := q_bE h
  refine q_cVI X (As := [.int (p0)]) ea1 ma1 ka1 rfl (by decide) (c_X8_has c4) (q_cwV X tK_X8_has tM_X8_32 tI_X8_has tV_X8_has tN_X8 rfl rfl tD_X8_has ⟨Nat.le_of_ble_eq_true rfl, Nat.le_of_ble_eq_true rfl⟩) rfl rfl (by first | exact Nat.le_of_ble_eq_true rfl | (simp only [List.map, q_catR]; exact Nat.le_of_ble_eq_true rfl)) ⟨Nat.zero_le _, Nat.zero_le _⟩ dX8_get_2 ?_
  refine q_if_eq X 17 (by decide) dX8_get_5 (fun g5 => ?_) (fun g5 => ?_)
  · rw [if_pos g5] at h
    refine q_aload_n X 0 rfl dX8_get_17 ?_
    obtain ⟨a6, ea6, ma6, ka6, h⟩ := q_atE h
    refine q_getR X 2 ea6 ma6 ka6 rfl tW_X8 (by decide) (by decide) tF_X8_24 rfl dX8_get_18 ?_
    refine q_lv [] rfl ?_
    exact w_X8_get_21 X hr hl _ _ h
  · rw [if_neg g5] at h
    refine q_aload_n X 0 rfl dX8_get_8 ?_
    obtain ⟨a7, ea7, ma7, ka7, h⟩ := q_atE h
    refine q_getR X 1 ea7 ma7 ka7 rfl tW_X8 (by decide) (by decide) tF_X8_11 rfl dX8_get_9 ?_
    refine q_iload_n X 1 rfl dX8_get_12 ?_
    obtain ⟨a8, ea8, ma8, ka8, h⟩ := q_atE h
    obtain ⟨g9, h⟩ := q_ifE h
    refine q_taload X ea8 ma8 ka8 (q_inE g9) dX8_get_13 ?_
    refine q_goto X 21 (by decide) dX8_get_14 ?_
    refine q_lv [] rfl ?_
    exact w_X8_get_21 X hr hl _ _ h
theorem tD_X8_get : yX8_get.cls ≠ "java/lang/invoke/MethodHandle" ∧ yX8_get.cls ≠ "java/lang/invoke/VarHandle" ∧ (parseMethodDescriptor yX8_get.desc).map (fun d => d.parameters.length) = some 1 := by decide +kernel
theorem c_X8_get {l : Launch} {D : va_G} {cy : Nat → ClassId} {n : Nat} {S Sv : q_S} {rv : Nat} {o : Nat} {p0 : Int32} (h : m_X8_get n S o p0 = some (rv, Sv)) : q_MR l yX8_get (q_ws yX8_get cX8_get 2 ((Option.some (Jvm.ClassFile.FieldType.object "TrueOutlines$Table")))) ({ frames := 1, cells := 0, slots := 0, locals := 21 } : Room) D cy [.ref o, .int (p0)] S rv Sv := by
  exact q_MR_of (by decide +kernel) (Nat.le_of_ble_eq_true rfl) (fun p e s m args below meth c A X hr hl => w_X8_get X hr hl h)
/-! TrueOutlines$Tables.indexOf(J)I -/
def m_X8_indexOf_2 (n : Nat) : Nat → q_S → Option Nat → Int64 → Int32 → Option (Int32 × q_S)
  | 0, _, _, _, _ => none
  | k + 1, S, l0, l1, l3 => q_at (S) (l0) 9 (fun a1 => (if (q_I (S) a1 3) ≤ l3 then some ((-1 : Int32), S) else q_at (S) (q_R (S) a1 1) 104 (fun a3 => q_if (q_in (l3) (q_N (S) a3) = true) (q_at (S) (q_R (S) a3 (l3).toNatClampNeg) 8 (fun a5 => (if (lg_cmp ((q_J (S) a5 1)) (l1)) = 0 then some (l3, S) else m_X8_indexOf_2 n k (S) (l0) (l1) (l3 + (1))))))))
set_option maxHeartbeats 4000000 in
set_option maxRecDepth 100000 in
theorem w_X8_indexOf_2 (X : q_X p s m args c cX8_indexOf 4 RX8 q_T D cy A) (hr : meth.sig.returnType = (some .int)) (hl : meth.locks = false)  {n : Nat} {Sv : q_S} {rv : Int32}  : ∀ (k : Nat) (S : q_S) (l0 : Option Nat) (l1 : Int64) (l3 : Int32), m_X8_indexOf_2 n k S l0 l1 l3 = some (rv, Sv) → q_W p l e ({ frames := 0, cells := 0, slots := 0, locals := 0 } : Room) s m args below meth c (MQ below (va_Qi (fun (r : Int32) (u : q_S) => r = rv ∧ u = Sv) (q_B D cy A) A) args s 0 0 A) A D cy 4 0 0 S 2 [(0, va_rf (l0)), (1, .long (l1)), (3, .int (l3))] [] := by
  intro k
  induction k with
  | zero => intro S l0 l1 l3 h; rw [m_X8_indexOf_2] at h; cases h
  | succ k ih =>
    intro S l0 l1 l3 h
    rw [m_X8_indexOf_2] at h
    refine q_iload_n X 2 rfl dX8_indexOf_2 ?_
    refine q_aload_n X 0 rfl dX8_indexOf_3 ?_
    obtain ⟨a1, ea1, ma1, ka1, h⟩ := q_atE h
    refine q_getI X 3 ea1 ma1 ka1 rfl tW_X8 (by decide) (by decide) tF_X8_28 rfl dX8_indexOf_4 ?_
    refine q_icmp_ge X 32 (by decide) dX8_indexOf_7 (fun g2 => ?_) (fun g2 => ?_)
    · rw [if_pos g2] at h
      refine q_iconst X (-1) (by decide) dX8_indexOf_32 ?_
      obtain ⟨ev, eS⟩ := q_end h
      exact q_iret X hr hl rfl ev eS dX8_indexOf_33
    · rw [if_neg g2] at h
      refine q_aload_n X 0 rfl dX8_indexOf_10 ?_
      refine q_getR X 1 ea1 ma1 ka1 rfl tW_X8 (by decide) (by decide) tF_X8_11 rfl dX8_indexOf_11 ?_
      refine q_iload_n X 2 rfl dX8_indexOf_14 ?_
      obtain ⟨a3, ea3, ma3, ka3, h⟩ := q_atE h
      obtain ⟨g4, h⟩ := q_ifE h
      refine q_taload X ea3 ma3 ka3 (q_inE g4) dX8_indexOf_15 ?_
      obtain ⟨a5, ea5, ma5, ka5, h⟩ := q_atE h
      refine q_getJN X 1 ea5 ma5 ka5 rfl tW_X7 (by decide) (by decide) "TrueOutlines" tF_X8_36 rfl dX8_indexOf_16 ?_
      refine q_lload_n X 1 rfl dX8_indexOf_19 ?_
      refine q_lcmp X dX8_indexOf_20 ?_
      refine q_if_ne X 26 (by decide) dX8_indexOf_21 (fun g6 => ?_) (fun g6 => ?_)
      · rw [if_neg g6] at h
        refine q_iinc X 3 2 (l3 + (1)) [(3, .int (l3 + (1))), (0, va_rf (l0)), (1, .long (l1))] rfl (congrArg (fun z => l3 + z) (show Int32.ofInt (1) = (1) by decide)) (by decide) (by first | rfl | simp [List.filter, q_catR]) dX8_indexOf_26 ?_
        refine q_goto X 2 (by decide) dX8_indexOf_29 ?_
        refine q_lv [1, 2, 0] rfl ?_
        exact ih _ _ _ _ h
      · rw [if_pos g6] at h
        refine q_iload_n X 2 rfl dX8_indexOf_24 ?_
        obtain ⟨ev, eS⟩ := q_end h
        exact q_iret X hr hl rfl ev eS dX8_indexOf_25
def m_X8_indexOf (n : Nat) (S : q_S) (o : Nat) (p0 : Int64) : Option (Int32 × q_S) := m_X8_indexOf_2 n n (S) (some o) (p0) ((0 : Int32))
set_option maxHeartbeats 4000000 in
set_option maxRecDepth 100000 in
theorem w_X8_indexOf (X : q_X p s m args c cX8_indexOf 4 RX8 q_T D cy A) (hr : meth.sig.returnType = (some .int)) (hl : meth.locks = false)  {n : Nat} {S Sv : q_S} {rv : Int32} {o : Nat} {p0 : Int64} (h : m_X8_indexOf n S o p0 = some (rv, Sv)) : q_W p l e ({ frames := 0, cells := 0, slots := 0, locals := 0 } : Room) s m args below meth c (MQ below (va_Qi (fun (r : Int32) (u : q_S) => r = rv ∧ u = Sv) (q_B D cy A) A) args s 0 0 A) A D cy 4 0 0 S 0 [(0, va_rf (some o)), (1, .long (p0))] [] := by
  unfold m_X8_indexOf at h
  refine q_iconst X (0) (by decide) dX8_indexOf_0 ?_
  refine q_istore_n X 3 [(3, .int ((0 : Int32))), (0, va_rf (some o)), (1, .long (p0))] rfl (by decide) (by first | rfl | simp [List.filter, q_catR]) dX8_indexOf_1 ?_
  refine q_lv [1, 2, 0] rfl ?_
  exact w_X8_indexOf_2 X hr hl n _ _ _ _ h
theorem tD_X8_indexOf : yX8_indexOf.cls ≠ "java/lang/invoke/MethodHandle" ∧ yX8_indexOf.cls ≠ "java/lang/invoke/VarHandle" ∧ (parseMethodDescriptor yX8_indexOf.desc).map (fun d => d.parameters.length) = some 1 := by decide +kernel
theorem c_X8_indexOf {l : Launch} {D : va_G} {cy : Nat → ClassId} {n : Nat} {S Sv : q_S} {rv : Int32} {o : Nat} {p0 : Int64} (h : m_X8_indexOf n S o p0 = some (rv, Sv)) : q_MI l yX8_indexOf (q_ws yX8_indexOf cX8_indexOf 4 ((some .int))) ({ frames := 0, cells := 0, slots := 0, locals := 0 } : Room) D cy [.ref o, .long (p0)] S rv Sv := by
  exact q_MI_of (by decide +kernel) (Nat.le_of_ble_eq_true rfl) (fun p e s m args below meth c A X hr hl => w_X8_indexOf X hr hl h)
/-! TrueOutlines$Tables.first(J)LTrueOutlines$Table; -/
def m_X8_first (n : Nat) (S : q_S) (o : Nat) (p0 : Int64) : Option (Nat × q_S) := q_at (S) (some o) 9 (fun a1 => q_b (m_X8_indexOf n (S) a1 (p0)) (fun r2 S3 => q_at (S3) (some o) 9 (fun a5 => q_b (m_X8_get n (S3) a5 (r2)) (fun r6 S7 => q_at (S7) (some r6) 8 (fun a9 => some (a9, S7))))))
set_option maxHeartbeats 4000000 in
set_option maxRecDepth 100000 in
theorem w_X8_first (X : q_X p s m args c cX8_first 3 RX8 q_T D cy A) (hr : meth.sig.returnType = (Option.some (Jvm.ClassFile.FieldType.object "TrueOutlines$Table"))) (hl : meth.locks = false)  {n : Nat} {S Sv : q_S} {rv : Nat} {o : Nat} {p0 : Int64} (h : m_X8_first n S o p0 = some (rv, Sv)) : q_W p l e ({ frames := 2, cells := 0, slots := 0, locals := 42 } : Room) s m args below meth c (MQ below (va_Qr (fun (u : q_S) => u = Sv) (fun (u : q_S) (a : Nat) (t : State) => a = rv ∧ q_B D cy A u t) A) args s 0 0 A) A D cy 3 0 0 S 0 [(0, va_rf (some o)), (1, .long (p0))] [] := by
  unfold m_X8_first at h
  refine q_aload_n X 0 rfl dX8_first_0 ?_
  refine q_aload_n X 0 rfl dX8_first_1 ?_
  refine q_lload_n X 1 rfl dX8_first_2 ?_
  obtain ⟨a1, ea1, ma1, ka1, h⟩ := q_atE h
  obtain ⟨r2, S3, c4, h⟩ := q_bE h
  refine q_cVI X (As := [.long (p0)]) ea1 ma1 ka1 rfl (by decide) (c_X8_indexOf c4) (q_cwV X tK_X8_indexOf tM_X8_40 tI_X8_indexOf tV_X8_indexOf tN_X8 rfl rfl tD_X8_indexOf ⟨Nat.le_of_ble_eq_true rfl, Nat.le_of_ble_eq_true rfl⟩) rfl rfl (by first | exact Nat.le_of_ble_eq_true rfl | (simp only [List.map, q_catR]; exact Nat.le_of_ble_eq_true rfl)) ⟨Nat.zero_le _, Nat.zero_le _⟩ dX8_first_3 ?_
  obtain ⟨a5, ea5, ma5, ka5, h⟩ := q_atE h
  obtain ⟨r6, S7, c8, h⟩ := q_bE h
  refine q_cVR X (As := [.int (r2)]) ea5 ma5 ka5 rfl (by decide) (c_X8_get c8) (q_cwV X tK_X8_get tM_X8_44 tI_X8_get tV_X8_get tN_X8 rfl rfl tD_X8_get ⟨Nat.le_of_ble_eq_true rfl, Nat.le_of_ble_eq_true rfl⟩) rfl rfl (by first | exact Nat.le_of_ble_eq_true rfl | (simp only [List.map, q_catR]; exact Nat.le_of_ble_eq_true rfl)) ⟨Nat.zero_le _, Nat.zero_le _⟩ dX8_first_6 ?_
  obtain ⟨a9, ea9, ma9, ka9, h⟩ := q_atE h
  obtain ⟨ev, eS⟩ := q_end h
  subst ev
  exact q_aret X hr hl ea9 eS dX8_first_9
theorem tD_X8_first : yX8_first.cls ≠ "java/lang/invoke/MethodHandle" ∧ yX8_first.cls ≠ "java/lang/invoke/VarHandle" ∧ (parseMethodDescriptor yX8_first.desc).map (fun d => d.parameters.length) = some 1 := by decide +kernel
theorem c_X8_first {l : Launch} {D : va_G} {cy : Nat → ClassId} {n : Nat} {S Sv : q_S} {rv : Nat} {o : Nat} {p0 : Int64} (h : m_X8_first n S o p0 = some (rv, Sv)) : q_MR l yX8_first (q_ws yX8_first cX8_first 3 ((Option.some (Jvm.ClassFile.FieldType.object "TrueOutlines$Table")))) ({ frames := 2, cells := 0, slots := 0, locals := 42 } : Room) D cy [.ref o, .long (p0)] S rv Sv := by
  exact q_MR_of (by decide +kernel) (Nat.le_of_ble_eq_true rfl) (fun p e s m args below meth c A X hr hl => w_X8_first X hr hl h)
/-! TrueOutlines$Codes.find(I)J -/
def m_X0_find_112 (n : Nat) (S : q_S) (l0 : Option Nat) (l1 : Int32) (l4 : Int32) : Option (Int64 × q_S) := q_at (S) (l0) 1 (fun a1 => q_b (m_X0_findBy n (S) a1 (l4) (l1)) (fun r2 S3 => some (r2, S3)))
set_option maxHeartbeats 4000000 in
set_option maxRecDepth 100000 in
theorem w_X0_find_112 (X : q_X p s m args c cX0_find 5 RX0 q_T D cy A) (hr : meth.sig.returnType = (some .long)) (hl : meth.locks = false)  {n : Nat} {Sv : q_S} {rv : Int64}  (S : q_S) (l0 : Option Nat) (l1 : Int32) (l4 : Int32) (h : m_X0_find_112 n S l0 l1 l4 = some (rv, Sv)) : q_W p l e ({ frames := 6, cells := 0, slots := 0, locals := 143 } : Room) s m args below meth c (MQ below (va_Ql (fun (r : Int64) (u : q_S) => r = rv ∧ u = Sv) (q_B D cy A) A) args s 0 0 A) A D cy 5 0 0 S 112 [(0, va_rf (l0)), (1, .int (l1)), (4, .int (l4))] [] := by
  unfold m_X0_find_112 at h
  refine q_aload_n X 0 rfl dX0_find_112 ?_
  refine q_iload X 2 rfl dX0_find_113 ?_
  refine q_iload_n X 1 rfl dX0_find_115 ?_
  obtain ⟨a1, ea1, ma1, ka1, h⟩ := q_atE h
  obtain ⟨r2, S3, c4, h⟩ := q_bE h
  refine q_cVJ X (As := [.int (l4), .int (l1)]) ea1 ma1 ka1 rfl (by decide) (c_X0_findBy c4) (q_cwV X tK_X0_findBy tM_X0_53 tI_X0_findBy tV_X0_findBy tN_X0 rfl rfl tD_X0_findBy ⟨Nat.le_of_ble_eq_true rfl, Nat.le_of_ble_eq_true rfl⟩) rfl rfl (by first | exact Nat.le_of_ble_eq_true rfl | (simp only [List.map, q_catR]; exact Nat.le_of_ble_eq_true rfl)) ⟨Nat.zero_le _, Nat.zero_le _⟩ dX0_find_116 ?_
  obtain ⟨ev, eS⟩ := q_end h
  exact q_lret X hr hl ev eS dX0_find_119
def m_X0_find_77 (n : Nat) (k27 : q_S → Option Nat → Int32 → Int32 → Int32 → Option (Int64 × q_S)) (S : q_S) (l0 : Option Nat) (l1 : Int32) (l2 : Int32) (l3 : Int32) (s0 : Int32) : Option (Int64 × q_S) := (if s0 = (-1 : Int32) then some ((0 : Int64), S) else (if s0 = 0 then m_X0_find_112 n (S) (l0) (l1) (s0) else (if s0 = (4 : Int32) then m_X0_find_112 n (S) (l0) (l1) (s0) else (if s0 = (6 : Int32) then m_X0_find_112 n (S) (l0) (l1) (s0) else (if s0 = (12 : Int32) then m_X0_find_112 n (S) (l0) (l1) (s0) else k27 (S) (l0) (l1) (l2) (l3 + (1)))))))
set_option maxHeartbeats 4000000 in
set_option maxRecDepth 100000 in
theorem w_X0_find_77 (X : q_X p s m args c cX0_find 5 RX0 q_T D cy A) (hr : meth.sig.returnType = (some .long)) (hl : meth.locks = false)  {n : Nat} {Sv : q_S} {rv : Int64}  {k27 : q_S → Option Nat → Int32 → Int32 → Int32 → Option (Int64 × q_S)} (hk27 : ∀ (S : q_S) (z0 : Option Nat) (z1 : Int32) (z2 : Int32) (z3 : Int32), k27 S z0 z1 z2 z3 = some (rv, Sv) → q_W p l e ({ frames := 6, cells := 0, slots := 0, locals := 143 } : Room) s m args below meth c (MQ below (va_Ql (fun (r : Int64) (u : q_S) => r = rv ∧ u = Sv) (q_B D cy A) A) args s 0 0 A) A D cy 5 0 0 S 27 [(0, va_rf (z0)), (1, .int (z1)), (2, .int (z2)), (3, .int (z3))] []) (S : q_S) (l0 : Option Nat) (l1 : Int32) (l2 : Int32) (l3 : Int32) (s0 : Int32) (h : m_X0_find_77 n k27 S l0 l1 l2 l3 s0 = some (rv, Sv)) : q_W p l e ({ frames := 6, cells := 0, slots := 0, locals := 143 } : Room) s m args below meth c (MQ below (va_Ql (fun (r : Int64) (u : q_S) => r = rv ∧ u = Sv) (q_B D cy A) A) args s 0 0 A) A D cy 5 0 0 S 77 [(0, va_rf (l0)), (1, .int (l1)), (2, .int (l2)), (3, .int (l3))] [.int (s0)] := by
  unfold m_X0_find_77 at h
  refine q_istore X 4 [(4, .int (s0)), (0, va_rf (l0)), (1, .int (l1)), (2, .int (l2)), (3, .int (l3))] (by decide) (by first | rfl | simp [List.filter, q_catR]) dX0_find_77 ?_
  refine q_iload X 0 rfl dX0_find_79 ?_
  refine q_iconst X (-1) (by decide) dX0_find_81 ?_
  refine q_icmp_ne X 87 (by decide) dX0_find_82 (fun g1 => ?_) (fun g1 => ?_)
  · rw [if_neg g1] at h
    refine q_iload X 0 rfl dX0_find_87 ?_
    refine q_if_eq X 112 (by decide) dX0_find_89 (fun g2 => ?_) (fun g2 => ?_)
    · rw [if_pos g2] at h
      refine q_lv [1, 2, 0] rfl ?_
      exact w_X0_find_112 X hr hl _ _ _ _ h
    · rw [if_neg g2] at h
      refine q_iload X 0 rfl dX0_find_92 ?_
      refine q_iconst X (4) (by decide) dX0_find_94 ?_
      refine q_icmp_eq X 112 (by decide) dX0_find_95 (fun g3 => ?_) (fun g3 => ?_)
      · rw [if_pos g3] at h
        refine q_lv [1, 2, 0] rfl ?_
        exact w_X0_find_112 X hr hl _ _ _ _ h
      · rw [if_neg g3] at h
        refine q_iload X 0 rfl dX0_find_98 ?_
        refine q_bipush X (6) (by decide) dX0_find_100 ?_
        refine q_icmp_eq X 112 (by decide) dX0_find_102 (fun g4 => ?_) (fun g4 => ?_)
        · rw [if_pos g4] at h
          refine q_lv [1, 2, 0] rfl ?_
          exact w_X0_find_112 X hr hl _ _ _ _ h
        · rw [if_neg g4] at h
          refine q_iload X 0 rfl dX0_find_105 ?_
          refine q_bipush X (12) (by decide) dX0_find_107 ?_
          refine q_icmp_ne X 120 (by decide) dX0_find_109 (fun g5 => ?_) (fun g5 => ?_)
          · rw [if_neg g5] at h
            refine q_iinc X 3 4 (l3 + (1)) [(3, .int (l3 + (1))), (4, .int (s0)), (0, va_rf (l0)), (1, .int (l1)), (2, .int (l2))] rfl (congrArg (fun z => l3 + z) (show Int32.ofInt (1) = (1) by decide)) (by decide) (by first | rfl | simp [List.filter, q_catR]) dX0_find_120 ?_
            refine q_goto X 27 (by decide) dX0_find_123 ?_
            refine q_lv [2, 3, 4, 0] rfl ?_
            exact hk27 _ _ _ _ _ h
          · rw [if_pos g5] at h
            refine q_lv [1, 2, 0] rfl ?_
            exact w_X0_find_112 X hr hl _ _ _ _ h
  · rw [if_pos g1] at h
    refine q_lconst X (0) (by decide) dX0_find_85 ?_
    obtain ⟨ev, eS⟩ := q_end h
    exact q_lret X hr hl ev eS dX0_find_86
def m_X0_find_27 (n : Nat) : Nat → q_S → Option Nat → Int32 → Int32 → Int32 → Option (Int64 × q_S)
  | 0, _, _, _, _, _ => none
  | k + 1, S, l0, l1, l2, l3 => (if l2 ≤ l3 then some ((0 : Int64), S) else q_at (S) (l0) 1 (fun a2 => q_at (S) (q_R (S) a2 1) 8 (fun a3 => q_b (m_X7_four n (S) a3 (((4 : Int64) + ((8 : Int64) * (l3.toInt64))) + (4 : Int64))) (fun r4 S5 => q_at (S5) (l0) 1 (fun a7 => (if (lg_cmp ((q_J (q_sJ (S5) a7 2 (r4)) a7 2)) ((-1 : Int64))) = 0 then m_X0_find_77 n (m_X0_find_27 n k) (q_sJ (S5) a7 2 (r4)) (l0) (l1) (l2) (l3) ((-1 : Int32)) else q_b (m_X0_two n (q_sJ (S5) a7 2 (r4)) a7 ((0 : Int64))) (fun r9 S10 => m_X0_find_77 n (m_X0_find_27 n k) (S10) (l0) (l1) (l2) (l3) (r9))))))))
set_option maxHeartbeats 4000000 in
set_option maxRecDepth 100000 in
theorem w_X0_find_27 (X : q_X p s m args c cX0_find 5 RX0 q_T D cy A) (hr : meth.sig.returnType = (some .long)) (hl : meth.locks = false)  {n : Nat} {Sv : q_S} {rv : Int64}  : ∀ (k : Nat) (S : q_S) (l0 : Option Nat) (l1 : Int32) (l2 : Int32) (l3 : Int32), m_X0_find_27 n k S l0 l1 l2 l3 = some (rv, Sv) → q_W p l e ({ frames := 6, cells := 0, slots := 0, locals := 143 } : Room) s m args below meth c (MQ below (va_Ql (fun (r : Int64) (u : q_S) => r = rv ∧ u = Sv) (q_B D cy A) A) args s 0 0 A) A D cy 5 0 0 S 27 [(0, va_rf (l0)), (1, .int (l1)), (2, .int (l2)), (3, .int (l3))] [] := by
  intro k
  induction k with
  | zero => intro S l0 l1 l2 l3 h; rw [m_X0_find_27] at h; cases h
  | succ k ih =>
    intro S l0 l1 l2 l3 h
    rw [m_X0_find_27] at h
    refine q_iload_n X 3 rfl dX0_find_27 ?_
    refine q_iload_n X 2 rfl dX0_find_28 ?_
    refine q_icmp_ge X 126 (by decide) dX0_find_29 (fun g1 => ?_) (fun g1 => ?_)
    · rw [if_pos g1] at h
      refine q_lconst X (0) (by decide) dX0_find_126 ?_
      obtain ⟨ev, eS⟩ := q_end h
      exact q_lret X hr hl ev eS dX0_find_127
    · rw [if_neg g1] at h
      refine q_aload_n X 0 rfl dX0_find_32 ?_
      refine q_aload_n X 0 rfl dX0_find_33 ?_
      obtain ⟨a2, ea2, ma2, ka2, h⟩ := q_atE h
      refine q_getR X 1 ea2 ma2 ka2 rfl tW_X0 (by decide) (by decide) tF_X0_21 rfl dX0_find_34 ?_
      refine q_ldc2_w X (4) tC_X0_38 dX0_find_37 ?_
      refine q_ldc2_w X (8) tC_X0_40 dX0_find_40 ?_
      refine q_iload_n X 3 rfl dX0_find_43 ?_
      refine q_i2l X dX0_find_44 ?_
      refine q_lmul X dX0_find_45 ?_
      refine q_ladd X dX0_find_46 ?_
      refine q_ldc2_w X (4) tC_X0_38 dX0_find_47 ?_
      refine q_ladd X dX0_find_50 ?_
      obtain ⟨a3, ea3, ma3, ka3, h⟩ := q_atE h
      obtain ⟨r4, S5, c6, h⟩ := q_bE h
      refine q_cVJ X (As := [.long (((4 : Int64) + ((8 : Int64) * (l3.toInt64))) + (4 : Int64))]) ea3 ma3 ka3 rfl (by decide) (c_X7_four c6) (q_cwV X tK_X7_four tM_X0_42 tI_X7_four tV_X7_four tN_X7 rfl rfl tD_X7_four ⟨Nat.le_of_ble_eq_true rfl, Nat.le_of_ble_eq_true rfl⟩) rfl rfl (by first | exact Nat.le_of_ble_eq_true rfl | (simp only [List.map, q_catR]; exact Nat.le_of_ble_eq_true rfl)) ⟨Nat.zero_le _, Nat.zero_le _⟩ dX0_find_51 ?_
      obtain ⟨a7, ea7, ma7, ka7, h⟩ := q_atE h
      refine q_putJ X 2 ea7 ma7 ka7 rfl tW_X0 (by decide) (by decide) tF_X0_46 tyX0 tyX0_ok nmX0 rfl (tyX0_ok 2 (by decide)) rfl rfl rfl dX0_find_54 ?_
      have ma7 : a7 ∈ q_L (q_sJ (S5) a7 2 (r4)) := q_LsJ ma7
      have ka7 : q_K (q_sJ (S5) a7 2 (r4)) a7 = 1 := q_KsJ ka7
      refine q_aload_n X 0 rfl dX0_find_57 ?_
      refine q_getJ X 2 ea7 ma7 ka7 rfl tW_X0 (by decide) (by decide) tF_X0_46 rfl dX0_find_58 ?_
      refine q_ldc2_w X (-1) tC_X0_50 dX0_find_61 ?_
      refine q_lcmp X dX0_find_64 ?_
      refine q_if_ne X 72 (by decide) dX0_find_65 (fun g8 => ?_) (fun g8 => ?_)
      · rw [if_neg g8] at h
        refine q_aload_n X 0 rfl dX0_find_72 ?_
        refine q_lconst X (0) (by decide) dX0_find_73 ?_
        obtain ⟨r9, S10, c11, h⟩ := q_bE h
        refine q_cVI X (As := [.long ((0 : Int64))]) ea7 ma7 ka7 rfl (by decide) (c_X0_two c11) (q_cwV X tK_X0_two tM_X0_52 tI_X0_two tV_X0_two tN_X0 rfl rfl tD_X0_two ⟨Nat.le_of_ble_eq_true rfl, Nat.le_of_ble_eq_true rfl⟩) rfl rfl (by first | exact Nat.le_of_ble_eq_true rfl | (simp only [List.map, q_catR]; exact Nat.le_of_ble_eq_true rfl)) ⟨Nat.zero_le _, Nat.zero_le _⟩ dX0_find_74 ?_
        exact w_X0_find_77 X hr hl ih _ _ _ _ _ _ h
      · rw [if_pos g8] at h
        refine q_iconst X (-1) (by decide) dX0_find_68 ?_
        refine q_goto X 77 (by decide) dX0_find_69 ?_
        exact w_X0_find_77 X hr hl ih _ _ _ _ _ _ h
def m_X0_find (n : Nat) (S : q_S) (o : Nat) (p0 : Int32) : Option (Int64 × q_S) := q_at (S) (some o) 1 (fun a1 => q_at (S) (q_R (S) a1 0) 9 (fun a2 => q_b (m_X8_first n (S) a2 ((1668112752 : Int64))) (fun r3 S4 => q_at (S4) (some o) 1 (fun a6 => q_at (q_sR (S4) a6 1 (some r3)) (q_R (q_sR (S4) a6 1 (some r3)) a6 1) 8 (fun a7 => q_b (m_X7_two n (q_sR (S4) a6 1 (some r3)) a7 ((2 : Int64))) (fun r8 S9 => m_X0_find_27 n n (S9) (some o) (p0) (r8) ((0 : Int32))))))))
set_option maxHeartbeats 4000000 in
set_option maxRecDepth 100000 in
theorem w_X0_find (X : q_X p s m args c cX0_find 5 RX0 q_T D cy A) (hr : meth.sig.returnType = (some .long)) (hl : meth.locks = false)  {n : Nat} {S Sv : q_S} {rv : Int64} {o : Nat} {p0 : Int32} (h : m_X0_find n S o p0 = some (rv, Sv)) : q_W p l e ({ frames := 6, cells := 0, slots := 0, locals := 143 } : Room) s m args below meth c (MQ below (va_Ql (fun (r : Int64) (u : q_S) => r = rv ∧ u = Sv) (q_B D cy A) A) args s 0 0 A) A D cy 5 0 0 S 0 [(0, va_rf (some o)), (1, .int (p0))] [] := by
  unfold m_X0_find at h
  refine q_aload_n X 0 rfl dX0_find_0 ?_
  refine q_aload_n X 0 rfl dX0_find_1 ?_
  obtain ⟨a1, ea1, ma1, ka1, h⟩ := q_atE h
  refine q_getR X 0 ea1 ma1 ka1 rfl tW_X0 (by decide) (by decide) tF_X0_9 rfl dX0_find_2 ?_
  refine q_ldc2_w X (1668112752) tC_X0_24 dX0_find_5 ?_
  obtain ⟨a2, ea2, ma2, ka2, h⟩ := q_atE h
  obtain ⟨r3, S4, c5, h⟩ := q_bE h
  refine q_cVR X (As := [.long ((1668112752 : Int64))]) ea2 ma2 ka2 rfl (by decide) (c_X8_first c5) (q_cwV X tK_X8_first tM_X0_26 tI_X8_first tV_X8_first tN_X8 rfl rfl tD_X8_first ⟨Nat.le_of_ble_eq_true rfl, Nat.le_of_ble_eq_true rfl⟩) rfl rfl (by first | exact Nat.le_of_ble_eq_true rfl | (simp only [List.map, q_catR]; exact Nat.le_of_ble_eq_true rfl)) ⟨Nat.zero_le _, Nat.zero_le _⟩ dX0_find_8 ?_
  obtain ⟨a6, ea6, ma6, ka6, h⟩ := q_atE h
  refine q_putR X 1 ea6 ma6 ka6 rfl tW_X0 (by decide) (by decide) tF_X0_21 tyX0 tyX0_ok nmX0 rfl (tyX0_ok 1 (by decide)) (q_nR _ _) (q_fR _ _) rfl dX0_find_11 ?_
  have ma6 : a6 ∈ q_L (q_sR (S4) a6 1 (some r3)) := q_LsR ma6
  have ka6 : q_K (q_sR (S4) a6 1 (some r3)) a6 = 1 := q_KsR ka6
  refine q_aload_n X 0 rfl dX0_find_14 ?_
  refine q_getR X 1 ea6 ma6 ka6 rfl tW_X0 (by decide) (by decide) tF_X0_21 rfl dX0_find_15 ?_
  refine q_ldc2_w X (2) tC_X0_30 dX0_find_18 ?_
  obtain ⟨a7, ea7, ma7, ka7, h⟩ := q_atE h
  obtain ⟨r8, S9, c10, h⟩ := q_bE h
  refine q_cVI X (As := [.long ((2 : Int64))]) ea7 ma7 ka7 rfl (by decide) (c_X7_two c10) (q_cwV X tK_X7_two tM_X0_32 tI_X7_two tV_X7_two tN_X7 rfl rfl tD_X7_two ⟨Nat.le_of_ble_eq_true rfl, Nat.le_of_ble_eq_true rfl⟩) rfl rfl (by first | exact Nat.le_of_ble_eq_true rfl | (simp only [List.map, q_catR]; exact Nat.le_of_ble_eq_true rfl)) ⟨Nat.zero_le _, Nat.zero_le _⟩ dX0_find_21 ?_
  refine q_istore_n X 2 [(2, .int (r8)), (0, va_rf (some o)), (1, .int (p0))] rfl (by decide) (by first | rfl | simp [List.filter, q_catR]) dX0_find_24 ?_
  refine q_iconst X (0) (by decide) dX0_find_25 ?_
  refine q_istore_n X 3 [(3, .int ((0 : Int32))), (2, .int (r8)), (0, va_rf (some o)), (1, .int (p0))] rfl (by decide) (by first | rfl | simp [List.filter, q_catR]) dX0_find_26 ?_
  refine q_lv [2, 3, 1, 0] rfl ?_
  exact w_X0_find_27 X hr hl n _ _ _ _ _ h
theorem tD_X0_find : yX0_find.cls ≠ "java/lang/invoke/MethodHandle" ∧ yX0_find.cls ≠ "java/lang/invoke/VarHandle" ∧ (parseMethodDescriptor yX0_find.desc).map (fun d => d.parameters.length) = some 1 := by decide +kernel
theorem c_X0_find {l : Launch} {D : va_G} {cy : Nat → ClassId} {n : Nat} {S Sv : q_S} {rv : Int64} {o : Nat} {p0 : Int32} (h : m_X0_find n S o p0 = some (rv, Sv)) : q_MJ l yX0_find (q_ws yX0_find cX0_find 5 ((some .long))) ({ frames := 6, cells := 0, slots := 0, locals := 143 } : Room) D cy [.ref o, .int (p0)] S rv Sv := by
  exact q_MJ_of (by decide +kernel) (Nat.le_of_ble_eq_true rfl) (fun p e s m args below meth c A X hr hl => w_X0_find X hr hl h)
/-! TrueOutlines$Signs.size()I -/
def m_X6_size (n : Nat) (S : q_S) (o : Nat)  : Option (Int32 × q_S) := q_at (S) (some o) 7 (fun a1 => some (q_I (S) a1 5, S))
set_option maxHeartbeats 4000000 in
set_option maxRecDepth 100000 in
theorem w_X6_size (X : q_X p s m args c cX6_size 1 RX6 q_T D cy A) (hr : meth.sig.returnType = (some .int)) (hl : meth.locks = false)  {n : Nat} {S Sv : q_S} {rv : Int32} {o : Nat}  (h : m_X6_size n S o = some (rv, Sv)) : q_W p l e ({ frames := 0, cells := 0, slots := 0, locals := 0 } : Room) s m args below meth c (MQ below (va_Qi (fun (r : Int32) (u : q_S) => r = rv ∧ u = Sv) (q_B D cy A) A) args s 0 0 A) A D cy 1 0 0 S 0 [(0, va_rf (some o))] [] := by
  unfold m_X6_size at h
  refine q_aload_n X 0 rfl dX6_size_0 ?_
  obtain ⟨a1, ea1, ma1, ka1, h⟩ := q_atE h
  refine q_getI X 5 ea1 ma1 ka1 rfl tW_X6 (by decide) (by decide) tF_X6_67 rfl dX6_size_1 ?_
  obtain ⟨ev, eS⟩ := q_end h
  exact q_iret X hr hl rfl ev eS dX6_size_4
theorem tD_X6_size : yX6_size.cls ≠ "java/lang/invoke/MethodHandle" ∧ yX6_size.cls ≠ "java/lang/invoke/VarHandle" ∧ (parseMethodDescriptor yX6_size.desc).map (fun d => d.parameters.length) = some 0 := by decide +kernel
theorem c_X6_size {l : Launch} {D : va_G} {cy : Nat → ClassId} {n : Nat} {S Sv : q_S} {rv : Int32} {o : Nat}  (h : m_X6_size n S o = some (rv, Sv)) : q_MI l yX6_size (q_ws yX6_size cX6_size 1 ((some .int))) ({ frames := 0, cells := 0, slots := 0, locals := 0 } : Room) D cy [.ref o] S rv Sv := by
  exact q_MI_of (by decide +kernel) (Nat.le_of_ble_eq_true rfl) (fun p e s m args below meth c A X hr hl => w_X6_size X hr hl h)
/-! TrueOutlines$Signs.has(I)Z -/
def m_X6_has_17 (n : Nat) (S : q_S) (s0 : Int32) : Option (Int32 × q_S) := q_if (s0 = 0 ∨ s0 = 1) (some (s0, S))
set_option maxHeartbeats 4000000 in
set_option maxRecDepth 100000 in
theorem w_X6_has_17 (X : q_X p s m args c cX6_has 2 RX6 q_T D cy A) (hr : meth.sig.returnType = (some .boolean)) (hl : meth.locks = false)  {n : Nat} {Sv : q_S} {rv : Int32}  (S : q_S) (s0 : Int32) (h : m_X6_has_17 n S s0 = some (rv, Sv)) : q_W p l e ({ frames := 0, cells := 0, slots := 0, locals := 0 } : Room) s m args below meth c (MQ below (va_Qi (fun (r : Int32) (u : q_S) => r = rv ∧ u = Sv) (q_B D cy A) A) args s 0 0 A) A D cy 2 0 0 S 17 [] [.int (s0)] := by
  unfold m_X6_has_17 at h
  obtain ⟨g1, h⟩ := q_ifE h
  obtain ⟨ev, eS⟩ := q_end h
  exact q_iret X hr hl (q_bool g1) ev eS dX6_has_17
def m_X6_has_16 (n : Nat) (S : q_S) : Option (Int32 × q_S) := m_X6_has_17 n (S) ((0 : Int32))
set_option maxHeartbeats 4000000 in
set_option maxRecDepth 100000 in
theorem w_X6_has_16 (X : q_X p s m args c cX6_has 2 RX6 q_T D cy A) (hr : meth.sig.returnType = (some .boolean)) (hl : meth.locks = false)  {n : Nat} {Sv : q_S} {rv : Int32}  (S : q_S) (h : m_X6_has_16 n S = some (rv, Sv)) : q_W p l e ({ frames := 0, cells := 0, slots := 0, locals := 0 } : Room) s m args below meth c (MQ below (va_Qi (fun (r : Int32) (u : q_S) => r = rv ∧ u = Sv) (q_B D cy A) A) args s 0 0 A) A D cy 2 0 0 S 16 [] [] := by
  unfold m_X6_has_16 at h
  refine q_iconst X (0) (by decide) dX6_has_16 ?_
  exact w_X6_has_17 X hr hl _ _ h
def m_X6_has (n : Nat) (S : q_S) (o : Nat) (p0 : Int32) : Option (Int32 × q_S) := (if p0 < 0 then m_X6_has_16 n (S) else q_at (S) (some o) 7 (fun a2 => (if (q_I (S) a2 5) ≤ p0 then m_X6_has_16 n (S) else m_X6_has_17 n (S) ((1 : Int32)))))
set_option maxHeartbeats 4000000 in
set_option maxRecDepth 100000 in
theorem w_X6_has (X : q_X p s m args c cX6_has 2 RX6 q_T D cy A) (hr : meth.sig.returnType = (some .boolean)) (hl : meth.locks = false)  {n : Nat} {S Sv : q_S} {rv : Int32} {o : Nat} {p0 : Int32} (h : m_X6_has n S o p0 = some (rv, Sv)) : q_W p l e ({ frames := 0, cells := 0, slots := 0, locals := 0 } : Room) s m args below meth c (MQ below (va_Qi (fun (r : Int32) (u : q_S) => r = rv ∧ u = Sv) (q_B D cy A) A) args s 0 0 A) A D cy 2 0 0 S 0 [(0, va_rf (some o)), (1, .int (p0))] [] := by
  unfold m_X6_has at h
  refine q_iload_n X 1 rfl dX6_has_0 ?_
  refine q_if_lt X 16 (by decide) dX6_has_1 (fun g1 => ?_) (fun g1 => ?_)
  · rw [if_pos g1] at h
    refine q_lv [] rfl ?_
    exact w_X6_has_16 X hr hl _ h
  · rw [if_neg g1] at h
    refine q_iload_n X 1 rfl dX6_has_4 ?_
    refine q_aload_n X 0 rfl dX6_has_5 ?_
    obtain ⟨a2, ea2, ma2, ka2, h⟩ := q_atE h
    refine q_getI X 5 ea2 ma2 ka2 rfl tW_X6 (by decide) (by decide) tF_X6_67 rfl dX6_has_6 ?_
    refine q_icmp_ge X 16 (by decide) dX6_has_9 (fun g3 => ?_) (fun g3 => ?_)
    · rw [if_pos g3] at h
      refine q_lv [] rfl ?_
      exact w_X6_has_16 X hr hl _ h
    · rw [if_neg g3] at h
      refine q_iconst X (1) (by decide) dX6_has_12 ?_
      refine q_goto X 17 (by decide) dX6_has_13 ?_
      refine q_lv [] rfl ?_
      exact w_X6_has_17 X hr hl _ _ h
theorem tD_X6_has : yX6_has.cls ≠ "java/lang/invoke/MethodHandle" ∧ yX6_has.cls ≠ "java/lang/invoke/VarHandle" ∧ (parseMethodDescriptor yX6_has.desc).map (fun d => d.parameters.length) = some 1 := by decide +kernel
theorem c_X6_has {l : Launch} {D : va_G} {cy : Nat → ClassId} {n : Nat} {S Sv : q_S} {rv : Int32} {o : Nat} {p0 : Int32} (h : m_X6_has n S o p0 = some (rv, Sv)) : q_MI l yX6_has (q_ws yX6_has cX6_has 2 ((some .boolean))) ({ frames := 0, cells := 0, slots := 0, locals := 0 } : Room) D cy [.ref o, .int (p0)] S rv Sv := by
  exact q_MI_of (by decide +kernel) (Nat.le_of_ble_eq_true rfl) (fun p e s m args below meth c A X hr hl => w_X6_has X hr hl h)
/-! TrueOutlines$Signs.placeAt(I)J -/
def m_X6_placeAt_52 (n : Nat) (S : q_S) (s0 : Int64) : Option (Int64 × q_S) := some (s0, S)
set_option maxHeartbeats 4000000 in
set_option maxRecDepth 100000 in
theorem w_X6_placeAt_52 (X : q_X p s m args c cX6_placeAt 3 RX6 q_T D cy A) (hr : meth.sig.returnType = (some .long)) (hl : meth.locks = false)  {n : Nat} {Sv : q_S} {rv : Int64}  (S : q_S) (s0 : Int64) (h : m_X6_placeAt_52 n S s0 = some (rv, Sv)) : q_W p l e ({ frames := 2, cells := 0, slots := 0, locals := 49 } : Room) s m args below meth c (MQ below (va_Ql (fun (r : Int64) (u : q_S) => r = rv ∧ u = Sv) (q_B D cy A) A) args s 0 0 A) A D cy 3 0 0 S 52 [] [.long (s0)] := by
  unfold m_X6_placeAt_52 at h
  obtain ⟨ev, eS⟩ := q_end h
  exact q_lret X hr hl ev eS dX6_placeAt_52
def m_X6_placeAt (n : Nat) (S : q_S) (o : Nat) (p0 : Int32) : Option (Int64 × q_S) := q_at (S) (some o) 7 (fun a1 => (if (q_I (S) a1 7) = 0 then q_at (S) (q_R (S) a1 8) 8 (fun a3 => q_b (m_X7_two n (S) a3 ((2 : Int64) * (p0.toInt64))) (fun r4 S5 => (if r4 = (-1 : Int32) then m_X6_placeAt_52 n (S5) ((-1 : Int64)) else m_X6_placeAt_52 n (S5) ((2 : Int64) * (r4.toInt64))))) else q_at (S) (q_R (S) a1 8) 8 (fun a8 => q_b (m_X7_four n (S) a8 ((4 : Int64) * (p0.toInt64))) (fun r9 S10 => some (r9, S10)))))
set_option maxHeartbeats 4000000 in
set_option maxRecDepth 100000 in
theorem w_X6_placeAt (X : q_X p s m args c cX6_placeAt 3 RX6 q_T D cy A) (hr : meth.sig.returnType = (some .long)) (hl : meth.locks = false)  {n : Nat} {S Sv : q_S} {rv : Int64} {o : Nat} {p0 : Int32} (h : m_X6_placeAt n S o p0 = some (rv, Sv)) : q_W p l e ({ frames := 2, cells := 0, slots := 0, locals := 49 } : Room) s m args below meth c (MQ below (va_Ql (fun (r : Int64) (u : q_S) => r = rv ∧ u = Sv) (q_B D cy A) A) args s 0 0 A) A D cy 3 0 0 S 0 [(0, va_rf (some o)), (1, .int (p0))] [] := by
  unfold m_X6_placeAt at h
  refine q_aload_n X 0 rfl dX6_placeAt_0 ?_
  obtain ⟨a1, ea1, ma1, ka1, h⟩ := q_atE h
  refine q_getI X 7 ea1 ma1 ka1 rfl tW_X6 (by decide) (by decide) tF_X6_79 rfl dX6_placeAt_1 ?_
  refine q_if_eq X 21 (by decide) dX6_placeAt_4 (fun g2 => ?_) (fun g2 => ?_)
  · rw [if_pos g2] at h
    refine q_aload_n X 0 rfl dX6_placeAt_21 ?_
    refine q_getR X 8 ea1 ma1 ka1 rfl tW_X6 (by decide) (by decide) tF_X6_38 rfl dX6_placeAt_22 ?_
    refine q_ldc2_w X (2) tC_X6_93 dX6_placeAt_25 ?_
    refine q_iload_n X 1 rfl dX6_placeAt_28 ?_
    refine q_i2l X dX6_placeAt_29 ?_
    refine q_lmul X dX6_placeAt_30 ?_
    obtain ⟨a3, ea3, ma3, ka3, h⟩ := q_atE h
    obtain ⟨r4, S5, c6, h⟩ := q_bE h
    refine q_cVI X (As := [.long ((2 : Int64) * (p0.toInt64))]) ea3 ma3 ka3 rfl (by decide) (c_X7_two c6) (q_cwV X tK_X7_two tM_X6_52 tI_X7_two tV_X7_two tN_X7 rfl rfl tD_X7_two ⟨Nat.le_of_ble_eq_true rfl, Nat.le_of_ble_eq_true rfl⟩) rfl rfl (by first | exact Nat.le_of_ble_eq_true rfl | (simp only [List.map, q_catR]; exact Nat.le_of_ble_eq_true rfl)) ⟨Nat.zero_le _, Nat.zero_le _⟩ dX6_placeAt_31 ?_
    refine q_istore_n X 2 [(2, .int (r4)), (0, va_rf (some o)), (1, .int (p0))] rfl (by decide) (by first | rfl | simp [List.filter, q_catR]) dX6_placeAt_34 ?_
    refine q_iload_n X 0 rfl dX6_placeAt_35 ?_
    refine q_iconst X (-1) (by decide) dX6_placeAt_36 ?_
    refine q_icmp_ne X 46 (by decide) dX6_placeAt_37 (fun g7 => ?_) (fun g7 => ?_)
    · rw [if_neg g7] at h
      refine q_ldc2_w X (2) tC_X6_93 dX6_placeAt_46 ?_
      refine q_iload_n X 0 rfl dX6_placeAt_49 ?_
      refine q_i2l X dX6_placeAt_50 ?_
      refine q_lmul X dX6_placeAt_51 ?_
      refine q_lv [] rfl ?_
      exact w_X6_placeAt_52 X hr hl _ _ h
    · rw [if_pos g7] at h
      refine q_ldc2_w X (-1) tC_X6_95 dX6_placeAt_40 ?_
      refine q_goto X 52 (by decide) dX6_placeAt_43 ?_
      refine q_lv [] rfl ?_
      exact w_X6_placeAt_52 X hr hl _ _ h
  · rw [if_neg g2] at h
    refine q_aload_n X 0 rfl dX6_placeAt_7 ?_
    refine q_getR X 8 ea1 ma1 ka1 rfl tW_X6 (by decide) (by decide) tF_X6_38 rfl dX6_placeAt_8 ?_
    refine q_ldc2_w X (4) tC_X6_50 dX6_placeAt_11 ?_
    refine q_iload_n X 1 rfl dX6_placeAt_14 ?_
    refine q_i2l X dX6_placeAt_15 ?_
    refine q_lmul X dX6_placeAt_16 ?_
    obtain ⟨a8, ea8, ma8, ka8, h⟩ := q_atE h
    obtain ⟨r9, S10, c11, h⟩ := q_bE h
    refine q_cVJ X (As := [.long ((4 : Int64) * (p0.toInt64))]) ea8 ma8 ka8 rfl (by decide) (c_X7_four c11) (q_cwV X tK_X7_four tM_X6_89 tI_X7_four tV_X7_four tN_X7 rfl rfl tD_X7_four ⟨Nat.le_of_ble_eq_true rfl, Nat.le_of_ble_eq_true rfl⟩) rfl rfl (by first | exact Nat.le_of_ble_eq_true rfl | (simp only [List.map, q_catR]; exact Nat.le_of_ble_eq_true rfl)) ⟨Nat.zero_le _, Nat.zero_le _⟩ dX6_placeAt_17 ?_
    obtain ⟨ev, eS⟩ := q_end h
    exact q_lret X hr hl ev eS dX6_placeAt_20
theorem tD_X6_placeAt : yX6_placeAt.cls ≠ "java/lang/invoke/MethodHandle" ∧ yX6_placeAt.cls ≠ "java/lang/invoke/VarHandle" ∧ (parseMethodDescriptor yX6_placeAt.desc).map (fun d => d.parameters.length) = some 1 := by decide +kernel
theorem c_X6_placeAt {l : Launch} {D : va_G} {cy : Nat → ClassId} {n : Nat} {S Sv : q_S} {rv : Int64} {o : Nat} {p0 : Int32} (h : m_X6_placeAt n S o p0 = some (rv, Sv)) : q_MJ l yX6_placeAt (q_ws yX6_placeAt cX6_placeAt 3 ((some .long))) ({ frames := 2, cells := 0, slots := 0, locals := 49 } : Room) D cy [.ref o, .int (p0)] S rv Sv := by
  exact q_MJ_of (by decide +kernel) (Nat.le_of_ble_eq_true rfl) (fun p e s m args below meth c A X hr hl => w_X6_placeAt X hr hl h)
/-! TrueOutlines$Signs.sizeToWrite(I)I -/
def m_X6_sizeToWrite_17 (n : Nat) (S : q_S) : Option (Int32 × q_S) := some ((0 : Int32), S)
set_option maxHeartbeats 4000000 in
set_option maxRecDepth 100000 in
theorem w_X6_sizeToWrite_17 (X : q_X p s m args c cX6_sizeToWrite 7 RX6 q_T D cy A) (hr : meth.sig.returnType = (some .int)) (hl : meth.locks = false)  {n : Nat} {Sv : q_S} {rv : Int32}  (S : q_S) (h : m_X6_sizeToWrite_17 n S = some (rv, Sv)) : q_W p l e ({ frames := 3, cells := 0, slots := 0, locals := 71 } : Room) s m args below meth c (MQ below (va_Qi (fun (r : Int32) (u : q_S) => r = rv ∧ u = Sv) (q_B D cy A) A) args s 0 0 A) A D cy 7 0 0 S 17 [] [] := by
  unfold m_X6_sizeToWrite_17 at h
  refine q_iconst X (0) (by decide) dX6_sizeToWrite_17 ?_
  obtain ⟨ev, eS⟩ := q_end h
  exact q_iret X hr hl rfl ev eS dX6_sizeToWrite_18
def m_X6_sizeToWrite_93 (n : Nat) (S : q_S) (s0 : Int32) : Option (Int32 × q_S) := some (s0, S)
set_option maxHeartbeats 4000000 in
set_option maxRecDepth 100000 in
theorem w_X6_sizeToWrite_93 (X : q_X p s m args c cX6_sizeToWrite 7 RX6 q_T D cy A) (hr : meth.sig.returnType = (some .int)) (hl : meth.locks = false)  {n : Nat} {Sv : q_S} {rv : Int32}  (S : q_S) (s0 : Int32) (h : m_X6_sizeToWrite_93 n S s0 = some (rv, Sv)) : q_W p l e ({ frames := 3, cells := 0, slots := 0, locals := 71 } : Room) s m args below meth c (MQ below (va_Qi (fun (r : Int32) (u : q_S) => r = rv ∧ u = Sv) (q_B D cy A) A) args s 0 0 A) A D cy 7 0 0 S 93 [] [.int (s0)] := by
  unfold m_X6_sizeToWrite_93 at h
  obtain ⟨ev, eS⟩ := q_end h
  exact q_iret X hr hl rfl ev eS dX6_sizeToWrite_93
def m_X6_sizeToWrite_77 (n : Nat) (S : q_S) (l2 : Int64) (l4 : Int64) (s0 : Int32) : Option (Int32 × q_S) := (if s0 = 0 then m_X6_sizeToWrite_93 n (S) ((l4 - l2).toInt32) else m_X6_sizeToWrite_93 n (S) ((0 : Int32)))
set_option maxHeartbeats 4000000 in
set_option maxRecDepth 100000 in
theorem w_X6_sizeToWrite_77 (X : q_X p s m args c cX6_sizeToWrite 7 RX6 q_T D cy A) (hr : meth.sig.returnType = (some .int)) (hl : meth.locks = false)  {n : Nat} {Sv : q_S} {rv : Int32}  (S : q_S) (l2 : Int64) (l4 : Int64) (s0 : Int32) (h : m_X6_sizeToWrite_77 n S l2 l4 s0 = some (rv, Sv)) : q_W p l e ({ frames := 3, cells := 0, slots := 0, locals := 71 } : Room) s m args below meth c (MQ below (va_Qi (fun (r : Int32) (u : q_S) => r = rv ∧ u = Sv) (q_B D cy A) A) args s 0 0 A) A D cy 7 0 0 S 77 [(2, .long (l2)), (4, .long (l4))] [.int (s0)] := by
  unfold m_X6_sizeToWrite_77 at h
  refine q_istore X 6 [(6, .int (s0)), (2, .long (l2)), (4, .long (l4))] (by decide) (by first | rfl | simp [List.filter, q_catR]) dX6_sizeToWrite_77 ?_
  refine q_iload X 0 rfl dX6_sizeToWrite_79 ?_
  refine q_if_eq X 88 (by decide) dX6_sizeToWrite_81 (fun g1 => ?_) (fun g1 => ?_)
  · rw [if_pos g1] at h
    refine q_lload X 2 rfl dX6_sizeToWrite_88 ?_
    refine q_lload_n X 1 rfl dX6_sizeToWrite_90 ?_
    refine q_lsub X dX6_sizeToWrite_91 ?_
    refine q_l2i X dX6_sizeToWrite_92 ?_
    refine q_lv [] rfl ?_
    exact w_X6_sizeToWrite_93 X hr hl _ _ h
  · rw [if_neg g1] at h
    refine q_iconst X (0) (by decide) dX6_sizeToWrite_84 ?_
    refine q_goto X 93 (by decide) dX6_sizeToWrite_85 ?_
    refine q_lv [] rfl ?_
    exact w_X6_sizeToWrite_93 X hr hl _ _ h
def m_X6_sizeToWrite_72 (n : Nat) (S : q_S) (l2 : Int64) (l4 : Int64) : Option (Int32 × q_S) := m_X6_sizeToWrite_77 n (S) (l2) (l4) ((1 : Int32))
set_option maxHeartbeats 4000000 in
set_option maxRecDepth 100000 in
theorem w_X6_sizeToWrite_72 (X : q_X p s m args c cX6_sizeToWrite 7 RX6 q_T D cy A) (hr : meth.sig.returnType = (some .int)) (hl : meth.locks = false)  {n : Nat} {Sv : q_S} {rv : Int32}  (S : q_S) (l2 : Int64) (l4 : Int64) (h : m_X6_sizeToWrite_72 n S l2 l4 = some (rv, Sv)) : q_W p l e ({ frames := 3, cells := 0, slots := 0, locals := 71 } : Room) s m args below meth c (MQ below (va_Qi (fun (r : Int32) (u : q_S) => r = rv ∧ u = Sv) (q_B D cy A) A) args s 0 0 A) A D cy 7 0 0 S 72 [(2, .long (l2)), (4, .long (l4))] [] := by
  unfold m_X6_sizeToWrite_72 at h
  refine q_iconst X (1) (by decide) dX6_sizeToWrite_72 ?_
  refine q_goto X 77 (by decide) dX6_sizeToWrite_73 ?_
  exact w_X6_sizeToWrite_77 X hr hl _ _ _ _ h
def m_X6_sizeToWrite (n : Nat) (S : q_S) (o : Nat) (p0 : Int32) : Option (Int32 × q_S) := q_at (S) (some o) 7 (fun a1 => q_b (m_X6_has n (S) a1 (p0)) (fun r2 S3 => (if r2 = 0 then m_X6_sizeToWrite_17 n (S3) else q_at (S3) (some o) 7 (fun a6 => q_at (S3) (q_R (S3) a6 2) 102 (fun a7 => q_if (q_in (p0) (q_N (S3) a7) = true) ((if (q_I (S3) a7 (p0).toNatClampNeg) = 0 then m_X6_sizeToWrite_17 n (S3) else q_b (m_X6_placeAt n (S3) a6 (p0)) (fun r10 S11 => q_at (S11) (some o) 7 (fun a13 => q_b (m_X6_placeAt n (S11) a13 (p0 + (1 : Int32))) (fun r14 S15 => (if (lg_cmp (r10) ((-1 : Int64))) = 0 then m_X6_sizeToWrite_72 n (S15) (r10) (r14) else (if (lg_cmp (r14) ((-1 : Int64))) = 0 then m_X6_sizeToWrite_72 n (S15) (r10) (r14) else (if 0 < (lg_cmp (r10) (r14)) then m_X6_sizeToWrite_72 n (S15) (r10) (r14) else q_at (S15) (some o) 7 (fun a20 => q_at (S15) (q_R (S15) a20 9) 8 (fun a21 => (if (lg_cmp (r14) (((q_I (S15) a21 4).toInt64))) ≤ 0 then m_X6_sizeToWrite_77 n (S15) (r10) (r14) ((0 : Int32)) else m_X6_sizeToWrite_72 n (S15) (r10) (r14)))))))))))))))))
set_option maxHeartbeats 4000000 in
set_option maxRecDepth 100000 in
theorem w_X6_sizeToWrite (X : q_X p s m args c cX6_sizeToWrite 7 RX6 q_T D cy A) (hr : meth.sig.returnType = (some .int)) (hl : meth.locks = false)  {n : Nat} {S Sv : q_S} {rv : Int32} {o : Nat} {p0 : Int32} (h : m_X6_sizeToWrite n S o p0 = some (rv, Sv)) : q_W p l e ({ frames := 3, cells := 0, slots := 0, locals := 71 } : Room) s m args below meth c (MQ below (va_Qi (fun (r : Int32) (u : q_S) => r = rv ∧ u = Sv) (q_B D cy A) A) args s 0 0 A) A D cy 7 0 0 S 0 [(0, va_rf (some o)), (1, .int (p0))] [] := by
  unfold m_X6_sizeToWrite at h
  refine q_aload_n X 0 rfl dX6_sizeToWrite_0 ?_
  refine q_iload_n X 1 rfl dX6_sizeToWrite_1 ?_
  obtain ⟨a1, ea1, ma1, ka1, h⟩ := q_atE h
  obtain ⟨r2, S3, c4, h⟩ := q_bE h
  refine q_cVI X (As := [.int (p0)]) ea1 ma1 ka1 rfl (by decide) (c_X6_has c4) (q_cwV X tK_X6_has tM_X6_115 tI_X6_has tV_X6_has tN_X6 rfl rfl tD_X6_has ⟨Nat.le_of_ble_eq_true rfl, Nat.le_of_ble_eq_true rfl⟩) rfl rfl (by first | exact Nat.le_of_ble_eq_true rfl | (simp only [List.map, q_catR]; exact Nat.le_of_ble_eq_true rfl)) ⟨Nat.zero_le _, Nat.zero_le _⟩ dX6_sizeToWrite_2 ?_
  refine q_if_eq X 17 (by decide) dX6_sizeToWrite_5 (fun g5 => ?_) (fun g5 => ?_)
  · rw [if_pos g5] at h
    refine q_lv [] rfl ?_
    exact w_X6_sizeToWrite_17 X hr hl _ h
  · rw [if_neg g5] at h
    refine q_aload_n X 0 rfl dX6_sizeToWrite_8 ?_
    obtain ⟨a6, ea6, ma6, ka6, h⟩ := q_atE h
    refine q_getR X 2 ea6 ma6 ka6 rfl tW_X6 (by decide) (by decide) tF_X6_9 rfl dX6_sizeToWrite_9 ?_
    refine q_iload_n X 1 rfl dX6_sizeToWrite_12 ?_
    obtain ⟨a7, ea7, ma7, ka7, h⟩ := q_atE h
    obtain ⟨g8, h⟩ := q_ifE h
    refine q_zaload X ea7 ma7 ka7 (q_inE g8) dX6_sizeToWrite_13 ?_
    refine q_if_ne X 19 (by decide) dX6_sizeToWrite_14 (fun g9 => ?_) (fun g9 => ?_)
    · rw [if_neg g9] at h
      refine q_aload_n X 0 rfl dX6_sizeToWrite_19 ?_
      refine q_iload_n X 1 rfl dX6_sizeToWrite_20 ?_
      obtain ⟨r10, S11, c12, h⟩ := q_bE h
      refine q_cVJ X (As := [.int (p0)]) ea6 ma6 ka6 rfl (by decide) (c_X6_placeAt c12) (q_cwV X tK_X6_placeAt tM_X6_97 tI_X6_placeAt tV_X6_placeAt tN_X6 rfl rfl tD_X6_placeAt ⟨Nat.le_of_ble_eq_true rfl, Nat.le_of_ble_eq_true rfl⟩) rfl rfl (by first | exact Nat.le_of_ble_eq_true rfl | (simp only [List.map, q_catR]; exact Nat.le_of_ble_eq_true rfl)) ⟨Nat.zero_le _, Nat.zero_le _⟩ dX6_sizeToWrite_21 ?_
      refine q_lstore_n X 2 [(2, .long (r10)), (0, va_rf (some o)), (1, .int (p0))] rfl (by decide) (by first | rfl | simp [List.filter, q_catR]) dX6_sizeToWrite_24 ?_
      refine q_aload_n X 1 rfl dX6_sizeToWrite_25 ?_
      refine q_iload_n X 2 rfl dX6_sizeToWrite_26 ?_
      refine q_iconst X (1) (by decide) dX6_sizeToWrite_27 ?_
      refine q_iadd X dX6_sizeToWrite_28 ?_
      obtain ⟨a13, ea13, ma13, ka13, h⟩ := q_atE h
      obtain ⟨r14, S15, c16, h⟩ := q_bE h
      refine q_cVJ X (As := [.int (p0 + (1 : Int32))]) ea13 ma13 ka13 rfl (by decide) (c_X6_placeAt c16) (q_cwV X tK_X6_placeAt tM_X6_97 tI_X6_placeAt tV_X6_placeAt tN_X6 rfl rfl tD_X6_placeAt ⟨Nat.le_of_ble_eq_true rfl, Nat.le_of_ble_eq_true rfl⟩) rfl rfl (by first | exact Nat.le_of_ble_eq_true rfl | (simp only [List.map, q_catR]; exact Nat.le_of_ble_eq_true rfl)) ⟨Nat.zero_le _, Nat.zero_le _⟩ dX6_sizeToWrite_29 ?_
      refine q_lstore X 4 [(4, .long (r14)), (2, .long (r10)), (0, va_rf (some o)), (1, .int (p0))] (by decide) (by first | rfl | simp [List.filter, q_catR]) dX6_sizeToWrite_32 ?_
      refine q_lload_n X 1 rfl dX6_sizeToWrite_34 ?_
      refine q_ldc2_w X (-1) tC_X6_95 dX6_sizeToWrite_35 ?_
      refine q_lcmp X dX6_sizeToWrite_38 ?_
      refine q_if_eq X 72 (by decide) dX6_sizeToWrite_39 (fun g17 => ?_) (fun g17 => ?_)
      · rw [if_pos g17] at h
        refine q_lv [1, 0] rfl ?_
        exact w_X6_sizeToWrite_72 X hr hl _ _ _ h
      · rw [if_neg g17] at h
        refine q_lload X 0 rfl dX6_sizeToWrite_42 ?_
        refine q_ldc2_w X (-1) tC_X6_95 dX6_sizeToWrite_44 ?_
        refine q_lcmp X dX6_sizeToWrite_47 ?_
        refine q_if_eq X 72 (by decide) dX6_sizeToWrite_48 (fun g18 => ?_) (fun g18 => ?_)
        · rw [if_pos g18] at h
          refine q_lv [1, 0] rfl ?_
          exact w_X6_sizeToWrite_72 X hr hl _ _ _ h
        · rw [if_neg g18] at h
          refine q_lload_n X 1 rfl dX6_sizeToWrite_51 ?_
          refine q_lload X 0 rfl dX6_sizeToWrite_52 ?_
          refine q_lcmp X dX6_sizeToWrite_54 ?_
          refine q_if_gt X 72 (by decide) dX6_sizeToWrite_55 (fun g19 => ?_) (fun g19 => ?_)
          · rw [if_pos g19] at h
            refine q_lv [1, 0] rfl ?_
            exact w_X6_sizeToWrite_72 X hr hl _ _ _ h
          · rw [if_neg g19] at h
            refine q_lload X 0 rfl dX6_sizeToWrite_58 ?_
            refine q_aload_n X 2 rfl dX6_sizeToWrite_60 ?_
            obtain ⟨a20, ea20, ma20, ka20, h⟩ := q_atE h
            refine q_getR X 9 ea20 ma20 ka20 rfl tW_X6 (by decide) (by decide) tF_X6_41 rfl dX6_sizeToWrite_61 ?_
            obtain ⟨a21, ea21, ma21, ka21, h⟩ := q_atE h
            refine q_getIN X 4 ea21 ma21 ka21 rfl tW_X7 (by decide) (by decide) "TrueOutlines" tF_X6_119 rfl dX6_sizeToWrite_64 ?_
            refine q_i2l X dX6_sizeToWrite_67 ?_
            refine q_lcmp X dX6_sizeToWrite_68 ?_
            refine q_if_le X 76 (by decide) dX6_sizeToWrite_69 (fun g22 => ?_) (fun g22 => ?_)
            · rw [if_pos g22] at h
              refine q_iconst X (0) (by decide) dX6_sizeToWrite_76 ?_
              refine q_lv [1, 0] rfl ?_
              exact w_X6_sizeToWrite_77 X hr hl _ _ _ _ h
            · rw [if_neg g22] at h
              refine q_lv [1, 0] rfl ?_
              exact w_X6_sizeToWrite_72 X hr hl _ _ _ h
    · rw [if_pos g9] at h
      refine q_lv [] rfl ?_
      exact w_X6_sizeToWrite_17 X hr hl _ h
theorem tD_X6_sizeToWrite : yX6_sizeToWrite.cls ≠ "java/lang/invoke/MethodHandle" ∧ yX6_sizeToWrite.cls ≠ "java/lang/invoke/VarHandle" ∧ (parseMethodDescriptor yX6_sizeToWrite.desc).map (fun d => d.parameters.length) = some 1 := by decide +kernel
theorem c_X6_sizeToWrite {l : Launch} {D : va_G} {cy : Nat → ClassId} {n : Nat} {S Sv : q_S} {rv : Int32} {o : Nat} {p0 : Int32} (h : m_X6_sizeToWrite n S o p0 = some (rv, Sv)) : q_MI l yX6_sizeToWrite (q_ws yX6_sizeToWrite cX6_sizeToWrite 7 ((some .int))) ({ frames := 3, cells := 0, slots := 0, locals := 71 } : Room) D cy [.ref o, .int (p0)] S rv Sv := by
  exact q_MI_of (by decide +kernel) (Nat.le_of_ble_eq_true rfl) (fun p e s m args below meth c A X hr hl => w_X6_sizeToWrite X hr hl h)
/-! TrueOutlines$Writer.findPlaces()V -/
def m_X10_findPlaces_2 (n : Nat) : Nat → q_S → Option Nat → Int32 → Option (Unit × q_S)
  | 0, _, _, _ => none
  | k + 1, S, l0, l1 => q_at (S) (l0) 11 (fun a1 => q_at (S) (q_R (S) a1 2) 7 (fun a2 => q_b (m_X6_size n (S) a2) (fun r3 S4 => (if r3 ≤ l1 then some ((), S4) else q_at (S4) (l0) 11 (fun a7 => q_at (S4) (q_R (S4) a7 2) 7 (fun a8 => q_b (m_X6_sizeToWrite n (S4) a8 (l1)) (fun r9 S10 => q_at (S10) (q_R (S4) a7 6) 100 (fun a12 => q_if (q_in (l1) (q_N (S10) a12) = true) (q_at (q_sI (S10) a12 (l1).toNatClampNeg (r9)) (l0) 11 (fun a14 => q_at (q_sI (S10) a12 (l1).toNatClampNeg (r9)) (q_R (q_sI (S10) a12 (l1).toNatClampNeg (r9)) a14 7) 100 (fun a15 => q_if (q_in (l1) (q_N (q_sI (S10) a12 (l1).toNatClampNeg (r9)) a15) = true) (q_at (q_sI (S10) a12 (l1).toNatClampNeg (r9)) (q_R (q_sI (S10) a12 (l1).toNatClampNeg (r9)) a14 6) 100 (fun a17 => q_if (q_in (l1) (q_N (q_sI (S10) a12 (l1).toNatClampNeg (r9)) a17) = true) (q_if (q_in (l1) (q_N (q_sI (S10) a12 (l1).toNatClampNeg (r9)) a17) = true) (q_if (¬ (2 : Int32) = 0) (q_if (q_in (l1 + (1 : Int32)) (q_N (q_sI (S10) a12 (l1).toNatClampNeg (r9)) a15) = true) (q_let (q_sI (q_sI (S10) a12 (l1).toNatClampNeg (r9)) a15 (l1 + (1 : Int32)).toNatClampNeg (((q_I (q_sI (S10) a12 (l1).toNatClampNeg (r9)) a15 (l1).toNatClampNeg) + (q_I (q_sI (S10) a12 (l1).toNatClampNeg (r9)) a17 (l1).toNatClampNeg)) + ((q_I (q_sI (S10) a12 (l1).toNatClampNeg (r9)) a17 (l1).toNatClampNeg) - (q_I (q_sI (S10) a12 (l1).toNatClampNeg (r9)) a17 (l1).toNatClampNeg) / (2 : Int32) * (2 : Int32)))) (fun S22 => m_X10_findPlaces_2 n k (S22) (l0) (l1 + (1))))))))))))))))))))
set_option maxHeartbeats 4000000 in
set_option maxRecDepth 100000 in
theorem w_X10_findPlaces_2 (X : q_X p s m args c cX10_findPlaces 2 RX10 q_T D cy A) (hr : meth.sig.returnType = none) (hl : meth.locks = false)  {n : Nat} {Sv : q_S}  : ∀ (k : Nat) (S : q_S) (l0 : Option Nat) (l1 : Int32), m_X10_findPlaces_2 n k S l0 l1 = some ((), Sv) → q_W p l e ({ frames := 4, cells := 0, slots := 0, locals := 97 } : Room) s m args below meth c (MQ below (va_Qv (fun (u : q_S) => u = Sv) (q_B D cy A) A) args s 0 0 A) A D cy 2 0 0 S 2 [(0, va_rf (l0)), (1, .int (l1))] [] := by
  intro k
  induction k with
  | zero => intro S l0 l1 h; rw [m_X10_findPlaces_2] at h; cases h
  | succ k ih =>
    intro S l0 l1 h
    rw [m_X10_findPlaces_2] at h
    refine q_iload_n X 1 rfl dX10_findPlaces_2 ?_
    refine q_aload_n X 0 rfl dX10_findPlaces_3 ?_
    obtain ⟨a1, ea1, ma1, ka1, h⟩ := q_atE h
    refine q_getR X 2 ea1 ma1 ka1 rfl tW_X10 (by decide) (by decide) tF_X10_37 rfl dX10_findPlaces_4 ?_
    obtain ⟨a2, ea2, ma2, ka2, h⟩ := q_atE h
    obtain ⟨r3, S4, c5, h⟩ := q_bE h
    refine q_cVI X (As := []) ea2 ma2 ka2 rfl (by decide) (c_X6_size c5) (q_cwV X tK_X6_size tM_X10_112 tI_X6_size tV_X6_size tN_X6 rfl rfl tD_X6_size ⟨Nat.le_of_ble_eq_true rfl, Nat.le_of_ble_eq_true rfl⟩) rfl rfl (by first | exact Nat.le_of_ble_eq_true rfl | (simp only [List.map, q_catR]; exact Nat.le_of_ble_eq_true rfl)) ⟨Nat.zero_le _, Nat.zero_le _⟩ dX10_findPlaces_7 ?_
    refine q_icmp_ge X 63 (by decide) dX10_findPlaces_10 (fun g6 => ?_) (fun g6 => ?_)
    · rw [if_pos g6] at h
      obtain ⟨ev, eS⟩ := q_end h
      exact q_vret X hr hl eS dX10_findPlaces_63
    · rw [if_neg g6] at h
      refine q_aload_n X 0 rfl dX10_findPlaces_13 ?_
      obtain ⟨a7, ea7, ma7, ka7, h⟩ := q_atE h
      refine q_getR X 6 ea7 ma7 ka7 rfl tW_X10 (by decide) (by decide) tF_X10_24 rfl dX10_findPlaces_14 ?_
      refine q_iload_n X 1 rfl dX10_findPlaces_17 ?_
      refine q_aload_n X 0 rfl dX10_findPlaces_18 ?_
      refine q_getR X 2 ea7 ma7 ka7 rfl tW_X10 (by decide) (by decide) tF_X10_37 rfl dX10_findPlaces_19 ?_
      refine q_iload_n X 1 rfl dX10_findPlaces_22 ?_
      obtain ⟨a8, ea8, ma8, ka8, h⟩ := q_atE h
      obtain ⟨r9, S10, c11, h⟩ := q_bE h
      refine q_cVI X (As := [.int (l1)]) ea8 ma8 ka8 rfl (by decide) (c_X6_sizeToWrite c11) (q_cwV X tK_X6_sizeToWrite tM_X10_113 tI_X6_sizeToWrite tV_X6_sizeToWrite tN_X6 rfl rfl tD_X6_sizeToWrite ⟨Nat.le_of_ble_eq_true rfl, Nat.le_of_ble_eq_true rfl⟩) rfl rfl (by first | exact Nat.le_of_ble_eq_true rfl | (simp only [List.map, q_catR]; exact Nat.le_of_ble_eq_true rfl)) ⟨Nat.zero_le _, Nat.zero_le _⟩ dX10_findPlaces_23 ?_
      obtain ⟨a12, ea12, ma12, ka12, h⟩ := q_atE h
      obtain ⟨g13, h⟩ := q_ifE h
      refine q_iastore X ea12 ma12 ka12 (q_inE g13) dX10_findPlaces_26 ?_
      have ma12 : a12 ∈ q_L (q_sI (S10) a12 (l1).toNatClampNeg (r9)) := q_LsI ma12
      have ka12 : q_K (q_sI (S10) a12 (l1).toNatClampNeg (r9)) a12 = 100 := q_KsI ka12
      refine q_aload_n X 0 rfl dX10_findPlaces_27 ?_
      obtain ⟨a14, ea14, ma14, ka14, h⟩ := q_atE h
      refine q_getR X 7 ea14 ma14 ka14 rfl tW_X10 (by decide) (by decide) tF_X10_27 rfl dX10_findPlaces_28 ?_
      refine q_iload_n X 1 rfl dX10_findPlaces_31 ?_
      refine q_iconst X (1) (by decide) dX10_findPlaces_32 ?_
      refine q_iadd X dX10_findPlaces_33 ?_
      refine q_aload_n X 0 rfl dX10_findPlaces_34 ?_
      refine q_getR X 7 ea14 ma14 ka14 rfl tW_X10 (by decide) (by decide) tF_X10_27 rfl dX10_findPlaces_35 ?_
      refine q_iload_n X 1 rfl dX10_findPlaces_38 ?_
      obtain ⟨a15, ea15, ma15, ka15, h⟩ := q_atE h
      obtain ⟨g16, h⟩ := q_ifE h
      refine q_iaload X ea15 ma15 ka15 (q_inE g16) dX10_findPlaces_39 ?_
      refine q_aload_n X 0 rfl dX10_findPlaces_40 ?_
      refine q_getR X 6 ea14 ma14 ka14 rfl tW_X10 (by decide) (by decide) tF_X10_24 rfl dX10_findPlaces_41 ?_
      refine q_iload_n X 1 rfl dX10_findPlaces_44 ?_
      obtain ⟨a17, ea17, ma17, ka17, h⟩ := q_atE h
      obtain ⟨g18, h⟩ := q_ifE h
      refine q_iaload X ea17 ma17 ka17 (q_inE g18) dX10_findPlaces_45 ?_
      refine q_iadd X dX10_findPlaces_46 ?_
      refine q_aload_n X 0 rfl dX10_findPlaces_47 ?_
      refine q_getR X 6 ea14 ma14 ka14 rfl tW_X10 (by decide) (by decide) tF_X10_24 rfl dX10_findPlaces_48 ?_
      refine q_iload_n X 1 rfl dX10_findPlaces_51 ?_
      obtain ⟨g19, h⟩ := q_ifE h
      refine q_iaload X ea17 ma17 ka17 (q_inE g19) dX10_findPlaces_52 ?_
      refine q_iconst X (2) (by decide) dX10_findPlaces_53 ?_
      obtain ⟨g20, h⟩ := q_ifE h
      refine q_irem X g20 dX10_findPlaces_54 ?_
      refine q_iadd X dX10_findPlaces_55 ?_
      obtain ⟨g21, h⟩ := q_ifE h
      refine q_iastore X ea15 ma15 ka15 (q_inE g21) dX10_findPlaces_56 ?_
      have ma12 : a12 ∈ q_L (q_sI (q_sI (S10) a12 (l1).toNatClampNeg (r9)) a15 (l1 + (1 : Int32)).toNatClampNeg (((q_I (q_sI (S10) a12 (l1).toNatClampNeg (r9)) a15 (l1).toNatClampNeg) + (q_I (q_sI (S10) a12 (l1).toNatClampNeg (r9)) a17 (l1).toNatClampNeg)) + ((q_I (q_sI (S10) a12 (l1).toNatClampNeg (r9)) a17 (l1).toNatClampNeg) - (q_I (q_sI (S10) a12 (l1).toNatClampNeg (r9)) a17 (l1).toNatClampNeg) / (2 : Int32) * (2 : Int32)))) := q_LsI ma12
      have ka12 : q_K (q_sI (q_sI (S10) a12 (l1).toNatClampNeg (r9)) a15 (l1 + (1 : Int32)).toNatClampNeg (((q_I (q_sI (S10) a12 (l1).toNatClampNeg (r9)) a15 (l1).toNatClampNeg) + (q_I (q_sI (S10) a12 (l1).toNatClampNeg (r9)) a17 (l1).toNatClampNeg)) + ((q_I (q_sI (S10) a12 (l1).toNatClampNeg (r9)) a17 (l1).toNatClampNeg) - (q_I (q_sI (S10) a12 (l1).toNatClampNeg (r9)) a17 (l1).toNatClampNeg) / (2 : Int32) * (2 : Int32)))) a12 = 100 := q_KsI ka12
      have ma14 : a14 ∈ q_L (q_sI (q_sI (S10) a12 (l1).toNatClampNeg (r9)) a15 (l1 + (1 : Int32)).toNatClampNeg (((q_I (q_sI (S10) a12 (l1).toNatClampNeg (r9)) a15 (l1).toNatClampNeg) + (q_I (q_sI (S10) a12 (l1).toNatClampNeg (r9)) a17 (l1).toNatClampNeg)) + ((q_I (q_sI (S10) a12 (l1).toNatClampNeg (r9)) a17 (l1).toNatClampNeg) - (q_I (q_sI (S10) a12 (l1).toNatClampNeg (r9)) a17 (l1).toNatClampNeg) / (2 : Int32) * (2 : Int32)))) := q_LsI ma14
      have ka14 : q_K (q_sI (q_sI (S10) a12 (l1).toNatClampNeg (r9)) a15 (l1 + (1 : Int32)).toNatClampNeg (((q_I (q_sI (S10) a12 (l1).toNatClampNeg (r9)) a15 (l1).toNatClampNeg) + (q_I (q_sI (S10) a12 (l1).toNatClampNeg (r9)) a17 (l1).toNatClampNeg)) + ((q_I (q_sI (S10) a12 (l1).toNatClampNeg (r9)) a17 (l1).toNatClampNeg) - (q_I (q_sI (S10) a12 (l1).toNatClampNeg (r9)) a17 (l1).toNatClampNeg) / (2 : Int32) * (2 : Int32)))) a14 = 11 := q_KsI ka14
      have ma15 : a15 ∈ q_L (q_sI (q_sI (S10) a12 (l1).toNatClampNeg (r9)) a15 (l1 + (1 : Int32)).toNatClampNeg (((q_I (q_sI (S10) a12 (l1).toNatClampNeg (r9)) a15 (l1).toNatClampNeg) + (q_I (q_sI (S10) a12 (l1).toNatClampNeg (r9)) a17 (l1).toNatClampNeg)) + ((q_I (q_sI (S10) a12 (l1).toNatClampNeg (r9)) a17 (l1).toNatClampNeg) - (q_I (q_sI (S10) a12 (l1).toNatClampNeg (r9)) a17 (l1).toNatClampNeg) / (2 : Int32) * (2 : Int32)))) := q_LsI ma15
      have ka15 : q_K (q_sI (q_sI (S10) a12 (l1).toNatClampNeg (r9)) a15 (l1 + (1 : Int32)).toNatClampNeg (((q_I (q_sI (S10) a12 (l1).toNatClampNeg (r9)) a15 (l1).toNatClampNeg) + (q_I (q_sI (S10) a12 (l1).toNatClampNeg (r9)) a17 (l1).toNatClampNeg)) + ((q_I (q_sI (S10) a12 (l1).toNatClampNeg (r9)) a17 (l1).toNatClampNeg) - (q_I (q_sI (S10) a12 (l1).toNatClampNeg (r9)) a17 (l1).toNatClampNeg) / (2 : Int32) * (2 : Int32)))) a15 = 100 := q_KsI ka15
      have ma17 : a17 ∈ q_L (q_sI (q_sI (S10) a12 (l1).toNatClampNeg (r9)) a15 (l1 + (1 : Int32)).toNatClampNeg (((q_I (q_sI (S10) a12 (l1).toNatClampNeg (r9)) a15 (l1).toNatClampNeg) + (q_I (q_sI (S10) a12 (l1).toNatClampNeg (r9)) a17 (l1).toNatClampNeg)) + ((q_I (q_sI (S10) a12 (l1).toNatClampNeg (r9)) a17 (l1).toNatClampNeg) - (q_I (q_sI (S10) a12 (l1).toNatClampNeg (r9)) a17 (l1).toNatClampNeg) / (2 : Int32) * (2 : Int32)))) := q_LsI ma17
      have ka17 : q_K (q_sI (q_sI (S10) a12 (l1).toNatClampNeg (r9)) a15 (l1 + (1 : Int32)).toNatClampNeg (((q_I (q_sI (S10) a12 (l1).toNatClampNeg (r9)) a15 (l1).toNatClampNeg) + (q_I (q_sI (S10) a12 (l1).toNatClampNeg (r9)) a17 (l1).toNatClampNeg)) + ((q_I (q_sI (S10) a12 (l1).toNatClampNeg (r9)) a17 (l1).toNatClampNeg) - (q_I (q_sI (S10) a12 (l1).toNatClampNeg (r9)) a17 (l1).toNatClampNeg) / (2 : Int32) * (2 : Int32)))) a17 = 100 := q_KsI ka17
      refine q_iinc X 1 1 (l1 + (1)) [(1, .int (l1 + (1))), (0, va_rf (l0))] rfl (congrArg (fun z => l1 + z) (show Int32.ofInt (1) = (1) by decide)) (by decide) (by first | rfl | simp [List.filter, q_catR]) dX10_findPlaces_57 ?_
      obtain ⟨S22, eS22, h⟩ := q_letE h
      refine q_sub eS22 ?_
      have ma12 : a12 ∈ q_L S22 := by rw [eS22]; exact ma12
      have ka12 : q_K S22 a12 = 100 := by rw [eS22]; exact ka12
      have ma14 : a14 ∈ q_L S22 := by rw [eS22]; exact ma14
      have ka14 : q_K S22 a14 = 11 := by rw [eS22]; exact ka14
      have ma15 : a15 ∈ q_L S22 := by rw [eS22]; exact ma15
      have ka15 : q_K S22 a15 = 100 := by rw [eS22]; exact ka15
      have ma17 : a17 ∈ q_L S22 := by rw [eS22]; exact ma17
      have ka17 : q_K S22 a17 = 100 := by rw [eS22]; exact ka17
      refine q_goto X 2 (by decide) dX10_findPlaces_60 ?_
      refine q_lv [1, 0] rfl ?_
      exact ih _ _ _ h
def m_X10_findPlaces (n : Nat) (S : q_S) (o : Nat)  : Option (Unit × q_S) := m_X10_findPlaces_2 n n (S) (some o) ((0 : Int32))
set_option maxHeartbeats 4000000 in
set_option maxRecDepth 100000 in
theorem w_X10_findPlaces (X : q_X p s m args c cX10_findPlaces 2 RX10 q_T D cy A) (hr : meth.sig.returnType = none) (hl : meth.locks = false)  {n : Nat} {S Sv : q_S} {o : Nat}  (h : m_X10_findPlaces n S o = some ((), Sv)) : q_W p l e ({ frames := 4, cells := 0, slots := 0, locals := 97 } : Room) s m args below meth c (MQ below (va_Qv (fun (u : q_S) => u = Sv) (q_B D cy A) A) args s 0 0 A) A D cy 2 0 0 S 0 [(0, va_rf (some o))] [] := by
  unfold m_X10_findPlaces at h
  refine q_iconst X (0) (by decide) dX10_findPlaces_0 ?_
  refine q_istore_n X 1 [(1, .int ((0 : Int32))), (0, va_rf (some o))] rfl (by decide) (by first | rfl | simp [List.filter, q_catR]) dX10_findPlaces_1 ?_
  refine q_lv [1, 0] rfl ?_
  exact w_X10_findPlaces_2 X hr hl n _ _ _ h
theorem tD_X10_findPlaces : yX10_findPlaces.cls ≠ "java/lang/invoke/MethodHandle" ∧ yX10_findPlaces.cls ≠ "java/lang/invoke/VarHandle" ∧ (parseMethodDescriptor yX10_findPlaces.desc).map (fun d => d.parameters.length) = some 0 := by decide +kernel
theorem c_X10_findPlaces {l : Launch} {D : va_G} {cy : Nat → ClassId} {n : Nat} {S Sv : q_S} {o : Nat}  (h : m_X10_findPlaces n S o = some ((), Sv)) : q_MV l yX10_findPlaces (q_ws yX10_findPlaces cX10_findPlaces 2 (none)) ({ frames := 4, cells := 0, slots := 0, locals := 97 } : Room) D cy [.ref o] S Sv := by
  exact q_MV_of (by decide +kernel) (Nat.le_of_ble_eq_true rfl) (fun p e s m args below meth c A X hr hl => w_X10_findPlaces X hr hl h)
/-! TrueOutlines$Signs.areCutShort()Z -/
def m_X6_areCutShort (n : Nat) (S : q_S) (o : Nat)  : Option (Int32 × q_S) := q_at (S) (some o) 7 (fun a1 => q_if ((q_I (S) a1 6) = 0 ∨ (q_I (S) a1 6) = 1) (some (q_I (S) a1 6, S)))
set_option maxHeartbeats 4000000 in
set_option maxRecDepth 100000 in
theorem w_X6_areCutShort (X : q_X p s m args c cX6_areCutShort 1 RX6 q_T D cy A) (hr : meth.sig.returnType = (some .boolean)) (hl : meth.locks = false)  {n : Nat} {S Sv : q_S} {rv : Int32} {o : Nat}  (h : m_X6_areCutShort n S o = some (rv, Sv)) : q_W p l e ({ frames := 0, cells := 0, slots := 0, locals := 0 } : Room) s m args below meth c (MQ below (va_Qi (fun (r : Int32) (u : q_S) => r = rv ∧ u = Sv) (q_B D cy A) A) args s 0 0 A) A D cy 1 0 0 S 0 [(0, va_rf (some o))] [] := by
  unfold m_X6_areCutShort at h
  refine q_aload_n X 0 rfl dX6_areCutShort_0 ?_
  obtain ⟨a1, ea1, ma1, ka1, h⟩ := q_atE h
  refine q_getI X 6 ea1 ma1 ka1 rfl tW_X6 (by decide) (by decide) tF_X6_71 rfl dX6_areCutShort_1 ?_
  obtain ⟨g2, h⟩ := q_ifE h
  obtain ⟨ev, eS⟩ := q_end h
  exact q_iret X hr hl (q_bool g2) ev eS dX6_areCutShort_4
theorem tD_X6_areCutShort : yX6_areCutShort.cls ≠ "java/lang/invoke/MethodHandle" ∧ yX6_areCutShort.cls ≠ "java/lang/invoke/VarHandle" ∧ (parseMethodDescriptor yX6_areCutShort.desc).map (fun d => d.parameters.length) = some 0 := by decide +kernel
theorem c_X6_areCutShort {l : Launch} {D : va_G} {cy : Nat → ClassId} {n : Nat} {S Sv : q_S} {rv : Int32} {o : Nat}  (h : m_X6_areCutShort n S o = some (rv, Sv)) : q_MI l yX6_areCutShort (q_ws yX6_areCutShort cX6_areCutShort 1 ((some .boolean))) ({ frames := 0, cells := 0, slots := 0, locals := 0 } : Room) D cy [.ref o] S rv Sv := by
  exact q_MI_of (by decide +kernel) (Nat.le_of_ble_eq_true rfl) (fun p e s m args below meth c A X hr hl => w_X6_areCutShort X hr hl h)
/-! TrueOutlines$Tables.isThere(J)Z -/
def m_X8_isThere_13 (n : Nat) (S : q_S) (s0 : Int32) : Option (Int32 × q_S) := q_if (s0 = 0 ∨ s0 = 1) (some (s0, S))
set_option maxHeartbeats 4000000 in
set_option maxRecDepth 100000 in
theorem w_X8_isThere_13 (X : q_X p s m args c cX8_isThere 3 RX8 q_T D cy A) (hr : meth.sig.returnType = (some .boolean)) (hl : meth.locks = false)  {n : Nat} {Sv : q_S} {rv : Int32}  (S : q_S) (s0 : Int32) (h : m_X8_isThere_13 n S s0 = some (rv, Sv)) : q_W p l e ({ frames := 1, cells := 0, slots := 0, locals := 23 } : Room) s m args below meth c (MQ below (va_Qi (fun (r : Int32) (u : q_S) => r = rv ∧ u = Sv) (q_B D cy A) A) args s 0 0 A) A D cy 3 0 0 S 13 [] [.int (s0)] := by
  unfold m_X8_isThere_13 at h
  obtain ⟨g1, h⟩ := q_ifE h
  obtain ⟨ev, eS⟩ := q_end h
  exact q_iret X hr hl (q_bool g1) ev eS dX8_isThere_13
def m_X8_isThere (n : Nat) (S : q_S) (o : Nat) (p0 : Int64) : Option (Int32 × q_S) := q_at (S) (some o) 9 (fun a1 => q_b (m_X8_indexOf n (S) a1 (p0)) (fun r2 S3 => (if r2 < 0 then m_X8_isThere_13 n (S3) ((0 : Int32)) else m_X8_isThere_13 n (S3) ((1 : Int32)))))
set_option maxHeartbeats 4000000 in
set_option maxRecDepth 100000 in
theorem w_X8_isThere (X : q_X p s m args c cX8_isThere 3 RX8 q_T D cy A) (hr : meth.sig.returnType = (some .boolean)) (hl : meth.locks = false)  {n : Nat} {S Sv : q_S} {rv : Int32} {o : Nat} {p0 : Int64} (h : m_X8_isThere n S o p0 = some (rv, Sv)) : q_W p l e ({ frames := 1, cells := 0, slots := 0, locals := 23 } : Room) s m args below meth c (MQ below (va_Qi (fun (r : Int32) (u : q_S) => r = rv ∧ u = Sv) (q_B D cy A) A) args s 0 0 A) A D cy 3 0 0 S 0 [(0, va_rf (some o)), (1, .long (p0))] [] := by
  unfold m_X8_isThere at h
  refine q_aload_n X 0 rfl dX8_isThere_0 ?_
  refine q_lload_n X 1 rfl dX8_isThere_1 ?_
  obtain ⟨a1, ea1, ma1, ka1, h⟩ := q_atE h
  obtain ⟨r2, S3, c4, h⟩ := q_bE h
  refine q_cVI X (As := [.long (p0)]) ea1 ma1 ka1 rfl (by decide) (c_X8_indexOf c4) (q_cwV X tK_X8_indexOf tM_X8_40 tI_X8_indexOf tV_X8_indexOf tN_X8 rfl rfl tD_X8_indexOf ⟨Nat.le_of_ble_eq_true rfl, Nat.le_of_ble_eq_true rfl⟩) rfl rfl (by first | exact Nat.le_of_ble_eq_true rfl | (simp only [List.map, q_catR]; exact Nat.le_of_ble_eq_true rfl)) ⟨Nat.zero_le _, Nat.zero_le _⟩ dX8_isThere_2 ?_
  refine q_if_lt X 12 (by decide) dX8_isThere_5 (fun g5 => ?_) (fun g5 => ?_)
  · rw [if_pos g5] at h
    refine q_iconst X (0) (by decide) dX8_isThere_12 ?_
    refine q_lv [] rfl ?_
    exact w_X8_isThere_13 X hr hl _ _ h
  · rw [if_neg g5] at h
    refine q_iconst X (1) (by decide) dX8_isThere_8 ?_
    refine q_goto X 13 (by decide) dX8_isThere_9 ?_
    refine q_lv [] rfl ?_
    exact w_X8_isThere_13 X hr hl _ _ h
theorem tD_X8_isThere : yX8_isThere.cls ≠ "java/lang/invoke/MethodHandle" ∧ yX8_isThere.cls ≠ "java/lang/invoke/VarHandle" ∧ (parseMethodDescriptor yX8_isThere.desc).map (fun d => d.parameters.length) = some 1 := by decide +kernel
theorem c_X8_isThere {l : Launch} {D : va_G} {cy : Nat → ClassId} {n : Nat} {S Sv : q_S} {rv : Int32} {o : Nat} {p0 : Int64} (h : m_X8_isThere n S o p0 = some (rv, Sv)) : q_MI l yX8_isThere (q_ws yX8_isThere cX8_isThere 3 ((some .boolean))) ({ frames := 1, cells := 0, slots := 0, locals := 23 } : Room) D cy [.ref o, .long (p0)] S rv Sv := by
  exact q_MI_of (by decide +kernel) (Nat.le_of_ble_eq_true rfl) (fun p e s m args below meth c A X hr hl => w_X8_isThere X hr hl h)
/-! TrueOutlines$Writer.isPossible()Z -/
def m_X10_isPossible_85 (n : Nat) (S : q_S) (s0 : Int32) : Option (Int32 × q_S) := q_if (s0 = 0 ∨ s0 = 1) (some (s0, S))
set_option maxHeartbeats 4000000 in
set_option maxRecDepth 100000 in
theorem w_X10_isPossible_85 (X : q_X p s m args c cX10_isPossible 1 RX10 q_T D cy A) (hr : meth.sig.returnType = (some .boolean)) (hl : meth.locks = false)  {n : Nat} {Sv : q_S} {rv : Int32}  (S : q_S) (s0 : Int32) (h : m_X10_isPossible_85 n S s0 = some (rv, Sv)) : q_W p l e ({ frames := 3, cells := 0, slots := 0, locals := 64 } : Room) s m args below meth c (MQ below (va_Qi (fun (r : Int32) (u : q_S) => r = rv ∧ u = Sv) (q_B D cy A) A) args s 0 0 A) A D cy 1 0 0 S 85 [] [.int (s0)] := by
  unfold m_X10_isPossible_85 at h
  obtain ⟨g1, h⟩ := q_ifE h
  obtain ⟨ev, eS⟩ := q_end h
  exact q_iret X hr hl (q_bool g1) ev eS dX10_isPossible_85
def m_X10_isPossible_84 (n : Nat) (S : q_S) : Option (Int32 × q_S) := m_X10_isPossible_85 n (S) ((0 : Int32))
set_option maxHeartbeats 4000000 in
set_option maxRecDepth 100000 in
theorem w_X10_isPossible_84 (X : q_X p s m args c cX10_isPossible 1 RX10 q_T D cy A) (hr : meth.sig.returnType = (some .boolean)) (hl : meth.locks = false)  {n : Nat} {Sv : q_S} {rv : Int32}  (S : q_S) (h : m_X10_isPossible_84 n S = some (rv, Sv)) : q_W p l e ({ frames := 3, cells := 0, slots := 0, locals := 64 } : Room) s m args below meth c (MQ below (va_Qi (fun (r : Int32) (u : q_S) => r = rv ∧ u = Sv) (q_B D cy A) A) args s 0 0 A) A D cy 1 0 0 S 84 [] [] := by
  unfold m_X10_isPossible_84 at h
  refine q_iconst X (0) (by decide) dX10_isPossible_84 ?_
  exact w_X10_isPossible_85 X hr hl _ _ h
def m_X10_isPossible (n : Nat) (S : q_S) (o : Nat)  : Option (Int32 × q_S) := q_at (S) (some o) 11 (fun a1 => q_at (S) (q_R (S) a1 1) 9 (fun a2 => q_b (m_X8_isThere n (S) a2 ((1751474532 : Int64))) (fun r3 S4 => (if r3 = 0 then m_X10_isPossible_84 n (S4) else q_at (S4) (some o) 11 (fun a7 => q_at (S4) (q_R (S4) a7 1) 9 (fun a8 => q_b (m_X8_isThere n (S4) a8 ((1835104368 : Int64))) (fun r9 S10 => (if r9 = 0 then m_X10_isPossible_84 n (S10) else q_at (S10) (some o) 11 (fun a13 => q_at (S10) (q_R (S10) a13 1) 9 (fun a14 => q_b (m_X8_isThere n (S10) a14 ((1819239265 : Int64))) (fun r15 S16 => (if r15 = 0 then m_X10_isPossible_84 n (S16) else q_at (S16) (some o) 11 (fun a19 => q_at (S16) (q_R (S16) a19 1) 9 (fun a20 => q_b (m_X8_isThere n (S16) a20 ((1735162214 : Int64))) (fun r21 S22 => (if r21 = 0 then m_X10_isPossible_84 n (S22) else q_at (S22) (some o) 11 (fun a25 => q_at (S22) (q_R (S22) a25 1) 9 (fun a26 => q_b (m_X8_first n (S22) a26 ((1751474532 : Int64))) (fun r27 S28 => q_at (S28) (some r27) 8 (fun a30 => (if (q_I (S28) a30 4) < (52 : Int32) then m_X10_isPossible_84 n (S28) else q_at (S28) (some o) 11 (fun a32 => q_at (S28) (q_R (S28) a32 2) 7 (fun a33 => q_b (m_X6_areCutShort n (S28) a33) (fun r34 S35 => (if r34 = 0 then m_X10_isPossible_85 n (S35) ((1 : Int32)) else m_X10_isPossible_84 n (S35))))))))))))))))))))))))))
set_option maxHeartbeats 4000000 in
set_option maxRecDepth 100000 in
theorem w_X10_isPossible (X : q_X p s m args c cX10_isPossible 1 RX10 q_T D cy A) (hr : meth.sig.returnType = (some .boolean)) (hl : meth.locks = false)  {n : Nat} {S Sv : q_S} {rv : Int32} {o : Nat}  (h : m_X10_isPossible n S o = some (rv, Sv)) : q_W p l e ({ frames := 3, cells := 0, slots := 0, locals := 64 } : Room) s m args below meth c (MQ below (va_Qi (fun (r : Int32) (u : q_S) => r = rv ∧ u = Sv) (q_B D cy A) A) args s 0 0 A) A D cy 1 0 0 S 0 [(0, va_rf (some o))] [] := by
  unfold m_X10_isPossible at h
  refine q_aload_n X 0 rfl dX10_isPossible_0 ?_
  obtain ⟨a1, ea1, ma1, ka1, h⟩ := q_atE h
  refine q_getR X 1 ea1 ma1 ka1 rfl tW_X10 (by decide) (by decide) tF_X10_33 rfl dX10_isPossible_1 ?_
  refine q_ldc2_w X (1751474532) tC_X10_87 dX10_isPossible_4 ?_
  obtain ⟨a2, ea2, ma2, ka2, h⟩ := q_atE h
  obtain ⟨r3, S4, c5, h⟩ := q_bE h
  refine q_cVI X (As := [.long ((1751474532 : Int64))]) ea2 ma2 ka2 rfl (by decide) (c_X8_isThere c5) (q_cwV X tK_X8_isThere tM_X10_89 tI_X8_isThere tV_X8_isThere tN_X8 rfl rfl tD_X8_isThere ⟨Nat.le_of_ble_eq_true rfl, Nat.le_of_ble_eq_true rfl⟩) rfl rfl (by first | exact Nat.le_of_ble_eq_true rfl | (simp only [List.map, q_catR]; exact Nat.le_of_ble_eq_true rfl)) ⟨Nat.zero_le _, Nat.zero_le _⟩ dX10_isPossible_7 ?_
  refine q_if_eq X 84 (by decide) dX10_isPossible_10 (fun g6 => ?_) (fun g6 => ?_)
  · rw [if_pos g6] at h
    refine q_lv [] rfl ?_
    exact w_X10_isPossible_84 X hr hl _ h
  · rw [if_neg g6] at h
    refine q_aload_n X 0 rfl dX10_isPossible_13 ?_
    obtain ⟨a7, ea7, ma7, ka7, h⟩ := q_atE h
    refine q_getR X 1 ea7 ma7 ka7 rfl tW_X10 (by decide) (by decide) tF_X10_33 rfl dX10_isPossible_14 ?_
    refine q_ldc2_w X (1835104368) tC_X10_93 dX10_isPossible_17 ?_
    obtain ⟨a8, ea8, ma8, ka8, h⟩ := q_atE h
    obtain ⟨r9, S10, c11, h⟩ := q_bE h
    refine q_cVI X (As := [.long ((1835104368 : Int64))]) ea8 ma8 ka8 rfl (by decide) (c_X8_isThere c11) (q_cwV X tK_X8_isThere tM_X10_89 tI_X8_isThere tV_X8_isThere tN_X8 rfl rfl tD_X8_isThere ⟨Nat.le_of_ble_eq_true rfl, Nat.le_of_ble_eq_true rfl⟩) rfl rfl (by first | exact Nat.le_of_ble_eq_true rfl | (simp only [List.map, q_catR]; exact Nat.le_of_ble_eq_true rfl)) ⟨Nat.zero_le _, Nat.zero_le _⟩ dX10_isPossible_20 ?_
    refine q_if_eq X 84 (by decide) dX10_isPossible_23 (fun g12 => ?_) (fun g12 => ?_)
    · rw [if_pos g12] at h
      refine q_lv [] rfl ?_
      exact w_X10_isPossible_84 X hr hl _ h
    · rw [if_neg g12] at h
      refine q_aload_n X 0 rfl dX10_isPossible_26 ?_
      obtain ⟨a13, ea13, ma13, ka13, h⟩ := q_atE h
      refine q_getR X 1 ea13 ma13 ka13 rfl tW_X10 (by decide) (by decide) tF_X10_33 rfl dX10_isPossible_27 ?_
      refine q_ldc2_w X (1819239265) tC_X10_95 dX10_isPossible_30 ?_
      obtain ⟨a14, ea14, ma14, ka14, h⟩ := q_atE h
      obtain ⟨r15, S16, c17, h⟩ := q_bE h
      refine q_cVI X (As := [.long ((1819239265 : Int64))]) ea14 ma14 ka14 rfl (by decide) (c_X8_isThere c17) (q_cwV X tK_X8_isThere tM_X10_89 tI_X8_isThere tV_X8_isThere tN_X8 rfl rfl tD_X8_isThere ⟨Nat.le_of_ble_eq_true rfl, Nat.le_of_ble_eq_true rfl⟩) rfl rfl (by first | exact Nat.le_of_ble_eq_true rfl | (simp only [List.map, q_catR]; exact Nat.le_of_ble_eq_true rfl)) ⟨Nat.zero_le _, Nat.zero_le _⟩ dX10_isPossible_33 ?_
      refine q_if_eq X 84 (by decide) dX10_isPossible_36 (fun g18 => ?_) (fun g18 => ?_)
      · rw [if_pos g18] at h
        refine q_lv [] rfl ?_
        exact w_X10_isPossible_84 X hr hl _ h
      · rw [if_neg g18] at h
        refine q_aload_n X 0 rfl dX10_isPossible_39 ?_
        obtain ⟨a19, ea19, ma19, ka19, h⟩ := q_atE h
        refine q_getR X 1 ea19 ma19 ka19 rfl tW_X10 (by decide) (by decide) tF_X10_33 rfl dX10_isPossible_40 ?_
        refine q_ldc2_w X (1735162214) tC_X10_97 dX10_isPossible_43 ?_
        obtain ⟨a20, ea20, ma20, ka20, h⟩ := q_atE h
        obtain ⟨r21, S22, c23, h⟩ := q_bE h
        refine q_cVI X (As := [.long ((1735162214 : Int64))]) ea20 ma20 ka20 rfl (by decide) (c_X8_isThere c23) (q_cwV X tK_X8_isThere tM_X10_89 tI_X8_isThere tV_X8_isThere tN_X8 rfl rfl tD_X8_isThere ⟨Nat.le_of_ble_eq_true rfl, Nat.le_of_ble_eq_true rfl⟩) rfl rfl (by first | exact Nat.le_of_ble_eq_true rfl | (simp only [List.map, q_catR]; exact Nat.le_of_ble_eq_true rfl)) ⟨Nat.zero_le _, Nat.zero_le _⟩ dX10_isPossible_46 ?_
        refine q_if_eq X 84 (by decide) dX10_isPossible_49 (fun g24 => ?_) (fun g24 => ?_)
        · rw [if_pos g24] at h
          refine q_lv [] rfl ?_
          exact w_X10_isPossible_84 X hr hl _ h
        · rw [if_neg g24] at h
          refine q_aload_n X 0 rfl dX10_isPossible_52 ?_
          obtain ⟨a25, ea25, ma25, ka25, h⟩ := q_atE h
          refine q_getR X 1 ea25 ma25 ka25 rfl tW_X10 (by decide) (by decide) tF_X10_33 rfl dX10_isPossible_53 ?_
          refine q_ldc2_w X (1751474532) tC_X10_87 dX10_isPossible_56 ?_
          obtain ⟨a26, ea26, ma26, ka26, h⟩ := q_atE h
          obtain ⟨r27, S28, c29, h⟩ := q_bE h
          refine q_cVR X (As := [.long ((1751474532 : Int64))]) ea26 ma26 ka26 rfl (by decide) (c_X8_first c29) (q_cwV X tK_X8_first tM_X10_99 tI_X8_first tV_X8_first tN_X8 rfl rfl tD_X8_first ⟨Nat.le_of_ble_eq_true rfl, Nat.le_of_ble_eq_true rfl⟩) rfl rfl (by first | exact Nat.le_of_ble_eq_true rfl | (simp only [List.map, q_catR]; exact Nat.le_of_ble_eq_true rfl)) ⟨Nat.zero_le _, Nat.zero_le _⟩ dX10_isPossible_59 ?_
          obtain ⟨a30, ea30, ma30, ka30, h⟩ := q_atE h
          refine q_getIN X 4 ea30 ma30 ka30 rfl tW_X7 (by decide) (by decide) "TrueOutlines" tF_X10_103 rfl dX10_isPossible_62 ?_
          refine q_bipush X (52) (by decide) dX10_isPossible_65 ?_
          refine q_icmp_lt X 84 (by decide) dX10_isPossible_67 (fun g31 => ?_) (fun g31 => ?_)
          · rw [if_pos g31] at h
            refine q_lv [] rfl ?_
            exact w_X10_isPossible_84 X hr hl _ h
          · rw [if_neg g31] at h
            refine q_aload_n X 0 rfl dX10_isPossible_70 ?_
            obtain ⟨a32, ea32, ma32, ka32, h⟩ := q_atE h
            refine q_getR X 2 ea32 ma32 ka32 rfl tW_X10 (by decide) (by decide) tF_X10_37 rfl dX10_isPossible_71 ?_
            obtain ⟨a33, ea33, ma33, ka33, h⟩ := q_atE h
            obtain ⟨r34, S35, c36, h⟩ := q_bE h
            refine q_cVI X (As := []) ea33 ma33 ka33 rfl (by decide) (c_X6_areCutShort c36) (q_cwV X tK_X6_areCutShort tM_X10_107 tI_X6_areCutShort tV_X6_areCutShort tN_X6 rfl rfl tD_X6_areCutShort ⟨Nat.le_of_ble_eq_true rfl, Nat.le_of_ble_eq_true rfl⟩) rfl rfl (by first | exact Nat.le_of_ble_eq_true rfl | (simp only [List.map, q_catR]; exact Nat.le_of_ble_eq_true rfl)) ⟨Nat.zero_le _, Nat.zero_le _⟩ dX10_isPossible_74 ?_
            refine q_if_ne X 84 (by decide) dX10_isPossible_77 (fun g37 => ?_) (fun g37 => ?_)
            · rw [if_neg g37] at h
              refine q_lv [] rfl ?_
              exact w_X10_isPossible_84 X hr hl _ h
            · rw [if_pos g37] at h
              refine q_iconst X (1) (by decide) dX10_isPossible_80 ?_
              refine q_goto X 85 (by decide) dX10_isPossible_81 ?_
              refine q_lv [] rfl ?_
              exact w_X10_isPossible_85 X hr hl _ _ h
theorem tD_X10_isPossible : yX10_isPossible.cls ≠ "java/lang/invoke/MethodHandle" ∧ yX10_isPossible.cls ≠ "java/lang/invoke/VarHandle" ∧ (parseMethodDescriptor yX10_isPossible.desc).map (fun d => d.parameters.length) = some 0 := by decide +kernel
theorem c_X10_isPossible {l : Launch} {D : va_G} {cy : Nat → ClassId} {n : Nat} {S Sv : q_S} {rv : Int32} {o : Nat}  (h : m_X10_isPossible n S o = some (rv, Sv)) : q_MI l yX10_isPossible (q_ws yX10_isPossible cX10_isPossible 1 ((some .boolean))) ({ frames := 3, cells := 0, slots := 0, locals := 64 } : Room) D cy [.ref o] S rv Sv := by
  exact q_MI_of (by decide +kernel) (Nat.le_of_ble_eq_true rfl) (fun p e s m args below meth c A X hr hl => w_X10_isPossible X hr hl h)
/-! TrueOutlines$Signs.haveLongPlaces()Z -/
def m_X6_haveLongPlaces (n : Nat) (S : q_S) (o : Nat)  : Option (Int32 × q_S) := q_at (S) (some o) 7 (fun a1 => q_if ((q_I (S) a1 7) = 0 ∨ (q_I (S) a1 7) = 1) (some (q_I (S) a1 7, S)))
set_option maxHeartbeats 4000000 in
set_option maxRecDepth 100000 in
theorem w_X6_haveLongPlaces (X : q_X p s m args c cX6_haveLongPlaces 1 RX6 q_T D cy A) (hr : meth.sig.returnType = (some .boolean)) (hl : meth.locks = false)  {n : Nat} {S Sv : q_S} {rv : Int32} {o : Nat}  (h : m_X6_haveLongPlaces n S o = some (rv, Sv)) : q_W p l e ({ frames := 0, cells := 0, slots := 0, locals := 0 } : Room) s m args below meth c (MQ below (va_Qi (fun (r : Int32) (u : q_S) => r = rv ∧ u = Sv) (q_B D cy A) A) args s 0 0 A) A D cy 1 0 0 S 0 [(0, va_rf (some o))] [] := by
  unfold m_X6_haveLongPlaces at h
  refine q_aload_n X 0 rfl dX6_haveLongPlaces_0 ?_
  obtain ⟨a1, ea1, ma1, ka1, h⟩ := q_atE h
  refine q_getI X 7 ea1 ma1 ka1 rfl tW_X6 (by decide) (by decide) tF_X6_79 rfl dX6_haveLongPlaces_1 ?_
  obtain ⟨g2, h⟩ := q_ifE h
  obtain ⟨ev, eS⟩ := q_end h
  exact q_iret X hr hl (q_bool g2) ev eS dX6_haveLongPlaces_4
theorem tD_X6_haveLongPlaces : yX6_haveLongPlaces.cls ≠ "java/lang/invoke/MethodHandle" ∧ yX6_haveLongPlaces.cls ≠ "java/lang/invoke/VarHandle" ∧ (parseMethodDescriptor yX6_haveLongPlaces.desc).map (fun d => d.parameters.length) = some 0 := by decide +kernel
theorem c_X6_haveLongPlaces {l : Launch} {D : va_G} {cy : Nat → ClassId} {n : Nat} {S Sv : q_S} {rv : Int32} {o : Nat}  (h : m_X6_haveLongPlaces n S o = some (rv, Sv)) : q_MI l yX6_haveLongPlaces (q_ws yX6_haveLongPlaces cX6_haveLongPlaces 1 ((some .boolean))) ({ frames := 0, cells := 0, slots := 0, locals := 0 } : Room) D cy [.ref o] S rv Sv := by
  exact q_MI_of (by decide +kernel) (Nat.le_of_ble_eq_true rfl) (fun p e s m args below meth c A X hr hl => w_X6_haveLongPlaces X hr hl h)
/-! TrueOutlines$Writer.newLength(I)I -/
def m_X10_newLength_65 (n : Nat) (S : q_S) (s0 : Int32) (s1 : Int32) : Option (Int32 × q_S) := some (s1 * s0, S)
set_option maxHeartbeats 4000000 in
set_option maxRecDepth 100000 in
theorem w_X10_newLength_65 (X : q_X p s m args c cX10_newLength 2 RX10 q_T D cy A) (hr : meth.sig.returnType = (some .int)) (hl : meth.locks = false)  {n : Nat} {Sv : q_S} {rv : Int32}  (S : q_S) (s0 : Int32) (s1 : Int32) (h : m_X10_newLength_65 n S s0 s1 = some (rv, Sv)) : q_W p l e ({ frames := 2, cells := 0, slots := 0, locals := 42 } : Room) s m args below meth c (MQ below (va_Qi (fun (r : Int32) (u : q_S) => r = rv ∧ u = Sv) (q_B D cy A) A) args s 0 0 A) A D cy 2 0 0 S 65 [] [.int (s0), .int (s1)] := by
  unfold m_X10_newLength_65 at h
  refine q_imul X dX10_newLength_65 ?_
  obtain ⟨ev, eS⟩ := q_end h
  exact q_iret X hr hl rfl ev eS dX10_newLength_66
def m_X10_newLength (n : Nat) (S : q_S) (o : Nat) (p0 : Int32) : Option (Int32 × q_S) := q_at (S) (some o) 11 (fun a1 => q_at (S) (q_R (S) a1 1) 9 (fun a2 => q_b (m_X8_indexOf n (S) a2 ((1735162214 : Int64))) (fun r3 S4 => (if p0 = r3 then q_at (S4) (some o) 11 (fun a30 => q_at (S4) (q_R (S4) a30 2) 7 (fun a31 => q_b (m_X6_size n (S4) a31) (fun r32 S33 => q_at (S33) (q_R (S4) a30 7) 100 (fun a35 => q_if (q_in (r32) (q_N (S33) a35) = true) (some (q_I (S33) a35 (r32).toNatClampNeg, S33)))))) else q_at (S4) (some o) 11 (fun a7 => q_at (S4) (q_R (S4) a7 1) 9 (fun a8 => q_b (m_X8_indexOf n (S4) a8 ((1819239265 : Int64))) (fun r9 S10 => (if p0 = r9 then q_at (S10) (some o) 11 (fun a19 => q_at (S10) (q_R (S10) a19 2) 7 (fun a20 => q_b (m_X6_size n (S10) a20) (fun r21 S22 => q_at (S22) (some o) 11 (fun a24 => q_at (S22) (q_R (S22) a24 2) 7 (fun a25 => q_b (m_X6_haveLongPlaces n (S22) a25) (fun r26 S27 => (if r26 = 0 then m_X10_newLength_65 n (S27) ((2 : Int32)) (r21 + (1 : Int32)) else m_X10_newLength_65 n (S27) ((4 : Int32)) (r21 + (1 : Int32))))))))) else q_at (S10) (some o) 11 (fun a13 => q_at (S10) (q_R (S10) a13 1) 9 (fun a14 => q_b (m_X8_get n (S10) a14 (p0)) (fun r15 S16 => q_at (S16) (some r15) 8 (fun a18 => some (q_I (S16) a18 4, S16)))))))))))))
set_option maxHeartbeats 4000000 in
set_option maxRecDepth 100000 in
theorem w_X10_newLength (X : q_X p s m args c cX10_newLength 2 RX10 q_T D cy A) (hr : meth.sig.returnType = (some .int)) (hl : meth.locks = false)  {n : Nat} {S Sv : q_S} {rv : Int32} {o : Nat} {p0 : Int32} (h : m_X10_newLength n S o p0 = some (rv, Sv)) : q_W p l e ({ frames := 2, cells := 0, slots := 0, locals := 42 } : Room) s m args below meth c (MQ below (va_Qi (fun (r : Int32) (u : q_S) => r = rv ∧ u = Sv) (q_B D cy A) A) args s 0 0 A) A D cy 2 0 0 S 0 [(0, va_rf (some o)), (1, .int (p0))] [] := by
  unfold m_X10_newLength at h
  refine q_iload_n X 1 rfl dX10_newLength_0 ?_
  refine q_aload_n X 0 rfl dX10_newLength_1 ?_
  obtain ⟨a1, ea1, ma1, ka1, h⟩ := q_atE h
  refine q_getR X 1 ea1 ma1 ka1 rfl tW_X10 (by decide) (by decide) tF_X10_33 rfl dX10_newLength_2 ?_
  refine q_ldc2_w X (1735162214) tC_X10_97 dX10_newLength_5 ?_
  obtain ⟨a2, ea2, ma2, ka2, h⟩ := q_atE h
  obtain ⟨r3, S4, c5, h⟩ := q_bE h
  refine q_cVI X (As := [.long ((1735162214 : Int64))]) ea2 ma2 ka2 rfl (by decide) (c_X8_indexOf c5) (q_cwV X tK_X8_indexOf tM_X10_123 tI_X8_indexOf tV_X8_indexOf tN_X8 rfl rfl tD_X8_indexOf ⟨Nat.le_of_ble_eq_true rfl, Nat.le_of_ble_eq_true rfl⟩) rfl rfl (by first | exact Nat.le_of_ble_eq_true rfl | (simp only [List.map, q_catR]; exact Nat.le_of_ble_eq_true rfl)) ⟨Nat.zero_le _, Nat.zero_le _⟩ dX10_newLength_8 ?_
  refine q_icmp_ne X 27 (by decide) dX10_newLength_11 (fun g6 => ?_) (fun g6 => ?_)
  · rw [if_neg g6] at h
    refine q_iload_n X 1 rfl dX10_newLength_27 ?_
    refine q_aload_n X 0 rfl dX10_newLength_28 ?_
    obtain ⟨a7, ea7, ma7, ka7, h⟩ := q_atE h
    refine q_getR X 1 ea7 ma7 ka7 rfl tW_X10 (by decide) (by decide) tF_X10_33 rfl dX10_newLength_29 ?_
    refine q_ldc2_w X (1819239265) tC_X10_95 dX10_newLength_32 ?_
    obtain ⟨a8, ea8, ma8, ka8, h⟩ := q_atE h
    obtain ⟨r9, S10, c11, h⟩ := q_bE h
    refine q_cVI X (As := [.long ((1819239265 : Int64))]) ea8 ma8 ka8 rfl (by decide) (c_X8_indexOf c11) (q_cwV X tK_X8_indexOf tM_X10_123 tI_X8_indexOf tV_X8_indexOf tN_X8 rfl rfl tD_X8_indexOf ⟨Nat.le_of_ble_eq_true rfl, Nat.le_of_ble_eq_true rfl⟩) rfl rfl (by first | exact Nat.le_of_ble_eq_true rfl | (simp only [List.map, q_catR]; exact Nat.le_of_ble_eq_true rfl)) ⟨Nat.zero_le _, Nat.zero_le _⟩ dX10_newLength_35 ?_
    refine q_icmp_ne X 67 (by decide) dX10_newLength_38 (fun g12 => ?_) (fun g12 => ?_)
    · rw [if_neg g12] at h
      refine q_aload_n X 0 rfl dX10_newLength_67 ?_
      obtain ⟨a13, ea13, ma13, ka13, h⟩ := q_atE h
      refine q_getR X 1 ea13 ma13 ka13 rfl tW_X10 (by decide) (by decide) tF_X10_33 rfl dX10_newLength_68 ?_
      refine q_iload_n X 1 rfl dX10_newLength_71 ?_
      obtain ⟨a14, ea14, ma14, ka14, h⟩ := q_atE h
      obtain ⟨r15, S16, c17, h⟩ := q_bE h
      refine q_cVR X (As := [.int (p0)]) ea14 ma14 ka14 rfl (by decide) (c_X8_get c17) (q_cwV X tK_X8_get tM_X10_130 tI_X8_get tV_X8_get tN_X8 rfl rfl tD_X8_get ⟨Nat.le_of_ble_eq_true rfl, Nat.le_of_ble_eq_true rfl⟩) rfl rfl (by first | exact Nat.le_of_ble_eq_true rfl | (simp only [List.map, q_catR]; exact Nat.le_of_ble_eq_true rfl)) ⟨Nat.zero_le _, Nat.zero_le _⟩ dX10_newLength_72 ?_
      obtain ⟨a18, ea18, ma18, ka18, h⟩ := q_atE h
      refine q_getIN X 4 ea18 ma18 ka18 rfl tW_X7 (by decide) (by decide) "TrueOutlines" tF_X10_103 rfl dX10_newLength_75 ?_
      obtain ⟨ev, eS⟩ := q_end h
      exact q_iret X hr hl rfl ev eS dX10_newLength_78
    · rw [if_pos g12] at h
      refine q_aload_n X 0 rfl dX10_newLength_41 ?_
      obtain ⟨a19, ea19, ma19, ka19, h⟩ := q_atE h
      refine q_getR X 2 ea19 ma19 ka19 rfl tW_X10 (by decide) (by decide) tF_X10_37 rfl dX10_newLength_42 ?_
      obtain ⟨a20, ea20, ma20, ka20, h⟩ := q_atE h
      obtain ⟨r21, S22, c23, h⟩ := q_bE h
      refine q_cVI X (As := []) ea20 ma20 ka20 rfl (by decide) (c_X6_size c23) (q_cwV X tK_X6_size tM_X10_112 tI_X6_size tV_X6_size tN_X6 rfl rfl tD_X6_size ⟨Nat.le_of_ble_eq_true rfl, Nat.le_of_ble_eq_true rfl⟩) rfl rfl (by first | exact Nat.le_of_ble_eq_true rfl | (simp only [List.map, q_catR]; exact Nat.le_of_ble_eq_true rfl)) ⟨Nat.zero_le _, Nat.zero_le _⟩ dX10_newLength_45 ?_
      refine q_iconst X (1) (by decide) dX10_newLength_48 ?_
      refine q_iadd X dX10_newLength_49 ?_
      refine q_aload_n X 0 rfl dX10_newLength_50 ?_
      obtain ⟨a24, ea24, ma24, ka24, h⟩ := q_atE h
      refine q_getR X 2 ea24 ma24 ka24 rfl tW_X10 (by decide) (by decide) tF_X10_37 rfl dX10_newLength_51 ?_
      obtain ⟨a25, ea25, ma25, ka25, h⟩ := q_atE h
      obtain ⟨r26, S27, c28, h⟩ := q_bE h
      refine q_cVI X (As := []) ea25 ma25 ka25 rfl (by decide) (c_X6_haveLongPlaces c28) (q_cwV X tK_X6_haveLongPlaces tM_X10_127 tI_X6_haveLongPlaces tV_X6_haveLongPlaces tN_X6 rfl rfl tD_X6_haveLongPlaces ⟨Nat.le_of_ble_eq_true rfl, Nat.le_of_ble_eq_true rfl⟩) rfl rfl (by first | exact Nat.le_of_ble_eq_true rfl | (simp only [List.map, q_catR]; exact Nat.le_of_ble_eq_true rfl)) ⟨Nat.zero_le _, Nat.zero_le _⟩ dX10_newLength_54 ?_
      refine q_if_eq X 64 (by decide) dX10_newLength_57 (fun g29 => ?_) (fun g29 => ?_)
      · rw [if_pos g29] at h
        refine q_iconst X (2) (by decide) dX10_newLength_64 ?_
        refine q_lv [] rfl ?_
        exact w_X10_newLength_65 X hr hl _ _ _ h
      · rw [if_neg g29] at h
        refine q_iconst X (4) (by decide) dX10_newLength_60 ?_
        refine q_goto X 65 (by decide) dX10_newLength_61 ?_
        refine q_lv [] rfl ?_
        exact w_X10_newLength_65 X hr hl _ _ _ h
  · rw [if_pos g6] at h
    refine q_aload_n X 0 rfl dX10_newLength_14 ?_
    obtain ⟨a30, ea30, ma30, ka30, h⟩ := q_atE h
    refine q_getR X 7 ea30 ma30 ka30 rfl tW_X10 (by decide) (by decide) tF_X10_27 rfl dX10_newLength_15 ?_
    refine q_aload_n X 0 rfl dX10_newLength_18 ?_
    refine q_getR X 2 ea30 ma30 ka30 rfl tW_X10 (by decide) (by decide) tF_X10_37 rfl dX10_newLength_19 ?_
    obtain ⟨a31, ea31, ma31, ka31, h⟩ := q_atE h
    obtain ⟨r32, S33, c34, h⟩ := q_bE h
    refine q_cVI X (As := []) ea31 ma31 ka31 rfl (by decide) (c_X6_size c34) (q_cwV X tK_X6_size tM_X10_112 tI_X6_size tV_X6_size tN_X6 rfl rfl tD_X6_size ⟨Nat.le_of_ble_eq_true rfl, Nat.le_of_ble_eq_true rfl⟩) rfl rfl (by first | exact Nat.le_of_ble_eq_true rfl | (simp only [List.map, q_catR]; exact Nat.le_of_ble_eq_true rfl)) ⟨Nat.zero_le _, Nat.zero_le _⟩ dX10_newLength_22 ?_
    obtain ⟨a35, ea35, ma35, ka35, h⟩ := q_atE h
    obtain ⟨g36, h⟩ := q_ifE h
    refine q_iaload X ea35 ma35 ka35 (q_inE g36) dX10_newLength_25 ?_
    obtain ⟨ev, eS⟩ := q_end h
    exact q_iret X hr hl rfl ev eS dX10_newLength_26
theorem tD_X10_newLength : yX10_newLength.cls ≠ "java/lang/invoke/MethodHandle" ∧ yX10_newLength.cls ≠ "java/lang/invoke/VarHandle" ∧ (parseMethodDescriptor yX10_newLength.desc).map (fun d => d.parameters.length) = some 1 := by decide +kernel
theorem c_X10_newLength {l : Launch} {D : va_G} {cy : Nat → ClassId} {n : Nat} {S Sv : q_S} {rv : Int32} {o : Nat} {p0 : Int32} (h : m_X10_newLength n S o p0 = some (rv, Sv)) : q_MI l yX10_newLength (q_ws yX10_newLength cX10_newLength 2 ((some .int))) ({ frames := 2, cells := 0, slots := 0, locals := 42 } : Room) D cy [.ref o, .int (p0)] S rv Sv := by
  exact q_MI_of (by decide +kernel) (Nat.le_of_ble_eq_true rfl) (fun p e s m args below meth c A X hr hl => w_X10_newLength X hr hl h)
/-! TrueOutlines$Writer.padded(I)I -/
def m_X10_padded (n : Nat) (S : q_S) (p0 : Int32) : Option (Int32 × q_S) := q_if (¬ (4 : Int32) = 0) (some (((p0 + (3 : Int32)) / (4 : Int32)) * (4 : Int32), S))
set_option maxHeartbeats 4000000 in
set_option maxRecDepth 100000 in
theorem w_X10_padded (X : q_X p s m args c cX10_padded 1 RX10 q_T D cy A) (hr : meth.sig.returnType = (some .int)) (hl : meth.locks = false)  {n : Nat} {S Sv : q_S} {rv : Int32} {p0 : Int32} (h : m_X10_padded n S p0 = some (rv, Sv)) : q_W p l e ({ frames := 0, cells := 0, slots := 0, locals := 0 } : Room) s m args below meth c (MQ below (va_Qi (fun (r : Int32) (u : q_S) => r = rv ∧ u = Sv) (q_B D cy A) A) args s 0 0 A) A D cy 1 0 0 S 0 [(0, .int (p0))] [] := by
  unfold m_X10_padded at h
  refine q_iload_n X 0 rfl dX10_padded_0 ?_
  refine q_iconst X (3) (by decide) dX10_padded_1 ?_
  refine q_iadd X dX10_padded_2 ?_
  refine q_iconst X (4) (by decide) dX10_padded_3 ?_
  obtain ⟨g1, h⟩ := q_ifE h
  refine q_idiv X g1 dX10_padded_4 ?_
  refine q_iconst X (4) (by decide) dX10_padded_5 ?_
  refine q_imul X dX10_padded_6 ?_
  obtain ⟨ev, eS⟩ := q_end h
  exact q_iret X hr hl rfl ev eS dX10_padded_7
theorem tD_X10_padded : yX10_padded.cls ≠ "java/lang/invoke/MethodHandle" ∧ yX10_padded.cls ≠ "java/lang/invoke/VarHandle" ∧ (parseMethodDescriptor yX10_padded.desc).map (fun d => d.parameters.length) = some 1 := by decide +kernel
theorem c_X10_padded {l : Launch} {D : va_G} {cy : Nat → ClassId} {n : Nat} {S Sv : q_S} {rv : Int32} {p0 : Int32} (h : m_X10_padded n S p0 = some (rv, Sv)) : q_MI l yX10_padded (q_ws yX10_padded cX10_padded 1 ((some .int))) ({ frames := 0, cells := 0, slots := 0, locals := 0 } : Room) D cy [.int (p0)] S rv Sv := by
  exact q_MI_of (by decide +kernel) (Nat.le_of_ble_eq_true rfl) (fun p e s m args below meth c A X hr hl => w_X10_padded X hr hl h)
/-! TrueOutlines$Tables.size()I -/
def m_X8_size (n : Nat) (S : q_S) (o : Nat)  : Option (Int32 × q_S) := q_at (S) (some o) 9 (fun a1 => some (q_I (S) a1 3, S))
set_option maxHeartbeats 4000000 in
set_option maxRecDepth 100000 in
theorem w_X8_size (X : q_X p s m args c cX8_size 1 RX8 q_T D cy A) (hr : meth.sig.returnType = (some .int)) (hl : meth.locks = false)  {n : Nat} {S Sv : q_S} {rv : Int32} {o : Nat}  (h : m_X8_size n S o = some (rv, Sv)) : q_W p l e ({ frames := 0, cells := 0, slots := 0, locals := 0 } : Room) s m args below meth c (MQ below (va_Qi (fun (r : Int32) (u : q_S) => r = rv ∧ u = Sv) (q_B D cy A) A) args s 0 0 A) A D cy 1 0 0 S 0 [(0, va_rf (some o))] [] := by
  unfold m_X8_size at h
  refine q_aload_n X 0 rfl dX8_size_0 ?_
  obtain ⟨a1, ea1, ma1, ka1, h⟩ := q_atE h
  refine q_getI X 3 ea1 ma1 ka1 rfl tW_X8 (by decide) (by decide) tF_X8_28 rfl dX8_size_1 ?_
  obtain ⟨ev, eS⟩ := q_end h
  exact q_iret X hr hl rfl ev eS dX8_size_4
theorem tD_X8_size : yX8_size.cls ≠ "java/lang/invoke/MethodHandle" ∧ yX8_size.cls ≠ "java/lang/invoke/VarHandle" ∧ (parseMethodDescriptor yX8_size.desc).map (fun d => d.parameters.length) = some 0 := by decide +kernel
theorem c_X8_size {l : Launch} {D : va_G} {cy : Nat → ClassId} {n : Nat} {S Sv : q_S} {rv : Int32} {o : Nat}  (h : m_X8_size n S o = some (rv, Sv)) : q_MI l yX8_size (q_ws yX8_size cX8_size 1 ((some .int))) ({ frames := 0, cells := 0, slots := 0, locals := 0 } : Room) D cy [.ref o] S rv Sv := by
  exact q_MI_of (by decide +kernel) (Nat.le_of_ble_eq_true rfl) (fun p e s m args below meth c A X hr hl => w_X8_size X hr hl h)
/-! TrueOutlines$Writer.newSize()I -/
def m_X10_newSize_16 (n : Nat) : Nat → q_S → Option Nat → Int32 → Int32 → Option (Int32 × q_S)
  | 0, _, _, _, _ => none
  | k + 1, S, l0, l1, l2 => q_at (S) (l0) 11 (fun a1 => q_at (S) (q_R (S) a1 1) 9 (fun a2 => q_b (m_X8_size n (S) a2) (fun r3 S4 => (if r3 ≤ l2 then some (l1, S4) else q_at (S4) (l0) 11 (fun a7 => q_b (m_X10_newLength n (S4) a7 (l2)) (fun r8 S9 => q_b (m_X10_padded n (S9) (r8)) (fun r11 S12 => m_X10_newSize_16 n k (S12) (l0) (l1 + r11) (l2 + (1)))))))))
set_option maxHeartbeats 4000000 in
set_option maxRecDepth 100000 in
theorem w_X10_newSize_16 (X : q_X p s m args c cX10_newSize 3 RX10 q_T D cy A) (hr : meth.sig.returnType = (some .int)) (hl : meth.locks = false)  {n : Nat} {Sv : q_S} {rv : Int32}  : ∀ (k : Nat) (S : q_S) (l0 : Option Nat) (l1 : Int32) (l2 : Int32), m_X10_newSize_16 n k S l0 l1 l2 = some (rv, Sv) → q_W p l e ({ frames := 3, cells := 0, slots := 0, locals := 63 } : Room) s m args below meth c (MQ below (va_Qi (fun (r : Int32) (u : q_S) => r = rv ∧ u = Sv) (q_B D cy A) A) args s 0 0 A) A D cy 3 0 0 S 16 [(0, va_rf (l0)), (1, .int (l1)), (2, .int (l2))] [] := by
  intro k
  induction k with
  | zero => intro S l0 l1 l2 h; rw [m_X10_newSize_16] at h; cases h
  | succ k ih =>
    intro S l0 l1 l2 h
    rw [m_X10_newSize_16] at h
    refine q_iload_n X 2 rfl dX10_newSize_16 ?_
    refine q_aload_n X 0 rfl dX10_newSize_17 ?_
    obtain ⟨a1, ea1, ma1, ka1, h⟩ := q_atE h
    refine q_getR X 1 ea1 ma1 ka1 rfl tW_X10 (by decide) (by decide) tF_X10_33 rfl dX10_newSize_18 ?_
    obtain ⟨a2, ea2, ma2, ka2, h⟩ := q_atE h
    obtain ⟨r3, S4, c5, h⟩ := q_bE h
    refine q_cVI X (As := []) ea2 ma2 ka2 rfl (by decide) (c_X8_size c5) (q_cwV X tK_X8_size tM_X10_77 tI_X8_size tV_X8_size tN_X8 rfl rfl tD_X8_size ⟨Nat.le_of_ble_eq_true rfl, Nat.le_of_ble_eq_true rfl⟩) rfl rfl (by first | exact Nat.le_of_ble_eq_true rfl | (simp only [List.map, q_catR]; exact Nat.le_of_ble_eq_true rfl)) ⟨Nat.zero_le _, Nat.zero_le _⟩ dX10_newSize_21 ?_
    refine q_icmp_ge X 44 (by decide) dX10_newSize_24 (fun g6 => ?_) (fun g6 => ?_)
    · rw [if_pos g6] at h
      refine q_iload_n X 1 rfl dX10_newSize_44 ?_
      obtain ⟨ev, eS⟩ := q_end h
      exact q_iret X hr hl rfl ev eS dX10_newSize_45
    · rw [if_neg g6] at h
      refine q_iload_n X 1 rfl dX10_newSize_27 ?_
      refine q_aload_n X 0 rfl dX10_newSize_28 ?_
      refine q_iload_n X 2 rfl dX10_newSize_29 ?_
      obtain ⟨a7, ea7, ma7, ka7, h⟩ := q_atE h
      obtain ⟨r8, S9, c10, h⟩ := q_bE h
      refine q_cVI X (As := [.int (l2)]) ea7 ma7 ka7 rfl (by decide) (c_X10_newLength c10) (q_cwV X tK_X10_newLength tM_X10_117 tI_X10_newLength tV_X10_newLength tN_X10 rfl rfl tD_X10_newLength ⟨Nat.le_of_ble_eq_true rfl, Nat.le_of_ble_eq_true rfl⟩) rfl rfl (by first | exact Nat.le_of_ble_eq_true rfl | (simp only [List.map, q_catR]; exact Nat.le_of_ble_eq_true rfl)) ⟨Nat.zero_le _, Nat.zero_le _⟩ dX10_newSize_30 ?_
      obtain ⟨r11, S12, c13, h⟩ := q_bE h
      refine q_cSI X (As := [.int (r8)]) (c_X10_padded c13) (q_cwS X tK_X10_padded tM_X10_120 tS_X10_padded tN_X10 rfl rfl tD_X10_padded ⟨Nat.le_of_ble_eq_true rfl, Nat.le_of_ble_eq_true rfl⟩) rfl rfl (by first | exact Nat.le_of_ble_eq_true rfl | (simp only [List.map, q_catR]; exact Nat.le_of_ble_eq_true rfl)) ⟨Nat.zero_le _, Nat.zero_le _⟩ dX10_newSize_33 ?_
      refine q_iadd X dX10_newSize_36 ?_
      refine q_istore_n X 1 [(1, .int (l1 + r11)), (0, va_rf (l0)), (2, .int (l2))] rfl (by decide) (by first | rfl | simp [List.filter, q_catR]) dX10_newSize_37 ?_
      refine q_iinc X 2 2 (l2 + (1)) [(2, .int (l2 + (1))), (1, .int (l1 + r11)), (0, va_rf (l0))] rfl (congrArg (fun z => l2 + z) (show Int32.ofInt (1) = (1) by decide)) (by decide) (by first | rfl | simp [List.filter, q_catR]) dX10_newSize_38 ?_
      refine q_goto X 16 (by decide) dX10_newSize_41 ?_
      refine q_lv [2, 1, 0] rfl ?_
      exact ih _ _ _ _ h
def m_X10_newSize (n : Nat) (S : q_S) (o : Nat)  : Option (Int32 × q_S) := q_at (S) (some o) 11 (fun a1 => q_at (S) (q_R (S) a1 1) 9 (fun a2 => q_b (m_X8_size n (S) a2) (fun r3 S4 => m_X10_newSize_16 n n (S4) (some o) ((12 : Int32) + ((16 : Int32) * r3)) ((0 : Int32)))))
set_option maxHeartbeats 4000000 in
set_option maxRecDepth 100000 in
theorem w_X10_newSize (X : q_X p s m args c cX10_newSize 3 RX10 q_T D cy A) (hr : meth.sig.returnType = (some .int)) (hl : meth.locks = false)  {n : Nat} {S Sv : q_S} {rv : Int32} {o : Nat}  (h : m_X10_newSize n S o = some (rv, Sv)) : q_W p l e ({ frames := 3, cells := 0, slots := 0, locals := 63 } : Room) s m args below meth c (MQ below (va_Qi (fun (r : Int32) (u : q_S) => r = rv ∧ u = Sv) (q_B D cy A) A) args s 0 0 A) A D cy 3 0 0 S 0 [(0, va_rf (some o))] [] := by
  unfold m_X10_newSize at h
  refine q_bipush X (12) (by decide) dX10_newSize_0 ?_
  refine q_bipush X (16) (by decide) dX10_newSize_2 ?_
  refine q_aload_n X 0 rfl dX10_newSize_4 ?_
  obtain ⟨a1, ea1, ma1, ka1, h⟩ := q_atE h
  refine q_getR X 1 ea1 ma1 ka1 rfl tW_X10 (by decide) (by decide) tF_X10_33 rfl dX10_newSize_5 ?_
  obtain ⟨a2, ea2, ma2, ka2, h⟩ := q_atE h
  obtain ⟨r3, S4, c5, h⟩ := q_bE h
  refine q_cVI X (As := []) ea2 ma2 ka2 rfl (by decide) (c_X8_size c5) (q_cwV X tK_X8_size tM_X10_77 tI_X8_size tV_X8_size tN_X8 rfl rfl tD_X8_size ⟨Nat.le_of_ble_eq_true rfl, Nat.le_of_ble_eq_true rfl⟩) rfl rfl (by first | exact Nat.le_of_ble_eq_true rfl | (simp only [List.map, q_catR]; exact Nat.le_of_ble_eq_true rfl)) ⟨Nat.zero_le _, Nat.zero_le _⟩ dX10_newSize_8 ?_
  refine q_imul X dX10_newSize_11 ?_
  refine q_iadd X dX10_newSize_12 ?_
  refine q_istore_n X 1 [(1, .int ((12 : Int32) + ((16 : Int32) * r3))), (0, va_rf (some o))] rfl (by decide) (by first | rfl | simp [List.filter, q_catR]) dX10_newSize_13 ?_
  refine q_iconst X (0) (by decide) dX10_newSize_14 ?_
  refine q_istore_n X 2 [(2, .int ((0 : Int32))), (1, .int ((12 : Int32) + ((16 : Int32) * r3))), (0, va_rf (some o))] rfl (by decide) (by first | rfl | simp [List.filter, q_catR]) dX10_newSize_15 ?_
  refine q_lv [2, 1, 0] rfl ?_
  exact w_X10_newSize_16 X hr hl n _ _ _ _ h
theorem tD_X10_newSize : yX10_newSize.cls ≠ "java/lang/invoke/MethodHandle" ∧ yX10_newSize.cls ≠ "java/lang/invoke/VarHandle" ∧ (parseMethodDescriptor yX10_newSize.desc).map (fun d => d.parameters.length) = some 0 := by decide +kernel
theorem c_X10_newSize {l : Launch} {D : va_G} {cy : Nat → ClassId} {n : Nat} {S Sv : q_S} {rv : Int32} {o : Nat}  (h : m_X10_newSize n S o = some (rv, Sv)) : q_MI l yX10_newSize (q_ws yX10_newSize cX10_newSize 3 ((some .int))) ({ frames := 3, cells := 0, slots := 0, locals := 63 } : Room) D cy [.ref o] S rv Sv := by
  exact q_MI_of (by decide +kernel) (Nat.le_of_ble_eq_true rfl) (fun p e s m args below meth c A X hr hl => w_X10_newSize X hr hl h)
/-! TrueOutlines$Row.setFour(IJ)V -/
def m_X4_setFour_51 (n : Nat) (k3 : q_S → Option Nat → Int32 → Int64 → Int32 → Option (Unit × q_S)) (S : q_S) (l0 : Option Nat) (l1 : Int32) (l2 : Int64) (l4 : Int32) : Option (Unit × q_S) := k3 (S) (l0) (l1) (l2) (l4 + (1))
set_option maxHeartbeats 4000000 in
set_option maxRecDepth 100000 in
theorem w_X4_setFour_51 (X : q_X p s m args c cX4_setFour 6 RX4 q_T D cy A) (hr : meth.sig.returnType = none) (hl : meth.locks = false)  {n : Nat} {Sv : q_S}  {k3 : q_S → Option Nat → Int32 → Int64 → Int32 → Option (Unit × q_S)} (hk3 : ∀ (S : q_S) (z0 : Option Nat) (z1 : Int32) (z2 : Int64) (z3 : Int32), k3 S z0 z1 z2 z3 = some ((), Sv) → q_W p l e ({ frames := 0, cells := 0, slots := 0, locals := 0 } : Room) s m args below meth c (MQ below (va_Qv (fun (u : q_S) => u = Sv) (q_B D cy A) A) args s 0 0 A) A D cy 6 0 0 S 3 [(0, va_rf (z0)), (1, .int (z1)), (2, .long (z2)), (4, .int (z3))] []) (S : q_S) (l0 : Option Nat) (l1 : Int32) (l2 : Int64) (l4 : Int32) (h : m_X4_setFour_51 n k3 S l0 l1 l2 l4 = some ((), Sv)) : q_W p l e ({ frames := 0, cells := 0, slots := 0, locals := 0 } : Room) s m args below meth c (MQ below (va_Qv (fun (u : q_S) => u = Sv) (q_B D cy A) A) args s 0 0 A) A D cy 6 0 0 S 51 [(0, va_rf (l0)), (1, .int (l1)), (2, .long (l2)), (4, .int (l4))] [] := by
  unfold m_X4_setFour_51 at h
  refine q_iinc X 4 3 (l4 + (1)) [(4, .int (l4 + (1))), (0, va_rf (l0)), (1, .int (l1)), (2, .long (l2))] rfl (congrArg (fun z => l4 + z) (show Int32.ofInt (1) = (1) by decide)) (by decide) (by first | rfl | simp [List.filter, q_catR]) dX4_setFour_51 ?_
  refine q_goto X 3 (by decide) dX4_setFour_54 ?_
  refine q_lv [1, 2, 3, 0] rfl ?_
  exact hk3 _ _ _ _ _ h
def m_X4_setFour_3 (n : Nat) : Nat → q_S → Option Nat → Int32 → Int64 → Int32 → Option (Unit × q_S)
  | 0, _, _, _, _, _ => none
  | k + 1, S, l0, l1, l2, l4 => (if (4 : Int32) ≤ l4 then some ((), S) else (if (l1 + l4) < 0 then m_X4_setFour_51 n (m_X4_setFour_3 n k) (S) (l0) (l1) (l2) (l4) else q_at (S) (l0) 5 (fun a3 => (if (q_I (S) a3 1) ≤ (l1 + l4) then m_X4_setFour_51 n (m_X4_setFour_3 n k) (S) (l0) (l1) (l2) (l4) else q_at (S) (q_R (S) a3 0) 100 (fun a5 => q_if (q_in (l1 + l4) (q_N (S) a5) = true) (m_X4_setFour_51 n (m_X4_setFour_3 n k) (q_sI (S) a5 (l1 + l4).toNatClampNeg (((l2 >>> ((((24 : Int32) - ((8 : Int32) * l4))).toInt64 &&& 63)).toInt32) &&& (255 : Int32))) (l0) (l1) (l2) (l4)))))))
set_option maxHeartbeats 4000000 in
set_option maxRecDepth 100000 in
theorem w_X4_setFour_3 (X : q_X p s m args c cX4_setFour 6 RX4 q_T D cy A) (hr : meth.sig.returnType = none) (hl : meth.locks = false)  {n : Nat} {Sv : q_S}  : ∀ (k : Nat) (S : q_S) (l0 : Option Nat) (l1 : Int32) (l2 : Int64) (l4 : Int32), m_X4_setFour_3 n k S l0 l1 l2 l4 = some ((), Sv) → q_W p l e ({ frames := 0, cells := 0, slots := 0, locals := 0 } : Room) s m args below meth c (MQ below (va_Qv (fun (u : q_S) => u = Sv) (q_B D cy A) A) args s 0 0 A) A D cy 6 0 0 S 3 [(0, va_rf (l0)), (1, .int (l1)), (2, .long (l2)), (4, .int (l4))] [] := by
  intro k
  induction k with
  | zero => intro S l0 l1 l2 l4 h; rw [m_X4_setFour_3] at h; cases h
  | succ k ih =>
    intro S l0 l1 l2 l4 h
    rw [m_X4_setFour_3] at h
    refine q_iload X 3 rfl dX4_setFour_3 ?_
    refine q_iconst X (4) (by decide) dX4_setFour_5 ?_
    refine q_icmp_ge X 57 (by decide) dX4_setFour_6 (fun g1 => ?_) (fun g1 => ?_)
    · rw [if_pos g1] at h
      obtain ⟨ev, eS⟩ := q_end h
      exact q_vret X hr hl eS dX4_setFour_57
    · rw [if_neg g1] at h
      refine q_iload_n X 1 rfl dX4_setFour_9 ?_
      refine q_iload X 3 rfl dX4_setFour_10 ?_
      refine q_iadd X dX4_setFour_12 ?_
      refine q_istore X 5 [(5, .int (l1 + l4)), (0, va_rf (l0)), (1, .int (l1)), (2, .long (l2)), (4, .int (l4))] (by decide) (by first | rfl | simp [List.filter, q_catR]) dX4_setFour_13 ?_
      refine q_iload X 0 rfl dX4_setFour_15 ?_
      refine q_if_lt X 51 (by decide) dX4_setFour_17 (fun g2 => ?_) (fun g2 => ?_)
      · rw [if_pos g2] at h
        refine q_lv [1, 2, 3, 4] rfl ?_
        exact w_X4_setFour_51 X hr hl ih _ _ _ _ _ h
      · rw [if_neg g2] at h
        refine q_iload X 0 rfl dX4_setFour_20 ?_
        refine q_aload_n X 1 rfl dX4_setFour_22 ?_
        obtain ⟨a3, ea3, ma3, ka3, h⟩ := q_atE h
        refine q_getI X 1 ea3 ma3 ka3 rfl tW_X4 (by decide) (by decide) tF_X4_15 rfl dX4_setFour_23 ?_
        refine q_icmp_ge X 51 (by decide) dX4_setFour_26 (fun g4 => ?_) (fun g4 => ?_)
        · rw [if_pos g4] at h
          refine q_lv [1, 2, 3, 4] rfl ?_
          exact w_X4_setFour_51 X hr hl ih _ _ _ _ _ h
        · rw [if_neg g4] at h
          refine q_aload_n X 1 rfl dX4_setFour_29 ?_
          refine q_getR X 0 ea3 ma3 ka3 rfl tW_X4 (by decide) (by decide) tF_X4_9 rfl dX4_setFour_30 ?_
          refine q_iload X 0 rfl dX4_setFour_33 ?_
          refine q_lload_n X 3 rfl dX4_setFour_35 ?_
          refine q_bipush X (24) (by decide) dX4_setFour_36 ?_
          refine q_bipush X (8) (by decide) dX4_setFour_38 ?_
          refine q_iload X 4 rfl dX4_setFour_40 ?_
          refine q_imul X dX4_setFour_42 ?_
          refine q_isub X dX4_setFour_43 ?_
          refine q_lshr X dX4_setFour_44 ?_
          refine q_l2i X dX4_setFour_45 ?_
          refine q_sipush X (255) (by decide) dX4_setFour_46 ?_
          refine q_iand X dX4_setFour_49 ?_
          obtain ⟨a5, ea5, ma5, ka5, h⟩ := q_atE h
          obtain ⟨g6, h⟩ := q_ifE h
          refine q_iastore X ea5 ma5 ka5 (q_inE g6) dX4_setFour_50 ?_
          have ma3 : a3 ∈ q_L (q_sI (S) a5 (l1 + l4).toNatClampNeg (((l2 >>> ((((24 : Int32) - ((8 : Int32) * l4))).toInt64 &&& 63)).toInt32) &&& (255 : Int32))) := q_LsI ma3
          have ka3 : q_K (q_sI (S) a5 (l1 + l4).toNatClampNeg (((l2 >>> ((((24 : Int32) - ((8 : Int32) * l4))).toInt64 &&& 63)).toInt32) &&& (255 : Int32))) a3 = 5 := q_KsI ka3
          have ma5 : a5 ∈ q_L (q_sI (S) a5 (l1 + l4).toNatClampNeg (((l2 >>> ((((24 : Int32) - ((8 : Int32) * l4))).toInt64 &&& 63)).toInt32) &&& (255 : Int32))) := q_LsI ma5
          have ka5 : q_K (q_sI (S) a5 (l1 + l4).toNatClampNeg (((l2 >>> ((((24 : Int32) - ((8 : Int32) * l4))).toInt64 &&& 63)).toInt32) &&& (255 : Int32))) a5 = 100 := q_KsI ka5
          refine q_lv [1, 2, 3, 4] rfl ?_
          exact w_X4_setFour_51 X hr hl ih _ _ _ _ _ h
def m_X4_setFour (n : Nat) (S : q_S) (o : Nat) (p0 : Int32) (p1 : Int64) : Option (Unit × q_S) := m_X4_setFour_3 n n (S) (some o) (p0) (p1) ((0 : Int32))
set_option maxHeartbeats 4000000 in
set_option maxRecDepth 100000 in
theorem w_X4_setFour (X : q_X p s m args c cX4_setFour 6 RX4 q_T D cy A) (hr : meth.sig.returnType = none) (hl : meth.locks = false)  {n : Nat} {S Sv : q_S} {o : Nat} {p0 : Int32} {p1 : Int64} (h : m_X4_setFour n S o p0 p1 = some ((), Sv)) : q_W p l e ({ frames := 0, cells := 0, slots := 0, locals := 0 } : Room) s m args below meth c (MQ below (va_Qv (fun (u : q_S) => u = Sv) (q_B D cy A) A) args s 0 0 A) A D cy 6 0 0 S 0 [(0, va_rf (some o)), (1, .int (p0)), (2, .long (p1))] [] := by
  unfold m_X4_setFour at h
  refine q_iconst X (0) (by decide) dX4_setFour_0 ?_
  refine q_istore X 4 [(4, .int ((0 : Int32))), (0, va_rf (some o)), (1, .int (p0)), (2, .long (p1))] (by decide) (by first | rfl | simp [List.filter, q_catR]) dX4_setFour_1 ?_
  refine q_lv [1, 2, 3, 0] rfl ?_
  exact w_X4_setFour_3 X hr hl n _ _ _ _ _ h
theorem tD_X4_setFour : yX4_setFour.cls ≠ "java/lang/invoke/MethodHandle" ∧ yX4_setFour.cls ≠ "java/lang/invoke/VarHandle" ∧ (parseMethodDescriptor yX4_setFour.desc).map (fun d => d.parameters.length) = some 2 := by decide +kernel
theorem c_X4_setFour {l : Launch} {D : va_G} {cy : Nat → ClassId} {n : Nat} {S Sv : q_S} {o : Nat} {p0 : Int32} {p1 : Int64} (h : m_X4_setFour n S o p0 p1 = some ((), Sv)) : q_MV l yX4_setFour (q_ws yX4_setFour cX4_setFour 6 (none)) ({ frames := 0, cells := 0, slots := 0, locals := 0 } : Room) D cy [.ref o, .int (p0), .long (p1)] S Sv := by
  exact q_MV_of (by decide +kernel) (Nat.le_of_ble_eq_true rfl) (fun p e s m args below meth c A X hr hl => w_X4_setFour X hr hl h)
/-! TrueOutlines$Row.size()I -/
def m_X4_size (n : Nat) (S : q_S) (o : Nat)  : Option (Int32 × q_S) := q_at (S) (some o) 5 (fun a1 => some (q_I (S) a1 1, S))
set_option maxHeartbeats 4000000 in
set_option maxRecDepth 100000 in
theorem w_X4_size (X : q_X p s m args c cX4_size 1 RX4 q_T D cy A) (hr : meth.sig.returnType = (some .int)) (hl : meth.locks = false)  {n : Nat} {S Sv : q_S} {rv : Int32} {o : Nat}  (h : m_X4_size n S o = some (rv, Sv)) : q_W p l e ({ frames := 0, cells := 0, slots := 0, locals := 0 } : Room) s m args below meth c (MQ below (va_Qi (fun (r : Int32) (u : q_S) => r = rv ∧ u = Sv) (q_B D cy A) A) args s 0 0 A) A D cy 1 0 0 S 0 [(0, va_rf (some o))] [] := by
  unfold m_X4_size at h
  refine q_aload_n X 0 rfl dX4_size_0 ?_
  obtain ⟨a1, ea1, ma1, ka1, h⟩ := q_atE h
  refine q_getI X 1 ea1 ma1 ka1 rfl tW_X4 (by decide) (by decide) tF_X4_15 rfl dX4_size_1 ?_
  obtain ⟨ev, eS⟩ := q_end h
  exact q_iret X hr hl rfl ev eS dX4_size_4
theorem tD_X4_size : yX4_size.cls ≠ "java/lang/invoke/MethodHandle" ∧ yX4_size.cls ≠ "java/lang/invoke/VarHandle" ∧ (parseMethodDescriptor yX4_size.desc).map (fun d => d.parameters.length) = some 0 := by decide +kernel
theorem c_X4_size {l : Launch} {D : va_G} {cy : Nat → ClassId} {n : Nat} {S Sv : q_S} {rv : Int32} {o : Nat}  (h : m_X4_size n S o = some (rv, Sv)) : q_MI l yX4_size (q_ws yX4_size cX4_size 1 ((some .int))) ({ frames := 0, cells := 0, slots := 0, locals := 0 } : Room) D cy [.ref o] S rv Sv := by
  exact q_MI_of (by decide +kernel) (Nat.le_of_ble_eq_true rfl) (fun p e s m args below meth c A X hr hl => w_X4_size X hr hl h)
/-! TrueOutlines$Table.set(JJII)V -/
def m_X7_set (n : Nat) (S : q_S) (o : Nat) (p0 : Int64) (p1 : Int64) (p2 : Int32) (p3 : Int32) : Option (Unit × q_S) := q_at (S) (some o) 8 (fun a1 => q_let (q_sJ (q_sJ (S) a1 1 (p0)) a1 2 (p1)) (fun S2 => some ((), q_sI (q_sI (S2) a1 3 (p2)) a1 4 (p3))))
set_option maxHeartbeats 4000000 in
set_option maxRecDepth 100000 in
theorem w_X7_set (X : q_X p s m args c cX7_set 7 RX7 q_T D cy A) (hr : meth.sig.returnType = none) (hl : meth.locks = false)  {n : Nat} {S Sv : q_S} {o : Nat} {p0 : Int64} {p1 : Int64} {p2 : Int32} {p3 : Int32} (h : m_X7_set n S o p0 p1 p2 p3 = some ((), Sv)) : q_W p l e ({ frames := 0, cells := 0, slots := 0, locals := 0 } : Room) s m args below meth c (MQ below (va_Qv (fun (u : q_S) => u = Sv) (q_B D cy A) A) args s 0 0 A) A D cy 7 0 0 S 0 [(0, va_rf (some o)), (1, .long (p0)), (3, .long (p1)), (5, .int (p2)), (6, .int (p3))] [] := by
  unfold m_X7_set at h
  refine q_aload_n X 0 rfl dX7_set_0 ?_
  refine q_lload_n X 1 rfl dX7_set_1 ?_
  obtain ⟨a1, ea1, ma1, ka1, h⟩ := q_atE h
  refine q_putJ X 1 ea1 ma1 ka1 rfl tW_X7 (by decide) (by decide) tF_X7_15 tyX7 tyX7_ok nmX7 rfl (tyX7_ok 1 (by decide)) rfl rfl rfl dX7_set_2 ?_
  have ma1 : a1 ∈ q_L (q_sJ (S) a1 1 (p0)) := q_LsJ ma1
  have ka1 : q_K (q_sJ (S) a1 1 (p0)) a1 = 8 := q_KsJ ka1
  refine q_aload_n X 0 rfl dX7_set_5 ?_
  refine q_lload_n X 2 rfl dX7_set_6 ?_
  refine q_putJ X 2 ea1 ma1 ka1 rfl tW_X7 (by decide) (by decide) tF_X7_19 tyX7 tyX7_ok nmX7 rfl (tyX7_ok 2 (by decide)) rfl rfl rfl dX7_set_7 ?_
  have ma1 : a1 ∈ q_L (q_sJ (q_sJ (S) a1 1 (p0)) a1 2 (p1)) := q_LsJ ma1
  have ka1 : q_K (q_sJ (q_sJ (S) a1 1 (p0)) a1 2 (p1)) a1 = 8 := q_KsJ ka1
  obtain ⟨S2, eS2, h⟩ := q_letE h
  refine q_sub eS2 ?_
  have ma1 : a1 ∈ q_L S2 := by rw [eS2]; exact ma1
  have ka1 : q_K S2 a1 = 8 := by rw [eS2]; exact ka1
  refine q_aload_n X 0 rfl dX7_set_10 ?_
  refine q_iload X 3 rfl dX7_set_11 ?_
  refine q_putI X 3 ea1 ma1 ka1 rfl tW_X7 (by decide) (by decide) tF_X7_22 tyX7 tyX7_ok nmX7 rfl (tyX7_ok 3 (by decide)) rfl rfl rfl dX7_set_13 ?_
  have ma1 : a1 ∈ q_L (q_sI (S2) a1 3 (p2)) := q_LsI ma1
  have ka1 : q_K (q_sI (S2) a1 3 (p2)) a1 = 8 := q_KsI ka1
  refine q_aload_n X 0 rfl dX7_set_16 ?_
  refine q_iload X 4 rfl dX7_set_17 ?_
  refine q_putI X 4 ea1 ma1 ka1 rfl tW_X7 (by decide) (by decide) tF_X7_26 tyX7 tyX7_ok nmX7 rfl (tyX7_ok 4 (by decide)) rfl rfl rfl dX7_set_19 ?_
  have ma1 : a1 ∈ q_L (q_sI (q_sI (S2) a1 3 (p2)) a1 4 (p3)) := q_LsI ma1
  have ka1 : q_K (q_sI (q_sI (S2) a1 3 (p2)) a1 4 (p3)) a1 = 8 := q_KsI ka1
  obtain ⟨ev, eS⟩ := q_end h
  exact q_vret X hr hl eS dX7_set_22
theorem tD_X7_set : yX7_set.cls ≠ "java/lang/invoke/MethodHandle" ∧ yX7_set.cls ≠ "java/lang/invoke/VarHandle" ∧ (parseMethodDescriptor yX7_set.desc).map (fun d => d.parameters.length) = some 4 := by decide +kernel
theorem c_X7_set {l : Launch} {D : va_G} {cy : Nat → ClassId} {n : Nat} {S Sv : q_S} {o : Nat} {p0 : Int64} {p1 : Int64} {p2 : Int32} {p3 : Int32} (h : m_X7_set n S o p0 p1 p2 p3 = some ((), Sv)) : q_MV l yX7_set (q_ws yX7_set cX7_set 7 (none)) ({ frames := 0, cells := 0, slots := 0, locals := 0 } : Room) D cy [.ref o, .long (p0), .long (p1), .int (p2), .int (p3)] S Sv := by
  exact q_MV_of (by decide +kernel) (Nat.le_of_ble_eq_true rfl) (fun p e s m args below meth c A X hr hl => w_X7_set X hr hl h)
end MM
